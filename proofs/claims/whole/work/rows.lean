section
-- ===== PART A: goes FIRST, ahead of the names: the tables' words, and 'selects' of the private methods out of them =====
/-- a private method of a class that the tables say can be made, by its rows of tables_1 -/
def lw_okq (q : MethodName × Nat) : Prop := (q.1.cls ≠ "java/lang/invoke/MethodHandle" ∧ q.1.cls ≠ "java/lang/invoke/VarHandle") ∧ Cond.instantiable q.1.cls q.2 ∈ tables_1 ∧ Cond.privateMethod q.1 ∈ tables_1 ∧ Cond.instanceMethod q.1 ∈ tables_1
theorem lw_p0 : lw_okq (⟨"MooringTree", "earningOf", "(LMooringTree$Line;I)I"⟩, 4) := ⟨⟨by decide +kernel, by decide +kernel⟩, List.mem_of_getElem? (i := 14) (by decide +kernel), List.mem_of_getElem? (i := 105) (by decide +kernel), List.mem_of_getElem? (i := 106) (by decide +kernel)⟩
theorem lw_p1 : lw_okq (⟨"MooringTree$Harbour", "play", "(LMooringTree$Line;I)V"⟩, 7) := ⟨⟨by decide +kernel, by decide +kernel⟩, List.mem_of_getElem? (i := 22) (by decide +kernel), List.mem_of_getElem? (i := 109) (by decide +kernel), List.mem_of_getElem? (i := 110) (by decide +kernel)⟩
theorem lw_p2 : lw_okq (⟨"MooringTree$Ship", "startAfresh", "()V"⟩, 5) := ⟨⟨by decide +kernel, by decide +kernel⟩, List.mem_of_getElem? (i := 115) (by decide +kernel), List.mem_of_getElem? (i := 113) (by decide +kernel), List.mem_of_getElem? (i := 114) (by decide +kernel)⟩
theorem lw_p3 : lw_okq (⟨"MooringTree$Line", "orderFor", "(I)I"⟩, 6) := ⟨⟨by decide +kernel, by decide +kernel⟩, List.mem_of_getElem? (i := 59) (by decide +kernel), List.mem_of_getElem? (i := 118) (by decide +kernel), List.mem_of_getElem? (i := 119) (by decide +kernel)⟩
theorem lw_p4 : lw_okq (⟨"MooringTree$Line", "hasOwn", "(I)Z"⟩, 6) := ⟨⟨by decide +kernel, by decide +kernel⟩, List.mem_of_getElem? (i := 59) (by decide +kernel), List.mem_of_getElem? (i := 122) (by decide +kernel), List.mem_of_getElem? (i := 123) (by decide +kernel)⟩
theorem lw_p5 : lw_okq (⟨"MooringTree$Harbour", "passTurn", "(II)V"⟩, 7) := ⟨⟨by decide +kernel, by decide +kernel⟩, List.mem_of_getElem? (i := 22) (by decide +kernel), List.mem_of_getElem? (i := 126) (by decide +kernel), List.mem_of_getElem? (i := 127) (by decide +kernel)⟩
theorem lw_p6 : lw_okq (⟨"MooringTree$Harbour", "carryOut", "(II)Z"⟩, 7) := ⟨⟨by decide +kernel, by decide +kernel⟩, List.mem_of_getElem? (i := 22) (by decide +kernel), List.mem_of_getElem? (i := 133) (by decide +kernel), List.mem_of_getElem? (i := 134) (by decide +kernel)⟩
theorem lw_p7 : lw_okq (⟨"MooringTree$Harbour", "shipOrNull", "(I)LMooringTree$Ship;"⟩, 7) := ⟨⟨by decide +kernel, by decide +kernel⟩, List.mem_of_getElem? (i := 22) (by decide +kernel), List.mem_of_getElem? (i := 137) (by decide +kernel), List.mem_of_getElem? (i := 138) (by decide +kernel)⟩
theorem lw_p8 : lw_okq (⟨"MooringTree$Harbour", "putToBerth", "(LMooringTree$Ship;I)Z"⟩, 7) := ⟨⟨by decide +kernel, by decide +kernel⟩, List.mem_of_getElem? (i := 22) (by decide +kernel), List.mem_of_getElem? (i := 141) (by decide +kernel), List.mem_of_getElem? (i := 142) (by decide +kernel)⟩
theorem lw_p9 : lw_okq (⟨"MooringTree$Harbour", "isTaken", "(I)Z"⟩, 7) := ⟨⟨by decide +kernel, by decide +kernel⟩, List.mem_of_getElem? (i := 22) (by decide +kernel), List.mem_of_getElem? (i := 145) (by decide +kernel), List.mem_of_getElem? (i := 146) (by decide +kernel)⟩
theorem lw_p10 : lw_okq (⟨"MooringTree$Harbour", "letLeave", "(LMooringTree$Ship;)Z"⟩, 7) := ⟨⟨by decide +kernel, by decide +kernel⟩, List.mem_of_getElem? (i := 22) (by decide +kernel), List.mem_of_getElem? (i := 149) (by decide +kernel), List.mem_of_getElem? (i := 150) (by decide +kernel)⟩
theorem lw_p11 : lw_okq (⟨"MooringTree$Harbour", "earningInTurn", "(LMooringTree$Ship;)I"⟩, 7) := ⟨⟨by decide +kernel, by decide +kernel⟩, List.mem_of_getElem? (i := 22) (by decide +kernel), List.mem_of_getElem? (i := 156) (by decide +kernel), List.mem_of_getElem? (i := 157) (by decide +kernel)⟩
theorem lw_p12 : lw_okq (⟨"MooringTree$Ship", "unload", "(I)I"⟩, 5) := ⟨⟨by decide +kernel, by decide +kernel⟩, List.mem_of_getElem? (i := 115) (by decide +kernel), List.mem_of_getElem? (i := 160) (by decide +kernel), List.mem_of_getElem? (i := 161) (by decide +kernel)⟩
theorem lw_p13 : lw_okq (⟨"MooringTree", "markAgainst", "(LMooringTree$Line;I)I"⟩, 4) := ⟨⟨by decide +kernel, by decide +kernel⟩, List.mem_of_getElem? (i := 14) (by decide +kernel), List.mem_of_getElem? (i := 167) (by decide +kernel), List.mem_of_getElem? (i := 168) (by decide +kernel)⟩
theorem lw_p14 : lw_okq (⟨"java/lang/Throwable", "fillInStackTrace", "(I)Ljava/lang/Throwable;"⟩, 6) := ⟨⟨by decide +kernel, by decide +kernel⟩, List.mem_of_getElem? (i := 225) (by decide +kernel), List.mem_of_getElem? (i := 223) (by decide +kernel), List.mem_of_getElem? (i := 224) (by decide +kernel)⟩
theorem lw_p15 : lw_okq (⟨"MooringTree$Harbour", "admit", "(LMooringTree$Ship;)I"⟩, 7) := ⟨⟨by decide +kernel, by decide +kernel⟩, List.mem_of_getElem? (i := 22) (by decide +kernel), List.mem_of_getElem? (i := 300) (by decide +kernel), List.mem_of_getElem? (i := 301) (by decide +kernel)⟩
def lw_privs_1 : List (MethodName × Nat) := [(⟨"MooringTree", "earningOf", "(LMooringTree$Line;I)I"⟩, 4), (⟨"MooringTree$Harbour", "play", "(LMooringTree$Line;I)V"⟩, 7), (⟨"MooringTree$Ship", "startAfresh", "()V"⟩, 5), (⟨"MooringTree$Line", "orderFor", "(I)I"⟩, 6), (⟨"MooringTree$Line", "hasOwn", "(I)Z"⟩, 6), (⟨"MooringTree$Harbour", "passTurn", "(II)V"⟩, 7), (⟨"MooringTree$Harbour", "carryOut", "(II)Z"⟩, 7), (⟨"MooringTree$Harbour", "shipOrNull", "(I)LMooringTree$Ship;"⟩, 7), (⟨"MooringTree$Harbour", "putToBerth", "(LMooringTree$Ship;I)Z"⟩, 7), (⟨"MooringTree$Harbour", "isTaken", "(I)Z"⟩, 7), (⟨"MooringTree$Harbour", "letLeave", "(LMooringTree$Ship;)Z"⟩, 7), (⟨"MooringTree$Harbour", "earningInTurn", "(LMooringTree$Ship;)I"⟩, 7), (⟨"MooringTree$Ship", "unload", "(I)I"⟩, 5), (⟨"MooringTree", "markAgainst", "(LMooringTree$Line;I)I"⟩, 4), (⟨"java/lang/Throwable", "fillInStackTrace", "(I)Ljava/lang/Throwable;"⟩, 6), (⟨"MooringTree$Harbour", "admit", "(LMooringTree$Ship;)I"⟩, 7)]
theorem lw_r1 : ∀ q ∈ lw_privs_1, lw_okq q := List.forall_mem_cons.mpr ⟨lw_p0, List.forall_mem_cons.mpr ⟨lw_p1, List.forall_mem_cons.mpr ⟨lw_p2, List.forall_mem_cons.mpr ⟨lw_p3, List.forall_mem_cons.mpr ⟨lw_p4, List.forall_mem_cons.mpr ⟨lw_p5, List.forall_mem_cons.mpr ⟨lw_p6, List.forall_mem_cons.mpr ⟨lw_p7, List.forall_mem_cons.mpr ⟨lw_p8, List.forall_mem_cons.mpr ⟨lw_p9, List.forall_mem_cons.mpr ⟨lw_p10, List.forall_mem_cons.mpr ⟨lw_p11, List.forall_mem_cons.mpr ⟨lw_p12, List.forall_mem_cons.mpr ⟨lw_p13, List.forall_mem_cons.mpr ⟨lw_p14, List.forall_mem_cons.mpr ⟨lw_p15, fun _ h => absurd h List.not_mem_nil⟩⟩⟩⟩⟩⟩⟩⟩⟩⟩⟩⟩⟩⟩⟩⟩
theorem lw_p16 : lw_okq (⟨"MooringTree", "lineNumbered", "(I)LMooringTree$Line;"⟩, 4) := ⟨⟨by decide +kernel, by decide +kernel⟩, List.mem_of_getElem? (i := 14) (by decide +kernel), List.mem_of_getElem? (i := 349) (by decide +kernel), List.mem_of_getElem? (i := 350) (by decide +kernel)⟩
theorem lw_p17 : lw_okq (⟨"MooringTree", "shipNumbered", "(I)LMooringTree$Ship;"⟩, 4) := ⟨⟨by decide +kernel, by decide +kernel⟩, List.mem_of_getElem? (i := 14) (by decide +kernel), List.mem_of_getElem? (i := 366) (by decide +kernel), List.mem_of_getElem? (i := 367) (by decide +kernel)⟩
theorem lw_p18 : lw_okq (⟨"MooringTree$Line", "give", "(II)Z"⟩, 6) := ⟨⟨by decide +kernel, by decide +kernel⟩, List.mem_of_getElem? (i := 59) (by decide +kernel), List.mem_of_getElem? (i := 377) (by decide +kernel), List.mem_of_getElem? (i := 378) (by decide +kernel)⟩
theorem lw_p19 : lw_okq (⟨"MooringTree$Line", "drop", "(I)Z"⟩, 6) := ⟨⟨by decide +kernel, by decide +kernel⟩, List.mem_of_getElem? (i := 59) (by decide +kernel), List.mem_of_getElem? (i := 388) (by decide +kernel), List.mem_of_getElem? (i := 389) (by decide +kernel)⟩
theorem lw_p20 : lw_okq (⟨"MooringTree", "shipBehind", "(III)LMooringTree$Ship;"⟩, 4) := ⟨⟨by decide +kernel, by decide +kernel⟩, List.mem_of_getElem? (i := 14) (by decide +kernel), List.mem_of_getElem? (i := 414) (by decide +kernel), List.mem_of_getElem? (i := 415) (by decide +kernel)⟩
theorem lw_p21 : lw_okq (⟨"MooringTreeModel", "fails", "(I)Z"⟩, 18) := ⟨⟨by decide +kernel, by decide +kernel⟩, List.mem_of_getElem? (i := 460) (by decide +kernel), List.mem_of_getElem? (i := 536) (by decide +kernel), List.mem_of_getElem? (i := 537) (by decide +kernel)⟩
theorem lw_p22 : lw_okq (⟨"MooringTreeModel", "isLine", "(I)Z"⟩, 18) := ⟨⟨by decide +kernel, by decide +kernel⟩, List.mem_of_getElem? (i := 460) (by decide +kernel), List.mem_of_getElem? (i := 555) (by decide +kernel), List.mem_of_getElem? (i := 556) (by decide +kernel)⟩
theorem lw_p23 : lw_okq (⟨"MooringTreeModel", "isShip", "(I)Z"⟩, 18) := ⟨⟨by decide +kernel, by decide +kernel⟩, List.mem_of_getElem? (i := 460) (by decide +kernel), List.mem_of_getElem? (i := 563) (by decide +kernel), List.mem_of_getElem? (i := 564) (by decide +kernel)⟩
theorem lw_p24 : lw_okq (⟨"MooringTreeModel", "hasOwn", "(II)Z"⟩, 18) := ⟨⟨by decide +kernel, by decide +kernel⟩, List.mem_of_getElem? (i := 460) (by decide +kernel), List.mem_of_getElem? (i := 571) (by decide +kernel), List.mem_of_getElem? (i := 572) (by decide +kernel)⟩
theorem lw_p25 : lw_okq (⟨"MooringTreeModel", "removes", "(II)Z"⟩, 18) := ⟨⟨by decide +kernel, by decide +kernel⟩, List.mem_of_getElem? (i := 460) (by decide +kernel), List.mem_of_getElem? (i := 575) (by decide +kernel), List.mem_of_getElem? (i := 576) (by decide +kernel)⟩
theorem lw_p26 : lw_okq (⟨"MooringTreeModel", "orderAt", "(II)I"⟩, 18) := ⟨⟨by decide +kernel, by decide +kernel⟩, List.mem_of_getElem? (i := 460) (by decide +kernel), List.mem_of_getElem? (i := 583) (by decide +kernel), List.mem_of_getElem? (i := 584) (by decide +kernel)⟩
theorem lw_p27 : lw_okq (⟨"MooringTreeModel", "misses", "(III)Z"⟩, 18) := ⟨⟨by decide +kernel, by decide +kernel⟩, List.mem_of_getElem? (i := 460) (by decide +kernel), List.mem_of_getElem? (i := 595) (by decide +kernel), List.mem_of_getElem? (i := 596) (by decide +kernel)⟩
theorem lw_p28 : lw_okq (⟨"MooringTreeModel", "plays", "(II)V"⟩, 18) := ⟨⟨by decide +kernel, by decide +kernel⟩, List.mem_of_getElem? (i := 460) (by decide +kernel), List.mem_of_getElem? (i := 599) (by decide +kernel), List.mem_of_getElem? (i := 600) (by decide +kernel)⟩
theorem lw_p29 : lw_okq (⟨"MooringTreeModel", "does", "(II)V"⟩, 18) := ⟨⟨by decide +kernel, by decide +kernel⟩, List.mem_of_getElem? (i := 460) (by decide +kernel), List.mem_of_getElem? (i := 603) (by decide +kernel), List.mem_of_getElem? (i := 604) (by decide +kernel)⟩
theorem lw_p30 : lw_okq (⟨"MooringTreeModel", "can", "(IIII)Z"⟩, 18) := ⟨⟨by decide +kernel, by decide +kernel⟩, List.mem_of_getElem? (i := 460) (by decide +kernel), List.mem_of_getElem? (i := 607) (by decide +kernel), List.mem_of_getElem? (i := 608) (by decide +kernel)⟩
theorem lw_p31 : lw_okq (⟨"MooringTreeModel", "aheadOf", "(I)I"⟩, 18) := ⟨⟨by decide +kernel, by decide +kernel⟩, List.mem_of_getElem? (i := 460) (by decide +kernel), List.mem_of_getElem? (i := 631) (by decide +kernel), List.mem_of_getElem? (i := 632) (by decide +kernel)⟩
def lw_privs_2 : List (MethodName × Nat) := [(⟨"MooringTree", "lineNumbered", "(I)LMooringTree$Line;"⟩, 4), (⟨"MooringTree", "shipNumbered", "(I)LMooringTree$Ship;"⟩, 4), (⟨"MooringTree$Line", "give", "(II)Z"⟩, 6), (⟨"MooringTree$Line", "drop", "(I)Z"⟩, 6), (⟨"MooringTree", "shipBehind", "(III)LMooringTree$Ship;"⟩, 4), (⟨"MooringTreeModel", "fails", "(I)Z"⟩, 18), (⟨"MooringTreeModel", "isLine", "(I)Z"⟩, 18), (⟨"MooringTreeModel", "isShip", "(I)Z"⟩, 18), (⟨"MooringTreeModel", "hasOwn", "(II)Z"⟩, 18), (⟨"MooringTreeModel", "removes", "(II)Z"⟩, 18), (⟨"MooringTreeModel", "orderAt", "(II)I"⟩, 18), (⟨"MooringTreeModel", "misses", "(III)Z"⟩, 18), (⟨"MooringTreeModel", "plays", "(II)V"⟩, 18), (⟨"MooringTreeModel", "does", "(II)V"⟩, 18), (⟨"MooringTreeModel", "can", "(IIII)Z"⟩, 18), (⟨"MooringTreeModel", "aheadOf", "(I)I"⟩, 18)]
theorem lw_r2 : ∀ q ∈ lw_privs_2, lw_okq q := List.forall_mem_cons.mpr ⟨lw_p16, List.forall_mem_cons.mpr ⟨lw_p17, List.forall_mem_cons.mpr ⟨lw_p18, List.forall_mem_cons.mpr ⟨lw_p19, List.forall_mem_cons.mpr ⟨lw_p20, List.forall_mem_cons.mpr ⟨lw_p21, List.forall_mem_cons.mpr ⟨lw_p22, List.forall_mem_cons.mpr ⟨lw_p23, List.forall_mem_cons.mpr ⟨lw_p24, List.forall_mem_cons.mpr ⟨lw_p25, List.forall_mem_cons.mpr ⟨lw_p26, List.forall_mem_cons.mpr ⟨lw_p27, List.forall_mem_cons.mpr ⟨lw_p28, List.forall_mem_cons.mpr ⟨lw_p29, List.forall_mem_cons.mpr ⟨lw_p30, List.forall_mem_cons.mpr ⟨lw_p31, fun _ h => absurd h List.not_mem_nil⟩⟩⟩⟩⟩⟩⟩⟩⟩⟩⟩⟩⟩⟩⟩⟩
theorem lw_p32 : lw_okq (⟨"MooringTreeModel", "markOf", "(I)I"⟩, 18) := ⟨⟨by decide +kernel, by decide +kernel⟩, List.mem_of_getElem? (i := 460) (by decide +kernel), List.mem_of_getElem? (i := 639) (by decide +kernel), List.mem_of_getElem? (i := 640) (by decide +kernel)⟩
def lw_privs_3 : List (MethodName × Nat) := [(⟨"MooringTreeModel", "markOf", "(I)I"⟩, 18)]
theorem lw_r3 : ∀ q ∈ lw_privs_3, lw_okq q := List.forall_mem_cons.mpr ⟨lw_p32, fun _ h => absurd h List.not_mem_nil⟩
def lw_privs : List (MethodName × Nat) := lw_privs_1 ++ (lw_privs_2 ++ (lw_privs_3))
def lw_tbl : List Cond := k2_sels lw_privs ++ tables_1
theorem lw_privs_ok : ∀ q ∈ lw_privs, lw_okq q := by
  show ∀ q ∈ lw_privs_1 ++ (lw_privs_2 ++ (lw_privs_3)), lw_okq q
  exact List.forall_mem_append.mpr ⟨lw_r1, List.forall_mem_append.mpr ⟨lw_r2, lw_r3⟩⟩
-- ===== end of PART A; then your names; then what follows =====
end
section
/-! ===== BEGIN words of one list among another's, by their places ===== -/
theorem goodIn_r {big : List Cond} (ws : List Cond) (ps : List Nat) (hp : ws = ps.filterMap (fun i => big[i]?)) (h : ws.all goodWord = true) : GoodIn big ws := by
  intro w hw
  have h1 := List.all_eq_true.mp h w hw
  rw [hp] at hw
  obtain ⟨i, -, hi⟩ := List.mem_filterMap.mp hw
  have hm : w ∈ big := by first | exact List.mem_of_getElem? hi | exact List.getElem?_mem hi
  exact ⟨hm, good_of_word h1⟩
theorem goodIn_app {big a b : List Cond} (ha : GoodIn big a) (hb : GoodIn big b) : GoodIn big (a ++ b) := fun w h => (List.mem_append.mp h).elim (ha w) (hb w)
theorem goodIn_ca {big a b : List Cond} {c : Cond} (ha : GoodIn big (c :: a)) (hb : GoodIn big b) : GoodIn big (c :: (a ++ b)) := fun w h => (List.mem_cons.mp h).elim (fun e => ha w (List.mem_cons.mpr (Or.inl e))) (fun h => (List.mem_append.mp h).elim (fun h => ha w (List.mem_cons.mpr (Or.inr h))) (hb w))
theorem goodIn_sub {big ws : List Cond} (hm : ∀ w ∈ ws, w ∈ big) (h : ws.all goodWord = true) : GoodIn big ws := fun w hw => ⟨hm w hw, good_of_word (List.all_eq_true.mp h w hw)⟩
/-! ===== END ===== -/

/-! ===== BEGIN exceptions that leave a method, and their catching by the caller (launches without stack traces) ===== -/
section VXA
/-! The laws vx_back, vx_callV, vx_callS, vx_callSW, vx_throw0, vx_throwS follow proofs of the library, with one case more: JvmDerived/Free/Laws.lean (Back.of_free), Shelf42/LK1.lean (callV, callS), Shelf/KitTraced.lean (throwNew0V, throwNewS). -/
/-- where a method has thrown q: the class by its name, the cell, what was written, the world -/
def vx_T (XC : String → State → State → Prop) (st : State) (q : Addr) (t : State) (mc ms : Nat) (free : Addr → Prop) : Prop :=
  ∃ (E : String) (ce : Cell) (L : List Loc), XC E st t ∧ t.heap[q]? = some ce ∧ ce.vm = .none ∧ st.vm.findClass E = some ce.cls ∧ st.WarmedH t.vm ∧ st.sameButNew ({ t with vm := st.vm } : State) L mc ms ∧ ∀ z ∈ L, free z.base
def vx_Q (Qc : Array Value → State → Outcome → State → Prop) (XC : String → State → State → Prop) (mc ms : Nat) (free : Addr → Prop) : Array Value → State → Outcome → State → Prop := fun a st o t =>
  (Qc a st o t ∧ ∃ L, FrameEnd st o t L mc ms ∧ ∀ q ∈ L, free q.base) ∨ ∃ q, o = .threw q ∧ vx_T XC st q t mc ms free
/-- a callee that returns or throws -/
def vx_Met (l : Launch) (y : MethodName) (ws : List Cond) (rm : Room) (Pc : Array Value → State → Prop) (Qc : Array Value → State → Outcome → State → Prop) (XC : String → State → State → Prop) (mc ms : Nat) (free : Addr → Prop) : Prop :=
  MetFree l y (headSpec ws rm) Pc (fun _ _ _ _ _ => True) (vx_Q Qc XC mc ms free)
def vx_Post (XC : String → State → State → Prop) (mc ms : Nat) (free : Addr → Prop) : Pt → Array Value → Addr → Pt → Prop := fun A a q B =>
  ∃ (g : JFrame) (mk : MethodId) (t : State) (L : List Loc) (E : String) (ce : Cell), B.U.heap = t.heap ∧ B.U.vm = t.vm ∧ XC E (A.U.calling g mk a) t ∧ t.heap[q]? = some ce ∧ ce.vm = .none ∧ A.U.vm.findClass E = some ce.cls ∧ B.locs = A.locs ++ L ∧ (∀ z ∈ L, free z.base) ∧ B.cells = A.cells + mc ∧ B.slots = A.slots + ms
def vx_Back (l : Launch) (R : Room) (p : Program) (e : Env) (below : List Frame) (s : State) (sargs : Array Value) (y : MethodName) (len W9 : Nat)
    (Pre : Pt → Array Value → Prop) (Post : Pt → Array Value → Option Value → Pt → Prop) (PostX : Pt → Array Value → Addr → Pt → Prop) : Prop :=
  ∀ (m : MethodId) (meth : Method) (c : Code) (A : Pt) (g : JFrame) (ig : Instr) (mk : MethodId) (a : Array Value),
    Stand p l e R s m sargs below meth c A.U A.locs A.cells A.slots → g.method = m → g.locals.size = c.maxLocals → decode c.code g.pc = .ok (ig, len) →
    2 * g.monitorRoom + (g.stack.map fun v => v.category).sum ≤ W9 → A.U.methodNamed? y = some mk → Pre A a →
    (∃ (v : Option Value) (B : Pt), Stand p l e R s m sargs below meth c B.U B.locs B.cells B.slots ∧ Post A a v B ∧
      Steps p.tables e below (doInvoke e (A.U.setTop g) [] mk a).1 (B.U.setTop { g with pc := g.pc + len, stack := v.toList ++ g.stack })) ∨
    (∃ (q : Addr) (B : Pt), Stand p l e R s m sargs below meth c B.U B.locs B.cells B.slots ∧ PostX A a q B ∧
      Steps p.tables e below (doInvoke e (A.U.setTop g) [] mk a).1 ((B.U.setTop g).pushFrame (.throwing q)))
section Payer
variable {l : Launch} {R : Room} {p : Program} {e : Env} {below : List Frame} {s : State} {sargs : Array Value} {y : MethodName} {len W9 : Nat}
theorem vx_back {ws : List Cond} {rm : Room} {Pc : Array Value → State → Prop} {Qc : Array Value → State → Outcome → State → Prop} {XC : String → State → State → Prop} {mc ms : Nat} {free : Addr → Prop} {bytes : ByteArray} {maxL : Nat} {ret : Option FieldType}
    (hM : vx_Met l y ws rm Pc Qc XC mc ms free) (hblind : FrameBlind Pc) (hrc : rm.cells = mc) (hrs : rm.slots = ms)
    (hframes : rm.frames + 1 ≤ R.frames) (hlocals : W9 + (maxL + 11) + rm.locals ≤ R.locals)
    (hws : ∀ w ∈ ws, ∀ a' U, s.WarmedH U.vm → w.before a' U = true) (hcode : Cond.code y bytes maxL ret ∈ ws) (hinit : ∀ a' U, s.WarmedH U.vm → (Cond.initialized y.cls).before a' U = true) :
    vx_Back l R p e below s sargs y len W9 (PreOf R mc ms Pc) (PostOf Qc mc ms free) (vx_Post XC mc ms free) := by
  intro m meth c A g ig mk a X hg hsize hdg hW hn hp
  have h1 : (headSpec ws rm).pre.before a A.U = true := atoms_intro fun w hw => hws w hw _ _ X.warmed
  have h2 : (Cond.code y bytes maxL ret).before a A.U = true := hws _ hcode _ _ X.warmed
  have h3 : (Cond.initialized y.cls).before a A.U = true := hinit _ _ X.warmed
  have h4 : A.cells + (headSpec ws rm).room.cells ≤ R.cells := by rw [show (headSpec ws rm).room.cells = mc from hrc]; exact hp.1
  have h5 : A.slots + (headSpec ws rm).room.slots ≤ R.slots := by rw [show (headSpec ws rm).room.slots = ms from hrs]; exact hp.2.1
  have hPc : Pc a (A.U.calling g mk a) := hblind _ _ _ _ hp.2.2
  obtain ⟨U, Ls, c0, s0⟩ := A
  dsimp only [Pt.U, Pt.locs, Pt.cells, Pt.slots] at h1 h2 h3 h4 h5 X hn hPc ⊢
  obtain ⟨methY, cY, hmY, hcY, -, hlY, -, -, -, -⟩ := Cond.code_spec hn h2
  obtain ⟨kY, hkY, -⟩ := className_of_methodNamed hn
  have hinitY : kY.init = .initialized := Cond.initialized_spec (findClass_of_methodNamed hn) hkY h3
  have h : At U g.method c below := by rw [hg]; exact X.here
  have hlocals9 : W9 + (maxL + 11) + (headSpec ws rm).room.locals ≤ R.locals := hlocals
  have happ : (headSpec ws rm).appliesLoose y e.platform (U.calling g mk a) = true :=
    Spec.appliesLoose_calling (g := g) h hdg hn hkY hinitY
      (X.room_calling (g := g) (R' := (headSpec ws rm).room) hsize hmY hcY hframes (by rw [hlY]; omega) h4 h5) h1
  obtain ⟨mid, hmid⟩ := h.above
  have hfr : (U.setTop g).frames = (.java g :: mid) ++ below := by rw [State.frames_setTop' g h.top, hmid]; rfl
  obtain ⟨o, s₂, hsteps, -, hend, hq⟩ := Steps.callFree hM p X.admits X.cas X.clock (acts := []) hfr happ hPc trivial
  have hq' : vx_Q Qc XC mc ms free a (U.calling g mk a) o s₂ := hq
  rw [State.frames_setTop' g h.top] at hend
  obtain ⟨g₀, hg0⟩ := Option.isSome_iff_exists.mp h.top
  obtain ⟨r, hr⟩ := State.topJava?_eq_some.mp hg0
  have hr' : (({ U with heap := s₂.heap, slotsUsed := s₂.slotsUsed } : State).setVm s₂.vm).frames = .java g₀ :: r := hr
  rcases hq' with ⟨hqc, L, hfe, hL⟩ | ⟨q, rfl, E, ce, L, hx, hce, hcv, hcl, hW₂, hsm, hL⟩
  · obtain ⟨⟨v, rfl⟩, hW₂, e2, q2, q3, q4, q5, q6⟩ := id hfe
    have e3 : s₂ = ({ (U.calling g mk a).setFrames s₂.frames with heap := s₂.heap, slotsUsed := s₂.slotsUsed } : State).setVm s₂.vm := by
      have : s₂ = ({ s₂ with vm := (U.calling g mk a).vm } : State).setVm s₂.vm := rfl
      rw [e2] at this
      exact this
    obtain ⟨c₂, i₂, len₂, hc₂, hd₂, hf₂⟩ := hend
    have hW' : U.WarmedH s₂.vm := hW₂
    have hcc : c₂ = c := by
      have h1 : s₂.code? g.method = U.code? g.method := by
        rw [State.code?_eq, State.code?_eq, hW'.alike.method?]
      exact Option.some.inj (hc₂.symm.trans (h1.trans h.code))
    subst hcc
    have hlen : len₂ = len := by rw [hdg] at hd₂; cases hd₂; rfl
    subst hlen
    have hs₂ : s₂ = (({ U with heap := s₂.heap, slotsUsed := s₂.slotsUsed } : State).setVm s₂.vm).setTop { g with pc := g.pc + len₂, stack := v.toList ++ g.stack } := by
      refine e3.trans ?_
      rw [hf₂, State.calling_eq h.top, State.setFrames_setFrames, State.setTop_of_frames _ hr', hr]
      rfl
    have hsame : U.sameButNew ({ U with heap := s₂.heap, slotsUsed := s₂.slotsUsed } : State) L mc ms := by
      refine ⟨?_, q2, q3, q4, q5, q6⟩
      obtain ⟨t, ht, -⟩ := State.frames_cons hr
      show ({ U with heap := s₂.heap, slotsUsed := s₂.slotsUsed } : State) = { U.setFrames U.frames with heap := s₂.heap, slotsUsed := s₂.slotsUsed }
      rw [State.setFrames_self ht]
    subst hg
    refine Or.inl ⟨v, ⟨(({ U with heap := s₂.heap, slotsUsed := s₂.slotsUsed } : State).setVm s₂.vm), Ls ++ L, c0 + mc, s0 + ms⟩,
      ⟨X.admits, X.cas, X.clock, X.frames, X.room, X.hears, X.method, X.code, (X.here.setHeapUsed s₂.heap s₂.slotsUsed).setVm hW'.alike, X.tail, State.WarmedH.trans X.warmed hW', X.limits, X.bytes, X.same.trans (hsame.setVm s.vm)⟩,
      ⟨g, mk, s₂, L, rfl, rfl, hqc, rfl, hL, rfl, rfl⟩, ?_⟩
    show Steps p.tables e below _ ((({ U with heap := s₂.heap, slotsUsed := s₂.slotsUsed } : State).setVm s₂.vm).setTop { g with pc := g.pc + len₂, stack := v.toList ++ g.stack })
    rw [← hs₂]
    exact hsteps
  · obtain ⟨e2, q2, q3, q4, q5, q6⟩ := id hsm
    have e3 : s₂ = ({ (U.calling g mk a).setFrames s₂.frames with heap := s₂.heap, slotsUsed := s₂.slotsUsed } : State).setVm s₂.vm := by
      have : s₂ = ({ s₂ with vm := (U.calling g mk a).vm } : State).setVm s₂.vm := rfl
      rw [e2] at this
      exact this
    have hf₂ : s₂.frames = .throwing q :: .java g :: U.frames.tail := hend
    have hW' : U.WarmedH s₂.vm := hW₂
    have hs₂ : s₂ = ((({ U with heap := s₂.heap, slotsUsed := s₂.slotsUsed } : State).setVm s₂.vm).setTop g).pushFrame (.throwing q) := by
      refine e3.trans ?_
      rw [hf₂, State.calling_eq h.top, State.setFrames_setFrames, State.pushFrame, State.frames_setTop _ hr', State.setTop_of_frames _ hr', State.setFrames_setFrames, hr]
      rfl
    have hsame : U.sameButNew ({ U with heap := s₂.heap, slotsUsed := s₂.slotsUsed } : State) L mc ms := by
      refine ⟨?_, q2, q3, q4, q5, q6⟩
      obtain ⟨t, ht, -⟩ := State.frames_cons hr
      show ({ U with heap := s₂.heap, slotsUsed := s₂.slotsUsed } : State) = { U.setFrames U.frames with heap := s₂.heap, slotsUsed := s₂.slotsUsed }
      rw [State.setFrames_self ht]
    subst hg
    refine Or.inr ⟨q, ⟨(({ U with heap := s₂.heap, slotsUsed := s₂.slotsUsed } : State).setVm s₂.vm), Ls ++ L, c0 + mc, s0 + ms⟩,
      ⟨X.admits, X.cas, X.clock, X.frames, X.room, X.hears, X.method, X.code, (X.here.setHeapUsed s₂.heap s₂.slotsUsed).setVm hW'.alike, X.tail, State.WarmedH.trans X.warmed hW', X.limits, X.bytes, X.same.trans (hsame.setVm s.vm)⟩,
      ⟨g, mk, s₂, L, E, ce, rfl, rfl, hx, hce, hcv, hcl, rfl, hL, rfl, rfl⟩, ?_⟩
    show Steps p.tables e below _ (((({ U with heap := s₂.heap, slotsUsed := s₂.slotsUsed } : State).setVm s₂.vm).setTop g).pushFrame (.throwing q))
    rw [← hs₂]
    exact hsteps
end Payer
section Calls
variable {p : Program} {l : Launch} {e : Env} {R : Room} {s : State} {m : MethodId} {args : Array Value} {below : List Frame} {meth : Method} {c : Code} {T : State} {locs : List Loc} {cells slots : Nat}
theorem vx_callV (X : Stand p l e R s m args below meth c T locs cells slots) (hexec : p.tables.exec = Jvm.exec) {own C : String} {index : Nat} {y : MethodName} {bytes : ByteArray} {maxL : Nat} {ret : Option FieldType}
    (hown : s.vm.findClass own = some m.cls) (hlink : (Cond.methodLink own index y).before args s = true) (hinst : (Cond.instanceMethod y).before args s = true) (hsel : (Cond.selects C y y).before args s = true)
    (hcode : (Cond.code y bytes maxL ret).before args s = true) (hy : y.cls ≠ "java/lang/invoke/MethodHandle" ∧ y.cls ≠ "java/lang/invoke/VarHandle")
    {W9 : Nat} {Pre : Pt → Array Value → Prop} {Post : Pt → Array Value → Option Value → Pt → Prop} {PostX : Pt → Array Value → Addr → Pt → Prop} (hK : vx_Back l R p e below s args y 3 W9 Pre Post PostX)
    {b : Addr} {cellB : Cell} (hcell : T.heap[b]? = some cellB) (hobj : cellB.vm.isStatics = false) (hcls : s.vm.findClass C = some cellB.cls)
    {g : JFrame} (hg : g.method = m) (hsize : g.locals.size = c.maxLocals) {argsL rest : List Value} (hlen : ∀ sig, parseMethodDescriptor y.desc = some sig → argsL.length = sig.parameters.length)
    (hstack : g.stack = argsL.reverse ++ .ref b :: rest) (hW : 2 * g.monitorRoom + (rest.map fun v => v.category).sum ≤ W9) (hdg : decode c.code g.pc = .ok (.invokevirtual index, 3))
    (hpre : ∀ vm₁, s.WarmedH vm₁ → Pre ⟨T.setVm vm₁, locs, cells, slots⟩ (Value.ref b :: argsL).toArray) :
    (∃ (v : Option Value) (vm₁ : Vm) (B : Pt), s.WarmedH vm₁ ∧ Stand p l e R s m args below meth c B.U B.locs B.cells B.slots ∧ Post ⟨T.setVm vm₁, locs, cells, slots⟩ (Value.ref b :: argsL).toArray v B ∧
      ∀ target, Steps p.tables e below (B.U.setTop { g with pc := g.pc + 3, stack := v.toList ++ rest }) target → Steps p.tables e below (T.setTop g) target) ∨
    (∃ (q : Addr) (vm₁ : Vm) (B : Pt), s.WarmedH vm₁ ∧ Stand p l e R s m args below meth c B.U B.locs B.cells B.slots ∧ PostX ⟨T.setVm vm₁, locs, cells, slots⟩ (Value.ref b :: argsL).toArray q B ∧
      Steps p.tables e below (T.setTop g) ((B.U.setTop { g with stack := rest }).pushFrame (.throwing q))) := by
  obtain ⟨mk, methM, hnamed, hmethM, hstM, habM⟩ := Cond.instanceMethod_spec hinst
  obtain ⟨methM', cM, hmethM', -, -, -, -, -, -, hsigM⟩ := Cond.code_spec hnamed hcode
  cases hmethM.symm.trans hmethM'
  obtain ⟨c2, r2, m2, q1, q2, q3, q4, kP, hkP, hkPi⟩ := Cond.selects_spec hsel
  cases hcls.symm.trans q1
  cases (State.methodFound?_of_named hnamed hy).symm.trans q2
  cases hnamed.symm.trans q3
  have hselP : selectMethod e.platform s.vm cellB.cls mk = .method mk := by rw [Launch.admits_selectMethod X.admits]; exact q4
  obtain ⟨vm₁, X₁, hstep₁⟩ := X.invokevirtual hexec hown hlink hnamed hmethM hstM hkP hkPi hy (a := b) (cell := cellB) hcell
    (fun z h => by rw [h] at hobj; cases hobj) hselP hmethM habM hkP hkPi (g := g) hg (argsL := argsL) (rest := rest) (hlen _ hsigM) hstack hdg
  rcases hK m meth c ⟨T.setVm vm₁, locs, cells, slots⟩ { g with stack := rest } (.invokevirtual index) mk (Value.ref b :: argsL).toArray X₁ hg hsize hdg hW (X₁.named hnamed) (hpre vm₁ X₁.warmed) with ⟨v, B, X', hpost, hsteps⟩ | ⟨q, B, X', hpost, hsteps⟩
  · exact Or.inl ⟨v, vm₁, B, X₁.warmed, X', hpost, fun target h => hstep₁ _ fun acts => by rw [doInvoke_state]; exact hsteps.trans h⟩
  · exact Or.inr ⟨q, vm₁, B, X₁.warmed, X', hpost, hstep₁ _ fun acts => by rw [doInvoke_state]; exact hsteps⟩
theorem vx_callS (X : Stand p l e R s m args below meth c T locs cells slots) (hexec : p.tables.exec = Jvm.exec) {own : String} {index : Nat} {y : MethodName} {bytes : ByteArray} {maxL : Nat} {ret : Option FieldType}
    (hown : s.vm.findClass own = some m.cls) (hlink : (Cond.methodLink own index y).before args s = true) (hstat : (Cond.static y).before args s = true) (hinit : (Cond.initialized y.cls).before args s = true)
    (hcode : (Cond.code y bytes maxL ret).before args s = true) (hy : y.cls ≠ "java/lang/invoke/MethodHandle" ∧ y.cls ≠ "java/lang/invoke/VarHandle")
    {W9 : Nat} {Pre : Pt → Array Value → Prop} {Post : Pt → Array Value → Option Value → Pt → Prop} {PostX : Pt → Array Value → Addr → Pt → Prop} (hK : vx_Back l R p e below s args y 3 W9 Pre Post PostX)
    {g : JFrame} (hg : g.method = m) (hsize : g.locals.size = c.maxLocals) {argsL rest : List Value} (hlen : ∀ sig, parseMethodDescriptor y.desc = some sig → argsL.length = sig.parameters.length)
    (hstack : g.stack = argsL.reverse ++ rest) (hW : 2 * g.monitorRoom + (rest.map fun v => v.category).sum ≤ W9) (hdg : decode c.code g.pc = .ok (.invokestatic index, 3))
    (hpre : ∀ vm₁, s.WarmedH vm₁ → Pre ⟨T.setVm vm₁, locs, cells, slots⟩ argsL.toArray) :
    (∃ (v : Option Value) (vm₁ : Vm) (B : Pt), s.WarmedH vm₁ ∧ Stand p l e R s m args below meth c B.U B.locs B.cells B.slots ∧ Post ⟨T.setVm vm₁, locs, cells, slots⟩ argsL.toArray v B ∧
      ∀ target, Steps p.tables e below (B.U.setTop { g with pc := g.pc + 3, stack := v.toList ++ rest }) target → Steps p.tables e below (T.setTop g) target) ∨
    (∃ (q : Addr) (vm₁ : Vm) (B : Pt), s.WarmedH vm₁ ∧ Stand p l e R s m args below meth c B.U B.locs B.cells B.slots ∧ PostX ⟨T.setVm vm₁, locs, cells, slots⟩ argsL.toArray q B ∧
      Steps p.tables e below (T.setTop g) ((B.U.setTop { g with stack := rest }).pushFrame (.throwing q))) := by
  obtain ⟨mk, hnamed⟩ := Cond.code_named hcode
  obtain ⟨methM, cM, hmethM, -, -, -, -, -, -, hsigM⟩ := Cond.code_spec hnamed hcode
  have hstatic : methM.isStatic = true := Cond.static_spec hnamed hmethM hstat
  obtain ⟨kP, hkP, -⟩ := className_of_methodNamed hnamed
  have hinitP : kP.init = .initialized := Cond.initialized_spec (findClass_of_methodNamed hnamed) hkP hinit
  obtain ⟨vm₁, X₁, hstep₁⟩ := X.invokestatic hexec hown hlink hnamed hmethM hstatic hkP hinitP hy (g := g) hg (argsL := argsL) (rest := rest) (hlen _ hsigM) hstack hdg
  rcases hK m meth c ⟨T.setVm vm₁, locs, cells, slots⟩ { g with stack := rest } (.invokestatic index) mk argsL.toArray X₁ hg hsize hdg hW (X₁.named hnamed) (hpre vm₁ X₁.warmed) with ⟨v, B, X', hpost, hsteps⟩ | ⟨q, B, X', hpost, hsteps⟩
  · exact Or.inl ⟨v, vm₁, B, X₁.warmed, X', hpost, fun target h => hstep₁ _ fun acts => by rw [doInvoke_state]; exact hsteps.trans h⟩
  · exact Or.inr ⟨q, vm₁, B, X₁.warmed, X', hpost, hstep₁ _ fun acts => by rw [doInvoke_state]; exact hsteps⟩
end Calls
theorem vx_cls {s : State} {T : State} {vm₁ : Vm} {E : String} {k : ClassId} (hW : s.WarmedH vm₁) (h : (T.setVm vm₁).vm.findClass E = some k) : s.vm.findClass E = some k := by
  have h1 : vm₁.findClass E = some k := h
  rw [hW.alike.findClass] at h1
  exact h1
/-- the method's frame g, with q thrown over it -/
def vx_W (p : Program) (l : Launch) (e : Env) (R : Room) (s : State) (m : MethodId) (args : Array Value) (below : List Frame) (meth : Method) (c : Code) (H : Heap) (locs : List Loc) (cells slots : Nat) (Q : State → Prop) (g : JFrame) (q : Addr) : Prop :=
  ∀ T : State, T.heap = H → Stand p l e R s m args below meth c T locs cells slots → ∃ t, Steps p.tables e below ((T.setTop g).pushFrame (.throwing q)) t ∧ Q t
def vx_Run (p : Program) (l : Launch) (e : Env) (R : Room) (s : State) (m : MethodId) (args : Array Value) (below : List Frame) (meth : Method) (c : Code) (H : Heap) (locs : List Loc) (cells slots mc ms : Nat) (g : JFrame) (rest : List Value) (Qa : State → Outcome → State → Prop) (XC : String → State → State → Prop) (free : Addr → Prop) : Prop :=
  ∀ T : State, T.heap = H → Stand p l e R s m args below meth c T locs cells slots →
    (∃ (v : Option Value) (st₀ t T' : State) (L : List Loc), st₀.heap = H ∧ Stand p l e R s m args below meth c T' (locs ++ L) (cells + mc) (slots + ms) ∧ (∀ q ∈ L, free q.base) ∧ T'.heap = t.heap ∧ T'.vm = t.vm ∧ Qa st₀ (.returned v) t ∧
      Goes p e below T g T' { g with pc := g.pc + 3, stack := v.toList ++ rest }) ∨
    (∃ (q : Addr) (st₀ t T' : State) (L : List Loc) (E : String) (ce : Cell), st₀.heap = H ∧ Stand p l e R s m args below meth c T' (locs ++ L) (cells + mc) (slots + ms) ∧ (∀ z ∈ L, free z.base) ∧ T'.heap = t.heap ∧ T'.vm = t.vm ∧ XC E st₀ t ∧ t.heap[q]? = some ce ∧ ce.vm = .none ∧ s.vm.findClass E = some ce.cls ∧
      Steps p.tables e below (T.setTop g) ((T'.setTop { g with stack := rest }).pushFrame (.throwing q)))
def vx_X {S : Type} (px : S → Prop) (B : String → S → State → Prop) (A : Nat → Prop) : String → State → State → Prop := fun E st t => ∃ u : S, px u ∧ B E u t ∧ va_F A st t
section Runs
variable {p : Program} {l : Launch} {e : Env} {R : Room} {s : State} {m : MethodId} {args : Array Value} {below : List Frame} {meth : Method} {c : Code} {H : Heap} {locs : List Loc} {cells slots : Nat}
variable {y : MethodName} {bytes cc : ByteArray} {maxL nL mc ms n index : Nat} {ret : Option FieldType} {ws : List Cond} {rm : Room} {Pc : Array Value → State → Prop} {Qc : Array Value → State → Outcome → State → Prop} {XC : String → State → State → Prop} {free : Addr → Prop} {Ts : List Cond} {own C : String} {b : Addr} {As rest : List Value} {g : JFrame}
theorem vx_callBack (cb : CallB R s args own index y bytes maxL ret ws rm mc ms n) (hM : vx_Met l y ws rm Pc Qc XC mc ms free) (hbl : FrameBlind Pc) : vx_Back l R p e below s args y 3 8 (PreOf R mc ms Pc) (PostOf Qc mc ms free) (vx_Post XC mc ms free) := by
  obtain ⟨hrc, hrs, hfr, hlo, hws, hcw, -, hini, -⟩ := cb
  exact vx_back (bytes := bytes) (maxL := maxL) (ret := ret) hM hbl hrc hrs hfr hlo hws hcw (fun a' U hW => word_at hW (Or.inl (by first | rfl | simp [Cond.onTables, Cond.keeps, Cond.steady])) hini)
theorem vx_runV (S : CallFix p m c cc nL s args Ts own) (hM : vx_Met l y ws rm Pc Qc XC mc ms free) (cw : CallW R s args own C index y bytes maxL ret ws rm mc ms n) (hp : PreV s H C b Pc As)
    (hg : g.method = m) (hn : As.length = n) (hsize : g.locals.size = nL) (hstack : g.stack = As.reverse ++ .ref b :: rest) (hW : 2 * g.monitorRoom + (rest.map fun v => v.category).sum ≤ 8) (hdg : decode cc g.pc = .ok (.invokevirtual index, 3)) (hf : cells + mc ≤ R.cells ∧ slots + ms ≤ R.slots) :
    vx_Run p l e R s m args below meth c H locs cells slots mc ms g rest (Qc (Value.ref b :: As).toArray) XC free := by
  have hK : vx_Back l R p e below s args y 3 8 (PreOf R mc ms Pc) (PostOf Qc mc ms free) (vx_Post XC mc ms free) := vx_callBack cw.1 hM hp.1
  obtain ⟨⟨-, -, -, -, -, -, hcode, -, hy, hlen, hl⟩, hin, hse⟩ := cw
  obtain ⟨hx, hb, hml, ho, -⟩ := S
  obtain ⟨-, ⟨cellB, hcB, hoB, hclB⟩, hPc⟩ := hp
  intro T hT X
  rcases vx_callV X hx (C := C) (bytes := bytes) (maxL := maxL) (ret := ret) ho hl hin hse hcode hy hK (by rw [hT]; exact hcB) hoB hclB hg (hsize.trans hml.symm) (argsL := As) (rest := rest) (fun sig h => hn.trans (hlen sig h)) hstack hW (by rw [hb]; exact hdg)
    (fun vm₁ hW₁ => ⟨hf.1, hf.2, hPc (T.setVm vm₁) hT hW₁⟩) with ⟨v, vm₁, ⟨U', l2, c2, s2⟩, hW₁, X', ⟨g', mk, t, L, e1, e2, hq, h1, hL, h2, h3⟩, st⟩ | ⟨q, vm₁, ⟨U', l2, c2, s2⟩, hW₁, X', ⟨g', mk, t, L, E, ce, e1, e2, hq, hce, hcv, hcl, h1, hL, h2, h3⟩, st⟩
  · dsimp only [Pt.U, Pt.locs, Pt.cells, Pt.slots] at X' e1 e2 h1 h2 h3 st
    subst h1; subst h2; subst h3
    exact Or.inl ⟨v, (T.setVm vm₁).calling g' mk (Value.ref b :: As).toArray, t, U', L, hT, X', hL, e1, e2, hq, st⟩
  · dsimp only [Pt.U, Pt.locs, Pt.cells, Pt.slots] at X' e1 e2 h1 h2 h3 st hcl
    subst h1; subst h2; subst h3
    exact Or.inr ⟨q, (T.setVm vm₁).calling g' mk (Value.ref b :: As).toArray, t, U', L, E, ce, hT, X', hL, e1, e2, hq, hce, hcv, vx_cls hW₁ hcl, st⟩
theorem vx_runS (S : CallFix p m c cc nL s args Ts own) (hM : vx_Met l y ws rm Pc Qc XC mc ms free) (cw : CallB R s args own index y bytes maxL ret ws rm mc ms n ∧ (Cond.static y).before args s = true) (hp : PreS s H Pc As)
    (hg : g.method = m) (hn : As.length = n) (hsize : g.locals.size = nL) (hstack : g.stack = As.reverse ++ rest) (hW : 2 * g.monitorRoom + (rest.map fun v => v.category).sum ≤ 8) (hdg : decode cc g.pc = .ok (.invokestatic index, 3)) (hf : cells + mc ≤ R.cells ∧ slots + ms ≤ R.slots) :
    vx_Run p l e R s m args below meth c H locs cells slots mc ms g rest (Qc As.toArray) XC free := by
  have hK : vx_Back l R p e below s args y 3 8 (PreOf R mc ms Pc) (PostOf Qc mc ms free) (vx_Post XC mc ms free) := vx_callBack cw.1 hM hp.1
  obtain ⟨⟨-, -, -, -, -, -, hcode, hini, hy, hlen, hl⟩, hstt⟩ := cw
  obtain ⟨hx, hb, hml, ho, -⟩ := S
  intro T hT X
  rcases vx_callS X hx (bytes := bytes) (maxL := maxL) (ret := ret) ho hl hstt hini hcode hy hK hg (hsize.trans hml.symm) (argsL := As) (rest := rest) (fun sig h => hn.trans (hlen sig h)) hstack hW (by rw [hb]; exact hdg)
    (fun vm₁ hW₁ => ⟨hf.1, hf.2, hp.2 (T.setVm vm₁) hT hW₁⟩) with ⟨v, vm₁, ⟨U', l2, c2, s2⟩, hW₁, X', ⟨g', mk, t, L, e1, e2, hq, h1, hL, h2, h3⟩, st⟩ | ⟨q, vm₁, ⟨U', l2, c2, s2⟩, hW₁, X', ⟨g', mk, t, L, E, ce, e1, e2, hq, hce, hcv, hcl, h1, hL, h2, h3⟩, st⟩
  · dsimp only [Pt.U, Pt.locs, Pt.cells, Pt.slots] at X' e1 e2 h1 h2 h3 st
    subst h1; subst h2; subst h3
    exact Or.inl ⟨v, (T.setVm vm₁).calling g' mk As.toArray, t, U', L, hT, X', hL, e1, e2, hq, st⟩
  · dsimp only [Pt.U, Pt.locs, Pt.cells, Pt.slots] at X' e1 e2 h1 h2 h3 st hcl
    subst h1; subst h2; subst h3
    exact Or.inr ⟨q, (T.setVm vm₁).calling g' mk As.toArray, t, U', L, E, ce, hT, X', hL, e1, e2, hq, hce, hcv, vx_cls hW₁ hcl, st⟩
end Runs
section Rows
variable {p : Program} {l : Launch} {e : Env} {R : Room} {s : State} {m : MethodId} {args : Array Value} {below : List Frame} {meth : Method} {c : Code} {H : Heap} {locs : List Loc} {cells slots : Nat} {Q : State → Prop}
variable {mc ms : Nat} {free : Addr → Prop} {A0 A1 : Nat → Prop} {H0 : Heap} {a : Array Value} {pc : Nat} {ls : Array Slot} {st0 rest : List Value}
theorem vx_keep {st₀ t T' : State} {L : List Loc} (h0 : st₀.heap = H) (e1 : T'.heap = t.heap) (hS : va_S A0 H0 H locs) (hA : ∀ q, q < H.size → A1 q → A0 q) (hf : ∀ q, free q → A0 q) (hL : ∀ q ∈ L, free q.base) (hF : va_F A1 st₀ t) :
    H.size ≤ T'.heap.size ∧ (∀ q : Nat, q < H.size → ¬ A1 q → T'.heap[q]? = H[q]?) ∧ va_S A0 H0 T'.heap (locs ++ L) := by
  obtain ⟨hz, hk⟩ := hF
  rw [h0] at hz hk
  exact ⟨by rw [e1]; exact hz, fun q h1 h2 => by rw [e1]; exact hk q h1 h2,
    ⟨Nat.le_trans hS.1 (by rw [e1]; exact hz), fun q h1 h2 => by rw [e1, hk q (Nat.lt_of_lt_of_le h1 hS.1) (fun z => h2 (hA q (Nat.lt_of_lt_of_le h1 hS.1) z))]; exact hS.2.1 q h1 h2, fun q hq => by
      rcases List.mem_append.mp hq with h | h
      · exact hS.2.2 q h
      · exact hf _ (hL q h)⟩⟩
theorem vx_calli {S SX : Type} {post : Int32 → S → Prop} {px : SX → Prop} {B : S → State → Prop} {BX : String → SX → State → Prop} {AX : Nat → Prop} (hr : vx_Run p l e R s m args below meth c H locs cells slots mc ms (F0 m pc ls st0) rest (va_Qi post B A1 a) (vx_X px BX AX) free) (hS : va_S A0 H0 H locs) (hA : ∀ q, q < H.size → A1 q → A0 q) (hf : ∀ q, free q → A0 q) (hAX : ∀ q, q < H.size → AX q → A0 q)
    (kx : ∀ (E : String) (ce : Cell) (q9 : Addr) (u : SX) (t : State) (H1 : Heap) (locs1 : List Loc), t.heap = H1 → s.vm.Alike t.vm → px u → BX E u t → H.size ≤ H1.size → (∀ q : Nat, q < H.size → ¬ AX q → H1[q]? = H[q]?) → va_S A0 H0 H1 locs1 → H1[q9]? = some ce → ce.vm = .none → s.vm.findClass E = some ce.cls → vx_W p l e R s m args below meth c H1 locs1 (cells + mc) (slots + ms) Q (F0 m pc ls rest) q9)
    (kk : ∀ (r : Int32) (u : S) (t : State) (H1 : Heap) (locs1 : List Loc), t.heap = H1 → s.vm.Alike t.vm → post r u → B u t → H.size ≤ H1.size → (∀ q : Nat, q < H.size → ¬ A1 q → H1[q]? = H[q]?) → va_S A0 H0 H1 locs1 → W p l e R s m args below meth c H1 locs1 (cells + mc) (slots + ms) Q (F0 m (pc + 3) ls (.int r :: rest))) : W p l e R s m args below meth c H locs cells slots Q (F0 m pc ls st0) := by
  intro T hT X
  rcases hr T hT X with ⟨v, st₀, t, T', L, h0, X', hL, e1, e2, ⟨⟨r, u, hv, hp, hb⟩, hF⟩, st⟩ | ⟨q, st₀, t, T', L, E, ce, h0, X', hL, e1, e2, ⟨u, hp, hb, hF⟩, hce, hcv, hcl, st⟩
  · cases hv
    obtain ⟨k1, k2, k3⟩ := vx_keep h0 e1 hS hA hf hL hF
    obtain ⟨t2, a1, b1⟩ := kk r u t T'.heap (locs ++ L) e1.symm (by rw [← e2]; exact X'.warmed.alike) hp hb k1 k2 k3 T' rfl X'
    exact ⟨t2, st t2 a1, b1⟩
  · obtain ⟨k1, k2, k3⟩ := vx_keep h0 e1 hS hAX hf hL hF
    obtain ⟨t2, a1, b1⟩ := kx E ce q u t T'.heap (locs ++ L) e1.symm (by rw [← e2]; exact X'.warmed.alike) hp hb k1 k2 k3 (by rw [e1]; exact hce) hcv hcl T' rfl X'
    exact ⟨t2, st.trans a1, b1⟩
theorem vx_calll {S SX : Type} {post : Int64 → S → Prop} {px : SX → Prop} {B : S → State → Prop} {BX : String → SX → State → Prop} {AX : Nat → Prop} (hr : vx_Run p l e R s m args below meth c H locs cells slots mc ms (F0 m pc ls st0) rest (va_Ql post B A1 a) (vx_X px BX AX) free) (hS : va_S A0 H0 H locs) (hA : ∀ q, q < H.size → A1 q → A0 q) (hf : ∀ q, free q → A0 q) (hAX : ∀ q, q < H.size → AX q → A0 q)
    (kx : ∀ (E : String) (ce : Cell) (q9 : Addr) (u : SX) (t : State) (H1 : Heap) (locs1 : List Loc), t.heap = H1 → s.vm.Alike t.vm → px u → BX E u t → H.size ≤ H1.size → (∀ q : Nat, q < H.size → ¬ AX q → H1[q]? = H[q]?) → va_S A0 H0 H1 locs1 → H1[q9]? = some ce → ce.vm = .none → s.vm.findClass E = some ce.cls → vx_W p l e R s m args below meth c H1 locs1 (cells + mc) (slots + ms) Q (F0 m pc ls rest) q9)
    (kk : ∀ (r : Int64) (u : S) (t : State) (H1 : Heap) (locs1 : List Loc), t.heap = H1 → s.vm.Alike t.vm → post r u → B u t → H.size ≤ H1.size → (∀ q : Nat, q < H.size → ¬ A1 q → H1[q]? = H[q]?) → va_S A0 H0 H1 locs1 → W p l e R s m args below meth c H1 locs1 (cells + mc) (slots + ms) Q (F0 m (pc + 3) ls (.long r :: rest))) : W p l e R s m args below meth c H locs cells slots Q (F0 m pc ls st0) := by
  intro T hT X
  rcases hr T hT X with ⟨v, st₀, t, T', L, h0, X', hL, e1, e2, ⟨⟨r, u, hv, hp, hb⟩, hF⟩, st⟩ | ⟨q, st₀, t, T', L, E, ce, h0, X', hL, e1, e2, ⟨u, hp, hb, hF⟩, hce, hcv, hcl, st⟩
  · cases hv
    obtain ⟨k1, k2, k3⟩ := vx_keep h0 e1 hS hA hf hL hF
    obtain ⟨t2, a1, b1⟩ := kk r u t T'.heap (locs ++ L) e1.symm (by rw [← e2]; exact X'.warmed.alike) hp hb k1 k2 k3 T' rfl X'
    exact ⟨t2, st t2 a1, b1⟩
  · obtain ⟨k1, k2, k3⟩ := vx_keep h0 e1 hS hAX hf hL hF
    obtain ⟨t2, a1, b1⟩ := kx E ce q u t T'.heap (locs ++ L) e1.symm (by rw [← e2]; exact X'.warmed.alike) hp hb k1 k2 k3 (by rw [e1]; exact hce) hcv hcl T' rfl X'
    exact ⟨t2, st.trans a1, b1⟩
theorem vx_callf {S SX : Type} {post : UInt32 → S → Prop} {px : SX → Prop} {B : S → State → Prop} {BX : String → SX → State → Prop} {AX : Nat → Prop} (hr : vx_Run p l e R s m args below meth c H locs cells slots mc ms (F0 m pc ls st0) rest (va_Qf post B A1 a) (vx_X px BX AX) free) (hS : va_S A0 H0 H locs) (hA : ∀ q, q < H.size → A1 q → A0 q) (hf : ∀ q, free q → A0 q) (hAX : ∀ q, q < H.size → AX q → A0 q)
    (kx : ∀ (E : String) (ce : Cell) (q9 : Addr) (u : SX) (t : State) (H1 : Heap) (locs1 : List Loc), t.heap = H1 → s.vm.Alike t.vm → px u → BX E u t → H.size ≤ H1.size → (∀ q : Nat, q < H.size → ¬ AX q → H1[q]? = H[q]?) → va_S A0 H0 H1 locs1 → H1[q9]? = some ce → ce.vm = .none → s.vm.findClass E = some ce.cls → vx_W p l e R s m args below meth c H1 locs1 (cells + mc) (slots + ms) Q (F0 m pc ls rest) q9)
    (kk : ∀ (r : UInt32) (u : S) (t : State) (H1 : Heap) (locs1 : List Loc), t.heap = H1 → s.vm.Alike t.vm → post r u → B u t → H.size ≤ H1.size → (∀ q : Nat, q < H.size → ¬ A1 q → H1[q]? = H[q]?) → va_S A0 H0 H1 locs1 → W p l e R s m args below meth c H1 locs1 (cells + mc) (slots + ms) Q (F0 m (pc + 3) ls (.float r :: rest))) : W p l e R s m args below meth c H locs cells slots Q (F0 m pc ls st0) := by
  intro T hT X
  rcases hr T hT X with ⟨v, st₀, t, T', L, h0, X', hL, e1, e2, ⟨⟨r, u, hv, hp, hb⟩, hF⟩, st⟩ | ⟨q, st₀, t, T', L, E, ce, h0, X', hL, e1, e2, ⟨u, hp, hb, hF⟩, hce, hcv, hcl, st⟩
  · cases hv
    obtain ⟨k1, k2, k3⟩ := vx_keep h0 e1 hS hA hf hL hF
    obtain ⟨t2, a1, b1⟩ := kk r u t T'.heap (locs ++ L) e1.symm (by rw [← e2]; exact X'.warmed.alike) hp hb k1 k2 k3 T' rfl X'
    exact ⟨t2, st t2 a1, b1⟩
  · obtain ⟨k1, k2, k3⟩ := vx_keep h0 e1 hS hAX hf hL hF
    obtain ⟨t2, a1, b1⟩ := kx E ce q u t T'.heap (locs ++ L) e1.symm (by rw [← e2]; exact X'.warmed.alike) hp hb k1 k2 k3 (by rw [e1]; exact hce) hcv hcl T' rfl X'
    exact ⟨t2, st.trans a1, b1⟩
theorem vx_calld {S SX : Type} {post : UInt64 → S → Prop} {px : SX → Prop} {B : S → State → Prop} {BX : String → SX → State → Prop} {AX : Nat → Prop} (hr : vx_Run p l e R s m args below meth c H locs cells slots mc ms (F0 m pc ls st0) rest (va_Qd post B A1 a) (vx_X px BX AX) free) (hS : va_S A0 H0 H locs) (hA : ∀ q, q < H.size → A1 q → A0 q) (hf : ∀ q, free q → A0 q) (hAX : ∀ q, q < H.size → AX q → A0 q)
    (kx : ∀ (E : String) (ce : Cell) (q9 : Addr) (u : SX) (t : State) (H1 : Heap) (locs1 : List Loc), t.heap = H1 → s.vm.Alike t.vm → px u → BX E u t → H.size ≤ H1.size → (∀ q : Nat, q < H.size → ¬ AX q → H1[q]? = H[q]?) → va_S A0 H0 H1 locs1 → H1[q9]? = some ce → ce.vm = .none → s.vm.findClass E = some ce.cls → vx_W p l e R s m args below meth c H1 locs1 (cells + mc) (slots + ms) Q (F0 m pc ls rest) q9)
    (kk : ∀ (r : UInt64) (u : S) (t : State) (H1 : Heap) (locs1 : List Loc), t.heap = H1 → s.vm.Alike t.vm → post r u → B u t → H.size ≤ H1.size → (∀ q : Nat, q < H.size → ¬ A1 q → H1[q]? = H[q]?) → va_S A0 H0 H1 locs1 → W p l e R s m args below meth c H1 locs1 (cells + mc) (slots + ms) Q (F0 m (pc + 3) ls (.double r :: rest))) : W p l e R s m args below meth c H locs cells slots Q (F0 m pc ls st0) := by
  intro T hT X
  rcases hr T hT X with ⟨v, st₀, t, T', L, h0, X', hL, e1, e2, ⟨⟨r, u, hv, hp, hb⟩, hF⟩, st⟩ | ⟨q, st₀, t, T', L, E, ce, h0, X', hL, e1, e2, ⟨u, hp, hb, hF⟩, hce, hcv, hcl, st⟩
  · cases hv
    obtain ⟨k1, k2, k3⟩ := vx_keep h0 e1 hS hA hf hL hF
    obtain ⟨t2, a1, b1⟩ := kk r u t T'.heap (locs ++ L) e1.symm (by rw [← e2]; exact X'.warmed.alike) hp hb k1 k2 k3 T' rfl X'
    exact ⟨t2, st t2 a1, b1⟩
  · obtain ⟨k1, k2, k3⟩ := vx_keep h0 e1 hS hAX hf hL hF
    obtain ⟨t2, a1, b1⟩ := kx E ce q u t T'.heap (locs ++ L) e1.symm (by rw [← e2]; exact X'.warmed.alike) hp hb k1 k2 k3 (by rw [e1]; exact hce) hcv hcl T' rfl X'
    exact ⟨t2, st.trans a1, b1⟩
theorem vx_callv {S SX : Type} {post : S → Prop} {px : SX → Prop} {B : S → State → Prop} {BX : String → SX → State → Prop} {AX : Nat → Prop} (hr : vx_Run p l e R s m args below meth c H locs cells slots mc ms (F0 m pc ls st0) rest (va_Qv post B A1 a) (vx_X px BX AX) free) (hS : va_S A0 H0 H locs) (hA : ∀ q, q < H.size → A1 q → A0 q) (hf : ∀ q, free q → A0 q) (hAX : ∀ q, q < H.size → AX q → A0 q)
    (kx : ∀ (E : String) (ce : Cell) (q9 : Addr) (u : SX) (t : State) (H1 : Heap) (locs1 : List Loc), t.heap = H1 → s.vm.Alike t.vm → px u → BX E u t → H.size ≤ H1.size → (∀ q : Nat, q < H.size → ¬ AX q → H1[q]? = H[q]?) → va_S A0 H0 H1 locs1 → H1[q9]? = some ce → ce.vm = .none → s.vm.findClass E = some ce.cls → vx_W p l e R s m args below meth c H1 locs1 (cells + mc) (slots + ms) Q (F0 m pc ls rest) q9)
    (kk : ∀ (u : S) (t : State) (H1 : Heap) (locs1 : List Loc), t.heap = H1 → s.vm.Alike t.vm → post u → B u t → H.size ≤ H1.size → (∀ q : Nat, q < H.size → ¬ A1 q → H1[q]? = H[q]?) → va_S A0 H0 H1 locs1 → W p l e R s m args below meth c H1 locs1 (cells + mc) (slots + ms) Q (F0 m (pc + 3) ls (rest))) : W p l e R s m args below meth c H locs cells slots Q (F0 m pc ls st0) := by
  intro T hT X
  rcases hr T hT X with ⟨v, st₀, t, T', L, h0, X', hL, e1, e2, ⟨⟨u, hv, hp, hb⟩, hF⟩, st⟩ | ⟨q, st₀, t, T', L, E, ce, h0, X', hL, e1, e2, ⟨u, hp, hb, hF⟩, hce, hcv, hcl, st⟩
  · cases hv
    obtain ⟨k1, k2, k3⟩ := vx_keep h0 e1 hS hA hf hL hF
    obtain ⟨t2, a1, b1⟩ := kk u t T'.heap (locs ++ L) e1.symm (by rw [← e2]; exact X'.warmed.alike) hp hb k1 k2 k3 T' rfl X'
    exact ⟨t2, st t2 a1, b1⟩
  · obtain ⟨k1, k2, k3⟩ := vx_keep h0 e1 hS hAX hf hL hF
    obtain ⟨t2, a1, b1⟩ := kx E ce q u t T'.heap (locs ++ L) e1.symm (by rw [← e2]; exact X'.warmed.alike) hp hb k1 k2 k3 (by rw [e1]; exact hce) hcv hcl T' rfl X'
    exact ⟨t2, st.trans a1, b1⟩
/-- caught by the row x of this method's table; the rows ahead don't take it -/
theorem vx_catch {own name : String} {E : String} {ce : Cell} {q : Addr} (hown : s.vm.findClass own = some m.cls) (pre : List ExceptionTableEntry) (x : ExceptionTableEntry) (suf : List ExceptionTableEntry) (hsplit : c.exceptionTable.toList = pre ++ x :: suf)
    (hpass : ∀ z ∈ pre, covers z pc = false ∨ (z.catchType ≠ 0 ∧ ∃ nm : String, (Cond.classLink own z.catchType nm).before args s = true ∧ va_Nc E nm s)) (hx : covers x pc = true) (h0 : x.catchType ≠ 0)
    (hlink : (Cond.classLink own x.catchType name).before args s = true) (hcast : (Cond.castable E name).before args s = true) (hcell : H[q]? = some ce) (hv : ce.vm = .none) (hcl : s.vm.findClass E = some ce.cls)
    (kk : W p l e R s m args below meth c H locs cells slots Q (F0 m x.handlerPc ls [.ref q])) : vx_W p l e R s m args below meth c H locs cells slots Q (F0 m pc ls rest) q := by
  intro T hT X
  have hpl : e.platform.magicAccessors = ({} : Platform).magicAccessors := by rw [X.admits.platform]
  obtain ⟨c3, c4, hc3, hc4, hasg⟩ := Cond.castable_spec hcast
  cases Option.some.inj (hc3.symm.trans hcl)
  obtain ⟨c5, hc5, hcl5⟩ := Cond.classLink_spec hown hlink e.platform hpl
  cases Option.some.inj (hc4.symm.trans hc5)
  obtain ⟨vm', X', st⟩ := X.thenCaughtThrough q (g := F0 m pc ls rest) rfl (Steps.refl _) (by rw [hT]; exact hcell) (by rw [hv]; rfl) (by obtain ⟨k9, h9, -⟩ := Vm.findClass_spec hcl; exact ⟨k9, h9⟩) pre x suf hsplit
    (fun z hz => by
      rcases hpass z hz with h | ⟨hz0, nm, hl1, hn1⟩
      · exact Or.inl h
      · obtain ⟨c6, hc6, hcl6⟩ := Cond.classLink_spec hown hl1 e.platform hpl
        obtain ⟨a8, b8, h1, h2, h3⟩ := hn1
        cases Option.some.inj (h1.symm.trans hcl)
        cases Option.some.inj (h2.symm.trans hc6)
        exact Or.inr ⟨hz0, _, hcl6, h3⟩) hx (Or.inr ⟨h0, c4, hcl5, hasg⟩)
  obtain ⟨t, a1, b1⟩ := kk (T.setVm vm') hT X'
  exact ⟨t, st.trans a1, b1⟩
end Rows
section Ends
variable {p : Program} {l : Launch} {e : Env} {R : Room} {s : State} {m : MethodId} {args : Array Value} {below : List Frame} {meth : Method} {c : Code} {H : Heap} {locs : List Loc} {cells slots : Nat} {Q : State → Prop}
variable {mc ms : Nat} {free : Addr → Prop} {A0 A1 : Nat → Prop} {H0 : Heap} {a : Array Value} {ls : Array Slot} {st0 rest : List Value}
variable {Qc : Array Value → State → Outcome → State → Prop} {XC : String → State → State → Prop}
/-- what a body that may throw owes at its end -/
def vx_MQ (below : List Frame) (Qc : Array Value → State → Outcome → State → Prop) (XC : String → State → State → Prop) (a : Array Value) (s : State) (mc ms : Nat) (free : Addr → Prop) : State → Prop := fun t =>
  ∃ o, t.status = .running ∧ Ended t below o ∧ vx_Q Qc XC mc ms free a s o t
theorem vx_ret {g : JFrame} {mc ms : Nat} (k : W p l e R s m args below meth c H locs cells slots (MQ below Qc args s mc ms free) g) : W p l e R s m args below meth c H locs cells slots (vx_MQ below Qc XC args s mc ms free) g := by
  intro T hT X
  obtain ⟨t, a1, o, b1, b2, b3, b4⟩ := k T hT X
  exact ⟨t, a1, o, b1, b2, Or.inl ⟨b3, b4⟩⟩
/-- not caught here: it goes on to the caller -/
theorem vx_widen {g : JFrame} {q : Addr} {k n : Nat} (h1 : cells ≤ k) (h2 : slots ≤ n) (kk : vx_W p l e R s m args below meth c H locs k n Q g q) : vx_W p l e R s m args below meth c H locs cells slots Q g q := fun T hT X => kk T hT (stand_widen X h1 h2)
theorem vx_out {pc : Nat} {E : String} {ce : Cell} {q : Addr} {mc ms : Nat} (hout : ∀ x ∈ c.exceptionTable.toList, covers x pc = false) (hlocks : meth.locks = false) (hcell : H[q]? = some ce) (hv : ce.vm = .none) (hcl : s.vm.findClass E = some ce.cls)
    (hx : ∀ t : State, t.heap = H → s.vm.Alike t.vm → XC E s t) (hf : ∀ z ∈ locs, free z.base) (hc : cells ≤ mc) (hs : slots ≤ ms) :
    vx_W p l e R s m args below meth c H locs cells slots (vx_MQ below Qc XC args s mc ms free) (F0 m pc ls rest) q := by
  intro T hT X
  obtain ⟨st1, hrun, hend, hW, hsm⟩ := X.leaveThrown q (g := F0 m pc ls rest) rfl rfl rfl hout hlocks
  have hcell9 : (T.setFrames (.throwing q :: below)).heap[q]? = some ce := by
    show T.heap[q]? = some ce
    rw [hT]; exact hcell
  exact ⟨_, st1, .threw q, hrun, hend, Or.inr ⟨q, rfl, E, ce, locs, hx _ hT hW.alike, hcell9, hv, hcl, hW, hsm.mono hc hs, hf⟩⟩
theorem vx_frame {U : State} {k n : Nat} (h : s.sameButNew ({ U with vm := s.vm } : State) locs k n) : s.heap.size ≤ U.heap.size ∧ ∀ q : Nat, q < s.heap.size → (∀ z ∈ locs, z.base ≠ q) → U.heap[q]? = s.heap[q]? := by
  obtain ⟨-, h2, -, -, -, h6⟩ := h
  refine ⟨h2, fun q hq hz => ?_⟩
  obtain ⟨c9, e1, e2, e3, e4⟩ := h6 q _ (Array.getElem?_eq_getElem hq)
  have hs : c9.slots = (s.heap[q]).slots := Array.ext_getElem? fun i => e4 i fun hm => hz _ hm rfl
  have h9 : c9 = s.heap[q] := by
    rw [hs] at e2
    exact e2
  have e5 : U.heap[q]? = some c9 := e1
  rw [e5, h9, Array.getElem?_eq_getElem hq]
/-- the words of a throw but the four that speak of the heap -/
def vx_no (w : Cond) : Bool := decide (w ≠ .isRef (.static Bundle.tN "UNASSIGNED_STACK" Bundle.steD)) && decide (w ≠ .isRef (.static Bundle.tN "SUPPRESSED_SENTINEL" Bundle.listD)) && decide (w ≠ .laysStatic Bundle.tN "UNASSIGNED_STACK" Bundle.steD) && decide (w ≠ .laysStatic Bundle.tN "SUPPRESSED_SENTINEL" Bundle.listD)
def vx_at0 (own : String) (ic : Nat) (X : String) (names : List String) : List Cond := (Bundle.ownAtoms0 own ic X names).filter vx_no
def vx_atS (own : String) (ic : Nat) (X : String) (names : List String) : List Cond := (Bundle.ownAtoms own ic X names).filter vx_no
/-- a word that the tables alone decide, or a good one -/
def vx_ot (w : Cond) : Bool := w.onTables || goodWord w
theorem vx_ot_at {args a' : Array Value} {s U : State} {w : Cond} (hW : s.WarmedH U.vm) (hvm : s.vm = U.vm) (hg : vx_ot w = true) (h : w.before args s = true) : w.before a' U = true := by
  simp only [vx_ot, Bool.or_eq_true] at hg
  rcases hg with hg | hg
  · exact va_tabs hg hvm h
  · exact word_at hW (good_of_word hg) h
/-- a list's words: the good ones out of the method's own list, the others by premises of their own -/
theorem vx_hat {args : Array Value} {s : State} {L B : List Cond} (h1 : ∀ w ∈ L.filter goodWord, w.before args s = true) (h2 : ∀ w ∈ L.filter (fun w => !goodWord w), w ∈ B) (h3 : ∀ w ∈ B, w.before args s = true) : ∀ w ∈ L, w.before args s = true := by
  intro w hw
  by_cases g : goodWord w = true
  · exact h1 w (List.mem_filter.mpr ⟨hw, g⟩)
  · refine h3 w (h2 w (List.mem_filter.mpr ⟨hw, ?_⟩))
    show (!goodWord w) = true
    cases hgw : goodWord w
    · rfl
    · exact absurd hgw g
theorem vx_c {args : Array Value} {s : State} {w : Cond} {B : List Cond} (h : w.before args s = true) (t : ∀ w ∈ B, w.before args s = true) : ∀ w' ∈ w :: B, w'.before args s = true := fun w' h' => (List.mem_cons.mp h').elim (fun e => by rw [e]; exact h) (t w')
theorem vx_n {args : Array Value} {s : State} : ∀ w ∈ ([] : List Cond), w.before args s = true := fun _ h => nomatch h
theorem vx_own {args : Array Value} {s : State} {L : List Cond} (h1 : ∀ w ∈ L.filter vx_no, w.before args s = true)
    (hU : (Cond.isRef (.static Bundle.tN "UNASSIGNED_STACK" Bundle.steD)).before args s = true) (hN : (Cond.isRef (.static Bundle.tN "SUPPRESSED_SENTINEL" Bundle.listD)).before args s = true)
    (lU : (Cond.laysStatic Bundle.tN "UNASSIGNED_STACK" Bundle.steD).before args s = true) (lN : (Cond.laysStatic Bundle.tN "SUPPRESSED_SENTINEL" Bundle.listD).before args s = true) : ∀ w ∈ L, w.before args s = true := by
  intro w hw
  by_cases e1 : w = .isRef (.static Bundle.tN "UNASSIGNED_STACK" Bundle.steD)
  · rw [e1]; exact hU
  · by_cases e2 : w = .isRef (.static Bundle.tN "SUPPRESSED_SENTINEL" Bundle.listD)
    · rw [e2]; exact hN
    · by_cases e3 : w = .laysStatic Bundle.tN "UNASSIGNED_STACK" Bundle.steD
      · rw [e3]; exact lU
      · by_cases e4 : w = .laysStatic Bundle.tN "SUPPRESSED_SENTINEL" Bundle.listD
        · rw [e4]; exact lN
        · exact h1 w (List.mem_filter.mpr ⟨hw, by unfold vx_no; rw [decide_eq_true e1, decide_eq_true e2, decide_eq_true e3, decide_eq_true e4]; rfl⟩)
/-- where a static field lies, its class's statics cell in H -/
def vx_L (C n d : String) (A : Nat → Prop) (U : State) (H : Heap) : Prop := ∃ (c : ClassId) (k : Class) (i : Nat) (f : Field) (a : Nat) (cell : Cell), U.vm.findClass C = some c ∧ U.fieldFound? C n d = some (c, k, i, f) ∧ f.isStatic = true ∧ k.statics = some a ∧ H[a]? = some cell ∧ cell.vm.isStatics = true ∧ cell.cls = c ∧ f.slot < cell.slots.size ∧ k.staticTypes[f.slot]? = some f.type ∧ ¬ A a
theorem vx_L.moved {C n d : String} {A : Nat → Prop} {u U : State} {H : Heap} (hvm : u.vm.Alike U.vm) (h : vx_L C n d A u H) : vx_L C n d A U H := by
  obtain ⟨c, k, i, f, a, cell, h1, h2, h3, h4, h5, h6, h7, h8, h9, h10⟩ := h
  obtain ⟨k', hi', he⟩ := State.fieldFound?_setVm hvm h2
  exact ⟨c, k', i, f, a, cell, by rw [hvm.findClass]; exact h1, hi', h3, by rw [he]; exact h4, h5, h6, h7, h8, by rw [he]; exact h9, h10⟩
theorem vx_L.kept {C n d : String} {A : Nat → Prop} {U : State} {H H1 : Heap} (h : vx_L C n d A U H) (hq : ∀ a : Nat, a < H.size → ¬ A a → H1[a]? = H[a]?) : vx_L C n d A U H1 := by
  obtain ⟨c, k, i, f, a, cell, h1, h2, h3, h4, h5, h6, h7, h8, h9, h10⟩ := h
  exact ⟨c, k, i, f, a, cell, h1, h2, h3, h4, by rw [hq a (Array.getElem?_eq_some_iff.mp h5).1 h10]; exact h5, h6, h7, h8, h9, h10⟩
theorem vx_L.narrow {C n d : String} {A B : Nat → Prop} {U : State} {H : Heap} (h : vx_L C n d A U H) (hAB : ∀ q, B q → A q) : vx_L C n d B U H := by
  obtain ⟨c, k, i, f, a, cell, h1, h2, h3, h4, h5, h6, h7, h8, h9, h10⟩ := h
  exact ⟨c, k, i, f, a, cell, h1, h2, h3, h4, h5, h6, h7, h8, h9, fun z => h10 (hAB _ z)⟩
theorem vx_L.word {C n d : String} {A : Nat → Prop} {s : State} {args : Array Value} (h : vx_L C n d A s s.heap) : (Cond.laysStatic C n d).before args s = true := by
  obtain ⟨c, k, i, f, a, cell, h1, h2, h3, h4, h5, h6, h7, h8, h9, -⟩ := h
  show (Cond.laysStatic C n d).holds args s none s [] = true
  exact Cond.laysStatic_of h1 h2 h3 h4 h5 h6 h7 h8 h9
/-- .. and what it holds: null or some reference -/
def vx_Zq (C n d : String) (A : Nat → Prop) (U : State) (H : Heap) : Prop := va_Zq C n d A U H ∧ vx_L C n d A U H
theorem vx_Zq.moved {C n d : String} {A : Nat → Prop} {u U : State} {H : Heap} (hvm : u.vm.Alike U.vm) (h : vx_Zq C n d A u H) : vx_Zq C n d A U H := ⟨va_Zq.moved hvm h.1, vx_L.moved hvm h.2⟩
theorem vx_Zq.kept {C n d : String} {A : Nat → Prop} {U : State} {H H1 : Heap} (h : vx_Zq C n d A U H) (hq : ∀ a : Nat, a < H.size → ¬ A a → H1[a]? = H[a]?) : vx_Zq C n d A U H1 := ⟨va_Zq.kept h.1 hq, vx_L.kept h.2 hq⟩
theorem vx_Zq.narrow {C n d : String} {A B : Nat → Prop} {U : State} {H : Heap} (h : vx_Zq C n d A U H) (hAB : ∀ q, B q → A q) : vx_Zq C n d B U H := ⟨va_Zq.narrow h.1 hAB, vx_L.narrow h.2 hAB⟩
theorem vx_Zqof {args : Array Value} {s : State} {C n d : String} {A : Nat → Prop} (hl : (Cond.laysStatic C n d).before args s = true) (hini : (Cond.initialized C).before args s = true) (h : (Cond.isRef (.static C n d)).before args s = true) (hA : ∀ a : Nat, a < s.heap.size → ¬ A a) : vx_Zq C n d A s s.heap := by
  refine ⟨va_Zqof hl hini h hA, ?_⟩
  obtain ⟨c, k, i, f, a, cell, h1, h2, h3, h4, h5, h6, h7, h8, h9⟩ := Cond.laysStatic_spec hl
  exact ⟨c, k, i, f, a, cell, h1, h2, h3, h4, h5, h6, h7, h8, h9, hA a (Array.getElem?_eq_some_iff.mp h5).1⟩
theorem vx_isRef {C n d : String} {v : Value} {A : Nat → Prop} {s : State} {args : Array Value} (h : va_Z C n d v A s s.heap) (hv : v.isRef = true) : (Cond.isRef (.static C n d)).before args s = true := by
  obtain ⟨cf, kf, fi, f, a, cell, h1, h2, h3, h4, h5, h6, h7, -⟩ := h
  have he : (Term.static C n d).eval args s none [] s = some v := by
    simp [Term.eval, State.fieldNamed?, h1, h2, h4, h5, h6, h7]
  simp only [Cond.before, Cond.holds, Cond.value, he]
  cases v <;> simp_all [Value.isRef]
theorem vx_isRefq {C n d : String} {A : Nat → Prop} {s : State} {args : Array Value} (h : va_Zq C n d A s s.heap) : (Cond.isRef (.static C n d)).before args s = true := by
  rcases h with h | ⟨t, h⟩
  · exact vx_isRef h rfl
  · exact vx_isRef h rfl
/-- the same frame, seen from here: as if the method were called anew in this heap -/
theorem vx_rebase {T : State} (X : Stand p l e R s m args below meth c T locs cells slots) {R' : Room} (hf : R'.frames ≤ R.frames) (hl : R'.locals ≤ R.locals) (hc : cells + R'.cells ≤ R.cells) (hs : slots + R'.slots ≤ R.slots) :
    Stand p l e R' ((T.setVm s.vm).setFrames (.invoking m args :: below)) m args below meth c T [] 0 0 := by
  have htop : (T.setVm s.vm).topJava?.isSome := X.here.top
  have hF : ((T.setVm s.vm).setFrames (.invoking m args :: below)).frames = .invoking m args :: below := State.frames_setFrames _ (State.cur_lt_of_top htop)
  obtain ⟨g₀, hg0⟩ := Option.isSome_iff_exists.mp htop
  obtain ⟨r, hr⟩ := State.topJava?_eq_some.mp hg0
  have hl9 : e.platform.stackLimits (T.setVm s.vm).me = e.platform.stackLimits s.me := X.limits
  have hb9 : (T.setVm s.vm).me.stackBytes = s.me.stackBytes := X.bytes
  refine ⟨X.admits, X.cas, X.clock, hF, ?_, X.hears, X.method, X.code, X.here, X.tail, X.warmed, ?_, ?_, ?_⟩
  · have h := X.room
    have hU : ((T.setVm s.vm).setFrames (.invoking m args :: below)).localsInUse = s.localsInUse := by
      rw [State.localsInUse_invoking hF (meth := meth) (c := c) X.method X.code, State.localsInUse_invoking X.frames X.method X.code]
    simp only [State.hasRoom, Bool.and_eq_true, decide_eq_true_eq] at h ⊢
    obtain ⟨⟨⟨⟨h1, h2, h3, h4, h5, h6⟩, h7⟩, h8⟩, h9⟩ := h
    rw [X.frames, List.length_cons] at h2 h3
    have q1 := X.heapSize
    have q2 := X.used
    simp only [hF, hU, List.length_cons, State.stackLimits_setFrames, State.stackBytes_setFrames, hl9, hb9]
    refine ⟨⟨⟨⟨by omega, by omega, by omega, by omega, by omega, h6⟩, ?_⟩, ?_⟩, X.book⟩
    · show T.heap.size + R'.cells ≤ e.platform.maxCells
      omega
    · show T.slotsUsed + R'.slots ≤ e.platform.maxSlots
      omega
  · rw [State.stackLimits_setFrames]; rfl
  · rw [State.stackBytes_setFrames]; rfl
  · refine ⟨?_, Nat.le_refl _, Nat.le_refl _, ?_, ?_, fun a c9 h9 => ⟨c9, h9, rfl, rfl, fun _ _ => rfl⟩⟩
    · obtain ⟨t, ht, -⟩ := State.frames_cons hr
      show T.setVm s.vm = { ((T.setVm s.vm).setFrames (.invoking m args :: below)).setFrames (T.setVm s.vm).frames with heap := T.heap, slotsUsed := T.slotsUsed }
      rw [State.setFrames_setFrames, State.setFrames_self ht]
      rfl
    · show T.slotsUsed = T.slotsUsed + ((T.heap.toList.drop T.heap.size).map (·.slots.size)).sum
      rw [List.drop_eq_nil_of_le (Nat.le_of_eq Array.length_toList)]
      rfl
    · show ((T.heap.toList.drop T.heap.size).map (·.slots.size)).sum ≤ 0
      rw [List.drop_eq_nil_of_le (Nat.le_of_eq Array.length_toList)]
      exact Nat.le_refl _
/-- 'throw new E()': new; dup; invokespecial; athrow -/
theorem vx_throw0 {cc : ByteArray} {pc : Nat} (hexec : p.tables.exec = Jvm.exec) (hb : c.code = cc) (hl : l.stackTraces = false) {own cls : String} {names : List String} {ik ic mc ms : Nat} {A : Nat → Prop}
    (hown : s.vm.findClass own = some m.cls) (hcls : Bundle.fit cls = true) (hnames : ∀ n ∈ names, Bundle.fit n = true)
    (hk : (Cond.classLink own ik cls).before args s = true) (hini : (Cond.initialized cls).before args s = true) (hat : ∀ w ∈ vx_at0 own ic cls names, w.before args s = true)
    (hgood : ∀ w ∈ Cond.classLink own ik cls :: Cond.initialized cls :: vx_at0 own ic cls names, vx_ot w = true)
    (hU : vx_Zq Bundle.tN "UNASSIGNED_STACK" Bundle.steD A s s.heap) (hN : vx_Zq Bundle.tN "SUPPRESSED_SENTINEL" Bundle.listD A s s.heap) (hS : va_S A s.heap H locs) (hsize : ls.size = c.maxLocals)
    (d0 : decode cc pc = .ok (.new ik, 3)) (d3 : decode cc (pc + 3) = .ok (.dup, 1)) (d4 : decode cc (pc + 4) = .ok (.invokespecial ic, 3)) (d7 : decode cc (pc + 7) = .ok (.athrow, 1))
    (hout : ∀ x ∈ c.exceptionTable.toList, covers x (pc + 7) = false)
    (hRframes : names.length + 3 < R.frames) (hRlocals : (rest.map fun v => v.category).sum + (13 * (names.length + 1) + 42) ≤ R.locals) (hRcells : cells + 1 ≤ R.cells) (hRslots : slots + 6 ≤ R.slots) (hlocks : meth.locks = false)
    (hx : ∀ t : State, s.vm.Alike t.vm → H.size ≤ t.heap.size → (∀ q : Nat, q < H.size → t.heap[q]? = H[q]?) → XC cls s t)
    (hf : ∀ z ∈ locs, free z.base) (hc : cells + 1 ≤ mc) (hs : slots + 6 ≤ ms) :
    W p l e R s m args below meth c H locs cells slots (vx_MQ below Qc XC args s mc ms free) (F0 m pc ls rest) := by
  intro T hT X
  have htr : e.platform.stackTraces = false := (show e.platform.stackTraces = l.stackTraces by rw [X.admits.platform]).trans hl
  have Y := vx_rebase X (R' := { frames := R.frames, locals := R.locals, cells := 1, slots := 6 }) (Nat.le_refl _) (Nat.le_refl _) hRcells hRslots
  obtain ⟨s', hA⟩ : ∃ z, z = (T.setVm s.vm).setFrames (.invoking m args :: below) := ⟨_, rfl⟩
  rw [← hA] at Y
  have hvm : s'.vm = s.vm := by rw [hA]; rfl
  have hhp : s'.heap = H := by rw [hA]; exact hT
  have hW0 : s.WarmedH s'.vm := by rw [hvm]; exact State.WarmedH.refl s
  have hat' : ∀ w ∈ vx_at0 own ic cls names, w.before args s' = true := fun w hw => vx_ot_at hW0 hvm.symm (hgood w (List.mem_cons_of_mem _ (List.mem_cons_of_mem _ hw))) (hat w hw)
  have hk' : (Cond.classLink own ik cls).before args s' = true := vx_ot_at hW0 hvm.symm (hgood _ List.mem_cons_self) hk
  have hini' : (Cond.initialized cls).before args s' = true := vx_ot_at hW0 hvm.symm (hgood _ (List.mem_cons_of_mem _ List.mem_cons_self)) hini
  have hU' : vx_Zq Bundle.tN "UNASSIGNED_STACK" Bundle.steD A s' s'.heap := by rw [hhp]; exact vx_Zq.moved hW0.alike (hU.kept hS.2.1)
  have hN' : vx_Zq Bundle.tN "SUPPRESSED_SENTINEL" Bundle.listD A s' s'.heap := by rw [hhp]; exact vx_Zq.moved hW0.alike (hN.kept hS.2.1)
  have h : ∀ w ∈ Bundle.ownAtoms0 own ic cls names, w.before args s' = true := vx_own hat' (vx_isRefq hU'.1) (vx_isRefq hN'.1) hU'.2.word hN'.2.word
  have hown' : s'.vm.findClass own = some m.cls := by rw [hvm]; exact hown
  have hins : (Cond.instantiable cls 6).before args s' = true := h _ (by simp [Bundle.ownAtoms0])
  obtain ⟨vm₁, cX, kX, hfX, hkX, -, -, X₁, st1⟩ := Y.newCold hexec (own := own) (C := cls) (index := ik) (n := 6) hown' hk' hins hini'
    (g := F0 m pc ls rest) rfl (by rw [hb]; exact d0) (Nat.le_refl _) (Nat.le_refl _)
  generalize hT1 : (T.setVm vm₁).pushCell { cls := cX, slots := kX.instanceTypes.map defaultValue, vm := .none } = T1 at X₁ st1
  have hcat : (Value.ref T.heap.size).category = 1 := rfl
  have hcellA : T1.heap[T.heap.size]? = some (freshCell cX kX) := by rw [← hT1]; exact State.heap_pushCell_size _ _
  have d3' : decode c.code (pc + 3) = .ok (.dup, 1) := by rw [hb]; exact d3
  obtain ⟨U, hsteps, hrun, hend, hW, hsame, ce, hce, hO⟩ := X₁.ctorThrow0 hexec htr (own := own) (cls := cls) (names := names) (ic := ic) hown' hcls hnames h (fun x hx => nomatch hx) hfX hkX hcellA (by rw [hhp, hT]; exact Nat.le_refl _)
    (g := { method := m, pc := pc + 4, locals := ls, stack := .ref T.heap.size :: .ref T.heap.size :: rest, locked := none }) rfl hsize rfl rfl (rest := rest) rfl
    (by rw [hb]; exact d4) (by rw [hb]; exact d7) hout hRframes (by simp only [List.map_cons, List.sum_cons, hcat]; omega) hlocks
  obtain ⟨f1, f2⟩ := vx_frame hsame
  rw [hhp] at f1 f2
  have hWs : s.WarmedH U.vm := State.WarmedH.trans hW0 hW
  have hcl : s.vm.findClass cls = some ce.cls := by
    have h9 := hO.cls
    rw [hvm] at h9
    exact h9
  have hall : s.sameButNew ({ U with vm := s.vm } : State) locs mc ms := by
    subst hA
    obtain ⟨e1, e2⟩ := hsame
    rw [State.setFrames_setFrames] at e1
    have h2 : (T.setVm s.vm).sameButNew ({ U with vm := s.vm } : State) [] (0 + 1) (0 + 6) := ⟨e1, e2⟩
    have h3 := X.same.trans h2
    rw [List.append_nil] at h3
    exact h3.mono hc hs
  refine ⟨U, ?_, .threw T.heap.size, hrun, hend, Or.inr ⟨T.heap.size, rfl, cls, ce, locs, hx U hWs.alike f1 (fun q hq => f2 q hq (fun z hz => nomatch hz)), hce, hO.vm, hcl, hWs, hall, hf⟩⟩
  refine st1 _ ?_
  show Steps p.tables e below (T1.setTop { method := m, pc := pc + 3, locals := ls, stack := .ref T.heap.size :: rest, locked := none }) _
  jvm_step X₁.here [X₁.here.top, hexec, d3', Value.category]
  exact hsteps
/-- 'throw new E("text")': new; dup; ldc; invokespecial; athrow -/
theorem vx_throwS {cc : ByteArray} {pc : Nat} (hexec : p.tables.exec = Jvm.exec) (hb : c.code = cc) (hl : l.stackTraces = false) {own cls text : String} {names : List String} {ik is ic mc ms sa : Nat} {A : Nat → Prop}
    (hown : s.vm.findClass own = some m.cls) (hcls : Bundle.fit cls = true) (hnames : ∀ n ∈ names, Bundle.fit n = true)
    (hk : (Cond.classLink own ik cls).before args s = true) (hini : (Cond.initialized cls).before args s = true) (hstr : vk_R own is text sa s) (hat : ∀ w ∈ vx_atS own ic cls names, w.before args s = true)
    (hgood : ∀ w ∈ Cond.classLink own ik cls :: Cond.initialized cls :: vx_atS own ic cls names, vx_ot w = true)
    (hU : vx_Zq Bundle.tN "UNASSIGNED_STACK" Bundle.steD A s s.heap) (hN : vx_Zq Bundle.tN "SUPPRESSED_SENTINEL" Bundle.listD A s s.heap) (hS : va_S A s.heap H locs) (hsize : ls.size = c.maxLocals)
    (d0 : decode cc pc = .ok (.new ik, 3)) (d3 : decode cc (pc + 3) = .ok (.dup, 1)) (d4 : decode cc (pc + 4) = .ok (.ldc is, 2)) (d6 : decode cc (pc + 6) = .ok (.invokespecial ic, 3)) (d9 : decode cc (pc + 9) = .ok (.athrow, 1))
    (hout : ∀ x ∈ c.exceptionTable.toList, covers x (pc + 9) = false)
    (hRframes : names.length + 3 < R.frames) (hRlocals : (rest.map fun v => v.category).sum + (13 * (names.length + 1) + 43) ≤ R.locals) (hRcells : cells + 1 ≤ R.cells) (hRslots : slots + 6 ≤ R.slots) (hlocks : meth.locks = false)
    (hx : ∀ t : State, s.vm.Alike t.vm → H.size ≤ t.heap.size → (∀ q : Nat, q < H.size → t.heap[q]? = H[q]?) → XC cls s t)
    (hf : ∀ z ∈ locs, free z.base) (hc : cells + 1 ≤ mc) (hs : slots + 6 ≤ ms) :
    W p l e R s m args below meth c H locs cells slots (vx_MQ below Qc XC args s mc ms free) (F0 m pc ls rest) := by
  intro T hT X
  have htr : e.platform.stackTraces = false := (show e.platform.stackTraces = l.stackTraces by rw [X.admits.platform]).trans hl
  have Y := vx_rebase X (R' := { frames := R.frames, locals := R.locals, cells := 1, slots := 6 }) (Nat.le_refl _) (Nat.le_refl _) hRcells hRslots
  obtain ⟨s', hA⟩ : ∃ z, z = (T.setVm s.vm).setFrames (.invoking m args :: below) := ⟨_, rfl⟩
  rw [← hA] at Y
  have hvm : s'.vm = s.vm := by rw [hA]; rfl
  have hhp : s'.heap = H := by rw [hA]; exact hT
  have hW0 : s.WarmedH s'.vm := by rw [hvm]; exact State.WarmedH.refl s
  have hat' : ∀ w ∈ vx_atS own ic cls names, w.before args s' = true := fun w hw => vx_ot_at hW0 hvm.symm (hgood w (List.mem_cons_of_mem _ (List.mem_cons_of_mem _ hw))) (hat w hw)
  have hk' : (Cond.classLink own ik cls).before args s' = true := vx_ot_at hW0 hvm.symm (hgood _ List.mem_cons_self) hk
  have hini' : (Cond.initialized cls).before args s' = true := vx_ot_at hW0 hvm.symm (hgood _ (List.mem_cons_of_mem _ List.mem_cons_self)) hini
  have hU' : vx_Zq Bundle.tN "UNASSIGNED_STACK" Bundle.steD A s' s'.heap := by rw [hhp]; exact vx_Zq.moved hW0.alike (hU.kept hS.2.1)
  have hN' : vx_Zq Bundle.tN "SUPPRESSED_SENTINEL" Bundle.listD A s' s'.heap := by rw [hhp]; exact vx_Zq.moved hW0.alike (hN.kept hS.2.1)
  have h : ∀ w ∈ Bundle.ownAtoms own ic cls names, w.before args s' = true := vx_own hat' (vx_isRefq hU'.1) (vx_isRefq hN'.1) hU'.2.word hN'.2.word
  have hown' : s'.vm.findClass own = some m.cls := by rw [hvm]; exact hown
  have hins : (Cond.instantiable cls 6).before args s' = true := h _ (by simp [Bundle.ownAtoms])
  obtain ⟨vm₁, cX, kX, hfX, hkX, -, -, X₁, st1⟩ := Y.newCold hexec (own := own) (C := cls) (index := ik) (n := 6) hown' hk' hins hini'
    (g := F0 m pc ls rest) rfl (by rw [hb]; exact d0) (Nat.le_refl _) (Nat.le_refl _)
  generalize hT1 : (T.setVm vm₁).pushCell { cls := cX, slots := kX.instanceTypes.map defaultValue, vm := .none } = T1 at X₁ st1
  have hcat : (Value.ref T.heap.size).category = 1 := rfl
  have hcellA : T1.heap[T.heap.size]? = some (freshCell cX kX) := by rw [← hT1]; exact State.heap_pushCell_size _ _
  have d3' : decode c.code (pc + 3) = .ok (.dup, 1) := by rw [hb]; exact d3
  have d4' : decode c.code (pc + 4) = .ok (.ldc is, 2) := by rw [hb]; exact d4
  have hstr' : vk_R own is text sa s' := vk_R.warm hW0 hstr
  obtain ⟨U, hsteps, hrun, hend, hW, hsame, ce, hce, hO⟩ := X₁.ctorThrowS hexec htr (own := own) (cls := cls) (names := names) (ic := ic) hown' hcls hnames h (fun x hx => nomatch hx) hfX hkX hcellA (by rw [hhp, hT]; exact Nat.le_refl _) (msg := .ref sa) rfl
    (g := { method := m, pc := pc + 6, locals := ls, stack := .ref sa :: .ref T.heap.size :: .ref T.heap.size :: rest, locked := none }) rfl hsize rfl rfl (rest := rest) rfl
    (by rw [hb]; exact d6) (by rw [hb]; exact d9) hout hRframes (by simp only [List.map_cons, List.sum_cons, hcat]; omega) hlocks
  obtain ⟨f1, f2⟩ := vx_frame hsame
  rw [hhp] at f1 f2
  have hWs : s.WarmedH U.vm := State.WarmedH.trans hW0 hW
  have hcl : s.vm.findClass cls = some ce.cls := by
    have h9 := hO.cls
    rw [hvm] at h9
    exact h9
  have hall : s.sameButNew ({ U with vm := s.vm } : State) locs mc ms := by
    subst hA
    obtain ⟨e1, e2⟩ := hsame
    rw [State.setFrames_setFrames] at e1
    have h2 : (T.setVm s.vm).sameButNew ({ U with vm := s.vm } : State) [] (0 + 1) (0 + 6) := ⟨e1, e2⟩
    have h3 := X.same.trans h2
    rw [List.append_nil] at h3
    exact h3.mono hc hs
  refine ⟨U, ?_, .threw T.heap.size, hrun, hend, Or.inr ⟨T.heap.size, rfl, cls, ce, locs, hx U hWs.alike f1 (fun q hq => f2 q hq (fun z hz => nomatch hz)), hce, hO.vm, hcl, hWs, hall, hf⟩⟩
  refine st1 _ ?_
  show Steps p.tables e below (T1.setTop { method := m, pc := pc + 3, locals := ls, stack := .ref T.heap.size :: rest, locked := none }) _
  jvm_step X₁.here [X₁.here.top, hexec, d3', Value.category]
  exact X₁.ldcString hexec (own := own) (text := text) (index := is) (a := sa) hown' hstr'.1 hstr'.2
    (g := { method := m, pc := pc + 4, locals := ls, stack := .ref T.heap.size :: .ref T.heap.size :: rest, locked := none }) rfl d4' _ hsteps
/-- 'throw new E("text")', the text by a wide index -/
theorem vx_throwSW {cc : ByteArray} {pc : Nat} (hexec : p.tables.exec = Jvm.exec) (hb : c.code = cc) (hl : l.stackTraces = false) {own cls text : String} {names : List String} {ik is ic mc ms sa : Nat} {A : Nat → Prop}
    (hown : s.vm.findClass own = some m.cls) (hcls : Bundle.fit cls = true) (hnames : ∀ n ∈ names, Bundle.fit n = true)
    (hk : (Cond.classLink own ik cls).before args s = true) (hini : (Cond.initialized cls).before args s = true) (hstr : vk_R own is text sa s) (hat : ∀ w ∈ vx_atS own ic cls names, w.before args s = true)
    (hgood : ∀ w ∈ Cond.classLink own ik cls :: Cond.initialized cls :: vx_atS own ic cls names, vx_ot w = true)
    (hU : vx_Zq Bundle.tN "UNASSIGNED_STACK" Bundle.steD A s s.heap) (hN : vx_Zq Bundle.tN "SUPPRESSED_SENTINEL" Bundle.listD A s s.heap) (hS : va_S A s.heap H locs) (hsize : ls.size = c.maxLocals)
    (d0 : decode cc pc = .ok (.new ik, 3)) (d3 : decode cc (pc + 3) = .ok (.dup, 1)) (d4 : decode cc (pc + 4) = .ok (.ldc_w is, 3)) (d7 : decode cc (pc + 7) = .ok (.invokespecial ic, 3)) (d10 : decode cc (pc + 10) = .ok (.athrow, 1))
    (hout : ∀ x ∈ c.exceptionTable.toList, covers x (pc + 10) = false)
    (hRframes : names.length + 3 < R.frames) (hRlocals : (rest.map fun v => v.category).sum + (13 * (names.length + 1) + 43) ≤ R.locals) (hRcells : cells + 1 ≤ R.cells) (hRslots : slots + 6 ≤ R.slots) (hlocks : meth.locks = false)
    (hx : ∀ t : State, s.vm.Alike t.vm → H.size ≤ t.heap.size → (∀ q : Nat, q < H.size → t.heap[q]? = H[q]?) → XC cls s t)
    (hf : ∀ z ∈ locs, free z.base) (hc : cells + 1 ≤ mc) (hs : slots + 6 ≤ ms) :
    W p l e R s m args below meth c H locs cells slots (vx_MQ below Qc XC args s mc ms free) (F0 m pc ls rest) := by
  intro T hT X
  have htr : e.platform.stackTraces = false := (show e.platform.stackTraces = l.stackTraces by rw [X.admits.platform]).trans hl
  have Y := vx_rebase X (R' := { frames := R.frames, locals := R.locals, cells := 1, slots := 6 }) (Nat.le_refl _) (Nat.le_refl _) hRcells hRslots
  obtain ⟨s', hA⟩ : ∃ z, z = (T.setVm s.vm).setFrames (.invoking m args :: below) := ⟨_, rfl⟩
  rw [← hA] at Y
  have hvm : s'.vm = s.vm := by rw [hA]; rfl
  have hhp : s'.heap = H := by rw [hA]; exact hT
  have hW0 : s.WarmedH s'.vm := by rw [hvm]; exact State.WarmedH.refl s
  have hat' : ∀ w ∈ vx_atS own ic cls names, w.before args s' = true := fun w hw => vx_ot_at hW0 hvm.symm (hgood w (List.mem_cons_of_mem _ (List.mem_cons_of_mem _ hw))) (hat w hw)
  have hk' : (Cond.classLink own ik cls).before args s' = true := vx_ot_at hW0 hvm.symm (hgood _ List.mem_cons_self) hk
  have hini' : (Cond.initialized cls).before args s' = true := vx_ot_at hW0 hvm.symm (hgood _ (List.mem_cons_of_mem _ List.mem_cons_self)) hini
  have hU' : vx_Zq Bundle.tN "UNASSIGNED_STACK" Bundle.steD A s' s'.heap := by rw [hhp]; exact vx_Zq.moved hW0.alike (hU.kept hS.2.1)
  have hN' : vx_Zq Bundle.tN "SUPPRESSED_SENTINEL" Bundle.listD A s' s'.heap := by rw [hhp]; exact vx_Zq.moved hW0.alike (hN.kept hS.2.1)
  have h : ∀ w ∈ Bundle.ownAtoms own ic cls names, w.before args s' = true := vx_own hat' (vx_isRefq hU'.1) (vx_isRefq hN'.1) hU'.2.word hN'.2.word
  have hown' : s'.vm.findClass own = some m.cls := by rw [hvm]; exact hown
  have hins : (Cond.instantiable cls 6).before args s' = true := h _ (by simp [Bundle.ownAtoms])
  obtain ⟨vm₁, cX, kX, hfX, hkX, -, -, X₁, st1⟩ := Y.newCold hexec (own := own) (C := cls) (index := ik) (n := 6) hown' hk' hins hini'
    (g := F0 m pc ls rest) rfl (by rw [hb]; exact d0) (Nat.le_refl _) (Nat.le_refl _)
  generalize hT1 : (T.setVm vm₁).pushCell { cls := cX, slots := kX.instanceTypes.map defaultValue, vm := .none } = T1 at X₁ st1
  have hcat : (Value.ref T.heap.size).category = 1 := rfl
  have hcellA : T1.heap[T.heap.size]? = some (freshCell cX kX) := by rw [← hT1]; exact State.heap_pushCell_size _ _
  have d3' : decode c.code (pc + 3) = .ok (.dup, 1) := by rw [hb]; exact d3
  have d4' : decode c.code (pc + 4) = .ok (.ldc_w is, 3) := by rw [hb]; exact d4
  have hstr' : vk_R own is text sa s' := vk_R.warm hW0 hstr
  obtain ⟨U, hsteps, hrun, hend, hW, hsame, ce, hce, hO⟩ := X₁.ctorThrowS hexec htr (own := own) (cls := cls) (names := names) (ic := ic) hown' hcls hnames h (fun x hx => nomatch hx) hfX hkX hcellA (by rw [hhp, hT]; exact Nat.le_refl _) (msg := .ref sa) rfl
    (g := { method := m, pc := pc + 7, locals := ls, stack := .ref sa :: .ref T.heap.size :: .ref T.heap.size :: rest, locked := none }) rfl hsize rfl rfl (rest := rest) rfl
    (by rw [hb]; exact d7) (by rw [hb]; exact d10) hout hRframes (by simp only [List.map_cons, List.sum_cons, hcat]; omega) hlocks
  obtain ⟨f1, f2⟩ := vx_frame hsame
  rw [hhp] at f1 f2
  have hWs : s.WarmedH U.vm := State.WarmedH.trans hW0 hW
  have hcl : s.vm.findClass cls = some ce.cls := by
    have h9 := hO.cls
    rw [hvm] at h9
    exact h9
  have hall : s.sameButNew ({ U with vm := s.vm } : State) locs mc ms := by
    subst hA
    obtain ⟨e1, e2⟩ := hsame
    rw [State.setFrames_setFrames] at e1
    have h2 : (T.setVm s.vm).sameButNew ({ U with vm := s.vm } : State) [] (0 + 1) (0 + 6) := ⟨e1, e2⟩
    have h3 := X.same.trans h2
    rw [List.append_nil] at h3
    exact h3.mono hc hs
  refine ⟨U, ?_, .threw T.heap.size, hrun, hend, Or.inr ⟨T.heap.size, rfl, cls, ce, locs, hx U hWs.alike f1 (fun q hq => f2 q hq (fun z hz => nomatch hz)), hce, hO.vm, hcl, hWs, hall, hf⟩⟩
  refine st1 _ ?_
  show Steps p.tables e below (T1.setTop { method := m, pc := pc + 3, locals := ls, stack := .ref T.heap.size :: rest, locked := none }) _
  jvm_step X₁.here [X₁.here.top, hexec, d3', Value.category]
  exact X₁.ldcStringW hexec (own := own) (text := text) (index := is) (a := sa) hown' hstr'.1 hstr'.2
    (g := { method := m, pc := pc + 4, locals := ls, stack := .ref T.heap.size :: .ref T.heap.size :: rest, locked := none }) rfl d4' _ hsteps
end Ends
section Bodies
variable {l : Launch}
theorem vx_ofW {y : MethodName} {ws ws' : List Cond} {rm : Room} {Pc : Array Value → State → Prop} {Qc : Array Value → State → Outcome → State → Prop} {XC : String → State → State → Prop} {mc ms : Nat} {free : Addr → Prop} {cc : ByteArray} {maxL : Nat} {ret : Option FieldType}
    (hy : plainName y.cls = true) (hw : ws = Cond.code y cc maxL ret :: ws')
    (body : ∀ p e s m args below meth c s₁, BodyLoose p l y (headSpec ws rm) cc maxL ret e s m args below meth c s₁ → c.maxLocals = maxL → (∀ x ∈ c.exceptionTable.toList, False) → Pc args s →
      W p l e (headSpec ws rm).room s m args below meth c s.heap [] 0 0 (vx_MQ below Qc XC args s mc ms free) (entryFrame m args maxL)) : vx_Met l y ws rm Pc Qc XC mc ms free := by
  refine MetFree.of_bodyS (code := cc) (maxLocals := maxL) (ret := ret) hy ?_ ?_
  · intro args s m h hn
    obtain ⟨meth, c, h1, h2, h3, h4, h5, h6, -, -⟩ := Cond.code_spec hn (atoms_spec (ws := ws) h _ (by rw [hw]; exact List.mem_cons_self))
    exact ⟨meth, c, h1, h2, h3, h4, h5, h6⟩
  · intro p e s m args below meth c s₁ B hml hP _
    have hh0 : s₁.heap = s.heap := by rw [B.state]; rfl
    have ht : ∀ x ∈ c.exceptionTable.toList, False := by
      obtain ⟨meth9, c9, h1, h2, -, -, -, -, h7, -⟩ := Cond.code_spec B.named (atoms_spec (ws := ws) B.pre _ (by rw [hw]; exact List.mem_cons_self))
      cases Option.some.inj (h1.symm.trans B.method)
      cases Option.some.inj (h2.symm.trans (Stand.of_body B).code)
      intro x hx
      rw [Array.isEmpty_iff.mp h7] at hx
      cases hx
    obtain ⟨t, a1, o, b1, b2, b3⟩ := body p e s m args below meth c s₁ B hml ht hP s₁ hh0 (Stand.of_body B)
    exact ⟨t, o, a1, b1, b2, b3⟩
/-- the table of a body with handlers -/
theorem vx_table {p : Program} {x y : MethodName} {S : Spec} {cc bytes : ByteArray} {maxL maxL' : Nat} {ret ret' : Option FieldType} {e : Env} {s s₁ : State} {m : MethodId} {args : Array Value} {below : List Frame} {meth : Method} {c : Code} {hh : List (Nat × Nat × Nat × Nat)}
    (B : BodyLoose p l y S cc maxL ret e s m args below meth c s₁) (h : (Cond.codeWith y bytes maxL' ret' hh).before args s = true) : c.exceptionTable.toList = tableOf hh := by
  obtain ⟨m9, meth9, c9, hn9, h1, h2, -, -, h6, -⟩ := Cond.codeWith_spec h
  cases Option.some.inj (hn9.symm.trans B.named)
  cases Option.some.inj (h1.symm.trans B.method)
  cases Option.some.inj (h2.symm.trans (Stand.of_body B).code)
  rw [← h6, table_eq]
end Bodies
end VXA
/-! ===== END ===== -/
/-! ===== BEGIN a static call of a method with an exception table ===== -/
section VXS
variable {p : Program} {l : Launch} {e : Env} {R : Room} {s : State} {m : MethodId} {args : Array Value} {below : List Frame} {meth : Method} {c : Code} {T : State} {H : Heap} {locs : List Loc} {cells slots : Nat}
abbrev vx_CSW (R : Room) (s : State) (args : Array Value) (own : String) (index : Nat) (y : MethodName) (bytes : ByteArray) (maxL : Nat) (ret : Option FieldType) (hh : List (Nat × Nat × Nat × Nat)) (ws : List Cond) (rm : Room) (mc ms n : Nat) : Prop :=
  (rm.cells = mc ∧ rm.slots = ms ∧ rm.frames + 1 ≤ R.frames ∧ 8 + (maxL + 11) + rm.locals ≤ R.locals ∧ (∀ w ∈ ws, ∀ (a' : Array Value) (U : State), s.WarmedH U.vm → w.before a' U = true) ∧ Cond.codeWith y bytes maxL ret hh ∈ ws) ∧
  (Cond.codeWith y bytes maxL ret hh).before args s = true ∧ (Cond.initialized y.cls).before args s = true ∧ (y.cls ≠ "java/lang/invoke/MethodHandle" ∧ y.cls ≠ "java/lang/invoke/VarHandle") ∧
  (∀ sig, parseMethodDescriptor y.desc = some sig → n = sig.parameters.length) ∧ (Cond.methodLink own index y).before args s = true ∧ (Cond.static y).before args s = true
theorem vx_cwSW {own : String} {index maxL mc ms : Nat} {y : MethodName} {bytes : ByteArray} {ret : Option FieldType} {hh : List (Nat × Nat × Nat × Nat)} {Ts ws ws' : List Cond} {rm : Room} (n : Nat) (ht : ∀ w ∈ Ts, w.before args s = true) (hT : GoodIn Ts (va_wsS own index y ws)) (hw : ws = Cond.codeWith y bytes maxL ret hh :: ws') (hrc : rm.cells = mc) (hrs : rm.slots = ms)
    (hd : y.cls ≠ "java/lang/invoke/MethodHandle" ∧ y.cls ≠ "java/lang/invoke/VarHandle" ∧ (parseMethodDescriptor y.desc).map (fun d => d.parameters.length) = some n) (hR : rm.frames + 1 ≤ R.frames ∧ 8 + (maxL + 11) + rm.locals ≤ R.locals) :
    vx_CSW R s args own index y bytes maxL ret hh ws rm mc ms n := by
  have ok : ∀ w ∈ va_wsS own index y ws, w.before args s = true := fun w h => ht w (hT w h).1
  have hG : GoodIn Ts ws := fun w h => hT w (by unfold va_wsS; exact List.mem_append_right _ h)
  have hc : Cond.codeWith y bytes maxL ret hh ∈ ws := by rw [hw]; exact List.mem_cons_self
  refine ⟨⟨hrc, hrs, hR.1, hR.2, pay_in ht hG, hc⟩, ht _ (hG _ hc).1, ok _ (by simp [va_wsS]), ⟨hd.1, hd.2.1⟩, fun sig h => ?_, ok _ (by simp [va_wsS]), ok _ (by simp [va_wsS])⟩
  have h2 := hd.2.2
  rw [h] at h2
  exact (Option.some.inj h2).symm
theorem vx_callSW (X : Stand p l e R s m args below meth c T locs cells slots) (hexec : p.tables.exec = Jvm.exec) {own : String} {index : Nat} {y : MethodName} {bytes : ByteArray} {maxL : Nat} {ret : Option FieldType} {hh : List (Nat × Nat × Nat × Nat)}
    (hown : s.vm.findClass own = some m.cls) (hlink : (Cond.methodLink own index y).before args s = true) (hstat : (Cond.static y).before args s = true) (hinit : (Cond.initialized y.cls).before args s = true)
    (hcode : (Cond.codeWith y bytes maxL ret hh).before args s = true) (hy : y.cls ≠ "java/lang/invoke/MethodHandle" ∧ y.cls ≠ "java/lang/invoke/VarHandle")
    {W9 : Nat} {Pre : Pt → Array Value → Prop} {Post : Pt → Array Value → Option Value → Pt → Prop} (hK : Back l R p e below s args y 3 W9 Pre Post)
    {g : JFrame} (hg : g.method = m) (hsize : g.locals.size = c.maxLocals) {argsL rest : List Value} (hlen : ∀ sig, parseMethodDescriptor y.desc = some sig → argsL.length = sig.parameters.length)
    (hstack : g.stack = argsL.reverse ++ rest) (hW : 2 * g.monitorRoom + (rest.map fun v => v.category).sum ≤ W9) (hdg : decode c.code g.pc = .ok (.invokestatic index, 3))
    (hpre : ∀ vm₁, s.WarmedH vm₁ → Pre ⟨T.setVm vm₁, locs, cells, slots⟩ argsL.toArray) :
    ∃ (v : Option Value) (vm₁ : Vm) (B : Pt), s.WarmedH vm₁ ∧ Stand p l e R s m args below meth c B.U B.locs B.cells B.slots ∧ Post ⟨T.setVm vm₁, locs, cells, slots⟩ argsL.toArray v B ∧
      ∀ target, Steps p.tables e below (B.U.setTop { g with pc := g.pc + 3, stack := v.toList ++ rest }) target → Steps p.tables e below (T.setTop g) target := by
  obtain ⟨mk, methM, cM, hnamed, hmethM, -, -, -, -, -, -, hsigM⟩ := Cond.codeWith_spec hcode
  have hstatic : methM.isStatic = true := Cond.static_spec hnamed hmethM hstat
  obtain ⟨kP, hkP, -⟩ := className_of_methodNamed hnamed
  have hinitP : kP.init = .initialized := Cond.initialized_spec (findClass_of_methodNamed hnamed) hkP hinit
  obtain ⟨vm₁, X₁, hstep₁⟩ := X.invokestatic hexec hown hlink hnamed hmethM hstatic hkP hinitP hy (g := g) hg (argsL := argsL) (rest := rest) (hlen _ hsigM) hstack hdg
  obtain ⟨v, B, X', hpost, hsteps⟩ := hK m meth c ⟨T.setVm vm₁, locs, cells, slots⟩ { g with stack := rest } (.invokestatic index) mk argsL.toArray X₁ hg hsize hdg hW (X₁.named hnamed) (hpre vm₁ X₁.warmed)
  exact ⟨v, vm₁, B, X₁.warmed, X', hpost, fun target h => hstep₁ _ fun acts => by rw [doInvoke_state]; exact hsteps.trans h⟩
theorem vx_runSW {y : MethodName} {bytes cc : ByteArray} {maxL nL mc ms n index : Nat} {ret : Option FieldType} {hh : List (Nat × Nat × Nat × Nat)} {ws : List Cond} {rm : Room} {Pc : Array Value → State → Prop} {Qc : Array Value → State → Outcome → State → Prop} {free : Addr → Prop} {Ts : List Cond} {own : String} {As rest : List Value} {g : JFrame}
    (S : CallFix p m c cc nL s args Ts own) (hM : Met l y ws rm Pc Qc mc ms free) (cw : vx_CSW R s args own index y bytes maxL ret hh ws rm mc ms n) (hp : PreS s H Pc As)
    (hg : g.method = m) (hn : As.length = n) (hsize : g.locals.size = nL) (hstack : g.stack = As.reverse ++ rest) (hW : 2 * g.monitorRoom + (rest.map fun v => v.category).sum ≤ 8) (hdg : decode cc g.pc = .ok (.invokestatic index, 3)) (hf : cells + mc ≤ R.cells ∧ slots + ms ≤ R.slots) :
    va_Run p l e R s m args below meth c H locs cells slots mc ms g rest (Qc As.toArray) (free) := by
  obtain ⟨⟨hrc, hrs, hfr, hlo, hws, hcw⟩, hcode, hini, hy, hlen, hl, hstt⟩ := cw
  have hK : Back l R p e below s args y 3 8 (PreOf R mc ms Pc) (PostOf Qc mc ms free) := va_backW (hh := hh) (bytes := bytes) (maxL := maxL) (ret := ret) hM hp.1 hrc hrs hfr hlo hws hcw (fun a' U hW => word_at hW (Or.inl (by first | rfl | simp [Cond.onTables, Cond.keeps, Cond.steady])) hini)
  obtain ⟨hx, hb, hml, ho, -⟩ := S
  intro T hT X
  obtain ⟨v, vm₁, ⟨U', l2, c2, s2⟩, hW₁, X', ⟨g', mk, t, L, e1, e2, hq, h1, hL, h2, h3⟩, st⟩ := vx_callSW X hx (hh := hh) (bytes := bytes) (maxL := maxL) (ret := ret) ho hl hstt hini hcode hy hK hg (hsize.trans hml.symm) (argsL := As) (rest := rest) (fun sig h => hn.trans (hlen sig h)) hstack hW (by rw [hb]; exact hdg)
    (fun vm₁ hW₁ => ⟨hf.1, hf.2, hp.2 (T.setVm vm₁) hT hW₁⟩)
  dsimp only [Pt.U, Pt.locs, Pt.cells, Pt.slots] at X' e1 e2 h1 h2 h3 st
  subst h1; subst h2; subst h3
  exact ⟨v, (T.setVm vm₁).calling g' mk As.toArray, t, U', L, hT, X', hL, e1, e2, hq, st⟩
/-- not caught here, past rows that name other classes: it goes on to the caller -/
theorem vx_outP {p : Program} {l : Launch} {e : Env} {R : Room} {s : State} {m : MethodId} {args : Array Value} {below : List Frame} {meth : Method} {c : Code} {H : Heap} {locs : List Loc} {cells slots : Nat} {free : Addr → Prop} {ls : Array Slot} {rest : List Value} {Qc : Array Value → State → Outcome → State → Prop} {XC : String → State → State → Prop}
    {pc : Nat} {own E : String} {ce : Cell} {q : Addr} {mc ms : Nat} (hown : s.vm.findClass own = some m.cls) (hlocks : meth.locks = false)
    (hpass : ∀ z ∈ c.exceptionTable.toList, covers z pc = false ∨ (z.catchType ≠ 0 ∧ ∃ nm : String, (Cond.classLink own z.catchType nm).before args s = true ∧ va_Nc E nm s)) (hcell : H[q]? = some ce) (hv : ce.vm = .none) (hcl : s.vm.findClass E = some ce.cls)
    (hx : ∀ t : State, t.heap = H → s.vm.Alike t.vm → XC E s t) (hf : ∀ z ∈ locs, free z.base) (hc : cells ≤ mc) (hs : slots ≤ ms) :
    vx_W p l e R s m args below meth c H locs cells slots (vx_MQ below Qc XC args s mc ms free) (F0 m pc ls rest) q := by
  intro T hT X
  have hpl : e.platform.magicAccessors = ({} : Platform).magicAccessors := by rw [X.admits.platform]
  obtain ⟨vm', hW', X', st⟩ := X.outThrough hlocks q (g := F0 m pc ls rest) rfl rfl rfl (cell := ce) (by rw [hT]; exact hcell) (by rw [hv]; rfl)
    (by obtain ⟨k9, h9, -⟩ := Vm.findClass_spec hcl; exact ⟨k9, h9⟩) (fun z hz => by
      rcases hpass z hz with h | ⟨hz0, nm, hl1, hn1⟩
      · exact Or.inl h
      · obtain ⟨c6, hc6, hcl6⟩ := Cond.classLink_spec hown hl1 e.platform hpl
        obtain ⟨a8, b8, h1, h2, h3⟩ := hn1
        cases Option.some.inj (h1.symm.trans hcl)
        cases Option.some.inj (h2.symm.trans hc6)
        exact Or.inr ⟨hz0, _, hcl6, h3⟩)
  obtain ⟨g₀, hfr⟩ := X'.frames_eq
  have hcell9 : ((T.setVm vm').setFrames (.throwing q :: below)).heap[q]? = some ce := by
    show T.heap[q]? = some ce
    rw [hT]; exact hcell
  have hend : Ended ((T.setVm vm').setFrames (.throwing q :: below)) below (.threw q) := State.frames_setFrames _ (State.cur_lt_of_frames hfr)
  refine ⟨(T.setVm vm').setFrames (.throwing q :: below), ?_, .threw q, X'.here.running, hend, Or.inr ⟨q, rfl, E, ce, locs, hx _ hT (X'.ends _).1.alike, hcell9, hv, hcl, (X'.ends _).1, (X'.ends _).2.mono hc hs, hf⟩⟩
  rw [X.pushThrowing_eq]
  exact st
/-- a thing of a world lies in the heap -/
theorem vx_lt {D : va_G} {cl : List vw_C} {ws : va_W} {H1 : Heap} (h : va_P D cl ws H1) {k : Nat} {q : Nat × va_E} (hk : ws[k]? = some q) : q.1 < H1.size := (h k q hk).lt
end VXS
/-! ===== END ===== -/
/-! ===== BEGIN methods with a table of their own: called by a name, returning or throwing ===== -/
section VXH
/-! vx_backW, vx_callVX, vx_callSX, vx_callVW, vx_runVW, vx_runVX, vx_runSX, vx_ofWH follow the same proofs as their sisters above (Free/Laws.lean, Shelf42/LK1.lean); vx_outP calls Shelf42/NT130.lean (outThrough). -/
section
variable {l : Launch} {R : Room} {p : Program} {e : Env} {below : List Frame} {s : State} {sargs : Array Value} {y : MethodName} {len W9 : Nat}
theorem vx_backW {ws : List Cond} {rm : Room} {Pc : Array Value → State → Prop} {Qc : Array Value → State → Outcome → State → Prop} {XC : String → State → State → Prop} {mc ms : Nat} {free : Addr → Prop} {bytes : ByteArray} {maxL : Nat} {ret : Option FieldType} {hh : List (Nat × Nat × Nat × Nat)}
    (hM : vx_Met l y ws rm Pc Qc XC mc ms free) (hblind : FrameBlind Pc) (hrc : rm.cells = mc) (hrs : rm.slots = ms)
    (hframes : rm.frames + 1 ≤ R.frames) (hlocals : W9 + (maxL + 11) + rm.locals ≤ R.locals)
    (hws : ∀ w ∈ ws, ∀ a' U, s.WarmedH U.vm → w.before a' U = true) (hcode : Cond.codeWith y bytes maxL ret hh ∈ ws) (hinit : ∀ a' U, s.WarmedH U.vm → (Cond.initialized y.cls).before a' U = true) :
    vx_Back l R p e below s sargs y len W9 (PreOf R mc ms Pc) (PostOf Qc mc ms free) (vx_Post XC mc ms free) := by
  intro m meth c A g ig mk a X hg hsize hdg hW hn hp
  have h1 : (headSpec ws rm).pre.before a A.U = true := atoms_intro fun w hw => hws w hw _ _ X.warmed
  have h2 : (Cond.codeWith y bytes maxL ret hh).before a A.U = true := hws _ hcode _ _ X.warmed
  have h3 : (Cond.initialized y.cls).before a A.U = true := hinit _ _ X.warmed
  have h4 : A.cells + (headSpec ws rm).room.cells ≤ R.cells := by rw [show (headSpec ws rm).room.cells = mc from hrc]; exact hp.1
  have h5 : A.slots + (headSpec ws rm).room.slots ≤ R.slots := by rw [show (headSpec ws rm).room.slots = ms from hrs]; exact hp.2.1
  have hPc : Pc a (A.U.calling g mk a) := hblind _ _ _ _ hp.2.2
  obtain ⟨U, Ls, c0, s0⟩ := A
  dsimp only [Pt.U, Pt.locs, Pt.cells, Pt.slots] at h1 h2 h3 h4 h5 X hn hPc ⊢
  obtain ⟨m9, methY, cY, hn9, hmY, hcY, -, hlY, -⟩ := Cond.codeWith_spec h2
  cases Option.some.inj (hn9.symm.trans hn)
  obtain ⟨kY, hkY, -⟩ := className_of_methodNamed hn
  have hinitY : kY.init = .initialized := Cond.initialized_spec (findClass_of_methodNamed hn) hkY h3
  have h : At U g.method c below := by rw [hg]; exact X.here
  have hlocals9 : W9 + (maxL + 11) + (headSpec ws rm).room.locals ≤ R.locals := hlocals
  have happ : (headSpec ws rm).appliesLoose y e.platform (U.calling g mk a) = true :=
    Spec.appliesLoose_calling (g := g) h hdg hn hkY hinitY
      (X.room_calling (g := g) (R' := (headSpec ws rm).room) hsize hmY hcY hframes (by rw [hlY]; omega) h4 h5) h1
  obtain ⟨mid, hmid⟩ := h.above
  have hfr : (U.setTop g).frames = (.java g :: mid) ++ below := by rw [State.frames_setTop' g h.top, hmid]; rfl
  obtain ⟨o, s₂, hsteps, -, hend, hq⟩ := Steps.callFree hM p X.admits X.cas X.clock (acts := []) hfr happ hPc trivial
  have hq' : vx_Q Qc XC mc ms free a (U.calling g mk a) o s₂ := hq
  rw [State.frames_setTop' g h.top] at hend
  obtain ⟨g₀, hg0⟩ := Option.isSome_iff_exists.mp h.top
  obtain ⟨r, hr⟩ := State.topJava?_eq_some.mp hg0
  have hr' : (({ U with heap := s₂.heap, slotsUsed := s₂.slotsUsed } : State).setVm s₂.vm).frames = .java g₀ :: r := hr
  rcases hq' with ⟨hqc, L, hfe, hL⟩ | ⟨q, rfl, E, ce, L, hx, hce, hcv, hcl, hW₂, hsm, hL⟩
  · obtain ⟨⟨v, rfl⟩, hW₂, e2, q2, q3, q4, q5, q6⟩ := id hfe
    have e3 : s₂ = ({ (U.calling g mk a).setFrames s₂.frames with heap := s₂.heap, slotsUsed := s₂.slotsUsed } : State).setVm s₂.vm := by
      have : s₂ = ({ s₂ with vm := (U.calling g mk a).vm } : State).setVm s₂.vm := rfl
      rw [e2] at this
      exact this
    obtain ⟨c₂, i₂, len₂, hc₂, hd₂, hf₂⟩ := hend
    have hW' : U.WarmedH s₂.vm := hW₂
    have hcc : c₂ = c := by
      have h1 : s₂.code? g.method = U.code? g.method := by
        rw [State.code?_eq, State.code?_eq, hW'.alike.method?]
      exact Option.some.inj (hc₂.symm.trans (h1.trans h.code))
    subst hcc
    have hlen : len₂ = len := by rw [hdg] at hd₂; cases hd₂; rfl
    subst hlen
    have hs₂ : s₂ = (({ U with heap := s₂.heap, slotsUsed := s₂.slotsUsed } : State).setVm s₂.vm).setTop { g with pc := g.pc + len₂, stack := v.toList ++ g.stack } := by
      refine e3.trans ?_
      rw [hf₂, State.calling_eq h.top, State.setFrames_setFrames, State.setTop_of_frames _ hr', hr]
      rfl
    have hsame : U.sameButNew ({ U with heap := s₂.heap, slotsUsed := s₂.slotsUsed } : State) L mc ms := by
      refine ⟨?_, q2, q3, q4, q5, q6⟩
      obtain ⟨t, ht, -⟩ := State.frames_cons hr
      show ({ U with heap := s₂.heap, slotsUsed := s₂.slotsUsed } : State) = { U.setFrames U.frames with heap := s₂.heap, slotsUsed := s₂.slotsUsed }
      rw [State.setFrames_self ht]
    subst hg
    refine Or.inl ⟨v, ⟨(({ U with heap := s₂.heap, slotsUsed := s₂.slotsUsed } : State).setVm s₂.vm), Ls ++ L, c0 + mc, s0 + ms⟩,
      ⟨X.admits, X.cas, X.clock, X.frames, X.room, X.hears, X.method, X.code, (X.here.setHeapUsed s₂.heap s₂.slotsUsed).setVm hW'.alike, X.tail, State.WarmedH.trans X.warmed hW', X.limits, X.bytes, X.same.trans (hsame.setVm s.vm)⟩,
      ⟨g, mk, s₂, L, rfl, rfl, hqc, rfl, hL, rfl, rfl⟩, ?_⟩
    show Steps p.tables e below _ ((({ U with heap := s₂.heap, slotsUsed := s₂.slotsUsed } : State).setVm s₂.vm).setTop { g with pc := g.pc + len₂, stack := v.toList ++ g.stack })
    rw [← hs₂]
    exact hsteps
  · obtain ⟨e2, q2, q3, q4, q5, q6⟩ := id hsm
    have e3 : s₂ = ({ (U.calling g mk a).setFrames s₂.frames with heap := s₂.heap, slotsUsed := s₂.slotsUsed } : State).setVm s₂.vm := by
      have : s₂ = ({ s₂ with vm := (U.calling g mk a).vm } : State).setVm s₂.vm := rfl
      rw [e2] at this
      exact this
    have hf₂ : s₂.frames = .throwing q :: .java g :: U.frames.tail := hend
    have hW' : U.WarmedH s₂.vm := hW₂
    have hs₂ : s₂ = ((({ U with heap := s₂.heap, slotsUsed := s₂.slotsUsed } : State).setVm s₂.vm).setTop g).pushFrame (.throwing q) := by
      refine e3.trans ?_
      rw [hf₂, State.calling_eq h.top, State.setFrames_setFrames, State.pushFrame, State.frames_setTop _ hr', State.setTop_of_frames _ hr', State.setFrames_setFrames, hr]
      rfl
    have hsame : U.sameButNew ({ U with heap := s₂.heap, slotsUsed := s₂.slotsUsed } : State) L mc ms := by
      refine ⟨?_, q2, q3, q4, q5, q6⟩
      obtain ⟨t, ht, -⟩ := State.frames_cons hr
      show ({ U with heap := s₂.heap, slotsUsed := s₂.slotsUsed } : State) = { U.setFrames U.frames with heap := s₂.heap, slotsUsed := s₂.slotsUsed }
      rw [State.setFrames_self ht]
    subst hg
    refine Or.inr ⟨q, ⟨(({ U with heap := s₂.heap, slotsUsed := s₂.slotsUsed } : State).setVm s₂.vm), Ls ++ L, c0 + mc, s0 + ms⟩,
      ⟨X.admits, X.cas, X.clock, X.frames, X.room, X.hears, X.method, X.code, (X.here.setHeapUsed s₂.heap s₂.slotsUsed).setVm hW'.alike, X.tail, State.WarmedH.trans X.warmed hW', X.limits, X.bytes, X.same.trans (hsame.setVm s.vm)⟩,
      ⟨g, mk, s₂, L, E, ce, rfl, rfl, hx, hce, hcv, hcl, rfl, hL, rfl, rfl⟩, ?_⟩
    show Steps p.tables e below _ (((({ U with heap := s₂.heap, slotsUsed := s₂.slotsUsed } : State).setVm s₂.vm).setTop g).pushFrame (.throwing q))
    rw [← hs₂]
    exact hsteps
end
variable {p : Program} {l : Launch} {e : Env} {R : Room} {s : State} {m : MethodId} {args : Array Value} {below : List Frame} {meth : Method} {c : Code} {T : State} {H : Heap} {locs : List Loc} {cells slots : Nat}
theorem vx_callVX (X : Stand p l e R s m args below meth c T locs cells slots) (hexec : p.tables.exec = Jvm.exec) {own C : String} {index : Nat} {y : MethodName} {bytes : ByteArray} {maxL : Nat} {ret : Option FieldType} {hh : List (Nat × Nat × Nat × Nat)}
    (hown : s.vm.findClass own = some m.cls) (hlink : (Cond.methodLink own index y).before args s = true) (hinst : (Cond.instanceMethod y).before args s = true) (hsel : (Cond.selects C y y).before args s = true)
    (hcode : (Cond.codeWith y bytes maxL ret hh).before args s = true) (hy : y.cls ≠ "java/lang/invoke/MethodHandle" ∧ y.cls ≠ "java/lang/invoke/VarHandle")
    {W9 : Nat} {Pre : Pt → Array Value → Prop} {Post : Pt → Array Value → Option Value → Pt → Prop} {PostX : Pt → Array Value → Addr → Pt → Prop} (hK : vx_Back l R p e below s args y 3 W9 Pre Post PostX)
    {b : Addr} {cellB : Cell} (hcell : T.heap[b]? = some cellB) (hobj : cellB.vm.isStatics = false) (hcls : s.vm.findClass C = some cellB.cls)
    {g : JFrame} (hg : g.method = m) (hsize : g.locals.size = c.maxLocals) {argsL rest : List Value} (hlen : ∀ sig, parseMethodDescriptor y.desc = some sig → argsL.length = sig.parameters.length)
    (hstack : g.stack = argsL.reverse ++ .ref b :: rest) (hW : 2 * g.monitorRoom + (rest.map fun v => v.category).sum ≤ W9) (hdg : decode c.code g.pc = .ok (.invokevirtual index, 3))
    (hpre : ∀ vm₁, s.WarmedH vm₁ → Pre ⟨T.setVm vm₁, locs, cells, slots⟩ (Value.ref b :: argsL).toArray) :
    (∃ (v : Option Value) (vm₁ : Vm) (B : Pt), s.WarmedH vm₁ ∧ Stand p l e R s m args below meth c B.U B.locs B.cells B.slots ∧ Post ⟨T.setVm vm₁, locs, cells, slots⟩ (Value.ref b :: argsL).toArray v B ∧
      ∀ target, Steps p.tables e below (B.U.setTop { g with pc := g.pc + 3, stack := v.toList ++ rest }) target → Steps p.tables e below (T.setTop g) target) ∨
    (∃ (q : Addr) (vm₁ : Vm) (B : Pt), s.WarmedH vm₁ ∧ Stand p l e R s m args below meth c B.U B.locs B.cells B.slots ∧ PostX ⟨T.setVm vm₁, locs, cells, slots⟩ (Value.ref b :: argsL).toArray q B ∧
      Steps p.tables e below (T.setTop g) ((B.U.setTop { g with stack := rest }).pushFrame (.throwing q))) := by
  obtain ⟨mk, methM, hnamed, hmethM, hstM, habM⟩ := Cond.instanceMethod_spec hinst
  obtain ⟨m8, methM', cM, hn8, hmethM', -, -, -, -, -, -, hsigM⟩ := Cond.codeWith_spec hcode
  cases Option.some.inj (hn8.symm.trans hnamed)
  cases hmethM.symm.trans hmethM'
  obtain ⟨c2, r2, m2, q1, q2, q3, q4, kP, hkP, hkPi⟩ := Cond.selects_spec hsel
  cases hcls.symm.trans q1
  cases (State.methodFound?_of_named hnamed hy).symm.trans q2
  cases hnamed.symm.trans q3
  have hselP : selectMethod e.platform s.vm cellB.cls mk = .method mk := by rw [Launch.admits_selectMethod X.admits]; exact q4
  obtain ⟨vm₁, X₁, hstep₁⟩ := X.invokevirtual hexec hown hlink hnamed hmethM hstM hkP hkPi hy (a := b) (cell := cellB) hcell
    (fun z h => by rw [h] at hobj; cases hobj) hselP hmethM habM hkP hkPi (g := g) hg (argsL := argsL) (rest := rest) (hlen _ hsigM) hstack hdg
  rcases hK m meth c ⟨T.setVm vm₁, locs, cells, slots⟩ { g with stack := rest } (.invokevirtual index) mk (Value.ref b :: argsL).toArray X₁ hg hsize hdg hW (X₁.named hnamed) (hpre vm₁ X₁.warmed) with ⟨v, B, X', hpost, hsteps⟩ | ⟨q, B, X', hpost, hsteps⟩
  · exact Or.inl ⟨v, vm₁, B, X₁.warmed, X', hpost, fun target h => hstep₁ _ fun acts => by rw [doInvoke_state]; exact hsteps.trans h⟩
  · exact Or.inr ⟨q, vm₁, B, X₁.warmed, X', hpost, hstep₁ _ fun acts => by rw [doInvoke_state]; exact hsteps⟩
theorem vx_callSX (X : Stand p l e R s m args below meth c T locs cells slots) (hexec : p.tables.exec = Jvm.exec) {own : String} {index : Nat} {y : MethodName} {bytes : ByteArray} {maxL : Nat} {ret : Option FieldType} {hh : List (Nat × Nat × Nat × Nat)}
    (hown : s.vm.findClass own = some m.cls) (hlink : (Cond.methodLink own index y).before args s = true) (hstat : (Cond.static y).before args s = true) (hinit : (Cond.initialized y.cls).before args s = true)
    (hcode : (Cond.codeWith y bytes maxL ret hh).before args s = true) (hy : y.cls ≠ "java/lang/invoke/MethodHandle" ∧ y.cls ≠ "java/lang/invoke/VarHandle")
    {W9 : Nat} {Pre : Pt → Array Value → Prop} {Post : Pt → Array Value → Option Value → Pt → Prop} {PostX : Pt → Array Value → Addr → Pt → Prop} (hK : vx_Back l R p e below s args y 3 W9 Pre Post PostX)
    {g : JFrame} (hg : g.method = m) (hsize : g.locals.size = c.maxLocals) {argsL rest : List Value} (hlen : ∀ sig, parseMethodDescriptor y.desc = some sig → argsL.length = sig.parameters.length)
    (hstack : g.stack = argsL.reverse ++ rest) (hW : 2 * g.monitorRoom + (rest.map fun v => v.category).sum ≤ W9) (hdg : decode c.code g.pc = .ok (.invokestatic index, 3))
    (hpre : ∀ vm₁, s.WarmedH vm₁ → Pre ⟨T.setVm vm₁, locs, cells, slots⟩ argsL.toArray) :
    (∃ (v : Option Value) (vm₁ : Vm) (B : Pt), s.WarmedH vm₁ ∧ Stand p l e R s m args below meth c B.U B.locs B.cells B.slots ∧ Post ⟨T.setVm vm₁, locs, cells, slots⟩ argsL.toArray v B ∧
      ∀ target, Steps p.tables e below (B.U.setTop { g with pc := g.pc + 3, stack := v.toList ++ rest }) target → Steps p.tables e below (T.setTop g) target) ∨
    (∃ (q : Addr) (vm₁ : Vm) (B : Pt), s.WarmedH vm₁ ∧ Stand p l e R s m args below meth c B.U B.locs B.cells B.slots ∧ PostX ⟨T.setVm vm₁, locs, cells, slots⟩ argsL.toArray q B ∧
      Steps p.tables e below (T.setTop g) ((B.U.setTop { g with stack := rest }).pushFrame (.throwing q))) := by
  obtain ⟨mk, methM, cM, hnamed, hmethM, -, -, -, -, -, -, hsigM⟩ := Cond.codeWith_spec hcode
  have hstatic : methM.isStatic = true := Cond.static_spec hnamed hmethM hstat
  obtain ⟨kP, hkP, -⟩ := className_of_methodNamed hnamed
  have hinitP : kP.init = .initialized := Cond.initialized_spec (findClass_of_methodNamed hnamed) hkP hinit
  obtain ⟨vm₁, X₁, hstep₁⟩ := X.invokestatic hexec hown hlink hnamed hmethM hstatic hkP hinitP hy (g := g) hg (argsL := argsL) (rest := rest) (hlen _ hsigM) hstack hdg
  rcases hK m meth c ⟨T.setVm vm₁, locs, cells, slots⟩ { g with stack := rest } (.invokestatic index) mk argsL.toArray X₁ hg hsize hdg hW (X₁.named hnamed) (hpre vm₁ X₁.warmed) with ⟨v, B, X', hpost, hsteps⟩ | ⟨q, B, X', hpost, hsteps⟩
  · exact Or.inl ⟨v, vm₁, B, X₁.warmed, X', hpost, fun target h => hstep₁ _ fun acts => by rw [doInvoke_state]; exact hsteps.trans h⟩
  · exact Or.inr ⟨q, vm₁, B, X₁.warmed, X', hpost, hstep₁ _ fun acts => by rw [doInvoke_state]; exact hsteps⟩
theorem vx_callVW (X : Stand p l e R s m args below meth c T locs cells slots) (hexec : p.tables.exec = Jvm.exec) {own C : String} {index : Nat} {y : MethodName} {bytes : ByteArray} {maxL : Nat} {ret : Option FieldType} {hh : List (Nat × Nat × Nat × Nat)}
    (hown : s.vm.findClass own = some m.cls) (hlink : (Cond.methodLink own index y).before args s = true) (hinst : (Cond.instanceMethod y).before args s = true) (hsel : (Cond.selects C y y).before args s = true)
    (hcode : (Cond.codeWith y bytes maxL ret hh).before args s = true) (hy : y.cls ≠ "java/lang/invoke/MethodHandle" ∧ y.cls ≠ "java/lang/invoke/VarHandle")
    {W9 : Nat} {Pre : Pt → Array Value → Prop} {Post : Pt → Array Value → Option Value → Pt → Prop} (hK : Back l R p e below s args y 3 W9 Pre Post)
    {b : Addr} {cellB : Cell} (hcell : T.heap[b]? = some cellB) (hobj : cellB.vm.isStatics = false) (hcls : s.vm.findClass C = some cellB.cls)
    {g : JFrame} (hg : g.method = m) (hsize : g.locals.size = c.maxLocals) {argsL rest : List Value} (hlen : ∀ sig, parseMethodDescriptor y.desc = some sig → argsL.length = sig.parameters.length)
    (hstack : g.stack = argsL.reverse ++ .ref b :: rest) (hW : 2 * g.monitorRoom + (rest.map fun v => v.category).sum ≤ W9) (hdg : decode c.code g.pc = .ok (.invokevirtual index, 3))
    (hpre : ∀ vm₁, s.WarmedH vm₁ → Pre ⟨T.setVm vm₁, locs, cells, slots⟩ (Value.ref b :: argsL).toArray) :
    ∃ (v : Option Value) (vm₁ : Vm) (B : Pt), s.WarmedH vm₁ ∧ Stand p l e R s m args below meth c B.U B.locs B.cells B.slots ∧ Post ⟨T.setVm vm₁, locs, cells, slots⟩ (Value.ref b :: argsL).toArray v B ∧
      ∀ target, Steps p.tables e below (B.U.setTop { g with pc := g.pc + 3, stack := v.toList ++ rest }) target → Steps p.tables e below (T.setTop g) target := by
  obtain ⟨mk, methM, hnamed, hmethM, hstM, habM⟩ := Cond.instanceMethod_spec hinst
  obtain ⟨m8, methM', cM, hn8, hmethM', -, -, -, -, -, -, hsigM⟩ := Cond.codeWith_spec hcode
  cases Option.some.inj (hn8.symm.trans hnamed)
  cases hmethM.symm.trans hmethM'
  obtain ⟨c2, r2, m2, q1, q2, q3, q4, kP, hkP, hkPi⟩ := Cond.selects_spec hsel
  cases hcls.symm.trans q1
  cases (State.methodFound?_of_named hnamed hy).symm.trans q2
  cases hnamed.symm.trans q3
  have hselP : selectMethod e.platform s.vm cellB.cls mk = .method mk := by rw [Launch.admits_selectMethod X.admits]; exact q4
  obtain ⟨vm₁, X₁, hstep₁⟩ := X.invokevirtual hexec hown hlink hnamed hmethM hstM hkP hkPi hy (a := b) (cell := cellB) hcell
    (fun z h => by rw [h] at hobj; cases hobj) hselP hmethM habM hkP hkPi (g := g) hg (argsL := argsL) (rest := rest) (hlen _ hsigM) hstack hdg
  obtain ⟨v, B, X', hpost, hsteps⟩ := hK m meth c ⟨T.setVm vm₁, locs, cells, slots⟩ { g with stack := rest } (.invokevirtual index) mk (Value.ref b :: argsL).toArray X₁ hg hsize hdg hW (X₁.named hnamed) (hpre vm₁ X₁.warmed)
  exact ⟨v, vm₁, B, X₁.warmed, X', hpost, fun target h => hstep₁ _ fun acts => by rw [doInvoke_state]; exact hsteps.trans h⟩
abbrev vx_CVW (R : Room) (s : State) (args : Array Value) (own C : String) (index : Nat) (y : MethodName) (bytes : ByteArray) (maxL : Nat) (ret : Option FieldType) (hh : List (Nat × Nat × Nat × Nat)) (ws : List Cond) (rm : Room) (mc ms n : Nat) : Prop :=
  (rm.cells = mc ∧ rm.slots = ms ∧ rm.frames + 1 ≤ R.frames ∧ 8 + (maxL + 11) + rm.locals ≤ R.locals ∧ (∀ w ∈ ws, ∀ (a' : Array Value) (U : State), s.WarmedH U.vm → w.before a' U = true) ∧ Cond.codeWith y bytes maxL ret hh ∈ ws) ∧
  (Cond.codeWith y bytes maxL ret hh).before args s = true ∧ (Cond.initialized y.cls).before args s = true ∧ (y.cls ≠ "java/lang/invoke/MethodHandle" ∧ y.cls ≠ "java/lang/invoke/VarHandle") ∧
  (∀ sig, parseMethodDescriptor y.desc = some sig → n = sig.parameters.length) ∧ (Cond.methodLink own index y).before args s = true ∧ (Cond.instanceMethod y).before args s = true ∧ (Cond.selects C y y).before args s = true
theorem vx_cwVW {own C : String} {index maxL mc ms : Nat} {y : MethodName} {bytes : ByteArray} {ret : Option FieldType} {hh : List (Nat × Nat × Nat × Nat)} {Ts ws ws' : List Cond} {rm : Room} (n : Nat) (ht : ∀ w ∈ Ts, w.before args s = true) (hT : GoodIn Ts (wsV own index C y ws)) (hw : ws = Cond.codeWith y bytes maxL ret hh :: ws') (hrc : rm.cells = mc) (hrs : rm.slots = ms)
    (hd : y.cls = C ∧ y.cls ≠ "java/lang/invoke/MethodHandle" ∧ y.cls ≠ "java/lang/invoke/VarHandle" ∧ (parseMethodDescriptor y.desc).map (fun d => d.parameters.length) = some n) (hR : rm.frames + 1 ≤ R.frames ∧ 8 + (maxL + 11) + rm.locals ≤ R.locals) :
    vx_CVW R s args own C index y bytes maxL ret hh ws rm mc ms n := by
  obtain ⟨hC, hd⟩ := hd
  subst hC
  have ok : ∀ w ∈ wsV own index y.cls y ws, w.before args s = true := fun w h => ht w (hT w h).1
  have hG : GoodIn Ts ws := fun w h => hT w (by unfold wsV; exact List.mem_append_right _ h)
  have hc : Cond.codeWith y bytes maxL ret hh ∈ ws := by rw [hw]; exact List.mem_cons_self
  refine ⟨⟨hrc, hrs, hR.1, hR.2, pay_in ht hG, hc⟩, ht _ (hG _ hc).1, ok _ (by simp [wsV]), ⟨hd.1, hd.2.1⟩, fun sig h => ?_, ok _ (by simp [wsV]), ok _ (by simp [wsV]), ok _ (by simp [wsV])⟩
  have h2 := hd.2.2
  rw [h] at h2
  exact (Option.some.inj h2).symm
theorem vx_runVW {y : MethodName} {bytes cc : ByteArray} {maxL nL mc ms n index : Nat} {ret : Option FieldType} {hh : List (Nat × Nat × Nat × Nat)} {ws : List Cond} {rm : Room} {Pc : Array Value → State → Prop} {Qc : Array Value → State → Outcome → State → Prop} {free : Addr → Prop} {Ts : List Cond} {own C : String} {b : Addr} {As rest : List Value} {g : JFrame}
    (S : CallFix p m c cc nL s args Ts own) (hM : Met l y ws rm Pc Qc mc ms free) (cw : vx_CVW R s args own C index y bytes maxL ret hh ws rm mc ms n) (hp : PreV s H C b Pc As)
    (hg : g.method = m) (hn : As.length = n) (hsize : g.locals.size = nL) (hstack : g.stack = As.reverse ++ .ref b :: rest) (hW : 2 * g.monitorRoom + (rest.map fun v => v.category).sum ≤ 8) (hdg : decode cc g.pc = .ok (.invokevirtual index, 3)) (hf : cells + mc ≤ R.cells ∧ slots + ms ≤ R.slots) :
    va_Run p l e R s m args below meth c H locs cells slots mc ms g rest (Qc (Value.ref b :: As).toArray) free := by
  obtain ⟨⟨hrc, hrs, hfr, hlo, hws, hcw⟩, hcode, hini, hy, hlen, hl, hin, hse⟩ := cw
  have hK : Back l R p e below s args y 3 8 (PreOf R mc ms Pc) (PostOf Qc mc ms free) := va_backW (hh := hh) (bytes := bytes) (maxL := maxL) (ret := ret) hM hp.1 hrc hrs hfr hlo hws hcw (fun a' U hW => word_at hW (Or.inl (by first | rfl | simp [Cond.onTables, Cond.keeps, Cond.steady])) hini)
  obtain ⟨hx, hb, hml, ho, -⟩ := S
  obtain ⟨-, ⟨cellB, hcB, hoB, hclB⟩, hPc⟩ := hp
  intro T hT X
  obtain ⟨v, vm₁, ⟨U', l2, c2, s2⟩, hW₁, X', ⟨g', mk, t, L, e1, e2, hq, h1, hL, h2, h3⟩, st⟩ := vx_callVW X hx (C := C) (hh := hh) (bytes := bytes) (maxL := maxL) (ret := ret) ho hl hin hse hcode hy hK (by rw [hT]; exact hcB) hoB hclB hg (hsize.trans hml.symm) (argsL := As) (rest := rest) (fun sig h => hn.trans (hlen sig h)) hstack hW (by rw [hb]; exact hdg)
    (fun vm₁ hW₁ => ⟨hf.1, hf.2, hPc (T.setVm vm₁) hT hW₁⟩)
  dsimp only [Pt.U, Pt.locs, Pt.cells, Pt.slots] at X' e1 e2 h1 h2 h3 st
  subst h1; subst h2; subst h3
  exact ⟨v, (T.setVm vm₁).calling g' mk (Value.ref b :: As).toArray, t, U', L, hT, X', hL, e1, e2, hq, st⟩
section
variable {y : MethodName} {bytes cc : ByteArray} {maxL nL mc ms n index : Nat} {ret : Option FieldType} {ws : List Cond} {rm : Room} {Pc : Array Value → State → Prop} {Qc : Array Value → State → Outcome → State → Prop} {XC : String → State → State → Prop} {free : Addr → Prop} {Ts : List Cond} {own C : String} {b : Addr} {As rest : List Value} {g : JFrame}
theorem vx_runVX {hh : List (Nat × Nat × Nat × Nat)} (S : CallFix p m c cc nL s args Ts own) (hM : vx_Met l y ws rm Pc Qc XC mc ms free) (cw : vx_CVW R s args own C index y bytes maxL ret hh ws rm mc ms n) (hp : PreV s H C b Pc As)
    (hg : g.method = m) (hn : As.length = n) (hsize : g.locals.size = nL) (hstack : g.stack = As.reverse ++ .ref b :: rest) (hW : 2 * g.monitorRoom + (rest.map fun v => v.category).sum ≤ 8) (hdg : decode cc g.pc = .ok (.invokevirtual index, 3)) (hf : cells + mc ≤ R.cells ∧ slots + ms ≤ R.slots) :
    vx_Run p l e R s m args below meth c H locs cells slots mc ms g rest (Qc (Value.ref b :: As).toArray) XC free := by
  obtain ⟨⟨hrc, hrs, hfr, hlo, hws, hcw⟩, hcode, hini, hy, hlen, hl, hin, hse⟩ := cw
  have hK : vx_Back l R p e below s args y 3 8 (PreOf R mc ms Pc) (PostOf Qc mc ms free) (vx_Post XC mc ms free) := vx_backW (hh := hh) (bytes := bytes) (maxL := maxL) (ret := ret) hM hp.1 hrc hrs hfr hlo hws hcw (fun a' U hW => word_at hW (Or.inl (by first | rfl | simp [Cond.onTables, Cond.keeps, Cond.steady])) hini)
  obtain ⟨hx, hb, hml, ho, -⟩ := S
  obtain ⟨-, ⟨cellB, hcB, hoB, hclB⟩, hPc⟩ := hp
  intro T hT X
  rcases vx_callVX X hx (C := C) (hh := hh) (bytes := bytes) (maxL := maxL) (ret := ret) ho hl hin hse hcode hy hK (by rw [hT]; exact hcB) hoB hclB hg (hsize.trans hml.symm) (argsL := As) (rest := rest) (fun sig h => hn.trans (hlen sig h)) hstack hW (by rw [hb]; exact hdg)
    (fun vm₁ hW₁ => ⟨hf.1, hf.2, hPc (T.setVm vm₁) hT hW₁⟩) with ⟨v, vm₁, ⟨U', l2, c2, s2⟩, hW₁, X', ⟨g', mk, t, L, e1, e2, hq, h1, hL, h2, h3⟩, st⟩ | ⟨q, vm₁, ⟨U', l2, c2, s2⟩, hW₁, X', ⟨g', mk, t, L, E, ce, e1, e2, hq, hce, hcv, hcl, h1, hL, h2, h3⟩, st⟩
  · dsimp only [Pt.U, Pt.locs, Pt.cells, Pt.slots] at X' e1 e2 h1 h2 h3 st
    subst h1; subst h2; subst h3
    exact Or.inl ⟨v, (T.setVm vm₁).calling g' mk (Value.ref b :: As).toArray, t, U', L, hT, X', hL, e1, e2, hq, st⟩
  · dsimp only [Pt.U, Pt.locs, Pt.cells, Pt.slots] at X' e1 e2 h1 h2 h3 st hcl
    subst h1; subst h2; subst h3
    exact Or.inr ⟨q, (T.setVm vm₁).calling g' mk (Value.ref b :: As).toArray, t, U', L, E, ce, hT, X', hL, e1, e2, hq, hce, hcv, vx_cls hW₁ hcl, st⟩
theorem vx_runSX {hh : List (Nat × Nat × Nat × Nat)} (S : CallFix p m c cc nL s args Ts own) (hM : vx_Met l y ws rm Pc Qc XC mc ms free) (cw : vx_CSW R s args own index y bytes maxL ret hh ws rm mc ms n) (hp : PreS s H Pc As)
    (hg : g.method = m) (hn : As.length = n) (hsize : g.locals.size = nL) (hstack : g.stack = As.reverse ++ rest) (hW : 2 * g.monitorRoom + (rest.map fun v => v.category).sum ≤ 8) (hdg : decode cc g.pc = .ok (.invokestatic index, 3)) (hf : cells + mc ≤ R.cells ∧ slots + ms ≤ R.slots) :
    vx_Run p l e R s m args below meth c H locs cells slots mc ms g rest (Qc As.toArray) XC free := by
  obtain ⟨⟨hrc, hrs, hfr, hlo, hws, hcw⟩, hcode, hini, hy, hlen, hl, hstt⟩ := cw
  have hK : vx_Back l R p e below s args y 3 8 (PreOf R mc ms Pc) (PostOf Qc mc ms free) (vx_Post XC mc ms free) := vx_backW (hh := hh) (bytes := bytes) (maxL := maxL) (ret := ret) hM hp.1 hrc hrs hfr hlo hws hcw (fun a' U hW => word_at hW (Or.inl (by first | rfl | simp [Cond.onTables, Cond.keeps, Cond.steady])) hini)
  obtain ⟨hx, hb, hml, ho, -⟩ := S
  intro T hT X
  rcases vx_callSX X hx (hh := hh) (bytes := bytes) (maxL := maxL) (ret := ret) ho hl hstt hini hcode hy hK hg (hsize.trans hml.symm) (argsL := As) (rest := rest) (fun sig h => hn.trans (hlen sig h)) hstack hW (by rw [hb]; exact hdg)
    (fun vm₁ hW₁ => ⟨hf.1, hf.2, hp.2 (T.setVm vm₁) hT hW₁⟩) with ⟨v, vm₁, ⟨U', l2, c2, s2⟩, hW₁, X', ⟨g', mk, t, L, e1, e2, hq, h1, hL, h2, h3⟩, st⟩ | ⟨q, vm₁, ⟨U', l2, c2, s2⟩, hW₁, X', ⟨g', mk, t, L, E, ce, e1, e2, hq, hce, hcv, hcl, h1, hL, h2, h3⟩, st⟩
  · dsimp only [Pt.U, Pt.locs, Pt.cells, Pt.slots] at X' e1 e2 h1 h2 h3 st
    subst h1; subst h2; subst h3
    exact Or.inl ⟨v, (T.setVm vm₁).calling g' mk As.toArray, t, U', L, hT, X', hL, e1, e2, hq, st⟩
  · dsimp only [Pt.U, Pt.locs, Pt.cells, Pt.slots] at X' e1 e2 h1 h2 h3 st hcl
    subst h1; subst h2; subst h3
    exact Or.inr ⟨q, (T.setVm vm₁).calling g' mk As.toArray, t, U', L, E, ce, hT, X', hL, e1, e2, hq, hce, hcv, vx_cls hW₁ hcl, st⟩
end
end VXH
theorem vx_ofWH {l : Launch} {y : MethodName} {ws ws' : List Cond} {rm : Room} {Pc : Array Value → State → Prop} {Qc : Array Value → State → Outcome → State → Prop} {XC : String → State → State → Prop} {mc ms : Nat} {free : Addr → Prop} {cc : ByteArray} {maxL : Nat} {ret : Option FieldType} {hh : List (Nat × Nat × Nat × Nat)}
    (hy : plainName y.cls = true) (hw : ws = Cond.codeWith y cc maxL ret hh :: ws')
    (body : ∀ p e s m args below meth c s₁, BodyLoose p l y (headSpec ws rm) cc maxL ret e s m args below meth c s₁ → c.maxLocals = maxL → Pc args s →
      W p l e (headSpec ws rm).room s m args below meth c s.heap [] 0 0 (vx_MQ below Qc XC args s mc ms free) (entryFrame m args maxL)) : vx_Met l y ws rm Pc Qc XC mc ms free := by
  refine MetFree.of_bodyS (code := cc) (maxLocals := maxL) (ret := ret) hy ?_ ?_
  · intro args s m h hn
    obtain ⟨m9, meth, c, hn9, h1, h2, h3, h4, -, h5, h6, -⟩ := Cond.codeWith_spec (atoms_spec (ws := ws) h _ (by rw [hw]; exact List.mem_cons_self))
    cases hn.symm.trans hn9
    exact ⟨meth, c, h1, h2, h3, h4, h5, h6⟩
  · intro p e s m args below meth c s₁ B hml hP _
    have hh0 : s₁.heap = s.heap := by rw [B.state]; rfl
    obtain ⟨t, a1, o, b1, b2, b3⟩ := body p e s m args below meth c s₁ B hml hP s₁ hh0 (Stand.of_body B)
    exact ⟨t, o, a1, b1, b2, b3⟩
/-! ===== END ===== -/
end
section
/-! ===== BEGIN printed: names, fields, word lists, decode rows ===== -/
def RX0 : String := "MooringTree$Harbour"
def TX0 : u_T := fun k => match k with
  | 0 => ("MooringTree$Harbour", "ships", "[LMooringTree$Ship;", true)
  | 1 => ("MooringTree$Harbour", "shipCount", "I", false)
  | 2 => ("MooringTree$Harbour", "rates", "[I", true)
  | 3 => ("MooringTree$Harbour", "price", "I", false)
  | 4 => ("MooringTree$Harbour", "fee", "I", false)
  | 5 => ("MooringTree$Harbour", "earned", "I", false)
  | _ => ("MooringTree$Harbour", "failedTurns", "I", false)
def tyX0 : Nat → FieldType := fun k => match k with
  | 0 => .array (.object "MooringTree$Ship")
  | 1 => .int
  | 2 => .array .int
  | 3 => .int
  | 4 => .int
  | 5 => .int
  | _ => .int
abbrev wsX00 : List Cond := u_ws RX0 TX0 7
theorem nmX0 : ∀ a, a < 7 → ∀ b, b < 7 → a ≠ b → (TX0 a).2.1 ≠ (TX0 b).2.1 := by decide +kernel
theorem tyX0_ok : ∀ k, k < 7 → parseFieldDescriptor (TX0 k).2.2.1 = some (tyX0 k) := by decide +kernel
abbrev cX0_init : ByteArray := prog_2_method_1_code
def yX0_init : MethodName := ⟨RX0, "<init>", "()V"⟩
abbrev cX0_admit : ByteArray := prog_2_method_2_code
def yX0_admit : MethodName := ⟨RX0, "admit", "(LMooringTree$Ship;)I"⟩
abbrev cX0_shipOrNull : ByteArray := prog_2_method_3_code
def yX0_shipOrNull : MethodName := ⟨RX0, "shipOrNull", "(I)LMooringTree$Ship;"⟩
abbrev cX0_play : ByteArray := prog_2_method_4_code
def yX0_play : MethodName := ⟨RX0, "play", "(LMooringTree$Line;I)V"⟩
abbrev cX0_passTurn : ByteArray := prog_2_method_5_code
def yX0_passTurn : MethodName := ⟨RX0, "passTurn", "(II)V"⟩
abbrev cX0_tideOf : ByteArray := prog_2_method_6_code
def yX0_tideOf : MethodName := ⟨RX0, "tideOf", "(I)I"⟩
abbrev cX0_carryOut : ByteArray := prog_2_method_7_code
def yX0_carryOut : MethodName := ⟨RX0, "carryOut", "(II)Z"⟩
abbrev cX0_putToBerth : ByteArray := prog_2_method_8_code
def yX0_putToBerth : MethodName := ⟨RX0, "putToBerth", "(LMooringTree$Ship;I)Z"⟩
abbrev cX0_letLeave : ByteArray := prog_2_method_9_code
def yX0_letLeave : MethodName := ⟨RX0, "letLeave", "(LMooringTree$Ship;)Z"⟩
abbrev cX0_isTaken : ByteArray := prog_2_method_10_code
def yX0_isTaken : MethodName := ⟨RX0, "isTaken", "(I)Z"⟩
abbrev cX0_earningInTurn : ByteArray := prog_2_method_11_code
def yX0_earningInTurn : MethodName := ⟨RX0, "earningInTurn", "(LMooringTree$Ship;)I"⟩
def RX1 : String := "MooringTree$Line"
def TX1 : u_T := fun k => match k with
  | 0 => ("MooringTree$Line", "madeOf", "LMooringTree$Line;", true)
  | 1 => ("MooringTree$Line", "firstTurn", "I", true)
  | 2 => ("MooringTree$Line", "orders", "[I", true)
  | 3 => ("MooringTree$Line", "ownTurns", "I", false)
  | 4 => ("MooringTree$Line", "aheadTurns", "I", false)
  | _ => ("MooringTree$Line", "seen", "I", false)
def tyX1 : Nat → FieldType := fun k => match k with
  | 0 => .object "MooringTree$Line"
  | 1 => .int
  | 2 => .array .int
  | 3 => .int
  | 4 => .int
  | _ => .int
abbrev wsX10 : List Cond := u_ws RX1 TX1 6
theorem nmX1 : ∀ a, a < 6 → ∀ b, b < 6 → a ≠ b → (TX1 a).2.1 ≠ (TX1 b).2.1 := by decide +kernel
theorem tyX1_ok : ∀ k, k < 6 → parseFieldDescriptor (TX1 k).2.2.1 = some (tyX1 k) := by decide +kernel
abbrev cX1_init : ByteArray := prog_3_method_1_code
def yX1_init : MethodName := ⟨RX1, "<init>", "(LMooringTree$Line;I)V"⟩
abbrev cX1_hasOwn : ByteArray := prog_3_method_2_code
def yX1_hasOwn : MethodName := ⟨RX1, "hasOwn", "(I)Z"⟩
abbrev cX1_orderFor : ByteArray := prog_3_method_3_code
def yX1_orderFor : MethodName := ⟨RX1, "orderFor", "(I)I"⟩
abbrev cX1_give : ByteArray := prog_3_method_4_code
def yX1_give : MethodName := ⟨RX1, "give", "(II)Z"⟩
abbrev cX1_drop : ByteArray := prog_3_method_5_code
def yX1_drop : MethodName := ⟨RX1, "drop", "(I)Z"⟩
def RX2 : String := "MooringTree$Ship"
def TX2 : u_T := fun k => match k with
  | 0 => ("MooringTree$Ship", "comes", "I", true)
  | 1 => ("MooringTree$Ship", "draught", "I", true)
  | 2 => ("MooringTree$Ship", "fullCargo", "I", true)
  | 3 => ("MooringTree$Ship", "place", "I", false)
  | _ => ("MooringTree$Ship", "left", "I", false)
def tyX2 : Nat → FieldType := fun k => match k with
  | 0 => .int
  | 1 => .int
  | 2 => .int
  | 3 => .int
  | _ => .int
abbrev wsX20 : List Cond := u_ws RX2 TX2 5
theorem nmX2 : ∀ a, a < 5 → ∀ b, b < 5 → a ≠ b → (TX2 a).2.1 ≠ (TX2 b).2.1 := by decide +kernel
theorem tyX2_ok : ∀ k, k < 5 → parseFieldDescriptor (TX2 k).2.2.1 = some (tyX2 k) := by decide +kernel
abbrev cX2_init : ByteArray := prog_4_method_1_code
def yX2_init : MethodName := ⟨RX2, "<init>", "(III)V"⟩
abbrev cX2_startAfresh : ByteArray := prog_4_method_2_code
def yX2_startAfresh : MethodName := ⟨RX2, "startAfresh", "()V"⟩
abbrev cX2_unload : ByteArray := prog_4_method_3_code
def yX2_unload : MethodName := ⟨RX2, "unload", "(I)I"⟩
def RX3 : String := "MooringTree"
def TX3 : u_T := fun k => match k with
  | 0 => ("MooringTree", "harbour", "LMooringTree$Harbour;", true)
  | 1 => ("MooringTree", "teachers", "LMooringTree$Line;", true)
  | 2 => ("MooringTree", "lines", "[LMooringTree$Line;", true)
  | _ => ("MooringTree", "forks", "I", false)
def tyX3 : Nat → FieldType := fun k => match k with
  | 0 => .object "MooringTree$Harbour"
  | 1 => .object "MooringTree$Line"
  | 2 => .array (.object "MooringTree$Line")
  | _ => .int
abbrev wsX30 : List Cond := u_ws RX3 TX3 4
theorem nmX3 : ∀ a, a < 4 → ∀ b, b < 4 → a ≠ b → (TX3 a).2.1 ≠ (TX3 b).2.1 := by decide +kernel
theorem tyX3_ok : ∀ k, k < 4 → parseFieldDescriptor (TX3 k).2.2.1 = some (tyX3 k) := by decide +kernel
abbrev cX3_init : ByteArray := prog_1_method_1_code
def yX3_init : MethodName := ⟨RX3, "<init>", "()V"⟩
abbrev cX3_addShip : ByteArray := prog_1_method_2_code
def yX3_addShip : MethodName := ⟨RX3, "addShip", "(III)I"⟩
abbrev cX3_setRate : ByteArray := prog_1_method_3_code
def yX3_setRate : MethodName := ⟨RX3, "setRate", "(II)I"⟩
abbrev cX3_setRules : ByteArray := prog_1_method_4_code
def yX3_setRules : MethodName := ⟨RX3, "setRules", "(II)V"⟩
abbrev cX3_fork : ByteArray := prog_1_method_5_code
def yX3_fork : MethodName := ⟨RX3, "fork", "(II)I"⟩
abbrev cX3_order : ByteArray := prog_1_method_6_code
def yX3_order : MethodName := ⟨RX3, "order", "(IIIII)Z"⟩
abbrev cX3_takeAway : ByteArray := prog_1_method_7_code
def yX3_takeAway : MethodName := ⟨RX3, "takeAway", "(II)Z"⟩
abbrev cX3_orderOf : ByteArray := prog_1_method_8_code
def yX3_orderOf : MethodName := ⟨RX3, "orderOf", "(II)I"⟩
abbrev cX3_differences : ByteArray := prog_1_method_9_code
def yX3_differences : MethodName := ⟨RX3, "differences", "(II)I"⟩
abbrev cX3_where : ByteArray := prog_1_method_10_code
def yX3_where : MethodName := ⟨RX3, "where", "(III)I"⟩
abbrev cX3_cargo : ByteArray := prog_1_method_11_code
def yX3_cargo : MethodName := ⟨RX3, "cargo", "(III)I"⟩
abbrev cX3_failures : ByteArray := prog_1_method_12_code
def yX3_failures : MethodName := ⟨RX3, "failures", "(I)I"⟩
abbrev cX3_look : ByteArray := prog_1_method_13_code
def yX3_look : MethodName := ⟨RX3, "look", "(II)I"⟩
abbrev cX3_seen : ByteArray := prog_1_method_14_code
def yX3_seen : MethodName := ⟨RX3, "seen", "(I)I"⟩
abbrev cX3_ahead : ByteArray := prog_1_method_15_code
def yX3_ahead : MethodName := ⟨RX3, "ahead", "(I)I"⟩
abbrev cX3_mark : ByteArray := prog_1_method_16_code
def yX3_mark : MethodName := ⟨RX3, "mark", "(I)I"⟩
abbrev cX3_best : ByteArray := prog_1_method_17_code
def yX3_best : MethodName := ⟨RX3, "best", "()I"⟩
abbrev cX3_shipBehind : ByteArray := prog_1_method_18_code
def yX3_shipBehind : MethodName := ⟨RX3, "shipBehind", "(III)LMooringTree$Ship;"⟩
abbrev cX3_earningOf : ByteArray := prog_1_method_19_code
def yX3_earningOf : MethodName := ⟨RX3, "earningOf", "(LMooringTree$Line;I)I"⟩
abbrev cX3_markAgainst : ByteArray := prog_1_method_20_code
def yX3_markAgainst : MethodName := ⟨RX3, "markAgainst", "(LMooringTree$Line;I)I"⟩
abbrev cX3_codeOf : ByteArray := prog_1_method_21_code
def yX3_codeOf : MethodName := ⟨RX3, "codeOf", "(III)I"⟩
abbrev cX3_lineNumbered : ByteArray := prog_1_method_22_code
def yX3_lineNumbered : MethodName := ⟨RX3, "lineNumbered", "(I)LMooringTree$Line;"⟩
abbrev cX3_shipNumbered : ByteArray := prog_1_method_23_code
def yX3_shipNumbered : MethodName := ⟨RX3, "shipNumbered", "(I)LMooringTree$Ship;"⟩
abbrev cX3_isTurn : ByteArray := prog_1_method_24_code
def yX3_isTurn : MethodName := ⟨RX3, "isTurn", "(I)Z"⟩
abbrev cX3_checkTurn : ByteArray := prog_1_method_25_code
def yX3_checkTurn : MethodName := ⟨RX3, "checkTurn", "(I)V"⟩
abbrev cX3_isBerth : ByteArray := prog_1_method_26_code
def yX3_isBerth : MethodName := ⟨RX3, "isBerth", "(I)Z"⟩
abbrev cX3_checkBerth : ByteArray := prog_1_method_27_code
def yX3_checkBerth : MethodName := ⟨RX3, "checkBerth", "(I)V"⟩
def RX4 : String := "MooringTreeModel"
def TX4 : u_T := fun k => match k with
  | 0 => ("MooringTreeModel", "ships", "I", false)
  | 1 => ("MooringTreeModel", "comes", "[I", true)
  | 2 => ("MooringTreeModel", "draught", "[I", true)
  | 3 => ("MooringTreeModel", "cargo", "[I", true)
  | 4 => ("MooringTreeModel", "rate", "[I", true)
  | 5 => ("MooringTreeModel", "price", "I", false)
  | 6 => ("MooringTreeModel", "fee", "I", false)
  | 7 => ("MooringTreeModel", "lines", "I", false)
  | 8 => ("MooringTreeModel", "parent", "[I", true)
  | 9 => ("MooringTreeModel", "begin", "[I", true)
  | 10 => ("MooringTreeModel", "seen", "[I", true)
  | 11 => ("MooringTreeModel", "order", "[I", true)
  | 12 => ("MooringTreeModel", "isAhead", "[Z", true)
  | 13 => ("MooringTreeModel", "at", "[I", true)
  | 14 => ("MooringTreeModel", "left", "[I", true)
  | 15 => ("MooringTreeModel", "earned", "I", false)
  | 16 => ("MooringTreeModel", "failed", "I", false)
  | _ => ("MooringTreeModel", "thrown", "I", false)
def tyX4 : Nat → FieldType := fun k => match k with
  | 0 => .int
  | 1 => .array .int
  | 2 => .array .int
  | 3 => .array .int
  | 4 => .array .int
  | 5 => .int
  | 6 => .int
  | 7 => .int
  | 8 => .array .int
  | 9 => .array .int
  | 10 => .array .int
  | 11 => .array .int
  | 12 => .array .boolean
  | 13 => .array .int
  | 14 => .array .int
  | 15 => .int
  | 16 => .int
  | _ => .int
abbrev wsX40 : List Cond := u_ws RX4 TX4 18
theorem nmX4 : ∀ a, a < 18 → ∀ b, b < 18 → a ≠ b → (TX4 a).2.1 ≠ (TX4 b).2.1 := by decide +kernel
theorem tyX4_ok : ∀ k, k < 18 → parseFieldDescriptor (TX4 k).2.2.1 = some (tyX4 k) := by decide +kernel
abbrev cX4_init : ByteArray := prog_6_method_1_code
def yX4_init : MethodName := ⟨RX4, "<init>", "()V"⟩
abbrev cX4_thrown : ByteArray := prog_6_method_2_code
def yX4_thrown : MethodName := ⟨RX4, "thrown", "()I"⟩
abbrev cX4_fails : ByteArray := prog_6_method_3_code
def yX4_fails : MethodName := ⟨RX4, "fails", "(I)Z"⟩
abbrev cX4_isIn : ByteArray := prog_6_method_4_code
def yX4_isIn : MethodName := ⟨RX4, "isIn", "(III)Z"⟩
abbrev cX4_isShip : ByteArray := prog_6_method_5_code
def yX4_isShip : MethodName := ⟨RX4, "isShip", "(I)Z"⟩
abbrev cX4_isBerth : ByteArray := prog_6_method_6_code
def yX4_isBerth : MethodName := ⟨RX4, "isBerth", "(I)Z"⟩
abbrev cX4_isLine : ByteArray := prog_6_method_7_code
def yX4_isLine : MethodName := ⟨RX4, "isLine", "(I)Z"⟩
abbrev cX4_isTurn : ByteArray := prog_6_method_8_code
def yX4_isTurn : MethodName := ⟨RX4, "isTurn", "(I)Z"⟩
abbrev cX4_addShip : ByteArray := prog_6_method_9_code
def yX4_addShip : MethodName := ⟨RX4, "addShip", "(III)I"⟩
abbrev cX4_setRate : ByteArray := prog_6_method_10_code
def yX4_setRate : MethodName := ⟨RX4, "setRate", "(II)I"⟩
abbrev cX4_setRules : ByteArray := prog_6_method_11_code
def yX4_setRules : MethodName := ⟨RX4, "setRules", "(II)V"⟩
abbrev cX4_fork : ByteArray := prog_6_method_12_code
def yX4_fork : MethodName := ⟨RX4, "fork", "(II)I"⟩
abbrev cX4_order : ByteArray := prog_6_method_13_code
def yX4_order : MethodName := ⟨RX4, "order", "(IIIII)Z"⟩
abbrev cX4_takeAway : ByteArray := prog_6_method_14_code
def yX4_takeAway : MethodName := ⟨RX4, "takeAway", "(II)Z"⟩
abbrev cX4_hasOwn : ByteArray := prog_6_method_15_code
def yX4_hasOwn : MethodName := ⟨RX4, "hasOwn", "(II)Z"⟩
abbrev cX4_removes : ByteArray := prog_6_method_16_code
def yX4_removes : MethodName := ⟨RX4, "removes", "(II)Z"⟩
abbrev cX4_orderAt : ByteArray := prog_6_method_17_code
def yX4_orderAt : MethodName := ⟨RX4, "orderAt", "(II)I"⟩
abbrev cX4_orderOf : ByteArray := prog_6_method_18_code
def yX4_orderOf : MethodName := ⟨RX4, "orderOf", "(II)I"⟩
abbrev cX4_differences : ByteArray := prog_6_method_19_code
def yX4_differences : MethodName := ⟨RX4, "differences", "(II)I"⟩
abbrev cX4_can : ByteArray := prog_6_method_20_code
def yX4_can : MethodName := ⟨RX4, "can", "(IIII)Z"⟩
abbrev cX4_does : ByteArray := prog_6_method_21_code
def yX4_does : MethodName := ⟨RX4, "does", "(II)V"⟩
abbrev cX4_plays : ByteArray := prog_6_method_22_code
def yX4_plays : MethodName := ⟨RX4, "plays", "(II)V"⟩
abbrev cX4_misses : ByteArray := prog_6_method_23_code
def yX4_misses : MethodName := ⟨RX4, "misses", "(III)Z"⟩
abbrev cX4_where : ByteArray := prog_6_method_24_code
def yX4_where : MethodName := ⟨RX4, "where", "(III)I"⟩
abbrev cX4_cargo : ByteArray := prog_6_method_25_code
def yX4_cargo : MethodName := ⟨RX4, "cargo", "(III)I"⟩
abbrev cX4_failures : ByteArray := prog_6_method_26_code
def yX4_failures : MethodName := ⟨RX4, "failures", "(I)I"⟩
abbrev cX4_look : ByteArray := prog_6_method_27_code
def yX4_look : MethodName := ⟨RX4, "look", "(II)I"⟩
abbrev cX4_seen : ByteArray := prog_6_method_28_code
def yX4_seen : MethodName := ⟨RX4, "seen", "(I)I"⟩
abbrev cX4_aheadOf : ByteArray := prog_6_method_29_code
def yX4_aheadOf : MethodName := ⟨RX4, "aheadOf", "(I)I"⟩
abbrev cX4_ahead : ByteArray := prog_6_method_30_code
def yX4_ahead : MethodName := ⟨RX4, "ahead", "(I)I"⟩
abbrev cX4_markOf : ByteArray := prog_6_method_31_code
def yX4_markOf : MethodName := ⟨RX4, "markOf", "(I)I"⟩
abbrev cX4_mark : ByteArray := prog_6_method_32_code
def yX4_mark : MethodName := ⟨RX4, "mark", "(I)I"⟩
abbrev cX4_best : ByteArray := prog_6_method_33_code
def yX4_best : MethodName := ⟨RX4, "best", "()I"⟩
def RJ9 : String := "java/lang/Math"
def TJ9 : u_T := fun k => match k with
  | _ => ("", "", "", false)
def tyJ9 : Nat → FieldType := fun k => match k with
  | _ => .int
abbrev wsJ90 : List Cond := u_ws RJ9 TJ9 0
theorem nmJ9 : ∀ a, a < 0 → ∀ b, b < 0 → a ≠ b → (TJ9 a).2.1 ≠ (TJ9 b).2.1 := by decide +kernel
theorem tyJ9_ok : ∀ k, k < 0 → parseFieldDescriptor (TJ9 k).2.2.1 = some (tyJ9 k) := by decide +kernel
abbrev cJ9_max_7cf53 : ByteArray := prog_11_method_65_code
def yJ9_max_7cf53 : MethodName := ⟨RJ9, "max", "(II)I"⟩
abbrev cJ9_min_7cf53 : ByteArray := prog_11_method_69_code
def yJ9_min_7cf53 : MethodName := ⟨RJ9, "min", "(II)I"⟩
def RJ0 : String := "java/lang/String"
def TJ0 : u_T := fun k => match k with
  | _ => ("", "", "", false)
def tyJ0 : Nat → FieldType := fun k => match k with
  | _ => .int
abbrev wsJ00 : List Cond := u_ws RJ0 TJ0 0
theorem nmJ0 : ∀ a, a < 0 → ∀ b, b < 0 → a ≠ b → (TJ0 a).2.1 ≠ (TJ0 b).2.1 := by decide +kernel
theorem tyJ0_ok : ∀ k, k < 0 → parseFieldDescriptor (TJ0 k).2.2.1 = some (tyJ0 k) := by decide +kernel
def RL : String := "MooringTreeLaw"
abbrev cL_addShip : ByteArray := method_3_code
def yL_addShip : MethodName := ⟨RL, "addShip", "(LMooringTree;III[J)I"⟩
abbrev cL_setRate : ByteArray := method_4_code
def yL_setRate : MethodName := ⟨RL, "setRate", "(LMooringTree;II[J)I"⟩
abbrev cL_setRules : ByteArray := method_5_code
def yL_setRules : MethodName := ⟨RL, "setRules", "(LMooringTree;II)I"⟩
abbrev cL_fork : ByteArray := method_6_code
def yL_fork : MethodName := ⟨RL, "fork", "(LMooringTree;II[J)I"⟩
abbrev cL_order : ByteArray := method_7_code
def yL_order : MethodName := ⟨RL, "order", "(LMooringTree;IIIII[J)I"⟩
abbrev cL_takeAway : ByteArray := method_8_code
def yL_takeAway : MethodName := ⟨RL, "takeAway", "(LMooringTree;II[J)I"⟩
abbrev cL_orderOf : ByteArray := method_9_code
def yL_orderOf : MethodName := ⟨RL, "orderOf", "(LMooringTree;II[J)I"⟩
abbrev cL_differences : ByteArray := method_10_code
def yL_differences : MethodName := ⟨RL, "differences", "(LMooringTree;II[J)I"⟩
abbrev cL_where : ByteArray := method_11_code
def yL_where : MethodName := ⟨RL, "where", "(LMooringTree;III[J)I"⟩
abbrev cL_cargo : ByteArray := method_12_code
def yL_cargo : MethodName := ⟨RL, "cargo", "(LMooringTree;III[J)I"⟩
abbrev cL_failures : ByteArray := method_13_code
def yL_failures : MethodName := ⟨RL, "failures", "(LMooringTree;I[J)I"⟩
abbrev cL_look : ByteArray := method_14_code
def yL_look : MethodName := ⟨RL, "look", "(LMooringTree;II[J)I"⟩
abbrev cL_seen : ByteArray := method_15_code
def yL_seen : MethodName := ⟨RL, "seen", "(LMooringTree;I[J)I"⟩
abbrev cL_ahead : ByteArray := method_16_code
def yL_ahead : MethodName := ⟨RL, "ahead", "(LMooringTree;I[J)I"⟩
abbrev cL_mark : ByteArray := method_17_code
def yL_mark : MethodName := ⟨RL, "mark", "(LMooringTree;I[J)I"⟩
abbrev cL_law : ByteArray := code
def yL_law : MethodName := ⟨RL, "law", "([I)Z"⟩
def wsX0_init : List Cond := .code yX0_init cX0_init 1 none :: ([.methodLink RX0 3 objectInit, .instanceMethod objectInit, .code objectInit ⟨#[0xb1]⟩ 1 none, .classLink RX0 9 RX2, .fieldLink RX0 11 "MooringTree$Harbour" "ships" "[LMooringTree$Ship;", .fieldLink RX0 17 "MooringTree$Harbour" "shipCount" "I", .arrayClass .int, .fieldLink RX0 21 "MooringTree$Harbour" "rates" "[I", .fieldLink RX0 25 "MooringTree$Harbour" "price" "I", .fieldLink RX0 28 "MooringTree$Harbour" "fee" "I", .fieldLink RX0 31 "MooringTree$Harbour" "earned" "I", .fieldLink RX0 34 "MooringTree$Harbour" "failedTurns" "I"] ++ wsX00)
def wsX0_admit : List Cond := .code yX0_admit cX0_admit 3 (some .int) :: ([.fieldLink RX0 17 "MooringTree$Harbour" "shipCount" "I", .fieldLink RX0 11 "MooringTree$Harbour" "ships" "[LMooringTree$Ship;"] ++ wsX00)
def wsX0_shipOrNull : List Cond := .code yX0_shipOrNull cX0_shipOrNull 2 (some (.object "MooringTree$Ship")) :: ([.fieldLink RX0 11 "MooringTree$Harbour" "ships" "[LMooringTree$Ship;"] ++ wsX00)
def wsX2_startAfresh : List Cond := .code yX2_startAfresh cX2_startAfresh 1 none :: ([.fieldLink RX2 9 "MooringTree$Ship" "place" "I", .fieldLink RX2 21 "MooringTree$Ship" "fullCargo" "I", .fieldLink RX2 24 "MooringTree$Ship" "left" "I"] ++ wsX20)
def wsX1_hasOwn : List Cond := .code yX1_hasOwn cX1_hasOwn 2 (some .boolean) :: ([.fieldLink RX1 15 "MooringTree$Line" "ownTurns" "I"] ++ wsX10)
def wsX1_orderFor : List Cond := .code yX1_orderFor cX1_orderFor 3 (some .int) :: ([.fieldLink RX1 9 "MooringTree$Line" "orders" "[I", .fieldLink RX1 22 "MooringTree$Line" "madeOf" "LMooringTree$Line;", .methodLink RX1 32 yX1_hasOwn, .instanceMethod yX1_hasOwn, .selects RX1 yX1_hasOwn yX1_hasOwn, .initialized RX1, .code yX1_hasOwn cX1_hasOwn 2 (some .boolean), .fieldLink RX1 15 "MooringTree$Line" "ownTurns" "I"] ++ wsX10)
def wsX0_tideOf : List Cond := .code yX0_tideOf cX0_tideOf 2 (some .int) :: ([])
def wsX0_isTaken : List Cond := .code yX0_isTaken cX0_isTaken 6 (some .boolean) :: ([.fieldLink RX0 11 "MooringTree$Harbour" "ships" "[LMooringTree$Ship;"] ++ wsX00 ++ wsX20)
def wsX0_putToBerth : List Cond := .code yX0_putToBerth cX0_putToBerth 3 (some .boolean) :: ([.methodLink RX0 82 yX0_isTaken, .instanceMethod yX0_isTaken, .selects RX0 yX0_isTaken yX0_isTaken, .initialized RX0, .code yX0_isTaken cX0_isTaken 6 (some .boolean), .fieldLink RX0 11 "MooringTree$Harbour" "ships" "[LMooringTree$Ship;"] ++ wsX20 ++ wsX00)
def wsX3_isBerth : List Cond := .code yX3_isBerth cX3_isBerth 1 (some .boolean) :: ([])
def wsX0_letLeave : List Cond := .code yX0_letLeave cX0_letLeave 2 (some .boolean) :: ([.static yX3_isBerth, .initialized RX3, .code yX3_isBerth cX3_isBerth 1 (some .boolean)] ++ wsX20)
def wsX0_carryOut : List Cond := .code yX0_carryOut cX0_carryOut 4 (some .boolean) :: ([.methodLink RX0 67 yX0_shipOrNull, .instanceMethod yX0_shipOrNull, .selects RX0 yX0_shipOrNull yX0_shipOrNull, .initialized RX0, .code yX0_shipOrNull cX0_shipOrNull 2 (some (.object "MooringTree$Ship")), .fieldLink RX0 11 "MooringTree$Harbour" "ships" "[LMooringTree$Ship;", .methodLink RX0 74 yX0_putToBerth, .instanceMethod yX0_putToBerth, .selects RX0 yX0_putToBerth yX0_putToBerth, .code yX0_putToBerth cX0_putToBerth 3 (some .boolean), .methodLink RX0 82 yX0_isTaken, .instanceMethod yX0_isTaken, .selects RX0 yX0_isTaken yX0_isTaken, .code yX0_isTaken cX0_isTaken 6 (some .boolean), .methodLink RX0 78 yX0_letLeave, .instanceMethod yX0_letLeave, .selects RX0 yX0_letLeave yX0_letLeave, .code yX0_letLeave cX0_letLeave 2 (some .boolean), .static yX3_isBerth, .initialized RX3, .code yX3_isBerth cX3_isBerth 1 (some .boolean)] ++ wsX20 ++ wsX00)
def wsX2_unload : List Cond := .code yX2_unload cX2_unload 3 (some .int) :: ([.fieldLink RX2 24 "MooringTree$Ship" "left" "I", .methodLink RX2 27 Lib.Math.min.name, .static Lib.Math.min.name, .initialized "java/lang/Math", .code Lib.Math.min.name Lib.Math.min.code 2 (some .int)] ++ wsX20)
def wsX0_earningInTurn : List Cond := .code yX0_earningInTurn cX0_earningInTurn 2 (some .int) :: ([.fieldLink RX0 25 "MooringTree$Harbour" "price" "I", .fieldLink RX0 21 "MooringTree$Harbour" "rates" "[I", .fieldLink RX0 28 "MooringTree$Harbour" "fee" "I", .static yX3_isBerth, .initialized RX3, .code yX3_isBerth cX3_isBerth 1 (some .boolean), .instanceMethod yX2_unload, .initialized RX2, .selects RX2 yX2_unload yX2_unload, .code yX2_unload cX2_unload 3 (some .int), .fieldLink RX2 24 "MooringTree$Ship" "left" "I", .methodLink RX2 27 Lib.Math.min.name, .static Lib.Math.min.name, .initialized "java/lang/Math", .code Lib.Math.min.name Lib.Math.min.code 2 (some .int)] ++ wsX20 ++ wsX00)
def wsX0_passTurn_r1 : List Cond := [Cond.fieldLink RX0 11 "MooringTree$Harbour" "ships" "[LMooringTree$Ship;", Cond.fieldLink RX0 34 "MooringTree$Harbour" "failedTurns" "I", Cond.fieldLink RX0 31 "MooringTree$Harbour" "earned" "I", Cond.methodLink RX0 56 yX0_tideOf, Cond.static yX0_tideOf, Cond.initialized RX0, Cond.code yX0_tideOf cX0_tideOf 2 (some .int), Cond.methodLink RX0 59 yX0_carryOut, Cond.instanceMethod yX0_carryOut, Cond.selects RX0 yX0_carryOut yX0_carryOut, Cond.code yX0_carryOut cX0_carryOut 4 (some .boolean), Cond.methodLink RX0 67 yX0_shipOrNull, Cond.instanceMethod yX0_shipOrNull, Cond.selects RX0 yX0_shipOrNull yX0_shipOrNull, Cond.code yX0_shipOrNull cX0_shipOrNull 2 (some (.object "MooringTree$Ship")), Cond.methodLink RX0 74 yX0_putToBerth, Cond.instanceMethod yX0_putToBerth, Cond.selects RX0 yX0_putToBerth yX0_putToBerth, Cond.code yX0_putToBerth cX0_putToBerth 3 (some .boolean), Cond.methodLink RX0 82 yX0_isTaken, Cond.instanceMethod yX0_isTaken, Cond.selects RX0 yX0_isTaken yX0_isTaken, Cond.code yX0_isTaken cX0_isTaken 6 (some .boolean), Cond.methodLink RX0 78 yX0_letLeave]
def wsX0_passTurn_r2 : List Cond := [Cond.instanceMethod yX0_letLeave, Cond.selects RX0 yX0_letLeave yX0_letLeave, Cond.code yX0_letLeave cX0_letLeave 2 (some .boolean), Cond.static yX3_isBerth, Cond.initialized RX3, Cond.code yX3_isBerth cX3_isBerth 1 (some .boolean), Cond.methodLink RX0 63 yX0_earningInTurn, Cond.instanceMethod yX0_earningInTurn, Cond.selects RX0 yX0_earningInTurn yX0_earningInTurn, Cond.code yX0_earningInTurn cX0_earningInTurn 2 (some .int), Cond.fieldLink RX0 25 "MooringTree$Harbour" "price" "I", Cond.fieldLink RX0 21 "MooringTree$Harbour" "rates" "[I", Cond.fieldLink RX0 28 "MooringTree$Harbour" "fee" "I", Cond.instanceMethod yX2_unload, Cond.initialized RX2, Cond.selects RX2 yX2_unload yX2_unload, Cond.code yX2_unload cX2_unload 3 (some .int), Cond.fieldLink RX2 24 "MooringTree$Ship" "left" "I", Cond.methodLink RX2 27 Lib.Math.min.name, Cond.static Lib.Math.min.name, Cond.initialized "java/lang/Math", Cond.code Lib.Math.min.name Lib.Math.min.code 2 (some .int)]
def wsX0_passTurn : List Cond := .code yX0_passTurn cX0_passTurn 7 none :: ((wsX0_passTurn_r1 ++ wsX0_passTurn_r2) ++ wsX00 ++ wsX20)
def wsX0_play_r1 : List Cond := [Cond.fieldLink RX0 31 "MooringTree$Harbour" "earned" "I", Cond.fieldLink RX0 34 "MooringTree$Harbour" "failedTurns" "I", Cond.fieldLink RX0 11 "MooringTree$Harbour" "ships" "[LMooringTree$Ship;", Cond.instanceMethod yX2_startAfresh, Cond.initialized RX2, Cond.selects RX2 yX2_startAfresh yX2_startAfresh, Cond.code yX2_startAfresh cX2_startAfresh 1 none, Cond.fieldLink RX2 9 "MooringTree$Ship" "place" "I", Cond.fieldLink RX2 21 "MooringTree$Ship" "fullCargo" "I", Cond.fieldLink RX2 24 "MooringTree$Ship" "left" "I", Cond.instanceMethod yX1_orderFor, Cond.initialized RX1, Cond.selects RX1 yX1_orderFor yX1_orderFor, Cond.code yX1_orderFor cX1_orderFor 3 (some .int), Cond.fieldLink RX1 9 "MooringTree$Line" "orders" "[I", Cond.fieldLink RX1 22 "MooringTree$Line" "madeOf" "LMooringTree$Line;", Cond.methodLink RX1 32 yX1_hasOwn, Cond.instanceMethod yX1_hasOwn, Cond.selects RX1 yX1_hasOwn yX1_hasOwn, Cond.code yX1_hasOwn cX1_hasOwn 2 (some .boolean), Cond.fieldLink RX1 15 "MooringTree$Line" "ownTurns" "I", Cond.methodLink RX0 46 yX0_passTurn, Cond.instanceMethod yX0_passTurn, Cond.selects RX0 yX0_passTurn yX0_passTurn]
def wsX0_play_r2 : List Cond := [Cond.initialized RX0, Cond.code yX0_passTurn cX0_passTurn 7 none, Cond.methodLink RX0 56 yX0_tideOf, Cond.static yX0_tideOf, Cond.code yX0_tideOf cX0_tideOf 2 (some .int), Cond.methodLink RX0 59 yX0_carryOut, Cond.instanceMethod yX0_carryOut, Cond.selects RX0 yX0_carryOut yX0_carryOut, Cond.code yX0_carryOut cX0_carryOut 4 (some .boolean), Cond.methodLink RX0 67 yX0_shipOrNull, Cond.instanceMethod yX0_shipOrNull, Cond.selects RX0 yX0_shipOrNull yX0_shipOrNull, Cond.code yX0_shipOrNull cX0_shipOrNull 2 (some (.object "MooringTree$Ship")), Cond.methodLink RX0 74 yX0_putToBerth, Cond.instanceMethod yX0_putToBerth, Cond.selects RX0 yX0_putToBerth yX0_putToBerth, Cond.code yX0_putToBerth cX0_putToBerth 3 (some .boolean), Cond.methodLink RX0 82 yX0_isTaken, Cond.instanceMethod yX0_isTaken, Cond.selects RX0 yX0_isTaken yX0_isTaken, Cond.code yX0_isTaken cX0_isTaken 6 (some .boolean), Cond.methodLink RX0 78 yX0_letLeave, Cond.instanceMethod yX0_letLeave, Cond.selects RX0 yX0_letLeave yX0_letLeave]
def wsX0_play_r3 : List Cond := [Cond.code yX0_letLeave cX0_letLeave 2 (some .boolean), Cond.static yX3_isBerth, Cond.initialized RX3, Cond.code yX3_isBerth cX3_isBerth 1 (some .boolean), Cond.methodLink RX0 63 yX0_earningInTurn, Cond.instanceMethod yX0_earningInTurn, Cond.selects RX0 yX0_earningInTurn yX0_earningInTurn, Cond.code yX0_earningInTurn cX0_earningInTurn 2 (some .int), Cond.fieldLink RX0 25 "MooringTree$Harbour" "price" "I", Cond.fieldLink RX0 21 "MooringTree$Harbour" "rates" "[I", Cond.fieldLink RX0 28 "MooringTree$Harbour" "fee" "I", Cond.instanceMethod yX2_unload, Cond.selects RX2 yX2_unload yX2_unload, Cond.code yX2_unload cX2_unload 3 (some .int), Cond.methodLink RX2 27 Lib.Math.min.name, Cond.static Lib.Math.min.name, Cond.initialized "java/lang/Math", Cond.code Lib.Math.min.name Lib.Math.min.code 2 (some .int)]
def wsX0_play : List Cond := .code yX0_play cX0_play 7 none :: ((wsX0_play_r1 ++ (wsX0_play_r2 ++ wsX0_play_r3)) ++ wsX00 ++ wsX20 ++ wsX10)
def wsX1_init : List Cond := .code yX1_init cX1_init 3 none :: ([.methodLink RX1 3 objectInit, .instanceMethod objectInit, .code objectInit ⟨#[0xb1]⟩ 1 none, .arrayClass .int, .fieldLink RX1 9 "MooringTree$Line" "orders" "[I", .fieldLink RX1 15 "MooringTree$Line" "ownTurns" "I", .fieldLink RX1 19 "MooringTree$Line" "aheadTurns" "I", .fieldLink RX1 22 "MooringTree$Line" "madeOf" "LMooringTree$Line;", .fieldLink RX1 26 "MooringTree$Line" "firstTurn" "I", .fieldLink RX1 29 "MooringTree$Line" "seen" "I"] ++ wsX10)
def wsX1_give : List Cond := .code yX1_give cX1_give 4 (some .boolean) :: ([.fieldLink RX1 22 "MooringTree$Line" "madeOf" "LMooringTree$Line;", .fieldLink RX1 29 "MooringTree$Line" "seen" "I", .fieldLink RX1 19 "MooringTree$Line" "aheadTurns" "I", .fieldLink RX1 15 "MooringTree$Line" "ownTurns" "I", .fieldLink RX1 9 "MooringTree$Line" "orders" "[I"] ++ wsX10)
def wsX1_drop : List Cond := .code yX1_drop cX1_drop 3 (some .boolean) :: ([.fieldLink RX1 15 "MooringTree$Line" "ownTurns" "I", .fieldLink RX1 19 "MooringTree$Line" "aheadTurns" "I", .methodLink RX1 32 yX1_hasOwn, .instanceMethod yX1_hasOwn, .selects RX1 yX1_hasOwn yX1_hasOwn, .initialized RX1, .code yX1_hasOwn cX1_hasOwn 2 (some .boolean)] ++ wsX10)
def wsX2_init : List Cond := .code yX2_init cX2_init 4 none :: ([.methodLink RX2 3 objectInit, .instanceMethod objectInit, .code objectInit ⟨#[0xb1]⟩ 1 none, .fieldLink RX2 9 "MooringTree$Ship" "place" "I", .fieldLink RX2 15 "MooringTree$Ship" "comes" "I", .fieldLink RX2 18 "MooringTree$Ship" "draught" "I", .fieldLink RX2 21 "MooringTree$Ship" "fullCargo" "I", .fieldLink RX2 24 "MooringTree$Ship" "left" "I"] ++ wsX20)
def wsX3_init_r1 : List Cond := [Cond.methodLink RX3 3 objectInit, Cond.instanceMethod objectInit, Cond.code objectInit ⟨#[0xb1]⟩ 1 none, Cond.classLink RX3 9 RX0, Cond.instantiable RX0 7, Cond.initialized RX0, Cond.fieldLink RX3 12 "MooringTree" "harbour" "LMooringTree$Harbour;", Cond.classLink RX3 16 RX1, Cond.instantiable RX1 6, Cond.initialized RX1, Cond.fieldLink RX3 21 "MooringTree" "teachers" "LMooringTree$Line;", Cond.fieldLink RX3 25 "MooringTree" "lines" "[LMooringTree$Line;", Cond.fieldLink RX3 29 "MooringTree" "forks" "I", Cond.instanceMethod yX0_init, Cond.code yX0_init cX0_init 1 none, Cond.methodLink RX0 3 objectInit, Cond.classLink RX0 9 RX2, Cond.fieldLink RX0 11 "MooringTree$Harbour" "ships" "[LMooringTree$Ship;", Cond.fieldLink RX0 17 "MooringTree$Harbour" "shipCount" "I", Cond.arrayClass .int, Cond.fieldLink RX0 21 "MooringTree$Harbour" "rates" "[I", Cond.fieldLink RX0 25 "MooringTree$Harbour" "price" "I", Cond.fieldLink RX0 28 "MooringTree$Harbour" "fee" "I", Cond.fieldLink RX0 31 "MooringTree$Harbour" "earned" "I"]
def wsX3_init_r2 : List Cond := [Cond.fieldLink RX0 34 "MooringTree$Harbour" "failedTurns" "I", Cond.instanceMethod yX1_init, Cond.code yX1_init cX1_init 3 none, Cond.methodLink RX1 3 objectInit, Cond.fieldLink RX1 9 "MooringTree$Line" "orders" "[I", Cond.fieldLink RX1 15 "MooringTree$Line" "ownTurns" "I", Cond.fieldLink RX1 19 "MooringTree$Line" "aheadTurns" "I", Cond.fieldLink RX1 22 "MooringTree$Line" "madeOf" "LMooringTree$Line;", Cond.fieldLink RX1 26 "MooringTree$Line" "firstTurn" "I", Cond.fieldLink RX1 29 "MooringTree$Line" "seen" "I"]
def wsX3_init : List Cond := .code yX3_init cX3_init 1 none :: ((wsX3_init_r1 ++ wsX3_init_r2) ++ wsX00 ++ wsX30 ++ wsX10)
def wsX3_isTurn : List Cond := .code yX3_isTurn cX3_isTurn 1 (some .boolean) :: ([])
def wsX3_addShip_r1 : List Cond := [Cond.classLink RX3 37 "java/lang/IllegalArgumentException", Cond.initialized "java/lang/IllegalArgumentException", Cond.classLink RX3 51 "java/lang/IllegalStateException", Cond.initialized "java/lang/IllegalStateException", Cond.fieldLink RX3 12 "MooringTree" "harbour" "LMooringTree$Harbour;", Cond.classLink RX3 56 RX2, Cond.instantiable RX2 5, Cond.initialized RX2, Cond.methodLink RX3 33 yX3_isTurn, Cond.static yX3_isTurn, Cond.initialized RX3, Cond.code yX3_isTurn cX3_isTurn 1 (some .boolean), Cond.instanceMethod yX2_init, Cond.code yX2_init cX2_init 4 none, Cond.methodLink RX2 3 objectInit, Cond.instanceMethod objectInit, Cond.code objectInit ⟨#[0xb1]⟩ 1 none, Cond.fieldLink RX2 9 "MooringTree$Ship" "place" "I", Cond.fieldLink RX2 15 "MooringTree$Ship" "comes" "I", Cond.fieldLink RX2 18 "MooringTree$Ship" "draught" "I", Cond.fieldLink RX2 21 "MooringTree$Ship" "fullCargo" "I", Cond.fieldLink RX2 24 "MooringTree$Ship" "left" "I", Cond.instanceMethod yX0_admit, Cond.initialized RX0]
def wsX3_addShip_r2 : List Cond := [Cond.selects RX0 yX0_admit yX0_admit, Cond.code yX0_admit cX0_admit 3 (some .int), Cond.fieldLink RX0 17 "MooringTree$Harbour" "shipCount" "I", Cond.fieldLink RX0 11 "MooringTree$Harbour" "ships" "[LMooringTree$Ship;"]
def wsX3_addShip : List Cond := .code yX3_addShip cX3_addShip 4 (some .int) :: ((wsX3_addShip_r1 ++ wsX3_addShip_r2) ++ wsX30 ++ wsX00 ++ wsX20 ++ (vx_atS RX3 41 "java/lang/IllegalArgumentException" ["java/lang/RuntimeException", "java/lang/Exception"]).filter goodWord ++ (vx_atS RX3 55 "java/lang/IllegalStateException" ["java/lang/RuntimeException", "java/lang/Exception"]).filter goodWord)
def wsX3_checkBerth : List Cond := .code yX3_checkBerth cX3_checkBerth 1 none :: ([.classLink RX3 161 "java/lang/IndexOutOfBoundsException", .initialized "java/lang/IndexOutOfBoundsException", .methodLink RX3 173 yX3_isBerth, .static yX3_isBerth, .initialized RX3, .code yX3_isBerth cX3_isBerth 1 (some .boolean)] ++ (vx_atS RX3 165 "java/lang/IndexOutOfBoundsException" ["java/lang/RuntimeException", "java/lang/Exception"]).filter goodWord)
def wsX3_setRate : List Cond := .code yX3_setRate cX3_setRate 4 (some .int) :: ([.classLink RX3 37 "java/lang/IllegalArgumentException", .initialized "java/lang/IllegalArgumentException", .fieldLink RX3 12 "MooringTree" "harbour" "LMooringTree$Harbour;", .methodLink RX3 65 yX3_checkBerth, .static yX3_checkBerth, .initialized RX3, .code yX3_checkBerth cX3_checkBerth 1 none, .classLink RX3 161 "java/lang/IndexOutOfBoundsException", .initialized "java/lang/IndexOutOfBoundsException", .methodLink RX3 173 yX3_isBerth, .static yX3_isBerth, .code yX3_isBerth cX3_isBerth 1 (some .boolean)] ++ wsX30 ++ wsX00 ++ (vx_atS RX3 41 "java/lang/IllegalArgumentException" ["java/lang/RuntimeException", "java/lang/Exception"]).filter goodWord ++ (vx_atS RX3 165 "java/lang/IndexOutOfBoundsException" ["java/lang/RuntimeException", "java/lang/Exception"]).filter goodWord)
def wsX3_setRules : List Cond := .code yX3_setRules cX3_setRules 3 none :: ([.classLink RX3 37 "java/lang/IllegalArgumentException", .initialized "java/lang/IllegalArgumentException", .fieldLink RX3 12 "MooringTree" "harbour" "LMooringTree$Harbour;"] ++ wsX30 ++ wsX00 ++ (vx_atS RX3 41 "java/lang/IllegalArgumentException" ["java/lang/RuntimeException", "java/lang/Exception"]).filter goodWord)
def wsX3_lineNumbered : List Cond := .code yX3_lineNumbered cX3_lineNumbered 3 (some (.object "MooringTree$Line")) :: ([.classLink RX3 161 "java/lang/IndexOutOfBoundsException", .initialized "java/lang/IndexOutOfBoundsException", .fieldLink RX3 25 "MooringTree" "lines" "[LMooringTree$Line;"] ++ wsX30 ++ (vx_atS RX3 165 "java/lang/IndexOutOfBoundsException" ["java/lang/RuntimeException", "java/lang/Exception"]).filter goodWord)
def wsX3_checkTurn : List Cond := .code yX3_checkTurn cX3_checkTurn 1 none :: ([.classLink RX3 161 "java/lang/IndexOutOfBoundsException", .initialized "java/lang/IndexOutOfBoundsException", .methodLink RX3 33 yX3_isTurn, .static yX3_isTurn, .initialized RX3, .code yX3_isTurn cX3_isTurn 1 (some .boolean)] ++ (vx_atS RX3 165 "java/lang/IndexOutOfBoundsException" ["java/lang/RuntimeException", "java/lang/Exception"]).filter goodWord)
def wsX3_fork_r1 : List Cond := [Cond.classLink RX3 51 "java/lang/IllegalStateException", Cond.initialized "java/lang/IllegalStateException", Cond.fieldLink RX3 29 "MooringTree" "forks" "I", Cond.fieldLink RX3 25 "MooringTree" "lines" "[LMooringTree$Line;", Cond.classLink RX3 16 RX1, Cond.instantiable RX1 6, Cond.initialized RX1, Cond.methodLink RX3 85 yX3_lineNumbered, Cond.instanceMethod yX3_lineNumbered, Cond.selects RX3 yX3_lineNumbered yX3_lineNumbered, Cond.initialized RX3, Cond.code yX3_lineNumbered cX3_lineNumbered 3 (some (.object "MooringTree$Line")), Cond.classLink RX3 161 "java/lang/IndexOutOfBoundsException", Cond.initialized "java/lang/IndexOutOfBoundsException", Cond.methodLink RX3 89 yX3_checkTurn, Cond.static yX3_checkTurn, Cond.code yX3_checkTurn cX3_checkTurn 1 none, Cond.methodLink RX3 33 yX3_isTurn, Cond.static yX3_isTurn, Cond.code yX3_isTurn cX3_isTurn 1 (some .boolean), Cond.instanceMethod yX1_init, Cond.code yX1_init cX1_init 3 none, Cond.methodLink RX1 3 objectInit, Cond.instanceMethod objectInit]
def wsX3_fork_r2 : List Cond := [Cond.code objectInit ⟨#[0xb1]⟩ 1 none, Cond.arrayClass .int, Cond.fieldLink RX1 9 "MooringTree$Line" "orders" "[I", Cond.fieldLink RX1 15 "MooringTree$Line" "ownTurns" "I", Cond.fieldLink RX1 19 "MooringTree$Line" "aheadTurns" "I", Cond.fieldLink RX1 22 "MooringTree$Line" "madeOf" "LMooringTree$Line;", Cond.fieldLink RX1 26 "MooringTree$Line" "firstTurn" "I", Cond.fieldLink RX1 29 "MooringTree$Line" "seen" "I"]
def wsX3_fork : List Cond := .code yX3_fork cX3_fork 4 (some .int) :: ((wsX3_fork_r1 ++ wsX3_fork_r2) ++ wsX30 ++ wsX10 ++ (vx_atS RX3 55 "java/lang/IllegalStateException" ["java/lang/RuntimeException", "java/lang/Exception"]).filter goodWord ++ (vx_atS RX3 165 "java/lang/IndexOutOfBoundsException" ["java/lang/RuntimeException", "java/lang/Exception"]).filter goodWord)
def wsX3_shipNumbered : List Cond := .code yX3_shipNumbered cX3_shipNumbered 3 (some (.object "MooringTree$Ship")) :: ([.classLink RX3 161 "java/lang/IndexOutOfBoundsException", .initialized "java/lang/IndexOutOfBoundsException", .fieldLink RX3 12 "MooringTree" "harbour" "LMooringTree$Harbour;", .instanceMethod yX0_shipOrNull, .initialized RX0, .selects RX0 yX0_shipOrNull yX0_shipOrNull, .code yX0_shipOrNull cX0_shipOrNull 2 (some (.object "MooringTree$Ship")), .fieldLink RX0 11 "MooringTree$Harbour" "ships" "[LMooringTree$Ship;"] ++ wsX30 ++ wsX00 ++ (vx_atS RX3 165 "java/lang/IndexOutOfBoundsException" ["java/lang/RuntimeException", "java/lang/Exception"]).filter goodWord)
def wsX3_codeOf : List Cond := .code yX3_codeOf cX3_codeOf 3 (some .int) :: ([])
def wsX3_order_r1 : List Cond := [Cond.classLink RX3 37 "java/lang/IllegalArgumentException", Cond.initialized "java/lang/IllegalArgumentException", Cond.classLink RX3 51 "java/lang/IllegalStateException", Cond.initialized "java/lang/IllegalStateException", Cond.methodLink RX3 85 yX3_lineNumbered, Cond.instanceMethod yX3_lineNumbered, Cond.selects RX3 yX3_lineNumbered yX3_lineNumbered, Cond.initialized RX3, Cond.code yX3_lineNumbered cX3_lineNumbered 3 (some (.object "MooringTree$Line")), Cond.classLink RX3 161 "java/lang/IndexOutOfBoundsException", Cond.initialized "java/lang/IndexOutOfBoundsException", Cond.fieldLink RX3 25 "MooringTree" "lines" "[LMooringTree$Line;", Cond.methodLink RX3 89 yX3_checkTurn, Cond.static yX3_checkTurn, Cond.code yX3_checkTurn cX3_checkTurn 1 none, Cond.methodLink RX3 33 yX3_isTurn, Cond.static yX3_isTurn, Cond.code yX3_isTurn cX3_isTurn 1 (some .boolean), Cond.methodLink RX3 94 yX3_shipNumbered, Cond.instanceMethod yX3_shipNumbered, Cond.selects RX3 yX3_shipNumbered yX3_shipNumbered, Cond.code yX3_shipNumbered cX3_shipNumbered 3 (some (.object "MooringTree$Ship")), Cond.fieldLink RX3 12 "MooringTree" "harbour" "LMooringTree$Harbour;", Cond.instanceMethod yX0_shipOrNull]
def wsX3_order_r2 : List Cond := [Cond.initialized RX0, Cond.selects RX0 yX0_shipOrNull yX0_shipOrNull, Cond.code yX0_shipOrNull cX0_shipOrNull 2 (some (.object "MooringTree$Ship")), Cond.fieldLink RX0 11 "MooringTree$Harbour" "ships" "[LMooringTree$Ship;", Cond.methodLink RX3 65 yX3_checkBerth, Cond.static yX3_checkBerth, Cond.code yX3_checkBerth cX3_checkBerth 1 none, Cond.methodLink RX3 173 yX3_isBerth, Cond.static yX3_isBerth, Cond.code yX3_isBerth cX3_isBerth 1 (some .boolean), Cond.methodLink RX3 105 yX3_codeOf, Cond.static yX3_codeOf, Cond.code yX3_codeOf cX3_codeOf 3 (some .int), Cond.instanceMethod yX1_give, Cond.initialized RX1, Cond.selects RX1 yX1_give yX1_give, Cond.code yX1_give cX1_give 4 (some .boolean), Cond.fieldLink RX1 22 "MooringTree$Line" "madeOf" "LMooringTree$Line;", Cond.fieldLink RX1 29 "MooringTree$Line" "seen" "I", Cond.fieldLink RX1 19 "MooringTree$Line" "aheadTurns" "I", Cond.fieldLink RX1 15 "MooringTree$Line" "ownTurns" "I", Cond.fieldLink RX1 9 "MooringTree$Line" "orders" "[I"]
def wsX3_order : List Cond := .code yX3_order cX3_order 7 (some .boolean) :: ((wsX3_order_r1 ++ wsX3_order_r2) ++ wsX10 ++ wsX30 ++ wsX00 ++ (vx_atS RX3 41 "java/lang/IllegalArgumentException" ["java/lang/RuntimeException", "java/lang/Exception"]).filter goodWord ++ (vx_atS RX3 55 "java/lang/IllegalStateException" ["java/lang/RuntimeException", "java/lang/Exception"]).filter goodWord ++ (vx_atS RX3 165 "java/lang/IndexOutOfBoundsException" ["java/lang/RuntimeException", "java/lang/Exception"]).filter goodWord)
def wsX3_takeAway : List Cond := .code yX3_takeAway cX3_takeAway 4 (some .boolean) :: ([.methodLink RX3 85 yX3_lineNumbered, .instanceMethod yX3_lineNumbered, .selects RX3 yX3_lineNumbered yX3_lineNumbered, .initialized RX3, .code yX3_lineNumbered cX3_lineNumbered 3 (some (.object "MooringTree$Line")), .classLink RX3 161 "java/lang/IndexOutOfBoundsException", .initialized "java/lang/IndexOutOfBoundsException", .fieldLink RX3 25 "MooringTree" "lines" "[LMooringTree$Line;", .methodLink RX3 89 yX3_checkTurn, .static yX3_checkTurn, .code yX3_checkTurn cX3_checkTurn 1 none, .methodLink RX3 33 yX3_isTurn, .static yX3_isTurn, .code yX3_isTurn cX3_isTurn 1 (some .boolean), .instanceMethod yX1_drop, .initialized RX1, .selects RX1 yX1_drop yX1_drop, .code yX1_drop cX1_drop 3 (some .boolean), .fieldLink RX1 15 "MooringTree$Line" "ownTurns" "I", .fieldLink RX1 19 "MooringTree$Line" "aheadTurns" "I", .methodLink RX1 32 yX1_hasOwn, .instanceMethod yX1_hasOwn, .selects RX1 yX1_hasOwn yX1_hasOwn, .code yX1_hasOwn cX1_hasOwn 2 (some .boolean)] ++ wsX30 ++ wsX10 ++ (vx_atS RX3 165 "java/lang/IndexOutOfBoundsException" ["java/lang/RuntimeException", "java/lang/Exception"]).filter goodWord)
def wsX3_orderOf_r1 : List Cond := [Cond.methodLink RX3 85 yX3_lineNumbered, Cond.instanceMethod yX3_lineNumbered, Cond.selects RX3 yX3_lineNumbered yX3_lineNumbered, Cond.initialized RX3, Cond.code yX3_lineNumbered cX3_lineNumbered 3 (some (.object "MooringTree$Line")), Cond.classLink RX3 161 "java/lang/IndexOutOfBoundsException", Cond.initialized "java/lang/IndexOutOfBoundsException", Cond.fieldLink RX3 25 "MooringTree" "lines" "[LMooringTree$Line;", Cond.methodLink RX3 89 yX3_checkTurn, Cond.static yX3_checkTurn, Cond.code yX3_checkTurn cX3_checkTurn 1 none, Cond.methodLink RX3 33 yX3_isTurn, Cond.static yX3_isTurn, Cond.code yX3_isTurn cX3_isTurn 1 (some .boolean), Cond.instanceMethod yX1_orderFor, Cond.initialized RX1, Cond.selects RX1 yX1_orderFor yX1_orderFor, Cond.code yX1_orderFor cX1_orderFor 3 (some .int), Cond.fieldLink RX1 9 "MooringTree$Line" "orders" "[I", Cond.fieldLink RX1 22 "MooringTree$Line" "madeOf" "LMooringTree$Line;", Cond.methodLink RX1 32 yX1_hasOwn, Cond.instanceMethod yX1_hasOwn, Cond.selects RX1 yX1_hasOwn yX1_hasOwn, Cond.code yX1_hasOwn cX1_hasOwn 2 (some .boolean)]
def wsX3_orderOf_r2 : List Cond := [Cond.fieldLink RX1 15 "MooringTree$Line" "ownTurns" "I"]
def wsX3_orderOf : List Cond := .code yX3_orderOf cX3_orderOf 4 (some .int) :: ((wsX3_orderOf_r1 ++ wsX3_orderOf_r2) ++ wsX30 ++ wsX10 ++ (vx_atS RX3 165 "java/lang/IndexOutOfBoundsException" ["java/lang/RuntimeException", "java/lang/Exception"]).filter goodWord)
def wsX3_differences : List Cond := .code yX3_differences cX3_differences 7 (some .int) :: ([.methodLink RX3 85 yX3_lineNumbered, .instanceMethod yX3_lineNumbered, .selects RX3 yX3_lineNumbered yX3_lineNumbered, .initialized RX3, .code yX3_lineNumbered cX3_lineNumbered 3 (some (.object "MooringTree$Line")), .classLink RX3 161 "java/lang/IndexOutOfBoundsException", .initialized "java/lang/IndexOutOfBoundsException", .fieldLink RX3 25 "MooringTree" "lines" "[LMooringTree$Line;", .instanceMethod yX1_orderFor, .initialized RX1, .selects RX1 yX1_orderFor yX1_orderFor, .code yX1_orderFor cX1_orderFor 3 (some .int), .fieldLink RX1 9 "MooringTree$Line" "orders" "[I", .fieldLink RX1 22 "MooringTree$Line" "madeOf" "LMooringTree$Line;", .methodLink RX1 32 yX1_hasOwn, .instanceMethod yX1_hasOwn, .selects RX1 yX1_hasOwn yX1_hasOwn, .code yX1_hasOwn cX1_hasOwn 2 (some .boolean), .fieldLink RX1 15 "MooringTree$Line" "ownTurns" "I"] ++ wsX30 ++ wsX10 ++ (vx_atS RX3 165 "java/lang/IndexOutOfBoundsException" ["java/lang/RuntimeException", "java/lang/Exception"]).filter goodWord)
def wsX3_shipBehind_r1 : List Cond := [Cond.fieldLink RX3 12 "MooringTree" "harbour" "LMooringTree$Harbour;", Cond.methodLink RX3 85 yX3_lineNumbered, Cond.instanceMethod yX3_lineNumbered, Cond.selects RX3 yX3_lineNumbered yX3_lineNumbered, Cond.initialized RX3, Cond.code yX3_lineNumbered cX3_lineNumbered 3 (some (.object "MooringTree$Line")), Cond.classLink RX3 161 "java/lang/IndexOutOfBoundsException", Cond.initialized "java/lang/IndexOutOfBoundsException", Cond.fieldLink RX3 25 "MooringTree" "lines" "[LMooringTree$Line;", Cond.methodLink RX3 94 yX3_shipNumbered, Cond.instanceMethod yX3_shipNumbered, Cond.selects RX3 yX3_shipNumbered yX3_shipNumbered, Cond.code yX3_shipNumbered cX3_shipNumbered 3 (some (.object "MooringTree$Ship")), Cond.instanceMethod yX0_shipOrNull, Cond.initialized RX0, Cond.selects RX0 yX0_shipOrNull yX0_shipOrNull, Cond.code yX0_shipOrNull cX0_shipOrNull 2 (some (.object "MooringTree$Ship")), Cond.fieldLink RX0 11 "MooringTree$Harbour" "ships" "[LMooringTree$Ship;", Cond.methodLink RX3 89 yX3_checkTurn, Cond.static yX3_checkTurn, Cond.code yX3_checkTurn cX3_checkTurn 1 none, Cond.methodLink RX3 33 yX3_isTurn, Cond.static yX3_isTurn, Cond.code yX3_isTurn cX3_isTurn 1 (some .boolean)]
def wsX3_shipBehind_r2 : List Cond := [Cond.instanceMethod yX0_play, Cond.selects RX0 yX0_play yX0_play, Cond.code yX0_play cX0_play 7 none, Cond.fieldLink RX0 31 "MooringTree$Harbour" "earned" "I", Cond.fieldLink RX0 34 "MooringTree$Harbour" "failedTurns" "I", Cond.instanceMethod yX2_startAfresh, Cond.initialized RX2, Cond.selects RX2 yX2_startAfresh yX2_startAfresh, Cond.code yX2_startAfresh cX2_startAfresh 1 none, Cond.fieldLink RX2 9 "MooringTree$Ship" "place" "I", Cond.fieldLink RX2 21 "MooringTree$Ship" "fullCargo" "I", Cond.fieldLink RX2 24 "MooringTree$Ship" "left" "I", Cond.instanceMethod yX1_orderFor, Cond.initialized RX1, Cond.selects RX1 yX1_orderFor yX1_orderFor, Cond.code yX1_orderFor cX1_orderFor 3 (some .int), Cond.fieldLink RX1 9 "MooringTree$Line" "orders" "[I", Cond.fieldLink RX1 22 "MooringTree$Line" "madeOf" "LMooringTree$Line;", Cond.methodLink RX1 32 yX1_hasOwn, Cond.instanceMethod yX1_hasOwn, Cond.selects RX1 yX1_hasOwn yX1_hasOwn, Cond.code yX1_hasOwn cX1_hasOwn 2 (some .boolean), Cond.fieldLink RX1 15 "MooringTree$Line" "ownTurns" "I", Cond.methodLink RX0 46 yX0_passTurn]
def wsX3_shipBehind_r3 : List Cond := [Cond.instanceMethod yX0_passTurn, Cond.selects RX0 yX0_passTurn yX0_passTurn, Cond.code yX0_passTurn cX0_passTurn 7 none, Cond.methodLink RX0 56 yX0_tideOf, Cond.static yX0_tideOf, Cond.code yX0_tideOf cX0_tideOf 2 (some .int), Cond.methodLink RX0 59 yX0_carryOut, Cond.instanceMethod yX0_carryOut, Cond.selects RX0 yX0_carryOut yX0_carryOut, Cond.code yX0_carryOut cX0_carryOut 4 (some .boolean), Cond.methodLink RX0 67 yX0_shipOrNull, Cond.methodLink RX0 74 yX0_putToBerth, Cond.instanceMethod yX0_putToBerth, Cond.selects RX0 yX0_putToBerth yX0_putToBerth, Cond.code yX0_putToBerth cX0_putToBerth 3 (some .boolean), Cond.methodLink RX0 82 yX0_isTaken, Cond.instanceMethod yX0_isTaken, Cond.selects RX0 yX0_isTaken yX0_isTaken, Cond.code yX0_isTaken cX0_isTaken 6 (some .boolean), Cond.methodLink RX0 78 yX0_letLeave, Cond.instanceMethod yX0_letLeave, Cond.selects RX0 yX0_letLeave yX0_letLeave, Cond.code yX0_letLeave cX0_letLeave 2 (some .boolean), Cond.static yX3_isBerth]
def wsX3_shipBehind_r4 : List Cond := [Cond.code yX3_isBerth cX3_isBerth 1 (some .boolean), Cond.methodLink RX0 63 yX0_earningInTurn, Cond.instanceMethod yX0_earningInTurn, Cond.selects RX0 yX0_earningInTurn yX0_earningInTurn, Cond.code yX0_earningInTurn cX0_earningInTurn 2 (some .int), Cond.fieldLink RX0 25 "MooringTree$Harbour" "price" "I", Cond.fieldLink RX0 21 "MooringTree$Harbour" "rates" "[I", Cond.fieldLink RX0 28 "MooringTree$Harbour" "fee" "I", Cond.instanceMethod yX2_unload, Cond.selects RX2 yX2_unload yX2_unload, Cond.code yX2_unload cX2_unload 3 (some .int), Cond.methodLink RX2 27 Lib.Math.min.name, Cond.static Lib.Math.min.name, Cond.initialized "java/lang/Math", Cond.code Lib.Math.min.name Lib.Math.min.code 2 (some .int)]
def wsX3_shipBehind : List Cond := .code yX3_shipBehind cX3_shipBehind 6 (some (.object "MooringTree$Ship")) :: ((wsX3_shipBehind_r1 ++ (wsX3_shipBehind_r2 ++ (wsX3_shipBehind_r3 ++ wsX3_shipBehind_r4))) ++ wsX30 ++ wsX00 ++ wsX20 ++ wsX10 ++ (vx_atS RX3 165 "java/lang/IndexOutOfBoundsException" ["java/lang/RuntimeException", "java/lang/Exception"]).filter goodWord)
def wsX3_where_r1 : List Cond := [Cond.methodLink RX3 120 yX3_shipBehind, Cond.instanceMethod yX3_shipBehind, Cond.selects RX3 yX3_shipBehind yX3_shipBehind, Cond.initialized RX3, Cond.code yX3_shipBehind cX3_shipBehind 6 (some (.object "MooringTree$Ship")), Cond.fieldLink RX3 12 "MooringTree" "harbour" "LMooringTree$Harbour;", Cond.methodLink RX3 85 yX3_lineNumbered, Cond.instanceMethod yX3_lineNumbered, Cond.selects RX3 yX3_lineNumbered yX3_lineNumbered, Cond.code yX3_lineNumbered cX3_lineNumbered 3 (some (.object "MooringTree$Line")), Cond.classLink RX3 161 "java/lang/IndexOutOfBoundsException", Cond.initialized "java/lang/IndexOutOfBoundsException", Cond.fieldLink RX3 25 "MooringTree" "lines" "[LMooringTree$Line;", Cond.methodLink RX3 94 yX3_shipNumbered, Cond.instanceMethod yX3_shipNumbered, Cond.selects RX3 yX3_shipNumbered yX3_shipNumbered, Cond.code yX3_shipNumbered cX3_shipNumbered 3 (some (.object "MooringTree$Ship")), Cond.instanceMethod yX0_shipOrNull, Cond.initialized RX0, Cond.selects RX0 yX0_shipOrNull yX0_shipOrNull, Cond.code yX0_shipOrNull cX0_shipOrNull 2 (some (.object "MooringTree$Ship")), Cond.fieldLink RX0 11 "MooringTree$Harbour" "ships" "[LMooringTree$Ship;", Cond.methodLink RX3 89 yX3_checkTurn, Cond.static yX3_checkTurn]
def wsX3_where_r2 : List Cond := [Cond.code yX3_checkTurn cX3_checkTurn 1 none, Cond.methodLink RX3 33 yX3_isTurn, Cond.static yX3_isTurn, Cond.code yX3_isTurn cX3_isTurn 1 (some .boolean), Cond.instanceMethod yX0_play, Cond.selects RX0 yX0_play yX0_play, Cond.code yX0_play cX0_play 7 none, Cond.fieldLink RX0 31 "MooringTree$Harbour" "earned" "I", Cond.fieldLink RX0 34 "MooringTree$Harbour" "failedTurns" "I", Cond.instanceMethod yX2_startAfresh, Cond.initialized RX2, Cond.selects RX2 yX2_startAfresh yX2_startAfresh, Cond.code yX2_startAfresh cX2_startAfresh 1 none, Cond.fieldLink RX2 9 "MooringTree$Ship" "place" "I", Cond.fieldLink RX2 21 "MooringTree$Ship" "fullCargo" "I", Cond.fieldLink RX2 24 "MooringTree$Ship" "left" "I", Cond.instanceMethod yX1_orderFor, Cond.initialized RX1, Cond.selects RX1 yX1_orderFor yX1_orderFor, Cond.code yX1_orderFor cX1_orderFor 3 (some .int), Cond.fieldLink RX1 9 "MooringTree$Line" "orders" "[I", Cond.fieldLink RX1 22 "MooringTree$Line" "madeOf" "LMooringTree$Line;", Cond.methodLink RX1 32 yX1_hasOwn, Cond.instanceMethod yX1_hasOwn]
def wsX3_where_r3 : List Cond := [Cond.selects RX1 yX1_hasOwn yX1_hasOwn, Cond.code yX1_hasOwn cX1_hasOwn 2 (some .boolean), Cond.fieldLink RX1 15 "MooringTree$Line" "ownTurns" "I", Cond.methodLink RX0 46 yX0_passTurn, Cond.instanceMethod yX0_passTurn, Cond.selects RX0 yX0_passTurn yX0_passTurn, Cond.code yX0_passTurn cX0_passTurn 7 none, Cond.methodLink RX0 56 yX0_tideOf, Cond.static yX0_tideOf, Cond.code yX0_tideOf cX0_tideOf 2 (some .int), Cond.methodLink RX0 59 yX0_carryOut, Cond.instanceMethod yX0_carryOut, Cond.selects RX0 yX0_carryOut yX0_carryOut, Cond.code yX0_carryOut cX0_carryOut 4 (some .boolean), Cond.methodLink RX0 67 yX0_shipOrNull, Cond.methodLink RX0 74 yX0_putToBerth, Cond.instanceMethod yX0_putToBerth, Cond.selects RX0 yX0_putToBerth yX0_putToBerth, Cond.code yX0_putToBerth cX0_putToBerth 3 (some .boolean), Cond.methodLink RX0 82 yX0_isTaken, Cond.instanceMethod yX0_isTaken, Cond.selects RX0 yX0_isTaken yX0_isTaken, Cond.code yX0_isTaken cX0_isTaken 6 (some .boolean), Cond.methodLink RX0 78 yX0_letLeave]
def wsX3_where_r4 : List Cond := [Cond.instanceMethod yX0_letLeave, Cond.selects RX0 yX0_letLeave yX0_letLeave, Cond.code yX0_letLeave cX0_letLeave 2 (some .boolean), Cond.static yX3_isBerth, Cond.code yX3_isBerth cX3_isBerth 1 (some .boolean), Cond.methodLink RX0 63 yX0_earningInTurn, Cond.instanceMethod yX0_earningInTurn, Cond.selects RX0 yX0_earningInTurn yX0_earningInTurn, Cond.code yX0_earningInTurn cX0_earningInTurn 2 (some .int), Cond.fieldLink RX0 25 "MooringTree$Harbour" "price" "I", Cond.fieldLink RX0 21 "MooringTree$Harbour" "rates" "[I", Cond.fieldLink RX0 28 "MooringTree$Harbour" "fee" "I", Cond.instanceMethod yX2_unload, Cond.selects RX2 yX2_unload yX2_unload, Cond.code yX2_unload cX2_unload 3 (some .int), Cond.methodLink RX2 27 Lib.Math.min.name, Cond.static Lib.Math.min.name, Cond.initialized "java/lang/Math", Cond.code Lib.Math.min.name Lib.Math.min.code 2 (some .int)]
def wsX3_where : List Cond := .code yX3_where cX3_where 4 (some .int) :: ((wsX3_where_r1 ++ (wsX3_where_r2 ++ (wsX3_where_r3 ++ wsX3_where_r4))) ++ wsX20 ++ wsX30 ++ wsX00 ++ wsX10 ++ (vx_atS RX3 165 "java/lang/IndexOutOfBoundsException" ["java/lang/RuntimeException", "java/lang/Exception"]).filter goodWord)
def wsX3_cargo_r1 : List Cond := [Cond.methodLink RX3 120 yX3_shipBehind, Cond.instanceMethod yX3_shipBehind, Cond.selects RX3 yX3_shipBehind yX3_shipBehind, Cond.initialized RX3, Cond.code yX3_shipBehind cX3_shipBehind 6 (some (.object "MooringTree$Ship")), Cond.fieldLink RX3 12 "MooringTree" "harbour" "LMooringTree$Harbour;", Cond.methodLink RX3 85 yX3_lineNumbered, Cond.instanceMethod yX3_lineNumbered, Cond.selects RX3 yX3_lineNumbered yX3_lineNumbered, Cond.code yX3_lineNumbered cX3_lineNumbered 3 (some (.object "MooringTree$Line")), Cond.classLink RX3 161 "java/lang/IndexOutOfBoundsException", Cond.initialized "java/lang/IndexOutOfBoundsException", Cond.fieldLink RX3 25 "MooringTree" "lines" "[LMooringTree$Line;", Cond.methodLink RX3 94 yX3_shipNumbered, Cond.instanceMethod yX3_shipNumbered, Cond.selects RX3 yX3_shipNumbered yX3_shipNumbered, Cond.code yX3_shipNumbered cX3_shipNumbered 3 (some (.object "MooringTree$Ship")), Cond.instanceMethod yX0_shipOrNull, Cond.initialized RX0, Cond.selects RX0 yX0_shipOrNull yX0_shipOrNull, Cond.code yX0_shipOrNull cX0_shipOrNull 2 (some (.object "MooringTree$Ship")), Cond.fieldLink RX0 11 "MooringTree$Harbour" "ships" "[LMooringTree$Ship;", Cond.methodLink RX3 89 yX3_checkTurn, Cond.static yX3_checkTurn]
def wsX3_cargo_r2 : List Cond := [Cond.code yX3_checkTurn cX3_checkTurn 1 none, Cond.methodLink RX3 33 yX3_isTurn, Cond.static yX3_isTurn, Cond.code yX3_isTurn cX3_isTurn 1 (some .boolean), Cond.instanceMethod yX0_play, Cond.selects RX0 yX0_play yX0_play, Cond.code yX0_play cX0_play 7 none, Cond.fieldLink RX0 31 "MooringTree$Harbour" "earned" "I", Cond.fieldLink RX0 34 "MooringTree$Harbour" "failedTurns" "I", Cond.instanceMethod yX2_startAfresh, Cond.initialized RX2, Cond.selects RX2 yX2_startAfresh yX2_startAfresh, Cond.code yX2_startAfresh cX2_startAfresh 1 none, Cond.fieldLink RX2 9 "MooringTree$Ship" "place" "I", Cond.fieldLink RX2 21 "MooringTree$Ship" "fullCargo" "I", Cond.fieldLink RX2 24 "MooringTree$Ship" "left" "I", Cond.instanceMethod yX1_orderFor, Cond.initialized RX1, Cond.selects RX1 yX1_orderFor yX1_orderFor, Cond.code yX1_orderFor cX1_orderFor 3 (some .int), Cond.fieldLink RX1 9 "MooringTree$Line" "orders" "[I", Cond.fieldLink RX1 22 "MooringTree$Line" "madeOf" "LMooringTree$Line;", Cond.methodLink RX1 32 yX1_hasOwn, Cond.instanceMethod yX1_hasOwn]
def wsX3_cargo_r3 : List Cond := [Cond.selects RX1 yX1_hasOwn yX1_hasOwn, Cond.code yX1_hasOwn cX1_hasOwn 2 (some .boolean), Cond.fieldLink RX1 15 "MooringTree$Line" "ownTurns" "I", Cond.methodLink RX0 46 yX0_passTurn, Cond.instanceMethod yX0_passTurn, Cond.selects RX0 yX0_passTurn yX0_passTurn, Cond.code yX0_passTurn cX0_passTurn 7 none, Cond.methodLink RX0 56 yX0_tideOf, Cond.static yX0_tideOf, Cond.code yX0_tideOf cX0_tideOf 2 (some .int), Cond.methodLink RX0 59 yX0_carryOut, Cond.instanceMethod yX0_carryOut, Cond.selects RX0 yX0_carryOut yX0_carryOut, Cond.code yX0_carryOut cX0_carryOut 4 (some .boolean), Cond.methodLink RX0 67 yX0_shipOrNull, Cond.methodLink RX0 74 yX0_putToBerth, Cond.instanceMethod yX0_putToBerth, Cond.selects RX0 yX0_putToBerth yX0_putToBerth, Cond.code yX0_putToBerth cX0_putToBerth 3 (some .boolean), Cond.methodLink RX0 82 yX0_isTaken, Cond.instanceMethod yX0_isTaken, Cond.selects RX0 yX0_isTaken yX0_isTaken, Cond.code yX0_isTaken cX0_isTaken 6 (some .boolean), Cond.methodLink RX0 78 yX0_letLeave]
def wsX3_cargo_r4 : List Cond := [Cond.instanceMethod yX0_letLeave, Cond.selects RX0 yX0_letLeave yX0_letLeave, Cond.code yX0_letLeave cX0_letLeave 2 (some .boolean), Cond.static yX3_isBerth, Cond.code yX3_isBerth cX3_isBerth 1 (some .boolean), Cond.methodLink RX0 63 yX0_earningInTurn, Cond.instanceMethod yX0_earningInTurn, Cond.selects RX0 yX0_earningInTurn yX0_earningInTurn, Cond.code yX0_earningInTurn cX0_earningInTurn 2 (some .int), Cond.fieldLink RX0 25 "MooringTree$Harbour" "price" "I", Cond.fieldLink RX0 21 "MooringTree$Harbour" "rates" "[I", Cond.fieldLink RX0 28 "MooringTree$Harbour" "fee" "I", Cond.instanceMethod yX2_unload, Cond.selects RX2 yX2_unload yX2_unload, Cond.code yX2_unload cX2_unload 3 (some .int), Cond.methodLink RX2 27 Lib.Math.min.name, Cond.static Lib.Math.min.name, Cond.initialized "java/lang/Math", Cond.code Lib.Math.min.name Lib.Math.min.code 2 (some .int)]
def wsX3_cargo : List Cond := .code yX3_cargo cX3_cargo 4 (some .int) :: ((wsX3_cargo_r1 ++ (wsX3_cargo_r2 ++ (wsX3_cargo_r3 ++ wsX3_cargo_r4))) ++ wsX20 ++ wsX30 ++ wsX00 ++ wsX10 ++ (vx_atS RX3 165 "java/lang/IndexOutOfBoundsException" ["java/lang/RuntimeException", "java/lang/Exception"]).filter goodWord)
def wsX3_failures_r1 : List Cond := [Cond.fieldLink RX3 12 "MooringTree" "harbour" "LMooringTree$Harbour;", Cond.methodLink RX3 85 yX3_lineNumbered, Cond.instanceMethod yX3_lineNumbered, Cond.selects RX3 yX3_lineNumbered yX3_lineNumbered, Cond.initialized RX3, Cond.code yX3_lineNumbered cX3_lineNumbered 3 (some (.object "MooringTree$Line")), Cond.classLink RX3 161 "java/lang/IndexOutOfBoundsException", Cond.initialized "java/lang/IndexOutOfBoundsException", Cond.fieldLink RX3 25 "MooringTree" "lines" "[LMooringTree$Line;", Cond.instanceMethod yX0_play, Cond.initialized RX0, Cond.selects RX0 yX0_play yX0_play, Cond.code yX0_play cX0_play 7 none, Cond.fieldLink RX0 31 "MooringTree$Harbour" "earned" "I", Cond.fieldLink RX0 34 "MooringTree$Harbour" "failedTurns" "I", Cond.fieldLink RX0 11 "MooringTree$Harbour" "ships" "[LMooringTree$Ship;", Cond.instanceMethod yX2_startAfresh, Cond.initialized RX2, Cond.selects RX2 yX2_startAfresh yX2_startAfresh, Cond.code yX2_startAfresh cX2_startAfresh 1 none, Cond.fieldLink RX2 9 "MooringTree$Ship" "place" "I", Cond.fieldLink RX2 21 "MooringTree$Ship" "fullCargo" "I", Cond.fieldLink RX2 24 "MooringTree$Ship" "left" "I", Cond.instanceMethod yX1_orderFor]
def wsX3_failures_r2 : List Cond := [Cond.initialized RX1, Cond.selects RX1 yX1_orderFor yX1_orderFor, Cond.code yX1_orderFor cX1_orderFor 3 (some .int), Cond.fieldLink RX1 9 "MooringTree$Line" "orders" "[I", Cond.fieldLink RX1 22 "MooringTree$Line" "madeOf" "LMooringTree$Line;", Cond.methodLink RX1 32 yX1_hasOwn, Cond.instanceMethod yX1_hasOwn, Cond.selects RX1 yX1_hasOwn yX1_hasOwn, Cond.code yX1_hasOwn cX1_hasOwn 2 (some .boolean), Cond.fieldLink RX1 15 "MooringTree$Line" "ownTurns" "I", Cond.methodLink RX0 46 yX0_passTurn, Cond.instanceMethod yX0_passTurn, Cond.selects RX0 yX0_passTurn yX0_passTurn, Cond.code yX0_passTurn cX0_passTurn 7 none, Cond.methodLink RX0 56 yX0_tideOf, Cond.static yX0_tideOf, Cond.code yX0_tideOf cX0_tideOf 2 (some .int), Cond.methodLink RX0 59 yX0_carryOut, Cond.instanceMethod yX0_carryOut, Cond.selects RX0 yX0_carryOut yX0_carryOut, Cond.code yX0_carryOut cX0_carryOut 4 (some .boolean), Cond.methodLink RX0 67 yX0_shipOrNull, Cond.instanceMethod yX0_shipOrNull, Cond.selects RX0 yX0_shipOrNull yX0_shipOrNull]
def wsX3_failures_r3 : List Cond := [Cond.code yX0_shipOrNull cX0_shipOrNull 2 (some (.object "MooringTree$Ship")), Cond.methodLink RX0 74 yX0_putToBerth, Cond.instanceMethod yX0_putToBerth, Cond.selects RX0 yX0_putToBerth yX0_putToBerth, Cond.code yX0_putToBerth cX0_putToBerth 3 (some .boolean), Cond.methodLink RX0 82 yX0_isTaken, Cond.instanceMethod yX0_isTaken, Cond.selects RX0 yX0_isTaken yX0_isTaken, Cond.code yX0_isTaken cX0_isTaken 6 (some .boolean), Cond.methodLink RX0 78 yX0_letLeave, Cond.instanceMethod yX0_letLeave, Cond.selects RX0 yX0_letLeave yX0_letLeave, Cond.code yX0_letLeave cX0_letLeave 2 (some .boolean), Cond.static yX3_isBerth, Cond.code yX3_isBerth cX3_isBerth 1 (some .boolean), Cond.methodLink RX0 63 yX0_earningInTurn, Cond.instanceMethod yX0_earningInTurn, Cond.selects RX0 yX0_earningInTurn yX0_earningInTurn, Cond.code yX0_earningInTurn cX0_earningInTurn 2 (some .int), Cond.fieldLink RX0 25 "MooringTree$Harbour" "price" "I", Cond.fieldLink RX0 21 "MooringTree$Harbour" "rates" "[I", Cond.fieldLink RX0 28 "MooringTree$Harbour" "fee" "I", Cond.instanceMethod yX2_unload, Cond.selects RX2 yX2_unload yX2_unload]
def wsX3_failures_r4 : List Cond := [Cond.code yX2_unload cX2_unload 3 (some .int), Cond.methodLink RX2 27 Lib.Math.min.name, Cond.static Lib.Math.min.name, Cond.initialized "java/lang/Math", Cond.code Lib.Math.min.name Lib.Math.min.code 2 (some .int)]
def wsX3_failures : List Cond := .code yX3_failures cX3_failures 3 (some .int) :: ((wsX3_failures_r1 ++ (wsX3_failures_r2 ++ (wsX3_failures_r3 ++ wsX3_failures_r4))) ++ wsX30 ++ wsX00 ++ wsX20 ++ wsX10 ++ (vx_atS RX3 165 "java/lang/IndexOutOfBoundsException" ["java/lang/RuntimeException", "java/lang/Exception"]).filter goodWord)
def wsX3_earningOf_r1 : List Cond := [Cond.fieldLink RX3 12 "MooringTree" "harbour" "LMooringTree$Harbour;", Cond.instanceMethod yX0_play, Cond.initialized RX0, Cond.selects RX0 yX0_play yX0_play, Cond.code yX0_play cX0_play 7 none, Cond.fieldLink RX0 31 "MooringTree$Harbour" "earned" "I", Cond.fieldLink RX0 34 "MooringTree$Harbour" "failedTurns" "I", Cond.fieldLink RX0 11 "MooringTree$Harbour" "ships" "[LMooringTree$Ship;", Cond.instanceMethod yX2_startAfresh, Cond.initialized RX2, Cond.selects RX2 yX2_startAfresh yX2_startAfresh, Cond.code yX2_startAfresh cX2_startAfresh 1 none, Cond.fieldLink RX2 9 "MooringTree$Ship" "place" "I", Cond.fieldLink RX2 21 "MooringTree$Ship" "fullCargo" "I", Cond.fieldLink RX2 24 "MooringTree$Ship" "left" "I", Cond.instanceMethod yX1_orderFor, Cond.initialized RX1, Cond.selects RX1 yX1_orderFor yX1_orderFor, Cond.code yX1_orderFor cX1_orderFor 3 (some .int), Cond.fieldLink RX1 9 "MooringTree$Line" "orders" "[I", Cond.fieldLink RX1 22 "MooringTree$Line" "madeOf" "LMooringTree$Line;", Cond.methodLink RX1 32 yX1_hasOwn, Cond.instanceMethod yX1_hasOwn, Cond.selects RX1 yX1_hasOwn yX1_hasOwn]
def wsX3_earningOf_r2 : List Cond := [Cond.code yX1_hasOwn cX1_hasOwn 2 (some .boolean), Cond.fieldLink RX1 15 "MooringTree$Line" "ownTurns" "I", Cond.methodLink RX0 46 yX0_passTurn, Cond.instanceMethod yX0_passTurn, Cond.selects RX0 yX0_passTurn yX0_passTurn, Cond.code yX0_passTurn cX0_passTurn 7 none, Cond.methodLink RX0 56 yX0_tideOf, Cond.static yX0_tideOf, Cond.code yX0_tideOf cX0_tideOf 2 (some .int), Cond.methodLink RX0 59 yX0_carryOut, Cond.instanceMethod yX0_carryOut, Cond.selects RX0 yX0_carryOut yX0_carryOut, Cond.code yX0_carryOut cX0_carryOut 4 (some .boolean), Cond.methodLink RX0 67 yX0_shipOrNull, Cond.instanceMethod yX0_shipOrNull, Cond.selects RX0 yX0_shipOrNull yX0_shipOrNull, Cond.code yX0_shipOrNull cX0_shipOrNull 2 (some (.object "MooringTree$Ship")), Cond.methodLink RX0 74 yX0_putToBerth, Cond.instanceMethod yX0_putToBerth, Cond.selects RX0 yX0_putToBerth yX0_putToBerth, Cond.code yX0_putToBerth cX0_putToBerth 3 (some .boolean), Cond.methodLink RX0 82 yX0_isTaken, Cond.instanceMethod yX0_isTaken, Cond.selects RX0 yX0_isTaken yX0_isTaken]
def wsX3_earningOf_r3 : List Cond := [Cond.code yX0_isTaken cX0_isTaken 6 (some .boolean), Cond.methodLink RX0 78 yX0_letLeave, Cond.instanceMethod yX0_letLeave, Cond.selects RX0 yX0_letLeave yX0_letLeave, Cond.code yX0_letLeave cX0_letLeave 2 (some .boolean), Cond.static yX3_isBerth, Cond.initialized RX3, Cond.code yX3_isBerth cX3_isBerth 1 (some .boolean), Cond.methodLink RX0 63 yX0_earningInTurn, Cond.instanceMethod yX0_earningInTurn, Cond.selects RX0 yX0_earningInTurn yX0_earningInTurn, Cond.code yX0_earningInTurn cX0_earningInTurn 2 (some .int), Cond.fieldLink RX0 25 "MooringTree$Harbour" "price" "I", Cond.fieldLink RX0 21 "MooringTree$Harbour" "rates" "[I", Cond.fieldLink RX0 28 "MooringTree$Harbour" "fee" "I", Cond.instanceMethod yX2_unload, Cond.selects RX2 yX2_unload yX2_unload, Cond.code yX2_unload cX2_unload 3 (some .int), Cond.methodLink RX2 27 Lib.Math.min.name, Cond.static Lib.Math.min.name, Cond.initialized "java/lang/Math", Cond.code Lib.Math.min.name Lib.Math.min.code 2 (some .int)]
def wsX3_earningOf : List Cond := .code yX3_earningOf cX3_earningOf 3 (some .int) :: ((wsX3_earningOf_r1 ++ (wsX3_earningOf_r2 ++ wsX3_earningOf_r3)) ++ wsX30 ++ wsX00 ++ wsX20 ++ wsX10)
def wsX3_look_r1 : List Cond := [Cond.methodLink RX3 139 Lib.Math.max.name, Cond.static Lib.Math.max.name, Cond.initialized "java/lang/Math", Cond.code Lib.Math.max.name Lib.Math.max.code 2 (some .int), Cond.methodLink RX3 85 yX3_lineNumbered, Cond.instanceMethod yX3_lineNumbered, Cond.selects RX3 yX3_lineNumbered yX3_lineNumbered, Cond.initialized RX3, Cond.code yX3_lineNumbered cX3_lineNumbered 3 (some (.object "MooringTree$Line")), Cond.classLink RX3 161 "java/lang/IndexOutOfBoundsException", Cond.initialized "java/lang/IndexOutOfBoundsException", Cond.fieldLink RX3 25 "MooringTree" "lines" "[LMooringTree$Line;", Cond.methodLink RX3 89 yX3_checkTurn, Cond.static yX3_checkTurn, Cond.code yX3_checkTurn cX3_checkTurn 1 none, Cond.methodLink RX3 33 yX3_isTurn, Cond.static yX3_isTurn, Cond.code yX3_isTurn cX3_isTurn 1 (some .boolean), Cond.methodLink RX3 145 yX3_earningOf, Cond.instanceMethod yX3_earningOf, Cond.selects RX3 yX3_earningOf yX3_earningOf, Cond.code yX3_earningOf cX3_earningOf 3 (some .int), Cond.fieldLink RX3 12 "MooringTree" "harbour" "LMooringTree$Harbour;", Cond.instanceMethod yX0_play]
def wsX3_look_r2 : List Cond := [Cond.initialized RX0, Cond.selects RX0 yX0_play yX0_play, Cond.code yX0_play cX0_play 7 none, Cond.fieldLink RX0 31 "MooringTree$Harbour" "earned" "I", Cond.fieldLink RX0 34 "MooringTree$Harbour" "failedTurns" "I", Cond.fieldLink RX0 11 "MooringTree$Harbour" "ships" "[LMooringTree$Ship;", Cond.instanceMethod yX2_startAfresh, Cond.initialized RX2, Cond.selects RX2 yX2_startAfresh yX2_startAfresh, Cond.code yX2_startAfresh cX2_startAfresh 1 none, Cond.fieldLink RX2 9 "MooringTree$Ship" "place" "I", Cond.fieldLink RX2 21 "MooringTree$Ship" "fullCargo" "I", Cond.fieldLink RX2 24 "MooringTree$Ship" "left" "I", Cond.instanceMethod yX1_orderFor, Cond.initialized RX1, Cond.selects RX1 yX1_orderFor yX1_orderFor, Cond.code yX1_orderFor cX1_orderFor 3 (some .int), Cond.fieldLink RX1 9 "MooringTree$Line" "orders" "[I", Cond.fieldLink RX1 22 "MooringTree$Line" "madeOf" "LMooringTree$Line;", Cond.methodLink RX1 32 yX1_hasOwn, Cond.instanceMethod yX1_hasOwn, Cond.selects RX1 yX1_hasOwn yX1_hasOwn, Cond.code yX1_hasOwn cX1_hasOwn 2 (some .boolean), Cond.fieldLink RX1 15 "MooringTree$Line" "ownTurns" "I"]
def wsX3_look_r3 : List Cond := [Cond.methodLink RX0 46 yX0_passTurn, Cond.instanceMethod yX0_passTurn, Cond.selects RX0 yX0_passTurn yX0_passTurn, Cond.code yX0_passTurn cX0_passTurn 7 none, Cond.methodLink RX0 56 yX0_tideOf, Cond.static yX0_tideOf, Cond.code yX0_tideOf cX0_tideOf 2 (some .int), Cond.methodLink RX0 59 yX0_carryOut, Cond.instanceMethod yX0_carryOut, Cond.selects RX0 yX0_carryOut yX0_carryOut, Cond.code yX0_carryOut cX0_carryOut 4 (some .boolean), Cond.methodLink RX0 67 yX0_shipOrNull, Cond.instanceMethod yX0_shipOrNull, Cond.selects RX0 yX0_shipOrNull yX0_shipOrNull, Cond.code yX0_shipOrNull cX0_shipOrNull 2 (some (.object "MooringTree$Ship")), Cond.methodLink RX0 74 yX0_putToBerth, Cond.instanceMethod yX0_putToBerth, Cond.selects RX0 yX0_putToBerth yX0_putToBerth, Cond.code yX0_putToBerth cX0_putToBerth 3 (some .boolean), Cond.methodLink RX0 82 yX0_isTaken, Cond.instanceMethod yX0_isTaken, Cond.selects RX0 yX0_isTaken yX0_isTaken, Cond.code yX0_isTaken cX0_isTaken 6 (some .boolean), Cond.methodLink RX0 78 yX0_letLeave]
def wsX3_look_r4 : List Cond := [Cond.instanceMethod yX0_letLeave, Cond.selects RX0 yX0_letLeave yX0_letLeave, Cond.code yX0_letLeave cX0_letLeave 2 (some .boolean), Cond.static yX3_isBerth, Cond.code yX3_isBerth cX3_isBerth 1 (some .boolean), Cond.methodLink RX0 63 yX0_earningInTurn, Cond.instanceMethod yX0_earningInTurn, Cond.selects RX0 yX0_earningInTurn yX0_earningInTurn, Cond.code yX0_earningInTurn cX0_earningInTurn 2 (some .int), Cond.fieldLink RX0 25 "MooringTree$Harbour" "price" "I", Cond.fieldLink RX0 21 "MooringTree$Harbour" "rates" "[I", Cond.fieldLink RX0 28 "MooringTree$Harbour" "fee" "I", Cond.instanceMethod yX2_unload, Cond.selects RX2 yX2_unload yX2_unload, Cond.code yX2_unload cX2_unload 3 (some .int), Cond.methodLink RX2 27 Lib.Math.min.name, Cond.static Lib.Math.min.name, Cond.code Lib.Math.min.name Lib.Math.min.code 2 (some .int)]
def wsX3_look : List Cond := .code yX3_look cX3_look 4 (some .int) :: ((wsX3_look_r1 ++ (wsX3_look_r2 ++ (wsX3_look_r3 ++ wsX3_look_r4))) ++ wsX10 ++ wsX30 ++ wsX00 ++ wsX20 ++ (vx_atS RX3 165 "java/lang/IndexOutOfBoundsException" ["java/lang/RuntimeException", "java/lang/Exception"]).filter goodWord)
def wsX3_seen : List Cond := .code yX3_seen cX3_seen 2 (some .int) :: ([.methodLink RX3 85 yX3_lineNumbered, .instanceMethod yX3_lineNumbered, .selects RX3 yX3_lineNumbered yX3_lineNumbered, .initialized RX3, .code yX3_lineNumbered cX3_lineNumbered 3 (some (.object "MooringTree$Line")), .classLink RX3 161 "java/lang/IndexOutOfBoundsException", .initialized "java/lang/IndexOutOfBoundsException", .fieldLink RX3 25 "MooringTree" "lines" "[LMooringTree$Line;"] ++ wsX10 ++ wsX30 ++ (vx_atS RX3 165 "java/lang/IndexOutOfBoundsException" ["java/lang/RuntimeException", "java/lang/Exception"]).filter goodWord)
def wsX3_ahead : List Cond := .code yX3_ahead cX3_ahead 2 (some .int) :: ([.methodLink RX3 85 yX3_lineNumbered, .instanceMethod yX3_lineNumbered, .selects RX3 yX3_lineNumbered yX3_lineNumbered, .initialized RX3, .code yX3_lineNumbered cX3_lineNumbered 3 (some (.object "MooringTree$Line")), .classLink RX3 161 "java/lang/IndexOutOfBoundsException", .initialized "java/lang/IndexOutOfBoundsException", .fieldLink RX3 25 "MooringTree" "lines" "[LMooringTree$Line;"] ++ wsX10 ++ wsX30 ++ (vx_atS RX3 165 "java/lang/IndexOutOfBoundsException" ["java/lang/RuntimeException", "java/lang/Exception"]).filter goodWord)
def wsX3_markAgainst_r1 : List Cond := [Cond.methodLink RX3 158 Lib.Math.min.name, Cond.static Lib.Math.min.name, Cond.initialized "java/lang/Math", Cond.code Lib.Math.min.name Lib.Math.min.code 2 (some .int), Cond.methodLink RX3 139 Lib.Math.max.name, Cond.static Lib.Math.max.name, Cond.code Lib.Math.max.name Lib.Math.max.code 2 (some .int), Cond.methodLink RX3 145 yX3_earningOf, Cond.instanceMethod yX3_earningOf, Cond.selects RX3 yX3_earningOf yX3_earningOf, Cond.initialized RX3, Cond.code yX3_earningOf cX3_earningOf 3 (some .int), Cond.fieldLink RX3 12 "MooringTree" "harbour" "LMooringTree$Harbour;", Cond.instanceMethod yX0_play, Cond.initialized RX0, Cond.selects RX0 yX0_play yX0_play, Cond.code yX0_play cX0_play 7 none, Cond.fieldLink RX0 31 "MooringTree$Harbour" "earned" "I", Cond.fieldLink RX0 34 "MooringTree$Harbour" "failedTurns" "I", Cond.fieldLink RX0 11 "MooringTree$Harbour" "ships" "[LMooringTree$Ship;", Cond.instanceMethod yX2_startAfresh, Cond.initialized RX2, Cond.selects RX2 yX2_startAfresh yX2_startAfresh, Cond.code yX2_startAfresh cX2_startAfresh 1 none]
def wsX3_markAgainst_r2 : List Cond := [Cond.fieldLink RX2 9 "MooringTree$Ship" "place" "I", Cond.fieldLink RX2 21 "MooringTree$Ship" "fullCargo" "I", Cond.fieldLink RX2 24 "MooringTree$Ship" "left" "I", Cond.instanceMethod yX1_orderFor, Cond.initialized RX1, Cond.selects RX1 yX1_orderFor yX1_orderFor, Cond.code yX1_orderFor cX1_orderFor 3 (some .int), Cond.fieldLink RX1 9 "MooringTree$Line" "orders" "[I", Cond.fieldLink RX1 22 "MooringTree$Line" "madeOf" "LMooringTree$Line;", Cond.methodLink RX1 32 yX1_hasOwn, Cond.instanceMethod yX1_hasOwn, Cond.selects RX1 yX1_hasOwn yX1_hasOwn, Cond.code yX1_hasOwn cX1_hasOwn 2 (some .boolean), Cond.fieldLink RX1 15 "MooringTree$Line" "ownTurns" "I", Cond.methodLink RX0 46 yX0_passTurn, Cond.instanceMethod yX0_passTurn, Cond.selects RX0 yX0_passTurn yX0_passTurn, Cond.code yX0_passTurn cX0_passTurn 7 none, Cond.methodLink RX0 56 yX0_tideOf, Cond.static yX0_tideOf, Cond.code yX0_tideOf cX0_tideOf 2 (some .int), Cond.methodLink RX0 59 yX0_carryOut, Cond.instanceMethod yX0_carryOut, Cond.selects RX0 yX0_carryOut yX0_carryOut]
def wsX3_markAgainst_r3 : List Cond := [Cond.code yX0_carryOut cX0_carryOut 4 (some .boolean), Cond.methodLink RX0 67 yX0_shipOrNull, Cond.instanceMethod yX0_shipOrNull, Cond.selects RX0 yX0_shipOrNull yX0_shipOrNull, Cond.code yX0_shipOrNull cX0_shipOrNull 2 (some (.object "MooringTree$Ship")), Cond.methodLink RX0 74 yX0_putToBerth, Cond.instanceMethod yX0_putToBerth, Cond.selects RX0 yX0_putToBerth yX0_putToBerth, Cond.code yX0_putToBerth cX0_putToBerth 3 (some .boolean), Cond.methodLink RX0 82 yX0_isTaken, Cond.instanceMethod yX0_isTaken, Cond.selects RX0 yX0_isTaken yX0_isTaken, Cond.code yX0_isTaken cX0_isTaken 6 (some .boolean), Cond.methodLink RX0 78 yX0_letLeave, Cond.instanceMethod yX0_letLeave, Cond.selects RX0 yX0_letLeave yX0_letLeave, Cond.code yX0_letLeave cX0_letLeave 2 (some .boolean), Cond.static yX3_isBerth, Cond.code yX3_isBerth cX3_isBerth 1 (some .boolean), Cond.methodLink RX0 63 yX0_earningInTurn, Cond.instanceMethod yX0_earningInTurn, Cond.selects RX0 yX0_earningInTurn yX0_earningInTurn, Cond.code yX0_earningInTurn cX0_earningInTurn 2 (some .int), Cond.fieldLink RX0 25 "MooringTree$Harbour" "price" "I"]
def wsX3_markAgainst_r4 : List Cond := [Cond.fieldLink RX0 21 "MooringTree$Harbour" "rates" "[I", Cond.fieldLink RX0 28 "MooringTree$Harbour" "fee" "I", Cond.instanceMethod yX2_unload, Cond.selects RX2 yX2_unload yX2_unload, Cond.code yX2_unload cX2_unload 3 (some .int), Cond.methodLink RX2 27 Lib.Math.min.name]
def wsX3_markAgainst : List Cond := .code yX3_markAgainst cX3_markAgainst 4 (some .int) :: ((wsX3_markAgainst_r1 ++ (wsX3_markAgainst_r2 ++ (wsX3_markAgainst_r3 ++ wsX3_markAgainst_r4))) ++ wsX10 ++ wsX30 ++ wsX00 ++ wsX20)
def wsX3_mark_r1 : List Cond := [Cond.fieldLink RX3 21 "MooringTree" "teachers" "LMooringTree$Line;", Cond.methodLink RX3 85 yX3_lineNumbered, Cond.instanceMethod yX3_lineNumbered, Cond.selects RX3 yX3_lineNumbered yX3_lineNumbered, Cond.initialized RX3, Cond.code yX3_lineNumbered cX3_lineNumbered 3 (some (.object "MooringTree$Line")), Cond.classLink RX3 161 "java/lang/IndexOutOfBoundsException", Cond.initialized "java/lang/IndexOutOfBoundsException", Cond.fieldLink RX3 25 "MooringTree" "lines" "[LMooringTree$Line;", Cond.methodLink RX3 145 yX3_earningOf, Cond.instanceMethod yX3_earningOf, Cond.selects RX3 yX3_earningOf yX3_earningOf, Cond.code yX3_earningOf cX3_earningOf 3 (some .int), Cond.fieldLink RX3 12 "MooringTree" "harbour" "LMooringTree$Harbour;", Cond.instanceMethod yX0_play, Cond.initialized RX0, Cond.selects RX0 yX0_play yX0_play, Cond.code yX0_play cX0_play 7 none, Cond.fieldLink RX0 31 "MooringTree$Harbour" "earned" "I", Cond.fieldLink RX0 34 "MooringTree$Harbour" "failedTurns" "I", Cond.fieldLink RX0 11 "MooringTree$Harbour" "ships" "[LMooringTree$Ship;", Cond.instanceMethod yX2_startAfresh, Cond.initialized RX2, Cond.selects RX2 yX2_startAfresh yX2_startAfresh]
def wsX3_mark_r2 : List Cond := [Cond.code yX2_startAfresh cX2_startAfresh 1 none, Cond.fieldLink RX2 9 "MooringTree$Ship" "place" "I", Cond.fieldLink RX2 21 "MooringTree$Ship" "fullCargo" "I", Cond.fieldLink RX2 24 "MooringTree$Ship" "left" "I", Cond.instanceMethod yX1_orderFor, Cond.initialized RX1, Cond.selects RX1 yX1_orderFor yX1_orderFor, Cond.code yX1_orderFor cX1_orderFor 3 (some .int), Cond.fieldLink RX1 9 "MooringTree$Line" "orders" "[I", Cond.fieldLink RX1 22 "MooringTree$Line" "madeOf" "LMooringTree$Line;", Cond.methodLink RX1 32 yX1_hasOwn, Cond.instanceMethod yX1_hasOwn, Cond.selects RX1 yX1_hasOwn yX1_hasOwn, Cond.code yX1_hasOwn cX1_hasOwn 2 (some .boolean), Cond.fieldLink RX1 15 "MooringTree$Line" "ownTurns" "I", Cond.methodLink RX0 46 yX0_passTurn, Cond.instanceMethod yX0_passTurn, Cond.selects RX0 yX0_passTurn yX0_passTurn, Cond.code yX0_passTurn cX0_passTurn 7 none, Cond.methodLink RX0 56 yX0_tideOf, Cond.static yX0_tideOf, Cond.code yX0_tideOf cX0_tideOf 2 (some .int), Cond.methodLink RX0 59 yX0_carryOut, Cond.instanceMethod yX0_carryOut]
def wsX3_mark_r3 : List Cond := [Cond.selects RX0 yX0_carryOut yX0_carryOut, Cond.code yX0_carryOut cX0_carryOut 4 (some .boolean), Cond.methodLink RX0 67 yX0_shipOrNull, Cond.instanceMethod yX0_shipOrNull, Cond.selects RX0 yX0_shipOrNull yX0_shipOrNull, Cond.code yX0_shipOrNull cX0_shipOrNull 2 (some (.object "MooringTree$Ship")), Cond.methodLink RX0 74 yX0_putToBerth, Cond.instanceMethod yX0_putToBerth, Cond.selects RX0 yX0_putToBerth yX0_putToBerth, Cond.code yX0_putToBerth cX0_putToBerth 3 (some .boolean), Cond.methodLink RX0 82 yX0_isTaken, Cond.instanceMethod yX0_isTaken, Cond.selects RX0 yX0_isTaken yX0_isTaken, Cond.code yX0_isTaken cX0_isTaken 6 (some .boolean), Cond.methodLink RX0 78 yX0_letLeave, Cond.instanceMethod yX0_letLeave, Cond.selects RX0 yX0_letLeave yX0_letLeave, Cond.code yX0_letLeave cX0_letLeave 2 (some .boolean), Cond.static yX3_isBerth, Cond.code yX3_isBerth cX3_isBerth 1 (some .boolean), Cond.methodLink RX0 63 yX0_earningInTurn, Cond.instanceMethod yX0_earningInTurn, Cond.selects RX0 yX0_earningInTurn yX0_earningInTurn, Cond.code yX0_earningInTurn cX0_earningInTurn 2 (some .int)]
def wsX3_mark_r4 : List Cond := [Cond.fieldLink RX0 25 "MooringTree$Harbour" "price" "I", Cond.fieldLink RX0 21 "MooringTree$Harbour" "rates" "[I", Cond.fieldLink RX0 28 "MooringTree$Harbour" "fee" "I", Cond.instanceMethod yX2_unload, Cond.selects RX2 yX2_unload yX2_unload, Cond.code yX2_unload cX2_unload 3 (some .int), Cond.methodLink RX2 27 Lib.Math.min.name, Cond.static Lib.Math.min.name, Cond.initialized "java/lang/Math", Cond.code Lib.Math.min.name Lib.Math.min.code 2 (some .int), Cond.methodLink RX3 152 yX3_markAgainst, Cond.instanceMethod yX3_markAgainst, Cond.selects RX3 yX3_markAgainst yX3_markAgainst, Cond.code yX3_markAgainst cX3_markAgainst 4 (some .int), Cond.methodLink RX3 158 Lib.Math.min.name, Cond.methodLink RX3 139 Lib.Math.max.name, Cond.static Lib.Math.max.name, Cond.code Lib.Math.max.name Lib.Math.max.code 2 (some .int)]
def wsX3_mark : List Cond := .code yX3_mark cX3_mark 3 (some .int) :: ((wsX3_mark_r1 ++ (wsX3_mark_r2 ++ (wsX3_mark_r3 ++ wsX3_mark_r4))) ++ wsX30 ++ wsX00 ++ wsX20 ++ wsX10 ++ (vx_atS RX3 165 "java/lang/IndexOutOfBoundsException" ["java/lang/RuntimeException", "java/lang/Exception"]).filter goodWord)
def wsX3_best_r1 : List Cond := [Cond.fieldLink RX3 21 "MooringTree" "teachers" "LMooringTree$Line;", Cond.fieldLink RX3 25 "MooringTree" "lines" "[LMooringTree$Line;", Cond.methodLink RX3 145 yX3_earningOf, Cond.instanceMethod yX3_earningOf, Cond.selects RX3 yX3_earningOf yX3_earningOf, Cond.initialized RX3, Cond.code yX3_earningOf cX3_earningOf 3 (some .int), Cond.fieldLink RX3 12 "MooringTree" "harbour" "LMooringTree$Harbour;", Cond.instanceMethod yX0_play, Cond.initialized RX0, Cond.selects RX0 yX0_play yX0_play, Cond.code yX0_play cX0_play 7 none, Cond.fieldLink RX0 31 "MooringTree$Harbour" "earned" "I", Cond.fieldLink RX0 34 "MooringTree$Harbour" "failedTurns" "I", Cond.fieldLink RX0 11 "MooringTree$Harbour" "ships" "[LMooringTree$Ship;", Cond.instanceMethod yX2_startAfresh, Cond.initialized RX2, Cond.selects RX2 yX2_startAfresh yX2_startAfresh, Cond.code yX2_startAfresh cX2_startAfresh 1 none, Cond.fieldLink RX2 9 "MooringTree$Ship" "place" "I", Cond.fieldLink RX2 21 "MooringTree$Ship" "fullCargo" "I", Cond.fieldLink RX2 24 "MooringTree$Ship" "left" "I", Cond.instanceMethod yX1_orderFor, Cond.initialized RX1]
def wsX3_best_r2 : List Cond := [Cond.selects RX1 yX1_orderFor yX1_orderFor, Cond.code yX1_orderFor cX1_orderFor 3 (some .int), Cond.fieldLink RX1 9 "MooringTree$Line" "orders" "[I", Cond.fieldLink RX1 22 "MooringTree$Line" "madeOf" "LMooringTree$Line;", Cond.methodLink RX1 32 yX1_hasOwn, Cond.instanceMethod yX1_hasOwn, Cond.selects RX1 yX1_hasOwn yX1_hasOwn, Cond.code yX1_hasOwn cX1_hasOwn 2 (some .boolean), Cond.fieldLink RX1 15 "MooringTree$Line" "ownTurns" "I", Cond.methodLink RX0 46 yX0_passTurn, Cond.instanceMethod yX0_passTurn, Cond.selects RX0 yX0_passTurn yX0_passTurn, Cond.code yX0_passTurn cX0_passTurn 7 none, Cond.methodLink RX0 56 yX0_tideOf, Cond.static yX0_tideOf, Cond.code yX0_tideOf cX0_tideOf 2 (some .int), Cond.methodLink RX0 59 yX0_carryOut, Cond.instanceMethod yX0_carryOut, Cond.selects RX0 yX0_carryOut yX0_carryOut, Cond.code yX0_carryOut cX0_carryOut 4 (some .boolean), Cond.methodLink RX0 67 yX0_shipOrNull, Cond.instanceMethod yX0_shipOrNull, Cond.selects RX0 yX0_shipOrNull yX0_shipOrNull, Cond.code yX0_shipOrNull cX0_shipOrNull 2 (some (.object "MooringTree$Ship"))]
def wsX3_best_r3 : List Cond := [Cond.methodLink RX0 74 yX0_putToBerth, Cond.instanceMethod yX0_putToBerth, Cond.selects RX0 yX0_putToBerth yX0_putToBerth, Cond.code yX0_putToBerth cX0_putToBerth 3 (some .boolean), Cond.methodLink RX0 82 yX0_isTaken, Cond.instanceMethod yX0_isTaken, Cond.selects RX0 yX0_isTaken yX0_isTaken, Cond.code yX0_isTaken cX0_isTaken 6 (some .boolean), Cond.methodLink RX0 78 yX0_letLeave, Cond.instanceMethod yX0_letLeave, Cond.selects RX0 yX0_letLeave yX0_letLeave, Cond.code yX0_letLeave cX0_letLeave 2 (some .boolean), Cond.static yX3_isBerth, Cond.code yX3_isBerth cX3_isBerth 1 (some .boolean), Cond.methodLink RX0 63 yX0_earningInTurn, Cond.instanceMethod yX0_earningInTurn, Cond.selects RX0 yX0_earningInTurn yX0_earningInTurn, Cond.code yX0_earningInTurn cX0_earningInTurn 2 (some .int), Cond.fieldLink RX0 25 "MooringTree$Harbour" "price" "I", Cond.fieldLink RX0 21 "MooringTree$Harbour" "rates" "[I", Cond.fieldLink RX0 28 "MooringTree$Harbour" "fee" "I", Cond.instanceMethod yX2_unload, Cond.selects RX2 yX2_unload yX2_unload, Cond.code yX2_unload cX2_unload 3 (some .int)]
def wsX3_best_r4 : List Cond := [Cond.methodLink RX2 27 Lib.Math.min.name, Cond.static Lib.Math.min.name, Cond.initialized "java/lang/Math", Cond.code Lib.Math.min.name Lib.Math.min.code 2 (some .int), Cond.methodLink RX3 152 yX3_markAgainst, Cond.instanceMethod yX3_markAgainst, Cond.selects RX3 yX3_markAgainst yX3_markAgainst, Cond.code yX3_markAgainst cX3_markAgainst 4 (some .int), Cond.methodLink RX3 158 Lib.Math.min.name, Cond.methodLink RX3 139 Lib.Math.max.name, Cond.static Lib.Math.max.name, Cond.code Lib.Math.max.name Lib.Math.max.code 2 (some .int)]
def wsX3_best : List Cond := .code yX3_best cX3_best 7 (some .int) :: ((wsX3_best_r1 ++ (wsX3_best_r2 ++ (wsX3_best_r3 ++ wsX3_best_r4))) ++ wsX30 ++ wsX00 ++ wsX20 ++ wsX10)
def wsX4_init : List Cond := .code yX4_init cX4_init 2 none :: ([.methodLink RX4 1 objectInit, .instanceMethod objectInit, .code objectInit ⟨#[0xb1]⟩ 1 none, .arrayClass .int, .fieldLink RX4 7 "MooringTreeModel" "comes" "[I", .fieldLink RX4 13 "MooringTreeModel" "draught" "[I", .fieldLink RX4 16 "MooringTreeModel" "cargo" "[I", .fieldLink RX4 19 "MooringTreeModel" "rate" "[I", .fieldLink RX4 22 "MooringTreeModel" "price" "I", .fieldLink RX4 26 "MooringTreeModel" "fee" "I", .fieldLink RX4 29 "MooringTreeModel" "lines" "I", .fieldLink RX4 32 "MooringTreeModel" "parent" "[I", .fieldLink RX4 35 "MooringTreeModel" "begin" "[I", .fieldLink RX4 38 "MooringTreeModel" "seen" "[I", .fieldLink RX4 41 "MooringTreeModel" "order" "[I", .arrayClass .boolean, .fieldLink RX4 44 "MooringTreeModel" "isAhead" "[Z", .fieldLink RX4 48 "MooringTreeModel" "at" "[I", .fieldLink RX4 51 "MooringTreeModel" "left" "[I"] ++ wsX40)
def wsX4_thrown : List Cond := .code yX4_thrown cX4_thrown 1 (some .int) :: ([.fieldLink RX4 54 "MooringTreeModel" "thrown" "I"] ++ wsX40)
def wsX4_fails : List Cond := .code yX4_fails cX4_fails 2 (some .boolean) :: ([.fieldLink RX4 54 "MooringTreeModel" "thrown" "I"] ++ wsX40)
def wsX4_isIn : List Cond := .code yX4_isIn cX4_isIn 3 (some .boolean) :: ([])
def wsX4_isShip : List Cond := .code yX4_isShip cX4_isShip 2 (some .boolean) :: ([.fieldLink RX4 57 "MooringTreeModel" "ships" "I", .methodLink RX4 60 yX4_isIn, .static yX4_isIn, .initialized RX4, .code yX4_isIn cX4_isIn 3 (some .boolean)] ++ wsX40)
def wsX4_isBerth : List Cond := .code yX4_isBerth cX4_isBerth 1 (some .boolean) :: ([.methodLink RX4 60 yX4_isIn, .static yX4_isIn, .initialized RX4, .code yX4_isIn cX4_isIn 3 (some .boolean)])
def wsX4_isLine : List Cond := .code yX4_isLine cX4_isLine 2 (some .boolean) :: ([.fieldLink RX4 29 "MooringTreeModel" "lines" "I", .methodLink RX4 60 yX4_isIn, .static yX4_isIn, .initialized RX4, .code yX4_isIn cX4_isIn 3 (some .boolean)] ++ wsX40)
def wsX4_isTurn : List Cond := .code yX4_isTurn cX4_isTurn 1 (some .boolean) :: ([.methodLink RX4 60 yX4_isIn, .static yX4_isIn, .initialized RX4, .code yX4_isIn cX4_isIn 3 (some .boolean)])
def wsX4_addShip : List Cond := .code yX4_addShip cX4_addShip 5 (some .int) :: ([.fieldLink RX4 57 "MooringTreeModel" "ships" "I", .fieldLink RX4 7 "MooringTreeModel" "comes" "[I", .fieldLink RX4 13 "MooringTreeModel" "draught" "[I", .fieldLink RX4 16 "MooringTreeModel" "cargo" "[I", .methodLink RX4 64 yX4_isTurn, .static yX4_isTurn, .initialized RX4, .code yX4_isTurn cX4_isTurn 1 (some .boolean), .methodLink RX4 60 yX4_isIn, .static yX4_isIn, .code yX4_isIn cX4_isIn 3 (some .boolean), .methodLink RX4 68 yX4_fails, .instanceMethod yX4_fails, .selects RX4 yX4_fails yX4_fails, .code yX4_fails cX4_fails 2 (some .boolean), .fieldLink RX4 54 "MooringTreeModel" "thrown" "I"] ++ wsX40)
def wsX4_setRate : List Cond := .code yX4_setRate cX4_setRate 5 (some .int) :: ([.fieldLink RX4 19 "MooringTreeModel" "rate" "[I", .methodLink RX4 71 yX4_isBerth, .static yX4_isBerth, .initialized RX4, .code yX4_isBerth cX4_isBerth 1 (some .boolean), .methodLink RX4 60 yX4_isIn, .static yX4_isIn, .code yX4_isIn cX4_isIn 3 (some .boolean), .methodLink RX4 68 yX4_fails, .instanceMethod yX4_fails, .selects RX4 yX4_fails yX4_fails, .code yX4_fails cX4_fails 2 (some .boolean), .fieldLink RX4 54 "MooringTreeModel" "thrown" "I"] ++ wsX40)
def wsX4_setRules : List Cond := .code yX4_setRules cX4_setRules 3 none :: ([.fieldLink RX4 22 "MooringTreeModel" "price" "I", .fieldLink RX4 26 "MooringTreeModel" "fee" "I", .methodLink RX4 60 yX4_isIn, .static yX4_isIn, .initialized RX4, .code yX4_isIn cX4_isIn 3 (some .boolean), .methodLink RX4 68 yX4_fails, .instanceMethod yX4_fails, .selects RX4 yX4_fails yX4_fails, .code yX4_fails cX4_fails 2 (some .boolean), .fieldLink RX4 54 "MooringTreeModel" "thrown" "I"] ++ wsX40)
def wsX4_fork : List Cond := .code yX4_fork cX4_fork 4 (some .int) :: ([.fieldLink RX4 29 "MooringTreeModel" "lines" "I", .fieldLink RX4 32 "MooringTreeModel" "parent" "[I", .fieldLink RX4 35 "MooringTreeModel" "begin" "[I", .fieldLink RX4 38 "MooringTreeModel" "seen" "[I", .methodLink RX4 74 yX4_isLine, .instanceMethod yX4_isLine, .selects RX4 yX4_isLine yX4_isLine, .initialized RX4, .code yX4_isLine cX4_isLine 2 (some .boolean), .methodLink RX4 60 yX4_isIn, .static yX4_isIn, .code yX4_isIn cX4_isIn 3 (some .boolean), .methodLink RX4 64 yX4_isTurn, .static yX4_isTurn, .code yX4_isTurn cX4_isTurn 1 (some .boolean), .methodLink RX4 68 yX4_fails, .instanceMethod yX4_fails, .selects RX4 yX4_fails yX4_fails, .code yX4_fails cX4_fails 2 (some .boolean), .fieldLink RX4 54 "MooringTreeModel" "thrown" "I"] ++ wsX40)
def wsX4_order_r1 : List Cond := [Cond.fieldLink RX4 35 "MooringTreeModel" "begin" "[I", Cond.fieldLink RX4 41 "MooringTreeModel" "order" "[I", Cond.fieldLink RX4 44 "MooringTreeModel" "isAhead" "[Z", Cond.fieldLink RX4 38 "MooringTreeModel" "seen" "[I", Cond.methodLink RX4 74 yX4_isLine, Cond.instanceMethod yX4_isLine, Cond.selects RX4 yX4_isLine yX4_isLine, Cond.initialized RX4, Cond.code yX4_isLine cX4_isLine 2 (some .boolean), Cond.fieldLink RX4 29 "MooringTreeModel" "lines" "I", Cond.methodLink RX4 60 yX4_isIn, Cond.static yX4_isIn, Cond.code yX4_isIn cX4_isIn 3 (some .boolean), Cond.methodLink RX4 64 yX4_isTurn, Cond.static yX4_isTurn, Cond.code yX4_isTurn cX4_isTurn 1 (some .boolean), Cond.methodLink RX4 77 yX4_isShip, Cond.instanceMethod yX4_isShip, Cond.selects RX4 yX4_isShip yX4_isShip, Cond.code yX4_isShip cX4_isShip 2 (some .boolean), Cond.fieldLink RX4 57 "MooringTreeModel" "ships" "I", Cond.methodLink RX4 71 yX4_isBerth, Cond.static yX4_isBerth, Cond.code yX4_isBerth cX4_isBerth 1 (some .boolean)]
def wsX4_order_r2 : List Cond := [Cond.methodLink RX4 68 yX4_fails, Cond.instanceMethod yX4_fails, Cond.selects RX4 yX4_fails yX4_fails, Cond.code yX4_fails cX4_fails 2 (some .boolean), Cond.fieldLink RX4 54 "MooringTreeModel" "thrown" "I"]
def wsX4_order : List Cond := .code yX4_order cX4_order 8 (some .boolean) :: ((wsX4_order_r1 ++ wsX4_order_r2) ++ wsX40)
def wsX4_hasOwn : List Cond := .code yX4_hasOwn cX4_hasOwn 3 (some .boolean) :: ([.fieldLink RX4 41 "MooringTreeModel" "order" "[I"] ++ wsX40)
def wsX4_removes : List Cond := .code yX4_removes cX4_removes 3 (some .boolean) :: ([.fieldLink RX4 41 "MooringTreeModel" "order" "[I", .fieldLink RX4 44 "MooringTreeModel" "isAhead" "[Z"] ++ wsX40)
def wsX4_takeAway_r1 : List Cond := [Cond.methodLink RX4 74 yX4_isLine, Cond.instanceMethod yX4_isLine, Cond.selects RX4 yX4_isLine yX4_isLine, Cond.initialized RX4, Cond.code yX4_isLine cX4_isLine 2 (some .boolean), Cond.fieldLink RX4 29 "MooringTreeModel" "lines" "I", Cond.methodLink RX4 60 yX4_isIn, Cond.static yX4_isIn, Cond.code yX4_isIn cX4_isIn 3 (some .boolean), Cond.methodLink RX4 64 yX4_isTurn, Cond.static yX4_isTurn, Cond.code yX4_isTurn cX4_isTurn 1 (some .boolean), Cond.methodLink RX4 68 yX4_fails, Cond.instanceMethod yX4_fails, Cond.selects RX4 yX4_fails yX4_fails, Cond.code yX4_fails cX4_fails 2 (some .boolean), Cond.fieldLink RX4 54 "MooringTreeModel" "thrown" "I", Cond.methodLink RX4 80 yX4_hasOwn, Cond.instanceMethod yX4_hasOwn, Cond.selects RX4 yX4_hasOwn yX4_hasOwn, Cond.code yX4_hasOwn cX4_hasOwn 3 (some .boolean), Cond.fieldLink RX4 41 "MooringTreeModel" "order" "[I", Cond.methodLink RX4 84 yX4_removes, Cond.instanceMethod yX4_removes]
def wsX4_takeAway_r2 : List Cond := [Cond.selects RX4 yX4_removes yX4_removes, Cond.code yX4_removes cX4_removes 3 (some .boolean), Cond.fieldLink RX4 44 "MooringTreeModel" "isAhead" "[Z"]
def wsX4_takeAway : List Cond := .code yX4_takeAway cX4_takeAway 3 (some .boolean) :: ((wsX4_takeAway_r1 ++ wsX4_takeAway_r2) ++ wsX40)
def wsX4_orderAt : List Cond := .code yX4_orderAt cX4_orderAt 4 (some .int) :: ([.fieldLink RX4 32 "MooringTreeModel" "parent" "[I", .fieldLink RX4 41 "MooringTreeModel" "order" "[I", .methodLink RX4 80 yX4_hasOwn, .instanceMethod yX4_hasOwn, .selects RX4 yX4_hasOwn yX4_hasOwn, .initialized RX4, .code yX4_hasOwn cX4_hasOwn 3 (some .boolean)] ++ wsX40)
def wsX4_orderOf_r1 : List Cond := [Cond.methodLink RX4 74 yX4_isLine, Cond.instanceMethod yX4_isLine, Cond.selects RX4 yX4_isLine yX4_isLine, Cond.initialized RX4, Cond.code yX4_isLine cX4_isLine 2 (some .boolean), Cond.fieldLink RX4 29 "MooringTreeModel" "lines" "I", Cond.methodLink RX4 60 yX4_isIn, Cond.static yX4_isIn, Cond.code yX4_isIn cX4_isIn 3 (some .boolean), Cond.methodLink RX4 64 yX4_isTurn, Cond.static yX4_isTurn, Cond.code yX4_isTurn cX4_isTurn 1 (some .boolean), Cond.methodLink RX4 68 yX4_fails, Cond.instanceMethod yX4_fails, Cond.selects RX4 yX4_fails yX4_fails, Cond.code yX4_fails cX4_fails 2 (some .boolean), Cond.fieldLink RX4 54 "MooringTreeModel" "thrown" "I", Cond.methodLink RX4 87 yX4_orderAt, Cond.instanceMethod yX4_orderAt, Cond.selects RX4 yX4_orderAt yX4_orderAt, Cond.code yX4_orderAt cX4_orderAt 4 (some .int), Cond.fieldLink RX4 32 "MooringTreeModel" "parent" "[I", Cond.fieldLink RX4 41 "MooringTreeModel" "order" "[I", Cond.methodLink RX4 80 yX4_hasOwn]
def wsX4_orderOf_r2 : List Cond := [Cond.instanceMethod yX4_hasOwn, Cond.selects RX4 yX4_hasOwn yX4_hasOwn, Cond.code yX4_hasOwn cX4_hasOwn 3 (some .boolean)]
def wsX4_orderOf : List Cond := .code yX4_orderOf cX4_orderOf 3 (some .int) :: ((wsX4_orderOf_r1 ++ wsX4_orderOf_r2) ++ wsX40)
def wsX4_differences : List Cond := .code yX4_differences cX4_differences 5 (some .int) :: ([.methodLink RX4 74 yX4_isLine, .instanceMethod yX4_isLine, .selects RX4 yX4_isLine yX4_isLine, .initialized RX4, .code yX4_isLine cX4_isLine 2 (some .boolean), .fieldLink RX4 29 "MooringTreeModel" "lines" "I", .methodLink RX4 60 yX4_isIn, .static yX4_isIn, .code yX4_isIn cX4_isIn 3 (some .boolean), .methodLink RX4 68 yX4_fails, .instanceMethod yX4_fails, .selects RX4 yX4_fails yX4_fails, .code yX4_fails cX4_fails 2 (some .boolean), .fieldLink RX4 54 "MooringTreeModel" "thrown" "I", .methodLink RX4 87 yX4_orderAt, .instanceMethod yX4_orderAt, .selects RX4 yX4_orderAt yX4_orderAt, .code yX4_orderAt cX4_orderAt 4 (some .int), .fieldLink RX4 32 "MooringTreeModel" "parent" "[I", .fieldLink RX4 41 "MooringTreeModel" "order" "[I", .methodLink RX4 80 yX4_hasOwn, .instanceMethod yX4_hasOwn, .selects RX4 yX4_hasOwn yX4_hasOwn, .code yX4_hasOwn cX4_hasOwn 3 (some .boolean)] ++ wsX40)
def wsX4_can : List Cond := .code yX4_can cX4_can 8 (some .boolean) :: ([.fieldLink RX4 13 "MooringTreeModel" "draught" "[I", .fieldLink RX4 48 "MooringTreeModel" "at" "[I", .fieldLink RX4 51 "MooringTreeModel" "left" "[I", .fieldLink RX4 57 "MooringTreeModel" "ships" "I"] ++ wsX40)
def wsX4_does : List Cond := .code yX4_does cX4_does 5 none :: ([.fieldLink RX4 95 "MooringTreeModel" "failed" "I", .fieldLink RX4 48 "MooringTreeModel" "at" "[I", .methodLink RX4 91 yX4_can, .instanceMethod yX4_can, .selects RX4 yX4_can yX4_can, .initialized RX4, .code yX4_can cX4_can 8 (some .boolean), .fieldLink RX4 13 "MooringTreeModel" "draught" "[I", .fieldLink RX4 51 "MooringTreeModel" "left" "[I", .fieldLink RX4 57 "MooringTreeModel" "ships" "I"] ++ wsX40)
def wsX4_plays_r1 : List Cond := [Cond.fieldLink RX4 98 "MooringTreeModel" "earned" "I", Cond.fieldLink RX4 95 "MooringTreeModel" "failed" "I", Cond.fieldLink RX4 57 "MooringTreeModel" "ships" "I", Cond.fieldLink RX4 48 "MooringTreeModel" "at" "[I", Cond.fieldLink RX4 51 "MooringTreeModel" "left" "[I", Cond.fieldLink RX4 16 "MooringTreeModel" "cargo" "[I", Cond.fieldLink RX4 7 "MooringTreeModel" "comes" "[I", Cond.fieldLink RX4 19 "MooringTreeModel" "rate" "[I", Cond.fieldLink RX4 22 "MooringTreeModel" "price" "I", Cond.fieldLink RX4 26 "MooringTreeModel" "fee" "I", Cond.methodLink RX4 87 yX4_orderAt, Cond.instanceMethod yX4_orderAt, Cond.selects RX4 yX4_orderAt yX4_orderAt, Cond.initialized RX4, Cond.code yX4_orderAt cX4_orderAt 4 (some .int), Cond.fieldLink RX4 32 "MooringTreeModel" "parent" "[I", Cond.fieldLink RX4 41 "MooringTreeModel" "order" "[I", Cond.methodLink RX4 80 yX4_hasOwn, Cond.instanceMethod yX4_hasOwn, Cond.selects RX4 yX4_hasOwn yX4_hasOwn, Cond.code yX4_hasOwn cX4_hasOwn 3 (some .boolean), Cond.methodLink RX4 101 yX4_does, Cond.instanceMethod yX4_does, Cond.selects RX4 yX4_does yX4_does]
def wsX4_plays_r2 : List Cond := [Cond.code yX4_does cX4_does 5 none, Cond.methodLink RX4 91 yX4_can, Cond.instanceMethod yX4_can, Cond.selects RX4 yX4_can yX4_can, Cond.code yX4_can cX4_can 8 (some .boolean), Cond.fieldLink RX4 13 "MooringTreeModel" "draught" "[I"]
def wsX4_plays : List Cond := .code yX4_plays cX4_plays 6 none :: ((wsX4_plays_r1 ++ wsX4_plays_r2) ++ wsX40)
def wsX4_misses : List Cond := .code yX4_misses cX4_misses 4 (some .boolean) :: ([.methodLink RX4 74 yX4_isLine, .instanceMethod yX4_isLine, .selects RX4 yX4_isLine yX4_isLine, .initialized RX4, .code yX4_isLine cX4_isLine 2 (some .boolean), .fieldLink RX4 29 "MooringTreeModel" "lines" "I", .methodLink RX4 60 yX4_isIn, .static yX4_isIn, .code yX4_isIn cX4_isIn 3 (some .boolean), .methodLink RX4 77 yX4_isShip, .instanceMethod yX4_isShip, .selects RX4 yX4_isShip yX4_isShip, .code yX4_isShip cX4_isShip 2 (some .boolean), .fieldLink RX4 57 "MooringTreeModel" "ships" "I", .methodLink RX4 64 yX4_isTurn, .static yX4_isTurn, .code yX4_isTurn cX4_isTurn 1 (some .boolean), .methodLink RX4 68 yX4_fails, .instanceMethod yX4_fails, .selects RX4 yX4_fails yX4_fails, .code yX4_fails cX4_fails 2 (some .boolean), .fieldLink RX4 54 "MooringTreeModel" "thrown" "I"] ++ wsX40)
def wsX4_where_r1 : List Cond := [Cond.fieldLink RX4 48 "MooringTreeModel" "at" "[I", Cond.methodLink RX4 105 yX4_misses, Cond.instanceMethod yX4_misses, Cond.selects RX4 yX4_misses yX4_misses, Cond.initialized RX4, Cond.code yX4_misses cX4_misses 4 (some .boolean), Cond.methodLink RX4 74 yX4_isLine, Cond.instanceMethod yX4_isLine, Cond.selects RX4 yX4_isLine yX4_isLine, Cond.code yX4_isLine cX4_isLine 2 (some .boolean), Cond.fieldLink RX4 29 "MooringTreeModel" "lines" "I", Cond.methodLink RX4 60 yX4_isIn, Cond.static yX4_isIn, Cond.code yX4_isIn cX4_isIn 3 (some .boolean), Cond.methodLink RX4 77 yX4_isShip, Cond.instanceMethod yX4_isShip, Cond.selects RX4 yX4_isShip yX4_isShip, Cond.code yX4_isShip cX4_isShip 2 (some .boolean), Cond.fieldLink RX4 57 "MooringTreeModel" "ships" "I", Cond.methodLink RX4 64 yX4_isTurn, Cond.static yX4_isTurn, Cond.code yX4_isTurn cX4_isTurn 1 (some .boolean), Cond.methodLink RX4 68 yX4_fails, Cond.instanceMethod yX4_fails]
def wsX4_where_r2 : List Cond := [Cond.selects RX4 yX4_fails yX4_fails, Cond.code yX4_fails cX4_fails 2 (some .boolean), Cond.fieldLink RX4 54 "MooringTreeModel" "thrown" "I", Cond.methodLink RX4 108 yX4_plays, Cond.instanceMethod yX4_plays, Cond.selects RX4 yX4_plays yX4_plays, Cond.code yX4_plays cX4_plays 6 none, Cond.fieldLink RX4 98 "MooringTreeModel" "earned" "I", Cond.fieldLink RX4 95 "MooringTreeModel" "failed" "I", Cond.fieldLink RX4 51 "MooringTreeModel" "left" "[I", Cond.fieldLink RX4 16 "MooringTreeModel" "cargo" "[I", Cond.fieldLink RX4 7 "MooringTreeModel" "comes" "[I", Cond.fieldLink RX4 19 "MooringTreeModel" "rate" "[I", Cond.fieldLink RX4 22 "MooringTreeModel" "price" "I", Cond.fieldLink RX4 26 "MooringTreeModel" "fee" "I", Cond.methodLink RX4 87 yX4_orderAt, Cond.instanceMethod yX4_orderAt, Cond.selects RX4 yX4_orderAt yX4_orderAt, Cond.code yX4_orderAt cX4_orderAt 4 (some .int), Cond.fieldLink RX4 32 "MooringTreeModel" "parent" "[I", Cond.fieldLink RX4 41 "MooringTreeModel" "order" "[I", Cond.methodLink RX4 80 yX4_hasOwn, Cond.instanceMethod yX4_hasOwn, Cond.selects RX4 yX4_hasOwn yX4_hasOwn]
def wsX4_where_r3 : List Cond := [Cond.code yX4_hasOwn cX4_hasOwn 3 (some .boolean), Cond.methodLink RX4 101 yX4_does, Cond.instanceMethod yX4_does, Cond.selects RX4 yX4_does yX4_does, Cond.code yX4_does cX4_does 5 none, Cond.methodLink RX4 91 yX4_can, Cond.instanceMethod yX4_can, Cond.selects RX4 yX4_can yX4_can, Cond.code yX4_can cX4_can 8 (some .boolean), Cond.fieldLink RX4 13 "MooringTreeModel" "draught" "[I"]
def wsX4_where : List Cond := .code yX4_where cX4_where 4 (some .int) :: ((wsX4_where_r1 ++ (wsX4_where_r2 ++ wsX4_where_r3)) ++ wsX40)
def wsX4_cargo_r1 : List Cond := [Cond.fieldLink RX4 51 "MooringTreeModel" "left" "[I", Cond.methodLink RX4 105 yX4_misses, Cond.instanceMethod yX4_misses, Cond.selects RX4 yX4_misses yX4_misses, Cond.initialized RX4, Cond.code yX4_misses cX4_misses 4 (some .boolean), Cond.methodLink RX4 74 yX4_isLine, Cond.instanceMethod yX4_isLine, Cond.selects RX4 yX4_isLine yX4_isLine, Cond.code yX4_isLine cX4_isLine 2 (some .boolean), Cond.fieldLink RX4 29 "MooringTreeModel" "lines" "I", Cond.methodLink RX4 60 yX4_isIn, Cond.static yX4_isIn, Cond.code yX4_isIn cX4_isIn 3 (some .boolean), Cond.methodLink RX4 77 yX4_isShip, Cond.instanceMethod yX4_isShip, Cond.selects RX4 yX4_isShip yX4_isShip, Cond.code yX4_isShip cX4_isShip 2 (some .boolean), Cond.fieldLink RX4 57 "MooringTreeModel" "ships" "I", Cond.methodLink RX4 64 yX4_isTurn, Cond.static yX4_isTurn, Cond.code yX4_isTurn cX4_isTurn 1 (some .boolean), Cond.methodLink RX4 68 yX4_fails, Cond.instanceMethod yX4_fails]
def wsX4_cargo_r2 : List Cond := [Cond.selects RX4 yX4_fails yX4_fails, Cond.code yX4_fails cX4_fails 2 (some .boolean), Cond.fieldLink RX4 54 "MooringTreeModel" "thrown" "I", Cond.methodLink RX4 108 yX4_plays, Cond.instanceMethod yX4_plays, Cond.selects RX4 yX4_plays yX4_plays, Cond.code yX4_plays cX4_plays 6 none, Cond.fieldLink RX4 98 "MooringTreeModel" "earned" "I", Cond.fieldLink RX4 95 "MooringTreeModel" "failed" "I", Cond.fieldLink RX4 48 "MooringTreeModel" "at" "[I", Cond.fieldLink RX4 16 "MooringTreeModel" "cargo" "[I", Cond.fieldLink RX4 7 "MooringTreeModel" "comes" "[I", Cond.fieldLink RX4 19 "MooringTreeModel" "rate" "[I", Cond.fieldLink RX4 22 "MooringTreeModel" "price" "I", Cond.fieldLink RX4 26 "MooringTreeModel" "fee" "I", Cond.methodLink RX4 87 yX4_orderAt, Cond.instanceMethod yX4_orderAt, Cond.selects RX4 yX4_orderAt yX4_orderAt, Cond.code yX4_orderAt cX4_orderAt 4 (some .int), Cond.fieldLink RX4 32 "MooringTreeModel" "parent" "[I", Cond.fieldLink RX4 41 "MooringTreeModel" "order" "[I", Cond.methodLink RX4 80 yX4_hasOwn, Cond.instanceMethod yX4_hasOwn, Cond.selects RX4 yX4_hasOwn yX4_hasOwn]
def wsX4_cargo_r3 : List Cond := [Cond.code yX4_hasOwn cX4_hasOwn 3 (some .boolean), Cond.methodLink RX4 101 yX4_does, Cond.instanceMethod yX4_does, Cond.selects RX4 yX4_does yX4_does, Cond.code yX4_does cX4_does 5 none, Cond.methodLink RX4 91 yX4_can, Cond.instanceMethod yX4_can, Cond.selects RX4 yX4_can yX4_can, Cond.code yX4_can cX4_can 8 (some .boolean), Cond.fieldLink RX4 13 "MooringTreeModel" "draught" "[I"]
def wsX4_cargo : List Cond := .code yX4_cargo cX4_cargo 4 (some .int) :: ((wsX4_cargo_r1 ++ (wsX4_cargo_r2 ++ wsX4_cargo_r3)) ++ wsX40)
def wsX4_failures_r1 : List Cond := [Cond.fieldLink RX4 95 "MooringTreeModel" "failed" "I", Cond.methodLink RX4 74 yX4_isLine, Cond.instanceMethod yX4_isLine, Cond.selects RX4 yX4_isLine yX4_isLine, Cond.initialized RX4, Cond.code yX4_isLine cX4_isLine 2 (some .boolean), Cond.fieldLink RX4 29 "MooringTreeModel" "lines" "I", Cond.methodLink RX4 60 yX4_isIn, Cond.static yX4_isIn, Cond.code yX4_isIn cX4_isIn 3 (some .boolean), Cond.methodLink RX4 68 yX4_fails, Cond.instanceMethod yX4_fails, Cond.selects RX4 yX4_fails yX4_fails, Cond.code yX4_fails cX4_fails 2 (some .boolean), Cond.fieldLink RX4 54 "MooringTreeModel" "thrown" "I", Cond.methodLink RX4 108 yX4_plays, Cond.instanceMethod yX4_plays, Cond.selects RX4 yX4_plays yX4_plays, Cond.code yX4_plays cX4_plays 6 none, Cond.fieldLink RX4 98 "MooringTreeModel" "earned" "I", Cond.fieldLink RX4 57 "MooringTreeModel" "ships" "I", Cond.fieldLink RX4 48 "MooringTreeModel" "at" "[I", Cond.fieldLink RX4 51 "MooringTreeModel" "left" "[I", Cond.fieldLink RX4 16 "MooringTreeModel" "cargo" "[I"]
def wsX4_failures_r2 : List Cond := [Cond.fieldLink RX4 7 "MooringTreeModel" "comes" "[I", Cond.fieldLink RX4 19 "MooringTreeModel" "rate" "[I", Cond.fieldLink RX4 22 "MooringTreeModel" "price" "I", Cond.fieldLink RX4 26 "MooringTreeModel" "fee" "I", Cond.methodLink RX4 87 yX4_orderAt, Cond.instanceMethod yX4_orderAt, Cond.selects RX4 yX4_orderAt yX4_orderAt, Cond.code yX4_orderAt cX4_orderAt 4 (some .int), Cond.fieldLink RX4 32 "MooringTreeModel" "parent" "[I", Cond.fieldLink RX4 41 "MooringTreeModel" "order" "[I", Cond.methodLink RX4 80 yX4_hasOwn, Cond.instanceMethod yX4_hasOwn, Cond.selects RX4 yX4_hasOwn yX4_hasOwn, Cond.code yX4_hasOwn cX4_hasOwn 3 (some .boolean), Cond.methodLink RX4 101 yX4_does, Cond.instanceMethod yX4_does, Cond.selects RX4 yX4_does yX4_does, Cond.code yX4_does cX4_does 5 none, Cond.methodLink RX4 91 yX4_can, Cond.instanceMethod yX4_can, Cond.selects RX4 yX4_can yX4_can, Cond.code yX4_can cX4_can 8 (some .boolean), Cond.fieldLink RX4 13 "MooringTreeModel" "draught" "[I"]
def wsX4_failures : List Cond := .code yX4_failures cX4_failures 2 (some .int) :: ((wsX4_failures_r1 ++ wsX4_failures_r2) ++ wsX40)
def wsX4_look_r1 : List Cond := [Cond.fieldLink RX4 38 "MooringTreeModel" "seen" "[I", Cond.fieldLink RX4 98 "MooringTreeModel" "earned" "I", Cond.methodLink RX4 74 yX4_isLine, Cond.instanceMethod yX4_isLine, Cond.selects RX4 yX4_isLine yX4_isLine, Cond.initialized RX4, Cond.code yX4_isLine cX4_isLine 2 (some .boolean), Cond.fieldLink RX4 29 "MooringTreeModel" "lines" "I", Cond.methodLink RX4 60 yX4_isIn, Cond.static yX4_isIn, Cond.code yX4_isIn cX4_isIn 3 (some .boolean), Cond.methodLink RX4 64 yX4_isTurn, Cond.static yX4_isTurn, Cond.code yX4_isTurn cX4_isTurn 1 (some .boolean), Cond.methodLink RX4 68 yX4_fails, Cond.instanceMethod yX4_fails, Cond.selects RX4 yX4_fails yX4_fails, Cond.code yX4_fails cX4_fails 2 (some .boolean), Cond.fieldLink RX4 54 "MooringTreeModel" "thrown" "I", Cond.methodLink RX4 108 yX4_plays, Cond.instanceMethod yX4_plays, Cond.selects RX4 yX4_plays yX4_plays, Cond.code yX4_plays cX4_plays 6 none, Cond.fieldLink RX4 95 "MooringTreeModel" "failed" "I"]
def wsX4_look_r2 : List Cond := [Cond.fieldLink RX4 57 "MooringTreeModel" "ships" "I", Cond.fieldLink RX4 48 "MooringTreeModel" "at" "[I", Cond.fieldLink RX4 51 "MooringTreeModel" "left" "[I", Cond.fieldLink RX4 16 "MooringTreeModel" "cargo" "[I", Cond.fieldLink RX4 7 "MooringTreeModel" "comes" "[I", Cond.fieldLink RX4 19 "MooringTreeModel" "rate" "[I", Cond.fieldLink RX4 22 "MooringTreeModel" "price" "I", Cond.fieldLink RX4 26 "MooringTreeModel" "fee" "I", Cond.methodLink RX4 87 yX4_orderAt, Cond.instanceMethod yX4_orderAt, Cond.selects RX4 yX4_orderAt yX4_orderAt, Cond.code yX4_orderAt cX4_orderAt 4 (some .int), Cond.fieldLink RX4 32 "MooringTreeModel" "parent" "[I", Cond.fieldLink RX4 41 "MooringTreeModel" "order" "[I", Cond.methodLink RX4 80 yX4_hasOwn, Cond.instanceMethod yX4_hasOwn, Cond.selects RX4 yX4_hasOwn yX4_hasOwn, Cond.code yX4_hasOwn cX4_hasOwn 3 (some .boolean), Cond.methodLink RX4 101 yX4_does, Cond.instanceMethod yX4_does, Cond.selects RX4 yX4_does yX4_does, Cond.code yX4_does cX4_does 5 none, Cond.methodLink RX4 91 yX4_can, Cond.instanceMethod yX4_can]
def wsX4_look_r3 : List Cond := [Cond.selects RX4 yX4_can yX4_can, Cond.code yX4_can cX4_can 8 (some .boolean), Cond.fieldLink RX4 13 "MooringTreeModel" "draught" "[I"]
def wsX4_look : List Cond := .code yX4_look cX4_look 3 (some .int) :: ((wsX4_look_r1 ++ (wsX4_look_r2 ++ wsX4_look_r3)) ++ wsX40)
def wsX4_seen : List Cond := .code yX4_seen cX4_seen 2 (some .int) :: ([.fieldLink RX4 38 "MooringTreeModel" "seen" "[I", .methodLink RX4 74 yX4_isLine, .instanceMethod yX4_isLine, .selects RX4 yX4_isLine yX4_isLine, .initialized RX4, .code yX4_isLine cX4_isLine 2 (some .boolean), .fieldLink RX4 29 "MooringTreeModel" "lines" "I", .methodLink RX4 60 yX4_isIn, .static yX4_isIn, .code yX4_isIn cX4_isIn 3 (some .boolean), .methodLink RX4 68 yX4_fails, .instanceMethod yX4_fails, .selects RX4 yX4_fails yX4_fails, .code yX4_fails cX4_fails 2 (some .boolean), .fieldLink RX4 54 "MooringTreeModel" "thrown" "I"] ++ wsX40)
def wsX4_aheadOf : List Cond := .code yX4_aheadOf cX4_aheadOf 4 (some .int) :: ([.fieldLink RX4 44 "MooringTreeModel" "isAhead" "[Z"] ++ wsX40)
def wsX4_ahead : List Cond := .code yX4_ahead cX4_ahead 2 (some .int) :: ([.methodLink RX4 74 yX4_isLine, .instanceMethod yX4_isLine, .selects RX4 yX4_isLine yX4_isLine, .initialized RX4, .code yX4_isLine cX4_isLine 2 (some .boolean), .fieldLink RX4 29 "MooringTreeModel" "lines" "I", .methodLink RX4 60 yX4_isIn, .static yX4_isIn, .code yX4_isIn cX4_isIn 3 (some .boolean), .methodLink RX4 68 yX4_fails, .instanceMethod yX4_fails, .selects RX4 yX4_fails yX4_fails, .code yX4_fails cX4_fails 2 (some .boolean), .fieldLink RX4 54 "MooringTreeModel" "thrown" "I", .methodLink RX4 111 yX4_aheadOf, .instanceMethod yX4_aheadOf, .selects RX4 yX4_aheadOf yX4_aheadOf, .code yX4_aheadOf cX4_aheadOf 4 (some .int), .fieldLink RX4 44 "MooringTreeModel" "isAhead" "[Z"] ++ wsX40)
def wsX4_markOf_r1 : List Cond := [Cond.fieldLink RX4 98 "MooringTreeModel" "earned" "I", Cond.methodLink RX4 108 yX4_plays, Cond.instanceMethod yX4_plays, Cond.selects RX4 yX4_plays yX4_plays, Cond.initialized RX4, Cond.code yX4_plays cX4_plays 6 none, Cond.fieldLink RX4 95 "MooringTreeModel" "failed" "I", Cond.fieldLink RX4 57 "MooringTreeModel" "ships" "I", Cond.fieldLink RX4 48 "MooringTreeModel" "at" "[I", Cond.fieldLink RX4 51 "MooringTreeModel" "left" "[I", Cond.fieldLink RX4 16 "MooringTreeModel" "cargo" "[I", Cond.fieldLink RX4 7 "MooringTreeModel" "comes" "[I", Cond.fieldLink RX4 19 "MooringTreeModel" "rate" "[I", Cond.fieldLink RX4 22 "MooringTreeModel" "price" "I", Cond.fieldLink RX4 26 "MooringTreeModel" "fee" "I", Cond.methodLink RX4 87 yX4_orderAt, Cond.instanceMethod yX4_orderAt, Cond.selects RX4 yX4_orderAt yX4_orderAt, Cond.code yX4_orderAt cX4_orderAt 4 (some .int), Cond.fieldLink RX4 32 "MooringTreeModel" "parent" "[I", Cond.fieldLink RX4 41 "MooringTreeModel" "order" "[I", Cond.methodLink RX4 80 yX4_hasOwn, Cond.instanceMethod yX4_hasOwn, Cond.selects RX4 yX4_hasOwn yX4_hasOwn]
def wsX4_markOf_r2 : List Cond := [Cond.code yX4_hasOwn cX4_hasOwn 3 (some .boolean), Cond.methodLink RX4 101 yX4_does, Cond.instanceMethod yX4_does, Cond.selects RX4 yX4_does yX4_does, Cond.code yX4_does cX4_does 5 none, Cond.methodLink RX4 91 yX4_can, Cond.instanceMethod yX4_can, Cond.selects RX4 yX4_can yX4_can, Cond.code yX4_can cX4_can 8 (some .boolean), Cond.fieldLink RX4 13 "MooringTreeModel" "draught" "[I", Cond.methodLink RX4 111 yX4_aheadOf, Cond.instanceMethod yX4_aheadOf, Cond.selects RX4 yX4_aheadOf yX4_aheadOf, Cond.code yX4_aheadOf cX4_aheadOf 4 (some .int), Cond.fieldLink RX4 44 "MooringTreeModel" "isAhead" "[Z"]
def wsX4_markOf : List Cond := .code yX4_markOf cX4_markOf 4 (some .int) :: ((wsX4_markOf_r1 ++ wsX4_markOf_r2) ++ wsX40)
def wsX4_mark_r1 : List Cond := [Cond.methodLink RX4 74 yX4_isLine, Cond.instanceMethod yX4_isLine, Cond.selects RX4 yX4_isLine yX4_isLine, Cond.initialized RX4, Cond.code yX4_isLine cX4_isLine 2 (some .boolean), Cond.fieldLink RX4 29 "MooringTreeModel" "lines" "I", Cond.methodLink RX4 60 yX4_isIn, Cond.static yX4_isIn, Cond.code yX4_isIn cX4_isIn 3 (some .boolean), Cond.methodLink RX4 68 yX4_fails, Cond.instanceMethod yX4_fails, Cond.selects RX4 yX4_fails yX4_fails, Cond.code yX4_fails cX4_fails 2 (some .boolean), Cond.fieldLink RX4 54 "MooringTreeModel" "thrown" "I", Cond.methodLink RX4 115 yX4_markOf, Cond.instanceMethod yX4_markOf, Cond.selects RX4 yX4_markOf yX4_markOf, Cond.code yX4_markOf cX4_markOf 4 (some .int), Cond.fieldLink RX4 98 "MooringTreeModel" "earned" "I", Cond.methodLink RX4 108 yX4_plays, Cond.instanceMethod yX4_plays, Cond.selects RX4 yX4_plays yX4_plays, Cond.code yX4_plays cX4_plays 6 none, Cond.fieldLink RX4 95 "MooringTreeModel" "failed" "I"]
def wsX4_mark_r2 : List Cond := [Cond.fieldLink RX4 57 "MooringTreeModel" "ships" "I", Cond.fieldLink RX4 48 "MooringTreeModel" "at" "[I", Cond.fieldLink RX4 51 "MooringTreeModel" "left" "[I", Cond.fieldLink RX4 16 "MooringTreeModel" "cargo" "[I", Cond.fieldLink RX4 7 "MooringTreeModel" "comes" "[I", Cond.fieldLink RX4 19 "MooringTreeModel" "rate" "[I", Cond.fieldLink RX4 22 "MooringTreeModel" "price" "I", Cond.fieldLink RX4 26 "MooringTreeModel" "fee" "I", Cond.methodLink RX4 87 yX4_orderAt, Cond.instanceMethod yX4_orderAt, Cond.selects RX4 yX4_orderAt yX4_orderAt, Cond.code yX4_orderAt cX4_orderAt 4 (some .int), Cond.fieldLink RX4 32 "MooringTreeModel" "parent" "[I", Cond.fieldLink RX4 41 "MooringTreeModel" "order" "[I", Cond.methodLink RX4 80 yX4_hasOwn, Cond.instanceMethod yX4_hasOwn, Cond.selects RX4 yX4_hasOwn yX4_hasOwn, Cond.code yX4_hasOwn cX4_hasOwn 3 (some .boolean), Cond.methodLink RX4 101 yX4_does, Cond.instanceMethod yX4_does, Cond.selects RX4 yX4_does yX4_does, Cond.code yX4_does cX4_does 5 none, Cond.methodLink RX4 91 yX4_can, Cond.instanceMethod yX4_can]
def wsX4_mark_r3 : List Cond := [Cond.selects RX4 yX4_can yX4_can, Cond.code yX4_can cX4_can 8 (some .boolean), Cond.fieldLink RX4 13 "MooringTreeModel" "draught" "[I", Cond.methodLink RX4 111 yX4_aheadOf, Cond.instanceMethod yX4_aheadOf, Cond.selects RX4 yX4_aheadOf yX4_aheadOf, Cond.code yX4_aheadOf cX4_aheadOf 4 (some .int), Cond.fieldLink RX4 44 "MooringTreeModel" "isAhead" "[Z"]
def wsX4_mark : List Cond := .code yX4_mark cX4_mark 2 (some .int) :: ((wsX4_mark_r1 ++ (wsX4_mark_r2 ++ wsX4_mark_r3)) ++ wsX40)
def wsX4_best_r1 : List Cond := [Cond.fieldLink RX4 54 "MooringTreeModel" "thrown" "I", Cond.fieldLink RX4 29 "MooringTreeModel" "lines" "I", Cond.methodLink RX4 115 yX4_markOf, Cond.instanceMethod yX4_markOf, Cond.selects RX4 yX4_markOf yX4_markOf, Cond.initialized RX4, Cond.code yX4_markOf cX4_markOf 4 (some .int), Cond.fieldLink RX4 98 "MooringTreeModel" "earned" "I", Cond.methodLink RX4 108 yX4_plays, Cond.instanceMethod yX4_plays, Cond.selects RX4 yX4_plays yX4_plays, Cond.code yX4_plays cX4_plays 6 none, Cond.fieldLink RX4 95 "MooringTreeModel" "failed" "I", Cond.fieldLink RX4 57 "MooringTreeModel" "ships" "I", Cond.fieldLink RX4 48 "MooringTreeModel" "at" "[I", Cond.fieldLink RX4 51 "MooringTreeModel" "left" "[I", Cond.fieldLink RX4 16 "MooringTreeModel" "cargo" "[I", Cond.fieldLink RX4 7 "MooringTreeModel" "comes" "[I", Cond.fieldLink RX4 19 "MooringTreeModel" "rate" "[I", Cond.fieldLink RX4 22 "MooringTreeModel" "price" "I", Cond.fieldLink RX4 26 "MooringTreeModel" "fee" "I", Cond.methodLink RX4 87 yX4_orderAt, Cond.instanceMethod yX4_orderAt, Cond.selects RX4 yX4_orderAt yX4_orderAt]
def wsX4_best_r2 : List Cond := [Cond.code yX4_orderAt cX4_orderAt 4 (some .int), Cond.fieldLink RX4 32 "MooringTreeModel" "parent" "[I", Cond.fieldLink RX4 41 "MooringTreeModel" "order" "[I", Cond.methodLink RX4 80 yX4_hasOwn, Cond.instanceMethod yX4_hasOwn, Cond.selects RX4 yX4_hasOwn yX4_hasOwn, Cond.code yX4_hasOwn cX4_hasOwn 3 (some .boolean), Cond.methodLink RX4 101 yX4_does, Cond.instanceMethod yX4_does, Cond.selects RX4 yX4_does yX4_does, Cond.code yX4_does cX4_does 5 none, Cond.methodLink RX4 91 yX4_can, Cond.instanceMethod yX4_can, Cond.selects RX4 yX4_can yX4_can, Cond.code yX4_can cX4_can 8 (some .boolean), Cond.fieldLink RX4 13 "MooringTreeModel" "draught" "[I", Cond.methodLink RX4 111 yX4_aheadOf, Cond.instanceMethod yX4_aheadOf, Cond.selects RX4 yX4_aheadOf yX4_aheadOf, Cond.code yX4_aheadOf cX4_aheadOf 4 (some .int), Cond.fieldLink RX4 44 "MooringTreeModel" "isAhead" "[Z"]
def wsX4_best : List Cond := .code yX4_best cX4_best 5 (some .int) :: ((wsX4_best_r1 ++ wsX4_best_r2) ++ wsX40)
def wsJ9_max_7cf53 : List Cond := .code yJ9_max_7cf53 cJ9_max_7cf53 2 (some .int) :: ([])
def wsJ9_min_7cf53 : List Cond := .code yJ9_min_7cf53 cJ9_min_7cf53 2 (some .int) :: ([])
def wsL_addShip_r1 : List Cond := [Cond.classLink RL 13 "java/lang/IllegalArgumentException", Cond.classLink RL 15 "java/lang/IllegalStateException", Cond.methodLink RL 7 yX3_addShip, Cond.instanceMethod yX3_addShip, Cond.selects RX3 yX3_addShip yX3_addShip, Cond.initialized RX3, Cond.code yX3_addShip cX3_addShip 4 (some .int), Cond.classLink RX3 37 "java/lang/IllegalArgumentException", Cond.initialized "java/lang/IllegalArgumentException", Cond.classLink RX3 51 "java/lang/IllegalStateException", Cond.initialized "java/lang/IllegalStateException", Cond.fieldLink RX3 12 "MooringTree" "harbour" "LMooringTree$Harbour;", Cond.classLink RX3 56 RX2, Cond.instantiable RX2 5, Cond.initialized RX2, Cond.methodLink RX3 33 yX3_isTurn, Cond.static yX3_isTurn, Cond.code yX3_isTurn cX3_isTurn 1 (some .boolean), Cond.instanceMethod yX2_init, Cond.code yX2_init cX2_init 4 none, Cond.methodLink RX2 3 objectInit, Cond.instanceMethod objectInit, Cond.code objectInit ⟨#[0xb1]⟩ 1 none, Cond.fieldLink RX2 9 "MooringTree$Ship" "place" "I"]
def wsL_addShip_r2 : List Cond := [Cond.fieldLink RX2 15 "MooringTree$Ship" "comes" "I", Cond.fieldLink RX2 18 "MooringTree$Ship" "draught" "I", Cond.fieldLink RX2 21 "MooringTree$Ship" "fullCargo" "I", Cond.fieldLink RX2 24 "MooringTree$Ship" "left" "I", Cond.instanceMethod yX0_admit, Cond.initialized RX0, Cond.selects RX0 yX0_admit yX0_admit, Cond.code yX0_admit cX0_admit 3 (some .int), Cond.fieldLink RX0 17 "MooringTree$Harbour" "shipCount" "I", Cond.fieldLink RX0 11 "MooringTree$Harbour" "ships" "[LMooringTree$Ship;"]
def wsL_addShip : List Cond := .codeWith yL_addShip cL_addShip 6 (some .int) [(0, 12, 15, 13), (0, 12, 19, 15)] :: ((wsL_addShip_r1 ++ wsL_addShip_r2) ++ wsX30 ++ wsX00 ++ wsX20 ++ (vx_atS RX3 41 "java/lang/IllegalArgumentException" ["java/lang/RuntimeException", "java/lang/Exception"]).filter goodWord ++ (vx_atS RX3 55 "java/lang/IllegalStateException" ["java/lang/RuntimeException", "java/lang/Exception"]).filter goodWord)
def wsL_setRate : List Cond := .codeWith yL_setRate cL_setRate 5 (some .int) [(0, 10, 13, 21), (0, 10, 17, 13)] :: ([.classLink RL 21 "java/lang/IndexOutOfBoundsException", .classLink RL 13 "java/lang/IllegalArgumentException", .methodLink RL 17 yX3_setRate, .instanceMethod yX3_setRate, .selects RX3 yX3_setRate yX3_setRate, .initialized RX3, .code yX3_setRate cX3_setRate 4 (some .int), .classLink RX3 37 "java/lang/IllegalArgumentException", .initialized "java/lang/IllegalArgumentException", .fieldLink RX3 12 "MooringTree" "harbour" "LMooringTree$Harbour;", .methodLink RX3 65 yX3_checkBerth, .static yX3_checkBerth, .code yX3_checkBerth cX3_checkBerth 1 none, .classLink RX3 161 "java/lang/IndexOutOfBoundsException", .initialized "java/lang/IndexOutOfBoundsException", .methodLink RX3 173 yX3_isBerth, .static yX3_isBerth, .code yX3_isBerth cX3_isBerth 1 (some .boolean)] ++ wsX30 ++ wsX00 ++ (vx_atS RX3 41 "java/lang/IllegalArgumentException" ["java/lang/RuntimeException", "java/lang/Exception"]).filter goodWord ++ (vx_atS RX3 165 "java/lang/IndexOutOfBoundsException" ["java/lang/RuntimeException", "java/lang/Exception"]).filter goodWord)
def wsL_setRules : List Cond := .codeWith yL_setRules cL_setRules 4 (some .int) [(0, 6, 9, 13)] :: ([.classLink RL 13 "java/lang/IllegalArgumentException", .methodLink RL 23 yX3_setRules, .instanceMethod yX3_setRules, .selects RX3 yX3_setRules yX3_setRules, .initialized RX3, .code yX3_setRules cX3_setRules 3 none, .classLink RX3 37 "java/lang/IllegalArgumentException", .initialized "java/lang/IllegalArgumentException", .fieldLink RX3 12 "MooringTree" "harbour" "LMooringTree$Harbour;"] ++ wsX30 ++ wsX00 ++ (vx_atS RX3 41 "java/lang/IllegalArgumentException" ["java/lang/RuntimeException", "java/lang/Exception"]).filter goodWord)
def wsL_fork_r1 : List Cond := [Cond.classLink RL 21 "java/lang/IndexOutOfBoundsException", Cond.classLink RL 15 "java/lang/IllegalStateException", Cond.methodLink RL 27 yX3_fork, Cond.instanceMethod yX3_fork, Cond.selects RX3 yX3_fork yX3_fork, Cond.initialized RX3, Cond.code yX3_fork cX3_fork 4 (some .int), Cond.classLink RX3 51 "java/lang/IllegalStateException", Cond.initialized "java/lang/IllegalStateException", Cond.fieldLink RX3 29 "MooringTree" "forks" "I", Cond.fieldLink RX3 25 "MooringTree" "lines" "[LMooringTree$Line;", Cond.classLink RX3 16 RX1, Cond.instantiable RX1 6, Cond.initialized RX1, Cond.methodLink RX3 85 yX3_lineNumbered, Cond.instanceMethod yX3_lineNumbered, Cond.selects RX3 yX3_lineNumbered yX3_lineNumbered, Cond.code yX3_lineNumbered cX3_lineNumbered 3 (some (.object "MooringTree$Line")), Cond.classLink RX3 161 "java/lang/IndexOutOfBoundsException", Cond.initialized "java/lang/IndexOutOfBoundsException", Cond.methodLink RX3 89 yX3_checkTurn, Cond.static yX3_checkTurn, Cond.code yX3_checkTurn cX3_checkTurn 1 none, Cond.methodLink RX3 33 yX3_isTurn]
def wsL_fork_r2 : List Cond := [Cond.static yX3_isTurn, Cond.code yX3_isTurn cX3_isTurn 1 (some .boolean), Cond.instanceMethod yX1_init, Cond.code yX1_init cX1_init 3 none, Cond.methodLink RX1 3 objectInit, Cond.instanceMethod objectInit, Cond.code objectInit ⟨#[0xb1]⟩ 1 none, Cond.arrayClass .int, Cond.fieldLink RX1 9 "MooringTree$Line" "orders" "[I", Cond.fieldLink RX1 15 "MooringTree$Line" "ownTurns" "I", Cond.fieldLink RX1 19 "MooringTree$Line" "aheadTurns" "I", Cond.fieldLink RX1 22 "MooringTree$Line" "madeOf" "LMooringTree$Line;", Cond.fieldLink RX1 26 "MooringTree$Line" "firstTurn" "I", Cond.fieldLink RX1 29 "MooringTree$Line" "seen" "I"]
def wsL_fork : List Cond := .codeWith yL_fork cL_fork 5 (some .int) [(0, 10, 13, 21), (0, 10, 17, 15)] :: ((wsL_fork_r1 ++ wsL_fork_r2) ++ wsX30 ++ wsX10 ++ (vx_atS RX3 55 "java/lang/IllegalStateException" ["java/lang/RuntimeException", "java/lang/Exception"]).filter goodWord ++ (vx_atS RX3 165 "java/lang/IndexOutOfBoundsException" ["java/lang/RuntimeException", "java/lang/Exception"]).filter goodWord)
def wsL_order_r1 : List Cond := [Cond.classLink RL 21 "java/lang/IndexOutOfBoundsException", Cond.classLink RL 13 "java/lang/IllegalArgumentException", Cond.classLink RL 15 "java/lang/IllegalStateException", Cond.methodLink RL 30 yX3_order, Cond.instanceMethod yX3_order, Cond.selects RX3 yX3_order yX3_order, Cond.initialized RX3, Cond.code yX3_order cX3_order 7 (some .boolean), Cond.classLink RX3 37 "java/lang/IllegalArgumentException", Cond.initialized "java/lang/IllegalArgumentException", Cond.classLink RX3 51 "java/lang/IllegalStateException", Cond.initialized "java/lang/IllegalStateException", Cond.methodLink RX3 85 yX3_lineNumbered, Cond.instanceMethod yX3_lineNumbered, Cond.selects RX3 yX3_lineNumbered yX3_lineNumbered, Cond.code yX3_lineNumbered cX3_lineNumbered 3 (some (.object "MooringTree$Line")), Cond.classLink RX3 161 "java/lang/IndexOutOfBoundsException", Cond.initialized "java/lang/IndexOutOfBoundsException", Cond.fieldLink RX3 25 "MooringTree" "lines" "[LMooringTree$Line;", Cond.methodLink RX3 89 yX3_checkTurn, Cond.static yX3_checkTurn, Cond.code yX3_checkTurn cX3_checkTurn 1 none, Cond.methodLink RX3 33 yX3_isTurn, Cond.static yX3_isTurn]
def wsL_order_r2 : List Cond := [Cond.code yX3_isTurn cX3_isTurn 1 (some .boolean), Cond.methodLink RX3 94 yX3_shipNumbered, Cond.instanceMethod yX3_shipNumbered, Cond.selects RX3 yX3_shipNumbered yX3_shipNumbered, Cond.code yX3_shipNumbered cX3_shipNumbered 3 (some (.object "MooringTree$Ship")), Cond.fieldLink RX3 12 "MooringTree" "harbour" "LMooringTree$Harbour;", Cond.instanceMethod yX0_shipOrNull, Cond.initialized RX0, Cond.selects RX0 yX0_shipOrNull yX0_shipOrNull, Cond.code yX0_shipOrNull cX0_shipOrNull 2 (some (.object "MooringTree$Ship")), Cond.fieldLink RX0 11 "MooringTree$Harbour" "ships" "[LMooringTree$Ship;", Cond.methodLink RX3 65 yX3_checkBerth, Cond.static yX3_checkBerth, Cond.code yX3_checkBerth cX3_checkBerth 1 none, Cond.methodLink RX3 173 yX3_isBerth, Cond.static yX3_isBerth, Cond.code yX3_isBerth cX3_isBerth 1 (some .boolean), Cond.methodLink RX3 105 yX3_codeOf, Cond.static yX3_codeOf, Cond.code yX3_codeOf cX3_codeOf 3 (some .int), Cond.instanceMethod yX1_give, Cond.initialized RX1, Cond.selects RX1 yX1_give yX1_give, Cond.code yX1_give cX1_give 4 (some .boolean)]
def wsL_order_r3 : List Cond := [Cond.fieldLink RX1 22 "MooringTree$Line" "madeOf" "LMooringTree$Line;", Cond.fieldLink RX1 29 "MooringTree$Line" "seen" "I", Cond.fieldLink RX1 19 "MooringTree$Line" "aheadTurns" "I", Cond.fieldLink RX1 15 "MooringTree$Line" "ownTurns" "I", Cond.fieldLink RX1 9 "MooringTree$Line" "orders" "[I"]
def wsL_order : List Cond := .codeWith yL_order cL_order 8 (some .int) [(0, 23, 26, 21), (0, 23, 30, 13), (0, 23, 34, 15)] :: ((wsL_order_r1 ++ (wsL_order_r2 ++ wsL_order_r3)) ++ wsX10 ++ wsX30 ++ wsX00 ++ (vx_atS RX3 41 "java/lang/IllegalArgumentException" ["java/lang/RuntimeException", "java/lang/Exception"]).filter goodWord ++ (vx_atS RX3 55 "java/lang/IllegalStateException" ["java/lang/RuntimeException", "java/lang/Exception"]).filter goodWord ++ (vx_atS RX3 165 "java/lang/IndexOutOfBoundsException" ["java/lang/RuntimeException", "java/lang/Exception"]).filter goodWord)
def wsL_takeAway_r1 : List Cond := [Cond.classLink RL 21 "java/lang/IndexOutOfBoundsException", Cond.methodLink RL 34 yX3_takeAway, Cond.instanceMethod yX3_takeAway, Cond.selects RX3 yX3_takeAway yX3_takeAway, Cond.initialized RX3, Cond.code yX3_takeAway cX3_takeAway 4 (some .boolean), Cond.methodLink RX3 85 yX3_lineNumbered, Cond.instanceMethod yX3_lineNumbered, Cond.selects RX3 yX3_lineNumbered yX3_lineNumbered, Cond.code yX3_lineNumbered cX3_lineNumbered 3 (some (.object "MooringTree$Line")), Cond.classLink RX3 161 "java/lang/IndexOutOfBoundsException", Cond.initialized "java/lang/IndexOutOfBoundsException", Cond.fieldLink RX3 25 "MooringTree" "lines" "[LMooringTree$Line;", Cond.methodLink RX3 89 yX3_checkTurn, Cond.static yX3_checkTurn, Cond.code yX3_checkTurn cX3_checkTurn 1 none, Cond.methodLink RX3 33 yX3_isTurn, Cond.static yX3_isTurn, Cond.code yX3_isTurn cX3_isTurn 1 (some .boolean), Cond.instanceMethod yX1_drop, Cond.initialized RX1, Cond.selects RX1 yX1_drop yX1_drop, Cond.code yX1_drop cX1_drop 3 (some .boolean), Cond.fieldLink RX1 15 "MooringTree$Line" "ownTurns" "I"]
def wsL_takeAway_r2 : List Cond := [Cond.fieldLink RX1 19 "MooringTree$Line" "aheadTurns" "I", Cond.methodLink RX1 32 yX1_hasOwn, Cond.instanceMethod yX1_hasOwn, Cond.selects RX1 yX1_hasOwn yX1_hasOwn, Cond.code yX1_hasOwn cX1_hasOwn 2 (some .boolean)]
def wsL_takeAway : List Cond := .codeWith yL_takeAway cL_takeAway 5 (some .int) [(0, 17, 20, 21)] :: ((wsL_takeAway_r1 ++ wsL_takeAway_r2) ++ wsX30 ++ wsX10 ++ (vx_atS RX3 165 "java/lang/IndexOutOfBoundsException" ["java/lang/RuntimeException", "java/lang/Exception"]).filter goodWord)
def wsL_orderOf_r1 : List Cond := [Cond.classLink RL 21 "java/lang/IndexOutOfBoundsException", Cond.methodLink RL 38 yX3_orderOf, Cond.instanceMethod yX3_orderOf, Cond.selects RX3 yX3_orderOf yX3_orderOf, Cond.initialized RX3, Cond.code yX3_orderOf cX3_orderOf 4 (some .int), Cond.methodLink RX3 85 yX3_lineNumbered, Cond.instanceMethod yX3_lineNumbered, Cond.selects RX3 yX3_lineNumbered yX3_lineNumbered, Cond.code yX3_lineNumbered cX3_lineNumbered 3 (some (.object "MooringTree$Line")), Cond.classLink RX3 161 "java/lang/IndexOutOfBoundsException", Cond.initialized "java/lang/IndexOutOfBoundsException", Cond.fieldLink RX3 25 "MooringTree" "lines" "[LMooringTree$Line;", Cond.methodLink RX3 89 yX3_checkTurn, Cond.static yX3_checkTurn, Cond.code yX3_checkTurn cX3_checkTurn 1 none, Cond.methodLink RX3 33 yX3_isTurn, Cond.static yX3_isTurn, Cond.code yX3_isTurn cX3_isTurn 1 (some .boolean), Cond.instanceMethod yX1_orderFor, Cond.initialized RX1, Cond.selects RX1 yX1_orderFor yX1_orderFor, Cond.code yX1_orderFor cX1_orderFor 3 (some .int), Cond.fieldLink RX1 9 "MooringTree$Line" "orders" "[I"]
def wsL_orderOf_r2 : List Cond := [Cond.fieldLink RX1 22 "MooringTree$Line" "madeOf" "LMooringTree$Line;", Cond.methodLink RX1 32 yX1_hasOwn, Cond.instanceMethod yX1_hasOwn, Cond.selects RX1 yX1_hasOwn yX1_hasOwn, Cond.code yX1_hasOwn cX1_hasOwn 2 (some .boolean), Cond.fieldLink RX1 15 "MooringTree$Line" "ownTurns" "I"]
def wsL_orderOf : List Cond := .codeWith yL_orderOf cL_orderOf 5 (some .int) [(0, 10, 13, 21)] :: ((wsL_orderOf_r1 ++ wsL_orderOf_r2) ++ wsX30 ++ wsX10 ++ (vx_atS RX3 165 "java/lang/IndexOutOfBoundsException" ["java/lang/RuntimeException", "java/lang/Exception"]).filter goodWord)
def wsL_differences : List Cond := .codeWith yL_differences cL_differences 5 (some .int) [(0, 10, 13, 21)] :: ([.classLink RL 21 "java/lang/IndexOutOfBoundsException", .methodLink RL 41 yX3_differences, .instanceMethod yX3_differences, .selects RX3 yX3_differences yX3_differences, .initialized RX3, .code yX3_differences cX3_differences 7 (some .int), .methodLink RX3 85 yX3_lineNumbered, .instanceMethod yX3_lineNumbered, .selects RX3 yX3_lineNumbered yX3_lineNumbered, .code yX3_lineNumbered cX3_lineNumbered 3 (some (.object "MooringTree$Line")), .classLink RX3 161 "java/lang/IndexOutOfBoundsException", .initialized "java/lang/IndexOutOfBoundsException", .fieldLink RX3 25 "MooringTree" "lines" "[LMooringTree$Line;", .instanceMethod yX1_orderFor, .initialized RX1, .selects RX1 yX1_orderFor yX1_orderFor, .code yX1_orderFor cX1_orderFor 3 (some .int), .fieldLink RX1 9 "MooringTree$Line" "orders" "[I", .fieldLink RX1 22 "MooringTree$Line" "madeOf" "LMooringTree$Line;", .methodLink RX1 32 yX1_hasOwn, .instanceMethod yX1_hasOwn, .selects RX1 yX1_hasOwn yX1_hasOwn, .code yX1_hasOwn cX1_hasOwn 2 (some .boolean), .fieldLink RX1 15 "MooringTree$Line" "ownTurns" "I"] ++ wsX30 ++ wsX10 ++ (vx_atS RX3 165 "java/lang/IndexOutOfBoundsException" ["java/lang/RuntimeException", "java/lang/Exception"]).filter goodWord)
def wsL_where_r1 : List Cond := [Cond.classLink RL 21 "java/lang/IndexOutOfBoundsException", Cond.methodLink RL 44 yX3_where, Cond.instanceMethod yX3_where, Cond.selects RX3 yX3_where yX3_where, Cond.initialized RX3, Cond.code yX3_where cX3_where 4 (some .int), Cond.methodLink RX3 120 yX3_shipBehind, Cond.instanceMethod yX3_shipBehind, Cond.selects RX3 yX3_shipBehind yX3_shipBehind, Cond.code yX3_shipBehind cX3_shipBehind 6 (some (.object "MooringTree$Ship")), Cond.fieldLink RX3 12 "MooringTree" "harbour" "LMooringTree$Harbour;", Cond.methodLink RX3 85 yX3_lineNumbered, Cond.instanceMethod yX3_lineNumbered, Cond.selects RX3 yX3_lineNumbered yX3_lineNumbered, Cond.code yX3_lineNumbered cX3_lineNumbered 3 (some (.object "MooringTree$Line")), Cond.classLink RX3 161 "java/lang/IndexOutOfBoundsException", Cond.initialized "java/lang/IndexOutOfBoundsException", Cond.fieldLink RX3 25 "MooringTree" "lines" "[LMooringTree$Line;", Cond.methodLink RX3 94 yX3_shipNumbered, Cond.instanceMethod yX3_shipNumbered, Cond.selects RX3 yX3_shipNumbered yX3_shipNumbered, Cond.code yX3_shipNumbered cX3_shipNumbered 3 (some (.object "MooringTree$Ship")), Cond.instanceMethod yX0_shipOrNull, Cond.initialized RX0]
def wsL_where_r2 : List Cond := [Cond.selects RX0 yX0_shipOrNull yX0_shipOrNull, Cond.code yX0_shipOrNull cX0_shipOrNull 2 (some (.object "MooringTree$Ship")), Cond.fieldLink RX0 11 "MooringTree$Harbour" "ships" "[LMooringTree$Ship;", Cond.methodLink RX3 89 yX3_checkTurn, Cond.static yX3_checkTurn, Cond.code yX3_checkTurn cX3_checkTurn 1 none, Cond.methodLink RX3 33 yX3_isTurn, Cond.static yX3_isTurn, Cond.code yX3_isTurn cX3_isTurn 1 (some .boolean), Cond.instanceMethod yX0_play, Cond.selects RX0 yX0_play yX0_play, Cond.code yX0_play cX0_play 7 none, Cond.fieldLink RX0 31 "MooringTree$Harbour" "earned" "I", Cond.fieldLink RX0 34 "MooringTree$Harbour" "failedTurns" "I", Cond.instanceMethod yX2_startAfresh, Cond.initialized RX2, Cond.selects RX2 yX2_startAfresh yX2_startAfresh, Cond.code yX2_startAfresh cX2_startAfresh 1 none, Cond.fieldLink RX2 9 "MooringTree$Ship" "place" "I", Cond.fieldLink RX2 21 "MooringTree$Ship" "fullCargo" "I", Cond.fieldLink RX2 24 "MooringTree$Ship" "left" "I", Cond.instanceMethod yX1_orderFor, Cond.initialized RX1, Cond.selects RX1 yX1_orderFor yX1_orderFor]
def wsL_where_r3 : List Cond := [Cond.code yX1_orderFor cX1_orderFor 3 (some .int), Cond.fieldLink RX1 9 "MooringTree$Line" "orders" "[I", Cond.fieldLink RX1 22 "MooringTree$Line" "madeOf" "LMooringTree$Line;", Cond.methodLink RX1 32 yX1_hasOwn, Cond.instanceMethod yX1_hasOwn, Cond.selects RX1 yX1_hasOwn yX1_hasOwn, Cond.code yX1_hasOwn cX1_hasOwn 2 (some .boolean), Cond.fieldLink RX1 15 "MooringTree$Line" "ownTurns" "I", Cond.methodLink RX0 46 yX0_passTurn, Cond.instanceMethod yX0_passTurn, Cond.selects RX0 yX0_passTurn yX0_passTurn, Cond.code yX0_passTurn cX0_passTurn 7 none, Cond.methodLink RX0 56 yX0_tideOf, Cond.static yX0_tideOf, Cond.code yX0_tideOf cX0_tideOf 2 (some .int), Cond.methodLink RX0 59 yX0_carryOut, Cond.instanceMethod yX0_carryOut, Cond.selects RX0 yX0_carryOut yX0_carryOut, Cond.code yX0_carryOut cX0_carryOut 4 (some .boolean), Cond.methodLink RX0 67 yX0_shipOrNull, Cond.methodLink RX0 74 yX0_putToBerth, Cond.instanceMethod yX0_putToBerth, Cond.selects RX0 yX0_putToBerth yX0_putToBerth, Cond.code yX0_putToBerth cX0_putToBerth 3 (some .boolean)]
def wsL_where_r4 : List Cond := [Cond.methodLink RX0 82 yX0_isTaken, Cond.instanceMethod yX0_isTaken, Cond.selects RX0 yX0_isTaken yX0_isTaken, Cond.code yX0_isTaken cX0_isTaken 6 (some .boolean), Cond.methodLink RX0 78 yX0_letLeave, Cond.instanceMethod yX0_letLeave, Cond.selects RX0 yX0_letLeave yX0_letLeave, Cond.code yX0_letLeave cX0_letLeave 2 (some .boolean), Cond.static yX3_isBerth, Cond.code yX3_isBerth cX3_isBerth 1 (some .boolean), Cond.methodLink RX0 63 yX0_earningInTurn, Cond.instanceMethod yX0_earningInTurn, Cond.selects RX0 yX0_earningInTurn yX0_earningInTurn, Cond.code yX0_earningInTurn cX0_earningInTurn 2 (some .int), Cond.fieldLink RX0 25 "MooringTree$Harbour" "price" "I", Cond.fieldLink RX0 21 "MooringTree$Harbour" "rates" "[I", Cond.fieldLink RX0 28 "MooringTree$Harbour" "fee" "I", Cond.instanceMethod yX2_unload, Cond.selects RX2 yX2_unload yX2_unload, Cond.code yX2_unload cX2_unload 3 (some .int), Cond.methodLink RX2 27 Lib.Math.min.name, Cond.static Lib.Math.min.name, Cond.initialized "java/lang/Math", Cond.code Lib.Math.min.name Lib.Math.min.code 2 (some .int)]
def wsL_where : List Cond := .codeWith yL_where cL_where 6 (some .int) [(0, 12, 15, 21)] :: ((wsL_where_r1 ++ (wsL_where_r2 ++ (wsL_where_r3 ++ wsL_where_r4))) ++ wsX20 ++ wsX30 ++ wsX00 ++ wsX10 ++ (vx_atS RX3 165 "java/lang/IndexOutOfBoundsException" ["java/lang/RuntimeException", "java/lang/Exception"]).filter goodWord)
def wsL_cargo_r1 : List Cond := [Cond.classLink RL 21 "java/lang/IndexOutOfBoundsException", Cond.methodLink RL 47 yX3_cargo, Cond.instanceMethod yX3_cargo, Cond.selects RX3 yX3_cargo yX3_cargo, Cond.initialized RX3, Cond.code yX3_cargo cX3_cargo 4 (some .int), Cond.methodLink RX3 120 yX3_shipBehind, Cond.instanceMethod yX3_shipBehind, Cond.selects RX3 yX3_shipBehind yX3_shipBehind, Cond.code yX3_shipBehind cX3_shipBehind 6 (some (.object "MooringTree$Ship")), Cond.fieldLink RX3 12 "MooringTree" "harbour" "LMooringTree$Harbour;", Cond.methodLink RX3 85 yX3_lineNumbered, Cond.instanceMethod yX3_lineNumbered, Cond.selects RX3 yX3_lineNumbered yX3_lineNumbered, Cond.code yX3_lineNumbered cX3_lineNumbered 3 (some (.object "MooringTree$Line")), Cond.classLink RX3 161 "java/lang/IndexOutOfBoundsException", Cond.initialized "java/lang/IndexOutOfBoundsException", Cond.fieldLink RX3 25 "MooringTree" "lines" "[LMooringTree$Line;", Cond.methodLink RX3 94 yX3_shipNumbered, Cond.instanceMethod yX3_shipNumbered, Cond.selects RX3 yX3_shipNumbered yX3_shipNumbered, Cond.code yX3_shipNumbered cX3_shipNumbered 3 (some (.object "MooringTree$Ship")), Cond.instanceMethod yX0_shipOrNull, Cond.initialized RX0]
def wsL_cargo_r2 : List Cond := [Cond.selects RX0 yX0_shipOrNull yX0_shipOrNull, Cond.code yX0_shipOrNull cX0_shipOrNull 2 (some (.object "MooringTree$Ship")), Cond.fieldLink RX0 11 "MooringTree$Harbour" "ships" "[LMooringTree$Ship;", Cond.methodLink RX3 89 yX3_checkTurn, Cond.static yX3_checkTurn, Cond.code yX3_checkTurn cX3_checkTurn 1 none, Cond.methodLink RX3 33 yX3_isTurn, Cond.static yX3_isTurn, Cond.code yX3_isTurn cX3_isTurn 1 (some .boolean), Cond.instanceMethod yX0_play, Cond.selects RX0 yX0_play yX0_play, Cond.code yX0_play cX0_play 7 none, Cond.fieldLink RX0 31 "MooringTree$Harbour" "earned" "I", Cond.fieldLink RX0 34 "MooringTree$Harbour" "failedTurns" "I", Cond.instanceMethod yX2_startAfresh, Cond.initialized RX2, Cond.selects RX2 yX2_startAfresh yX2_startAfresh, Cond.code yX2_startAfresh cX2_startAfresh 1 none, Cond.fieldLink RX2 9 "MooringTree$Ship" "place" "I", Cond.fieldLink RX2 21 "MooringTree$Ship" "fullCargo" "I", Cond.fieldLink RX2 24 "MooringTree$Ship" "left" "I", Cond.instanceMethod yX1_orderFor, Cond.initialized RX1, Cond.selects RX1 yX1_orderFor yX1_orderFor]
def wsL_cargo_r3 : List Cond := [Cond.code yX1_orderFor cX1_orderFor 3 (some .int), Cond.fieldLink RX1 9 "MooringTree$Line" "orders" "[I", Cond.fieldLink RX1 22 "MooringTree$Line" "madeOf" "LMooringTree$Line;", Cond.methodLink RX1 32 yX1_hasOwn, Cond.instanceMethod yX1_hasOwn, Cond.selects RX1 yX1_hasOwn yX1_hasOwn, Cond.code yX1_hasOwn cX1_hasOwn 2 (some .boolean), Cond.fieldLink RX1 15 "MooringTree$Line" "ownTurns" "I", Cond.methodLink RX0 46 yX0_passTurn, Cond.instanceMethod yX0_passTurn, Cond.selects RX0 yX0_passTurn yX0_passTurn, Cond.code yX0_passTurn cX0_passTurn 7 none, Cond.methodLink RX0 56 yX0_tideOf, Cond.static yX0_tideOf, Cond.code yX0_tideOf cX0_tideOf 2 (some .int), Cond.methodLink RX0 59 yX0_carryOut, Cond.instanceMethod yX0_carryOut, Cond.selects RX0 yX0_carryOut yX0_carryOut, Cond.code yX0_carryOut cX0_carryOut 4 (some .boolean), Cond.methodLink RX0 67 yX0_shipOrNull, Cond.methodLink RX0 74 yX0_putToBerth, Cond.instanceMethod yX0_putToBerth, Cond.selects RX0 yX0_putToBerth yX0_putToBerth, Cond.code yX0_putToBerth cX0_putToBerth 3 (some .boolean)]
def wsL_cargo_r4 : List Cond := [Cond.methodLink RX0 82 yX0_isTaken, Cond.instanceMethod yX0_isTaken, Cond.selects RX0 yX0_isTaken yX0_isTaken, Cond.code yX0_isTaken cX0_isTaken 6 (some .boolean), Cond.methodLink RX0 78 yX0_letLeave, Cond.instanceMethod yX0_letLeave, Cond.selects RX0 yX0_letLeave yX0_letLeave, Cond.code yX0_letLeave cX0_letLeave 2 (some .boolean), Cond.static yX3_isBerth, Cond.code yX3_isBerth cX3_isBerth 1 (some .boolean), Cond.methodLink RX0 63 yX0_earningInTurn, Cond.instanceMethod yX0_earningInTurn, Cond.selects RX0 yX0_earningInTurn yX0_earningInTurn, Cond.code yX0_earningInTurn cX0_earningInTurn 2 (some .int), Cond.fieldLink RX0 25 "MooringTree$Harbour" "price" "I", Cond.fieldLink RX0 21 "MooringTree$Harbour" "rates" "[I", Cond.fieldLink RX0 28 "MooringTree$Harbour" "fee" "I", Cond.instanceMethod yX2_unload, Cond.selects RX2 yX2_unload yX2_unload, Cond.code yX2_unload cX2_unload 3 (some .int), Cond.methodLink RX2 27 Lib.Math.min.name, Cond.static Lib.Math.min.name, Cond.initialized "java/lang/Math", Cond.code Lib.Math.min.name Lib.Math.min.code 2 (some .int)]
def wsL_cargo : List Cond := .codeWith yL_cargo cL_cargo 6 (some .int) [(0, 12, 15, 21)] :: ((wsL_cargo_r1 ++ (wsL_cargo_r2 ++ (wsL_cargo_r3 ++ wsL_cargo_r4))) ++ wsX20 ++ wsX30 ++ wsX00 ++ wsX10 ++ (vx_atS RX3 165 "java/lang/IndexOutOfBoundsException" ["java/lang/RuntimeException", "java/lang/Exception"]).filter goodWord)
def wsL_failures_r1 : List Cond := [Cond.classLink RL 21 "java/lang/IndexOutOfBoundsException", Cond.methodLink RL 50 yX3_failures, Cond.instanceMethod yX3_failures, Cond.selects RX3 yX3_failures yX3_failures, Cond.initialized RX3, Cond.code yX3_failures cX3_failures 3 (some .int), Cond.fieldLink RX3 12 "MooringTree" "harbour" "LMooringTree$Harbour;", Cond.methodLink RX3 85 yX3_lineNumbered, Cond.instanceMethod yX3_lineNumbered, Cond.selects RX3 yX3_lineNumbered yX3_lineNumbered, Cond.code yX3_lineNumbered cX3_lineNumbered 3 (some (.object "MooringTree$Line")), Cond.classLink RX3 161 "java/lang/IndexOutOfBoundsException", Cond.initialized "java/lang/IndexOutOfBoundsException", Cond.fieldLink RX3 25 "MooringTree" "lines" "[LMooringTree$Line;", Cond.instanceMethod yX0_play, Cond.initialized RX0, Cond.selects RX0 yX0_play yX0_play, Cond.code yX0_play cX0_play 7 none, Cond.fieldLink RX0 31 "MooringTree$Harbour" "earned" "I", Cond.fieldLink RX0 34 "MooringTree$Harbour" "failedTurns" "I", Cond.fieldLink RX0 11 "MooringTree$Harbour" "ships" "[LMooringTree$Ship;", Cond.instanceMethod yX2_startAfresh, Cond.initialized RX2, Cond.selects RX2 yX2_startAfresh yX2_startAfresh]
def wsL_failures_r2 : List Cond := [Cond.code yX2_startAfresh cX2_startAfresh 1 none, Cond.fieldLink RX2 9 "MooringTree$Ship" "place" "I", Cond.fieldLink RX2 21 "MooringTree$Ship" "fullCargo" "I", Cond.fieldLink RX2 24 "MooringTree$Ship" "left" "I", Cond.instanceMethod yX1_orderFor, Cond.initialized RX1, Cond.selects RX1 yX1_orderFor yX1_orderFor, Cond.code yX1_orderFor cX1_orderFor 3 (some .int), Cond.fieldLink RX1 9 "MooringTree$Line" "orders" "[I", Cond.fieldLink RX1 22 "MooringTree$Line" "madeOf" "LMooringTree$Line;", Cond.methodLink RX1 32 yX1_hasOwn, Cond.instanceMethod yX1_hasOwn, Cond.selects RX1 yX1_hasOwn yX1_hasOwn, Cond.code yX1_hasOwn cX1_hasOwn 2 (some .boolean), Cond.fieldLink RX1 15 "MooringTree$Line" "ownTurns" "I", Cond.methodLink RX0 46 yX0_passTurn, Cond.instanceMethod yX0_passTurn, Cond.selects RX0 yX0_passTurn yX0_passTurn, Cond.code yX0_passTurn cX0_passTurn 7 none, Cond.methodLink RX0 56 yX0_tideOf, Cond.static yX0_tideOf, Cond.code yX0_tideOf cX0_tideOf 2 (some .int), Cond.methodLink RX0 59 yX0_carryOut, Cond.instanceMethod yX0_carryOut]
def wsL_failures_r3 : List Cond := [Cond.selects RX0 yX0_carryOut yX0_carryOut, Cond.code yX0_carryOut cX0_carryOut 4 (some .boolean), Cond.methodLink RX0 67 yX0_shipOrNull, Cond.instanceMethod yX0_shipOrNull, Cond.selects RX0 yX0_shipOrNull yX0_shipOrNull, Cond.code yX0_shipOrNull cX0_shipOrNull 2 (some (.object "MooringTree$Ship")), Cond.methodLink RX0 74 yX0_putToBerth, Cond.instanceMethod yX0_putToBerth, Cond.selects RX0 yX0_putToBerth yX0_putToBerth, Cond.code yX0_putToBerth cX0_putToBerth 3 (some .boolean), Cond.methodLink RX0 82 yX0_isTaken, Cond.instanceMethod yX0_isTaken, Cond.selects RX0 yX0_isTaken yX0_isTaken, Cond.code yX0_isTaken cX0_isTaken 6 (some .boolean), Cond.methodLink RX0 78 yX0_letLeave, Cond.instanceMethod yX0_letLeave, Cond.selects RX0 yX0_letLeave yX0_letLeave, Cond.code yX0_letLeave cX0_letLeave 2 (some .boolean), Cond.static yX3_isBerth, Cond.code yX3_isBerth cX3_isBerth 1 (some .boolean), Cond.methodLink RX0 63 yX0_earningInTurn, Cond.instanceMethod yX0_earningInTurn, Cond.selects RX0 yX0_earningInTurn yX0_earningInTurn, Cond.code yX0_earningInTurn cX0_earningInTurn 2 (some .int)]
def wsL_failures_r4 : List Cond := [Cond.fieldLink RX0 25 "MooringTree$Harbour" "price" "I", Cond.fieldLink RX0 21 "MooringTree$Harbour" "rates" "[I", Cond.fieldLink RX0 28 "MooringTree$Harbour" "fee" "I", Cond.instanceMethod yX2_unload, Cond.selects RX2 yX2_unload yX2_unload, Cond.code yX2_unload cX2_unload 3 (some .int), Cond.methodLink RX2 27 Lib.Math.min.name, Cond.static Lib.Math.min.name, Cond.initialized "java/lang/Math", Cond.code Lib.Math.min.name Lib.Math.min.code 2 (some .int)]
def wsL_failures : List Cond := .codeWith yL_failures cL_failures 4 (some .int) [(0, 9, 12, 21)] :: ((wsL_failures_r1 ++ (wsL_failures_r2 ++ (wsL_failures_r3 ++ wsL_failures_r4))) ++ wsX30 ++ wsX00 ++ wsX20 ++ wsX10 ++ (vx_atS RX3 165 "java/lang/IndexOutOfBoundsException" ["java/lang/RuntimeException", "java/lang/Exception"]).filter goodWord)
def wsL_look_r1 : List Cond := [Cond.classLink RL 21 "java/lang/IndexOutOfBoundsException", Cond.methodLink RL 54 yX3_look, Cond.instanceMethod yX3_look, Cond.selects RX3 yX3_look yX3_look, Cond.initialized RX3, Cond.code yX3_look cX3_look 4 (some .int), Cond.methodLink RX3 139 Lib.Math.max.name, Cond.static Lib.Math.max.name, Cond.initialized "java/lang/Math", Cond.code Lib.Math.max.name Lib.Math.max.code 2 (some .int), Cond.methodLink RX3 85 yX3_lineNumbered, Cond.instanceMethod yX3_lineNumbered, Cond.selects RX3 yX3_lineNumbered yX3_lineNumbered, Cond.code yX3_lineNumbered cX3_lineNumbered 3 (some (.object "MooringTree$Line")), Cond.classLink RX3 161 "java/lang/IndexOutOfBoundsException", Cond.initialized "java/lang/IndexOutOfBoundsException", Cond.fieldLink RX3 25 "MooringTree" "lines" "[LMooringTree$Line;", Cond.methodLink RX3 89 yX3_checkTurn, Cond.static yX3_checkTurn, Cond.code yX3_checkTurn cX3_checkTurn 1 none, Cond.methodLink RX3 33 yX3_isTurn, Cond.static yX3_isTurn, Cond.code yX3_isTurn cX3_isTurn 1 (some .boolean), Cond.methodLink RX3 145 yX3_earningOf]
def wsL_look_r2 : List Cond := [Cond.instanceMethod yX3_earningOf, Cond.selects RX3 yX3_earningOf yX3_earningOf, Cond.code yX3_earningOf cX3_earningOf 3 (some .int), Cond.fieldLink RX3 12 "MooringTree" "harbour" "LMooringTree$Harbour;", Cond.instanceMethod yX0_play, Cond.initialized RX0, Cond.selects RX0 yX0_play yX0_play, Cond.code yX0_play cX0_play 7 none, Cond.fieldLink RX0 31 "MooringTree$Harbour" "earned" "I", Cond.fieldLink RX0 34 "MooringTree$Harbour" "failedTurns" "I", Cond.fieldLink RX0 11 "MooringTree$Harbour" "ships" "[LMooringTree$Ship;", Cond.instanceMethod yX2_startAfresh, Cond.initialized RX2, Cond.selects RX2 yX2_startAfresh yX2_startAfresh, Cond.code yX2_startAfresh cX2_startAfresh 1 none, Cond.fieldLink RX2 9 "MooringTree$Ship" "place" "I", Cond.fieldLink RX2 21 "MooringTree$Ship" "fullCargo" "I", Cond.fieldLink RX2 24 "MooringTree$Ship" "left" "I", Cond.instanceMethod yX1_orderFor, Cond.initialized RX1, Cond.selects RX1 yX1_orderFor yX1_orderFor, Cond.code yX1_orderFor cX1_orderFor 3 (some .int), Cond.fieldLink RX1 9 "MooringTree$Line" "orders" "[I", Cond.fieldLink RX1 22 "MooringTree$Line" "madeOf" "LMooringTree$Line;"]
def wsL_look_r3 : List Cond := [Cond.methodLink RX1 32 yX1_hasOwn, Cond.instanceMethod yX1_hasOwn, Cond.selects RX1 yX1_hasOwn yX1_hasOwn, Cond.code yX1_hasOwn cX1_hasOwn 2 (some .boolean), Cond.fieldLink RX1 15 "MooringTree$Line" "ownTurns" "I", Cond.methodLink RX0 46 yX0_passTurn, Cond.instanceMethod yX0_passTurn, Cond.selects RX0 yX0_passTurn yX0_passTurn, Cond.code yX0_passTurn cX0_passTurn 7 none, Cond.methodLink RX0 56 yX0_tideOf, Cond.static yX0_tideOf, Cond.code yX0_tideOf cX0_tideOf 2 (some .int), Cond.methodLink RX0 59 yX0_carryOut, Cond.instanceMethod yX0_carryOut, Cond.selects RX0 yX0_carryOut yX0_carryOut, Cond.code yX0_carryOut cX0_carryOut 4 (some .boolean), Cond.methodLink RX0 67 yX0_shipOrNull, Cond.instanceMethod yX0_shipOrNull, Cond.selects RX0 yX0_shipOrNull yX0_shipOrNull, Cond.code yX0_shipOrNull cX0_shipOrNull 2 (some (.object "MooringTree$Ship")), Cond.methodLink RX0 74 yX0_putToBerth, Cond.instanceMethod yX0_putToBerth, Cond.selects RX0 yX0_putToBerth yX0_putToBerth, Cond.code yX0_putToBerth cX0_putToBerth 3 (some .boolean)]
def wsL_look_r4 : List Cond := [Cond.methodLink RX0 82 yX0_isTaken, Cond.instanceMethod yX0_isTaken, Cond.selects RX0 yX0_isTaken yX0_isTaken, Cond.code yX0_isTaken cX0_isTaken 6 (some .boolean), Cond.methodLink RX0 78 yX0_letLeave, Cond.instanceMethod yX0_letLeave, Cond.selects RX0 yX0_letLeave yX0_letLeave, Cond.code yX0_letLeave cX0_letLeave 2 (some .boolean), Cond.static yX3_isBerth, Cond.code yX3_isBerth cX3_isBerth 1 (some .boolean), Cond.methodLink RX0 63 yX0_earningInTurn, Cond.instanceMethod yX0_earningInTurn, Cond.selects RX0 yX0_earningInTurn yX0_earningInTurn, Cond.code yX0_earningInTurn cX0_earningInTurn 2 (some .int), Cond.fieldLink RX0 25 "MooringTree$Harbour" "price" "I", Cond.fieldLink RX0 21 "MooringTree$Harbour" "rates" "[I", Cond.fieldLink RX0 28 "MooringTree$Harbour" "fee" "I", Cond.instanceMethod yX2_unload, Cond.selects RX2 yX2_unload yX2_unload, Cond.code yX2_unload cX2_unload 3 (some .int), Cond.methodLink RX2 27 Lib.Math.min.name, Cond.static Lib.Math.min.name, Cond.code Lib.Math.min.name Lib.Math.min.code 2 (some .int)]
def wsL_look : List Cond := .codeWith yL_look cL_look 5 (some .int) [(0, 10, 13, 21)] :: ((wsL_look_r1 ++ (wsL_look_r2 ++ (wsL_look_r3 ++ wsL_look_r4))) ++ wsX10 ++ wsX30 ++ wsX00 ++ wsX20 ++ (vx_atS RX3 165 "java/lang/IndexOutOfBoundsException" ["java/lang/RuntimeException", "java/lang/Exception"]).filter goodWord)
def wsL_seen : List Cond := .codeWith yL_seen cL_seen 4 (some .int) [(0, 9, 12, 21)] :: ([.classLink RL 21 "java/lang/IndexOutOfBoundsException", .methodLink RL 57 yX3_seen, .instanceMethod yX3_seen, .selects RX3 yX3_seen yX3_seen, .initialized RX3, .code yX3_seen cX3_seen 2 (some .int), .methodLink RX3 85 yX3_lineNumbered, .instanceMethod yX3_lineNumbered, .selects RX3 yX3_lineNumbered yX3_lineNumbered, .code yX3_lineNumbered cX3_lineNumbered 3 (some (.object "MooringTree$Line")), .classLink RX3 161 "java/lang/IndexOutOfBoundsException", .initialized "java/lang/IndexOutOfBoundsException", .fieldLink RX3 25 "MooringTree" "lines" "[LMooringTree$Line;"] ++ wsX10 ++ wsX30 ++ (vx_atS RX3 165 "java/lang/IndexOutOfBoundsException" ["java/lang/RuntimeException", "java/lang/Exception"]).filter goodWord)
def wsL_ahead : List Cond := .codeWith yL_ahead cL_ahead 4 (some .int) [(0, 9, 12, 21)] :: ([.classLink RL 21 "java/lang/IndexOutOfBoundsException", .methodLink RL 60 yX3_ahead, .instanceMethod yX3_ahead, .selects RX3 yX3_ahead yX3_ahead, .initialized RX3, .code yX3_ahead cX3_ahead 2 (some .int), .methodLink RX3 85 yX3_lineNumbered, .instanceMethod yX3_lineNumbered, .selects RX3 yX3_lineNumbered yX3_lineNumbered, .code yX3_lineNumbered cX3_lineNumbered 3 (some (.object "MooringTree$Line")), .classLink RX3 161 "java/lang/IndexOutOfBoundsException", .initialized "java/lang/IndexOutOfBoundsException", .fieldLink RX3 25 "MooringTree" "lines" "[LMooringTree$Line;"] ++ wsX10 ++ wsX30 ++ (vx_atS RX3 165 "java/lang/IndexOutOfBoundsException" ["java/lang/RuntimeException", "java/lang/Exception"]).filter goodWord)
def wsL_mark_r1 : List Cond := [Cond.classLink RL 21 "java/lang/IndexOutOfBoundsException", Cond.methodLink RL 63 yX3_mark, Cond.instanceMethod yX3_mark, Cond.selects RX3 yX3_mark yX3_mark, Cond.initialized RX3, Cond.code yX3_mark cX3_mark 3 (some .int), Cond.fieldLink RX3 21 "MooringTree" "teachers" "LMooringTree$Line;", Cond.methodLink RX3 85 yX3_lineNumbered, Cond.instanceMethod yX3_lineNumbered, Cond.selects RX3 yX3_lineNumbered yX3_lineNumbered, Cond.code yX3_lineNumbered cX3_lineNumbered 3 (some (.object "MooringTree$Line")), Cond.classLink RX3 161 "java/lang/IndexOutOfBoundsException", Cond.initialized "java/lang/IndexOutOfBoundsException", Cond.fieldLink RX3 25 "MooringTree" "lines" "[LMooringTree$Line;", Cond.methodLink RX3 145 yX3_earningOf, Cond.instanceMethod yX3_earningOf, Cond.selects RX3 yX3_earningOf yX3_earningOf, Cond.code yX3_earningOf cX3_earningOf 3 (some .int), Cond.fieldLink RX3 12 "MooringTree" "harbour" "LMooringTree$Harbour;", Cond.instanceMethod yX0_play, Cond.initialized RX0, Cond.selects RX0 yX0_play yX0_play, Cond.code yX0_play cX0_play 7 none, Cond.fieldLink RX0 31 "MooringTree$Harbour" "earned" "I"]
def wsL_mark_r2 : List Cond := [Cond.fieldLink RX0 34 "MooringTree$Harbour" "failedTurns" "I", Cond.fieldLink RX0 11 "MooringTree$Harbour" "ships" "[LMooringTree$Ship;", Cond.instanceMethod yX2_startAfresh, Cond.initialized RX2, Cond.selects RX2 yX2_startAfresh yX2_startAfresh, Cond.code yX2_startAfresh cX2_startAfresh 1 none, Cond.fieldLink RX2 9 "MooringTree$Ship" "place" "I", Cond.fieldLink RX2 21 "MooringTree$Ship" "fullCargo" "I", Cond.fieldLink RX2 24 "MooringTree$Ship" "left" "I", Cond.instanceMethod yX1_orderFor, Cond.initialized RX1, Cond.selects RX1 yX1_orderFor yX1_orderFor, Cond.code yX1_orderFor cX1_orderFor 3 (some .int), Cond.fieldLink RX1 9 "MooringTree$Line" "orders" "[I", Cond.fieldLink RX1 22 "MooringTree$Line" "madeOf" "LMooringTree$Line;", Cond.methodLink RX1 32 yX1_hasOwn, Cond.instanceMethod yX1_hasOwn, Cond.selects RX1 yX1_hasOwn yX1_hasOwn, Cond.code yX1_hasOwn cX1_hasOwn 2 (some .boolean), Cond.fieldLink RX1 15 "MooringTree$Line" "ownTurns" "I", Cond.methodLink RX0 46 yX0_passTurn, Cond.instanceMethod yX0_passTurn, Cond.selects RX0 yX0_passTurn yX0_passTurn, Cond.code yX0_passTurn cX0_passTurn 7 none]
def wsL_mark_r3 : List Cond := [Cond.methodLink RX0 56 yX0_tideOf, Cond.static yX0_tideOf, Cond.code yX0_tideOf cX0_tideOf 2 (some .int), Cond.methodLink RX0 59 yX0_carryOut, Cond.instanceMethod yX0_carryOut, Cond.selects RX0 yX0_carryOut yX0_carryOut, Cond.code yX0_carryOut cX0_carryOut 4 (some .boolean), Cond.methodLink RX0 67 yX0_shipOrNull, Cond.instanceMethod yX0_shipOrNull, Cond.selects RX0 yX0_shipOrNull yX0_shipOrNull, Cond.code yX0_shipOrNull cX0_shipOrNull 2 (some (.object "MooringTree$Ship")), Cond.methodLink RX0 74 yX0_putToBerth, Cond.instanceMethod yX0_putToBerth, Cond.selects RX0 yX0_putToBerth yX0_putToBerth, Cond.code yX0_putToBerth cX0_putToBerth 3 (some .boolean), Cond.methodLink RX0 82 yX0_isTaken, Cond.instanceMethod yX0_isTaken, Cond.selects RX0 yX0_isTaken yX0_isTaken, Cond.code yX0_isTaken cX0_isTaken 6 (some .boolean), Cond.methodLink RX0 78 yX0_letLeave, Cond.instanceMethod yX0_letLeave, Cond.selects RX0 yX0_letLeave yX0_letLeave, Cond.code yX0_letLeave cX0_letLeave 2 (some .boolean), Cond.static yX3_isBerth]
def wsL_mark_r4 : List Cond := [Cond.code yX3_isBerth cX3_isBerth 1 (some .boolean), Cond.methodLink RX0 63 yX0_earningInTurn, Cond.instanceMethod yX0_earningInTurn, Cond.selects RX0 yX0_earningInTurn yX0_earningInTurn, Cond.code yX0_earningInTurn cX0_earningInTurn 2 (some .int), Cond.fieldLink RX0 25 "MooringTree$Harbour" "price" "I", Cond.fieldLink RX0 21 "MooringTree$Harbour" "rates" "[I", Cond.fieldLink RX0 28 "MooringTree$Harbour" "fee" "I", Cond.instanceMethod yX2_unload, Cond.selects RX2 yX2_unload yX2_unload, Cond.code yX2_unload cX2_unload 3 (some .int), Cond.methodLink RX2 27 Lib.Math.min.name, Cond.static Lib.Math.min.name, Cond.initialized "java/lang/Math", Cond.code Lib.Math.min.name Lib.Math.min.code 2 (some .int), Cond.methodLink RX3 152 yX3_markAgainst, Cond.instanceMethod yX3_markAgainst, Cond.selects RX3 yX3_markAgainst yX3_markAgainst, Cond.code yX3_markAgainst cX3_markAgainst 4 (some .int), Cond.methodLink RX3 158 Lib.Math.min.name, Cond.methodLink RX3 139 Lib.Math.max.name, Cond.static Lib.Math.max.name, Cond.code Lib.Math.max.name Lib.Math.max.code 2 (some .int)]
def wsL_mark : List Cond := .codeWith yL_mark cL_mark 4 (some .int) [(0, 9, 12, 21)] :: ((wsL_mark_r1 ++ (wsL_mark_r2 ++ (wsL_mark_r3 ++ wsL_mark_r4))) ++ wsX30 ++ wsX00 ++ wsX20 ++ wsX10 ++ (vx_atS RX3 165 "java/lang/IndexOutOfBoundsException" ["java/lang/RuntimeException", "java/lang/Exception"]).filter goodWord)
def wsL_law0_r1 : List Cond := [Cond.classLink RL 8 RX3, Cond.instantiable RX3 4, Cond.initialized RX3, Cond.classLink RL 67 RX4, Cond.instantiable RX4 18, Cond.initialized RX4, Cond.arrayClass .long, Cond.methodLink RL 66 yX3_init, Cond.instanceMethod yX3_init, Cond.code yX3_init cX3_init 1 none, Cond.methodLink RX3 3 objectInit, Cond.instanceMethod objectInit, Cond.code objectInit ⟨#[0xb1]⟩ 1 none, Cond.classLink RX3 9 RX0, Cond.instantiable RX0 7, Cond.initialized RX0, Cond.fieldLink RX3 12 "MooringTree" "harbour" "LMooringTree$Harbour;", Cond.classLink RX3 16 RX1, Cond.instantiable RX1 6, Cond.initialized RX1, Cond.fieldLink RX3 21 "MooringTree" "teachers" "LMooringTree$Line;", Cond.fieldLink RX3 25 "MooringTree" "lines" "[LMooringTree$Line;", Cond.fieldLink RX3 29 "MooringTree" "forks" "I", Cond.instanceMethod yX0_init]
def wsL_law0_r2 : List Cond := [Cond.code yX0_init cX0_init 1 none, Cond.methodLink RX0 3 objectInit, Cond.classLink RX0 9 RX2, Cond.fieldLink RX0 11 "MooringTree$Harbour" "ships" "[LMooringTree$Ship;", Cond.fieldLink RX0 17 "MooringTree$Harbour" "shipCount" "I", Cond.arrayClass .int, Cond.fieldLink RX0 21 "MooringTree$Harbour" "rates" "[I", Cond.fieldLink RX0 25 "MooringTree$Harbour" "price" "I", Cond.fieldLink RX0 28 "MooringTree$Harbour" "fee" "I", Cond.fieldLink RX0 31 "MooringTree$Harbour" "earned" "I", Cond.fieldLink RX0 34 "MooringTree$Harbour" "failedTurns" "I", Cond.instanceMethod yX1_init, Cond.code yX1_init cX1_init 3 none, Cond.methodLink RX1 3 objectInit, Cond.fieldLink RX1 9 "MooringTree$Line" "orders" "[I", Cond.fieldLink RX1 15 "MooringTree$Line" "ownTurns" "I", Cond.fieldLink RX1 19 "MooringTree$Line" "aheadTurns" "I", Cond.fieldLink RX1 22 "MooringTree$Line" "madeOf" "LMooringTree$Line;", Cond.fieldLink RX1 26 "MooringTree$Line" "firstTurn" "I", Cond.fieldLink RX1 29 "MooringTree$Line" "seen" "I", Cond.methodLink RL 69 yX4_init, Cond.instanceMethod yX4_init, Cond.code yX4_init cX4_init 2 none, Cond.methodLink RX4 1 objectInit]
def wsL_law0_r3 : List Cond := [Cond.fieldLink RX4 7 "MooringTreeModel" "comes" "[I", Cond.fieldLink RX4 13 "MooringTreeModel" "draught" "[I", Cond.fieldLink RX4 16 "MooringTreeModel" "cargo" "[I", Cond.fieldLink RX4 19 "MooringTreeModel" "rate" "[I", Cond.fieldLink RX4 22 "MooringTreeModel" "price" "I", Cond.fieldLink RX4 26 "MooringTreeModel" "fee" "I", Cond.fieldLink RX4 29 "MooringTreeModel" "lines" "I", Cond.fieldLink RX4 32 "MooringTreeModel" "parent" "[I", Cond.fieldLink RX4 35 "MooringTreeModel" "begin" "[I", Cond.fieldLink RX4 38 "MooringTreeModel" "seen" "[I", Cond.fieldLink RX4 41 "MooringTreeModel" "order" "[I", Cond.arrayClass .boolean, Cond.fieldLink RX4 44 "MooringTreeModel" "isAhead" "[Z", Cond.fieldLink RX4 48 "MooringTreeModel" "at" "[I", Cond.fieldLink RX4 51 "MooringTreeModel" "left" "[I", Cond.methodLink RL 70 yL_addShip, Cond.static yL_addShip, Cond.initialized RL, Cond.codeWith yL_addShip cL_addShip 6 (some .int) [(0, 12, 15, 13), (0, 12, 19, 15)], Cond.classLink RL 13 "java/lang/IllegalArgumentException", Cond.classLink RL 15 "java/lang/IllegalStateException", Cond.methodLink RL 7 yX3_addShip, Cond.instanceMethod yX3_addShip, Cond.selects RX3 yX3_addShip yX3_addShip]
def wsL_law0_r4 : List Cond := [Cond.code yX3_addShip cX3_addShip 4 (some .int), Cond.classLink RX3 37 "java/lang/IllegalArgumentException", Cond.initialized "java/lang/IllegalArgumentException", Cond.classLink RX3 51 "java/lang/IllegalStateException", Cond.initialized "java/lang/IllegalStateException", Cond.classLink RX3 56 RX2, Cond.instantiable RX2 5, Cond.initialized RX2, Cond.methodLink RX3 33 yX3_isTurn, Cond.static yX3_isTurn, Cond.code yX3_isTurn cX3_isTurn 1 (some .boolean), Cond.instanceMethod yX2_init, Cond.code yX2_init cX2_init 4 none, Cond.methodLink RX2 3 objectInit, Cond.fieldLink RX2 9 "MooringTree$Ship" "place" "I", Cond.fieldLink RX2 15 "MooringTree$Ship" "comes" "I", Cond.fieldLink RX2 18 "MooringTree$Ship" "draught" "I", Cond.fieldLink RX2 21 "MooringTree$Ship" "fullCargo" "I", Cond.fieldLink RX2 24 "MooringTree$Ship" "left" "I", Cond.instanceMethod yX0_admit, Cond.selects RX0 yX0_admit yX0_admit, Cond.code yX0_admit cX0_admit 3 (some .int), Cond.methodLink RL 75 yX4_addShip, Cond.instanceMethod yX4_addShip]
def wsL_law0_r5 : List Cond := [Cond.selects RX4 yX4_addShip yX4_addShip, Cond.code yX4_addShip cX4_addShip 5 (some .int), Cond.fieldLink RX4 57 "MooringTreeModel" "ships" "I", Cond.methodLink RX4 64 yX4_isTurn, Cond.static yX4_isTurn, Cond.code yX4_isTurn cX4_isTurn 1 (some .boolean), Cond.methodLink RX4 60 yX4_isIn, Cond.static yX4_isIn, Cond.code yX4_isIn cX4_isIn 3 (some .boolean), Cond.methodLink RX4 68 yX4_fails, Cond.instanceMethod yX4_fails, Cond.selects RX4 yX4_fails yX4_fails, Cond.code yX4_fails cX4_fails 2 (some .boolean), Cond.fieldLink RX4 54 "MooringTreeModel" "thrown" "I", Cond.methodLink RL 76 yX4_thrown, Cond.instanceMethod yX4_thrown, Cond.selects RX4 yX4_thrown yX4_thrown, Cond.code yX4_thrown cX4_thrown 1 (some .int), Cond.methodLink RL 80 yL_setRate, Cond.static yL_setRate, Cond.codeWith yL_setRate cL_setRate 5 (some .int) [(0, 10, 13, 21), (0, 10, 17, 13)], Cond.classLink RL 21 "java/lang/IndexOutOfBoundsException", Cond.methodLink RL 17 yX3_setRate, Cond.instanceMethod yX3_setRate]
def wsL_law0_r6 : List Cond := [Cond.selects RX3 yX3_setRate yX3_setRate, Cond.code yX3_setRate cX3_setRate 4 (some .int), Cond.methodLink RX3 65 yX3_checkBerth, Cond.static yX3_checkBerth, Cond.code yX3_checkBerth cX3_checkBerth 1 none, Cond.classLink RX3 161 "java/lang/IndexOutOfBoundsException", Cond.initialized "java/lang/IndexOutOfBoundsException", Cond.methodLink RX3 173 yX3_isBerth, Cond.static yX3_isBerth, Cond.code yX3_isBerth cX3_isBerth 1 (some .boolean), Cond.methodLink RL 83 yX4_setRate, Cond.instanceMethod yX4_setRate, Cond.selects RX4 yX4_setRate yX4_setRate, Cond.code yX4_setRate cX4_setRate 5 (some .int), Cond.methodLink RX4 71 yX4_isBerth, Cond.static yX4_isBerth, Cond.code yX4_isBerth cX4_isBerth 1 (some .boolean), Cond.methodLink RL 84 yL_setRules, Cond.static yL_setRules, Cond.codeWith yL_setRules cL_setRules 4 (some .int) [(0, 6, 9, 13)], Cond.methodLink RL 23 yX3_setRules, Cond.instanceMethod yX3_setRules, Cond.selects RX3 yX3_setRules yX3_setRules, Cond.code yX3_setRules cX3_setRules 3 none]
def wsL_law0_r7 : List Cond := [Cond.methodLink RL 87 yX4_setRules, Cond.instanceMethod yX4_setRules, Cond.selects RX4 yX4_setRules yX4_setRules, Cond.code yX4_setRules cX4_setRules 3 none, Cond.methodLink RL 88 yL_fork, Cond.static yL_fork, Cond.codeWith yL_fork cL_fork 5 (some .int) [(0, 10, 13, 21), (0, 10, 17, 15)], Cond.methodLink RL 27 yX3_fork, Cond.instanceMethod yX3_fork, Cond.selects RX3 yX3_fork yX3_fork, Cond.code yX3_fork cX3_fork 4 (some .int), Cond.methodLink RX3 85 yX3_lineNumbered, Cond.instanceMethod yX3_lineNumbered, Cond.selects RX3 yX3_lineNumbered yX3_lineNumbered, Cond.code yX3_lineNumbered cX3_lineNumbered 3 (some (.object "MooringTree$Line")), Cond.methodLink RX3 89 yX3_checkTurn, Cond.static yX3_checkTurn, Cond.code yX3_checkTurn cX3_checkTurn 1 none, Cond.methodLink RL 90 yX4_fork, Cond.instanceMethod yX4_fork, Cond.selects RX4 yX4_fork yX4_fork, Cond.code yX4_fork cX4_fork 4 (some .int), Cond.methodLink RX4 74 yX4_isLine, Cond.instanceMethod yX4_isLine]
def wsL_law0_r8 : List Cond := [Cond.selects RX4 yX4_isLine yX4_isLine, Cond.code yX4_isLine cX4_isLine 2 (some .boolean), Cond.methodLink RL 91 yL_order, Cond.static yL_order, Cond.codeWith yL_order cL_order 8 (some .int) [(0, 23, 26, 21), (0, 23, 30, 13), (0, 23, 34, 15)], Cond.methodLink RL 30 yX3_order, Cond.instanceMethod yX3_order, Cond.selects RX3 yX3_order yX3_order, Cond.code yX3_order cX3_order 7 (some .boolean), Cond.methodLink RX3 94 yX3_shipNumbered, Cond.instanceMethod yX3_shipNumbered, Cond.selects RX3 yX3_shipNumbered yX3_shipNumbered, Cond.code yX3_shipNumbered cX3_shipNumbered 3 (some (.object "MooringTree$Ship")), Cond.instanceMethod yX0_shipOrNull, Cond.selects RX0 yX0_shipOrNull yX0_shipOrNull, Cond.code yX0_shipOrNull cX0_shipOrNull 2 (some (.object "MooringTree$Ship")), Cond.methodLink RX3 105 yX3_codeOf, Cond.static yX3_codeOf, Cond.code yX3_codeOf cX3_codeOf 3 (some .int), Cond.instanceMethod yX1_give, Cond.selects RX1 yX1_give yX1_give, Cond.code yX1_give cX1_give 4 (some .boolean), Cond.methodLink RL 94 yX4_order, Cond.instanceMethod yX4_order]
def wsL_law0_r9 : List Cond := [Cond.selects RX4 yX4_order yX4_order, Cond.code yX4_order cX4_order 8 (some .boolean), Cond.methodLink RX4 77 yX4_isShip, Cond.instanceMethod yX4_isShip, Cond.selects RX4 yX4_isShip yX4_isShip, Cond.code yX4_isShip cX4_isShip 2 (some .boolean), Cond.methodLink RL 95 yL_takeAway, Cond.static yL_takeAway, Cond.codeWith yL_takeAway cL_takeAway 5 (some .int) [(0, 17, 20, 21)], Cond.methodLink RL 34 yX3_takeAway, Cond.instanceMethod yX3_takeAway, Cond.selects RX3 yX3_takeAway yX3_takeAway, Cond.code yX3_takeAway cX3_takeAway 4 (some .boolean), Cond.instanceMethod yX1_drop, Cond.selects RX1 yX1_drop yX1_drop, Cond.code yX1_drop cX1_drop 3 (some .boolean), Cond.methodLink RX1 32 yX1_hasOwn, Cond.instanceMethod yX1_hasOwn, Cond.selects RX1 yX1_hasOwn yX1_hasOwn, Cond.code yX1_hasOwn cX1_hasOwn 2 (some .boolean), Cond.methodLink RL 97 yX4_takeAway, Cond.instanceMethod yX4_takeAway, Cond.selects RX4 yX4_takeAway yX4_takeAway, Cond.code yX4_takeAway cX4_takeAway 3 (some .boolean)]
def wsL_law0_r10 : List Cond := [Cond.methodLink RX4 80 yX4_hasOwn, Cond.instanceMethod yX4_hasOwn, Cond.selects RX4 yX4_hasOwn yX4_hasOwn, Cond.code yX4_hasOwn cX4_hasOwn 3 (some .boolean), Cond.methodLink RX4 84 yX4_removes, Cond.instanceMethod yX4_removes, Cond.selects RX4 yX4_removes yX4_removes, Cond.code yX4_removes cX4_removes 3 (some .boolean), Cond.methodLink RL 98 yL_orderOf, Cond.static yL_orderOf, Cond.codeWith yL_orderOf cL_orderOf 5 (some .int) [(0, 10, 13, 21)], Cond.methodLink RL 38 yX3_orderOf, Cond.instanceMethod yX3_orderOf, Cond.selects RX3 yX3_orderOf yX3_orderOf, Cond.code yX3_orderOf cX3_orderOf 4 (some .int), Cond.instanceMethod yX1_orderFor, Cond.selects RX1 yX1_orderFor yX1_orderFor, Cond.code yX1_orderFor cX1_orderFor 3 (some .int), Cond.methodLink RL 100 yX4_orderOf, Cond.instanceMethod yX4_orderOf, Cond.selects RX4 yX4_orderOf yX4_orderOf, Cond.code yX4_orderOf cX4_orderOf 3 (some .int), Cond.methodLink RX4 87 yX4_orderAt, Cond.instanceMethod yX4_orderAt]
def wsL_law0_r11 : List Cond := [Cond.selects RX4 yX4_orderAt yX4_orderAt, Cond.code yX4_orderAt cX4_orderAt 4 (some .int), Cond.methodLink RL 101 yL_differences, Cond.static yL_differences, Cond.codeWith yL_differences cL_differences 5 (some .int) [(0, 10, 13, 21)], Cond.methodLink RL 41 yX3_differences, Cond.instanceMethod yX3_differences, Cond.selects RX3 yX3_differences yX3_differences, Cond.code yX3_differences cX3_differences 7 (some .int), Cond.methodLink RL 103 yX4_differences, Cond.instanceMethod yX4_differences, Cond.selects RX4 yX4_differences yX4_differences, Cond.code yX4_differences cX4_differences 5 (some .int), Cond.methodLink RL 104 yL_where, Cond.static yL_where, Cond.codeWith yL_where cL_where 6 (some .int) [(0, 12, 15, 21)], Cond.methodLink RL 44 yX3_where, Cond.instanceMethod yX3_where, Cond.selects RX3 yX3_where yX3_where, Cond.code yX3_where cX3_where 4 (some .int), Cond.methodLink RX3 120 yX3_shipBehind, Cond.instanceMethod yX3_shipBehind, Cond.selects RX3 yX3_shipBehind yX3_shipBehind, Cond.code yX3_shipBehind cX3_shipBehind 6 (some (.object "MooringTree$Ship"))]
def wsL_law0_r12 : List Cond := [Cond.instanceMethod yX0_play, Cond.selects RX0 yX0_play yX0_play, Cond.code yX0_play cX0_play 7 none, Cond.instanceMethod yX2_startAfresh, Cond.selects RX2 yX2_startAfresh yX2_startAfresh, Cond.code yX2_startAfresh cX2_startAfresh 1 none, Cond.methodLink RX0 46 yX0_passTurn, Cond.instanceMethod yX0_passTurn, Cond.selects RX0 yX0_passTurn yX0_passTurn, Cond.code yX0_passTurn cX0_passTurn 7 none, Cond.methodLink RX0 56 yX0_tideOf, Cond.static yX0_tideOf, Cond.code yX0_tideOf cX0_tideOf 2 (some .int), Cond.methodLink RX0 59 yX0_carryOut, Cond.instanceMethod yX0_carryOut, Cond.selects RX0 yX0_carryOut yX0_carryOut, Cond.code yX0_carryOut cX0_carryOut 4 (some .boolean), Cond.methodLink RX0 67 yX0_shipOrNull, Cond.methodLink RX0 74 yX0_putToBerth, Cond.instanceMethod yX0_putToBerth, Cond.selects RX0 yX0_putToBerth yX0_putToBerth, Cond.code yX0_putToBerth cX0_putToBerth 3 (some .boolean), Cond.methodLink RX0 82 yX0_isTaken, Cond.instanceMethod yX0_isTaken]
def wsL_law0_r13 : List Cond := [Cond.selects RX0 yX0_isTaken yX0_isTaken, Cond.code yX0_isTaken cX0_isTaken 6 (some .boolean), Cond.methodLink RX0 78 yX0_letLeave, Cond.instanceMethod yX0_letLeave, Cond.selects RX0 yX0_letLeave yX0_letLeave, Cond.code yX0_letLeave cX0_letLeave 2 (some .boolean), Cond.methodLink RX0 63 yX0_earningInTurn, Cond.instanceMethod yX0_earningInTurn, Cond.selects RX0 yX0_earningInTurn yX0_earningInTurn, Cond.code yX0_earningInTurn cX0_earningInTurn 2 (some .int), Cond.instanceMethod yX2_unload, Cond.selects RX2 yX2_unload yX2_unload, Cond.code yX2_unload cX2_unload 3 (some .int), Cond.methodLink RX2 27 Lib.Math.min.name, Cond.static Lib.Math.min.name, Cond.initialized "java/lang/Math", Cond.code Lib.Math.min.name Lib.Math.min.code 2 (some .int), Cond.methodLink RL 106 yX4_where, Cond.instanceMethod yX4_where, Cond.selects RX4 yX4_where yX4_where, Cond.code yX4_where cX4_where 4 (some .int), Cond.methodLink RX4 105 yX4_misses, Cond.instanceMethod yX4_misses, Cond.selects RX4 yX4_misses yX4_misses]
def wsL_law0_r14 : List Cond := [Cond.code yX4_misses cX4_misses 4 (some .boolean), Cond.methodLink RX4 108 yX4_plays, Cond.instanceMethod yX4_plays, Cond.selects RX4 yX4_plays yX4_plays, Cond.code yX4_plays cX4_plays 6 none, Cond.fieldLink RX4 98 "MooringTreeModel" "earned" "I", Cond.fieldLink RX4 95 "MooringTreeModel" "failed" "I", Cond.methodLink RX4 101 yX4_does, Cond.instanceMethod yX4_does, Cond.selects RX4 yX4_does yX4_does, Cond.code yX4_does cX4_does 5 none, Cond.methodLink RX4 91 yX4_can, Cond.instanceMethod yX4_can, Cond.selects RX4 yX4_can yX4_can, Cond.code yX4_can cX4_can 8 (some .boolean), Cond.methodLink RL 107 yL_cargo, Cond.static yL_cargo, Cond.codeWith yL_cargo cL_cargo 6 (some .int) [(0, 12, 15, 21)], Cond.methodLink RL 47 yX3_cargo, Cond.instanceMethod yX3_cargo, Cond.selects RX3 yX3_cargo yX3_cargo, Cond.code yX3_cargo cX3_cargo 4 (some .int), Cond.methodLink RL 109 yX4_cargo, Cond.instanceMethod yX4_cargo]
def wsL_law0_r15 : List Cond := [Cond.selects RX4 yX4_cargo yX4_cargo, Cond.code yX4_cargo cX4_cargo 4 (some .int), Cond.methodLink RL 110 yL_failures, Cond.static yL_failures, Cond.codeWith yL_failures cL_failures 4 (some .int) [(0, 9, 12, 21)], Cond.methodLink RL 50 yX3_failures, Cond.instanceMethod yX3_failures, Cond.selects RX3 yX3_failures yX3_failures, Cond.code yX3_failures cX3_failures 3 (some .int), Cond.methodLink RL 113 yX4_failures, Cond.instanceMethod yX4_failures, Cond.selects RX4 yX4_failures yX4_failures, Cond.code yX4_failures cX4_failures 2 (some .int), Cond.methodLink RL 114 yL_look, Cond.static yL_look, Cond.codeWith yL_look cL_look 5 (some .int) [(0, 10, 13, 21)], Cond.methodLink RL 54 yX3_look, Cond.instanceMethod yX3_look, Cond.selects RX3 yX3_look yX3_look, Cond.code yX3_look cX3_look 4 (some .int), Cond.methodLink RX3 139 Lib.Math.max.name, Cond.static Lib.Math.max.name, Cond.code Lib.Math.max.name Lib.Math.max.code 2 (some .int), Cond.methodLink RX3 145 yX3_earningOf]
def wsL_law0_r16 : List Cond := [Cond.instanceMethod yX3_earningOf, Cond.selects RX3 yX3_earningOf yX3_earningOf, Cond.code yX3_earningOf cX3_earningOf 3 (some .int), Cond.methodLink RL 116 yX4_look, Cond.instanceMethod yX4_look, Cond.selects RX4 yX4_look yX4_look, Cond.code yX4_look cX4_look 3 (some .int), Cond.methodLink RL 117 yL_seen, Cond.static yL_seen, Cond.codeWith yL_seen cL_seen 4 (some .int) [(0, 9, 12, 21)], Cond.methodLink RL 57 yX3_seen, Cond.instanceMethod yX3_seen, Cond.selects RX3 yX3_seen yX3_seen, Cond.code yX3_seen cX3_seen 2 (some .int), Cond.methodLink RL 119 yX4_seen, Cond.instanceMethod yX4_seen, Cond.selects RX4 yX4_seen yX4_seen, Cond.code yX4_seen cX4_seen 2 (some .int), Cond.methodLink RL 120 yL_ahead, Cond.static yL_ahead, Cond.codeWith yL_ahead cL_ahead 4 (some .int) [(0, 9, 12, 21)], Cond.methodLink RL 60 yX3_ahead, Cond.instanceMethod yX3_ahead, Cond.selects RX3 yX3_ahead yX3_ahead]
def wsL_law0_r17 : List Cond := [Cond.code yX3_ahead cX3_ahead 2 (some .int), Cond.methodLink RL 122 yX4_ahead, Cond.instanceMethod yX4_ahead, Cond.selects RX4 yX4_ahead yX4_ahead, Cond.code yX4_ahead cX4_ahead 2 (some .int), Cond.methodLink RX4 111 yX4_aheadOf, Cond.instanceMethod yX4_aheadOf, Cond.selects RX4 yX4_aheadOf yX4_aheadOf, Cond.code yX4_aheadOf cX4_aheadOf 4 (some .int), Cond.methodLink RL 123 yL_mark, Cond.static yL_mark, Cond.codeWith yL_mark cL_mark 4 (some .int) [(0, 9, 12, 21)], Cond.methodLink RL 63 yX3_mark, Cond.instanceMethod yX3_mark, Cond.selects RX3 yX3_mark yX3_mark, Cond.code yX3_mark cX3_mark 3 (some .int), Cond.methodLink RX3 152 yX3_markAgainst, Cond.instanceMethod yX3_markAgainst, Cond.selects RX3 yX3_markAgainst yX3_markAgainst, Cond.code yX3_markAgainst cX3_markAgainst 4 (some .int), Cond.methodLink RX3 158 Lib.Math.min.name, Cond.methodLink RL 125 yX4_mark, Cond.instanceMethod yX4_mark, Cond.selects RX4 yX4_mark yX4_mark]
def wsL_law0_r18 : List Cond := [Cond.code yX4_mark cX4_mark 2 (some .int), Cond.methodLink RX4 115 yX4_markOf, Cond.instanceMethod yX4_markOf, Cond.selects RX4 yX4_markOf yX4_markOf, Cond.code yX4_markOf cX4_markOf 4 (some .int), Cond.methodLink RL 126 yX3_best, Cond.instanceMethod yX3_best, Cond.selects RX3 yX3_best yX3_best, Cond.code yX3_best cX3_best 7 (some .int), Cond.methodLink RL 129 yX4_best, Cond.instanceMethod yX4_best, Cond.selects RX4 yX4_best yX4_best, Cond.code yX4_best cX4_best 5 (some .int)]
def wsL_law0 : List Cond := (wsL_law0_r1 ++ (wsL_law0_r2 ++ (wsL_law0_r3 ++ (wsL_law0_r4 ++ (wsL_law0_r5 ++ (wsL_law0_r6 ++ (wsL_law0_r7 ++ (wsL_law0_r8 ++ (wsL_law0_r9 ++ (wsL_law0_r10 ++ (wsL_law0_r11 ++ (wsL_law0_r12 ++ (wsL_law0_r13 ++ (wsL_law0_r14 ++ (wsL_law0_r15 ++ (wsL_law0_r16 ++ (wsL_law0_r17 ++ wsL_law0_r18))))))))))))))))) ++ wsX30 ++ wsX40 ++ wsX00 ++ wsX10 ++ wsX20 ++ ([] : List Cond)
def wsL_law : List Cond := wsL_law0 ++ (vx_atS RX3 41 "java/lang/IllegalArgumentException" ["java/lang/RuntimeException", "java/lang/Exception"]).filter goodWord ++ (vx_atS RX3 55 "java/lang/IllegalStateException" ["java/lang/RuntimeException", "java/lang/Exception"]).filter goodWord ++ (vx_atS RX3 165 "java/lang/IndexOutOfBoundsException" ["java/lang/RuntimeException", "java/lang/Exception"]).filter goodWord
set_option maxRecDepth 20000 in
theorem wsL_in_r1 : ∀ w ∈ wsL_law0_r1, w ∈ lw_tbl := by decide +kernel
theorem wsL_in_r2 : ∀ w ∈ wsL_law0_r2, w ∈ lw_tbl := by decide +kernel
theorem wsL_in_r3 : ∀ w ∈ wsL_law0_r3, w ∈ lw_tbl := by decide +kernel
theorem wsL_in_r4 : ∀ w ∈ wsL_law0_r4, w ∈ lw_tbl := by decide +kernel
theorem wsL_in_r5 : ∀ w ∈ wsL_law0_r5, w ∈ lw_tbl := by decide +kernel
theorem wsL_in_r6 : ∀ w ∈ wsL_law0_r6, w ∈ lw_tbl := by decide +kernel
theorem wsL_in_r7 : ∀ w ∈ wsL_law0_r7, w ∈ lw_tbl := by decide +kernel
theorem wsL_in_r8 : ∀ w ∈ wsL_law0_r8, w ∈ lw_tbl := by decide +kernel
theorem wsL_in_r9 : ∀ w ∈ wsL_law0_r9, w ∈ lw_tbl := by decide +kernel
theorem wsL_in_r10 : ∀ w ∈ wsL_law0_r10, w ∈ lw_tbl := by decide +kernel
theorem wsL_in_r11 : ∀ w ∈ wsL_law0_r11, w ∈ lw_tbl := by decide +kernel
theorem wsL_in_r12 : ∀ w ∈ wsL_law0_r12, w ∈ lw_tbl := by decide +kernel
theorem wsL_in_r13 : ∀ w ∈ wsL_law0_r13, w ∈ lw_tbl := by decide +kernel
theorem wsL_in_r14 : ∀ w ∈ wsL_law0_r14, w ∈ lw_tbl := by decide +kernel
theorem wsL_in_r15 : ∀ w ∈ wsL_law0_r15, w ∈ lw_tbl := by decide +kernel
theorem wsL_in_r16 : ∀ w ∈ wsL_law0_r16, w ∈ lw_tbl := by decide +kernel
theorem wsL_in_r17 : ∀ w ∈ wsL_law0_r17, w ∈ lw_tbl := by decide +kernel
theorem wsL_in_r18 : ∀ w ∈ wsL_law0_r18, w ∈ lw_tbl := by decide +kernel
theorem wsL_in_wsX30 : ∀ w ∈ wsX30, w ∈ lw_tbl := by decide +kernel
theorem wsL_in_wsX40 : ∀ w ∈ wsX40, w ∈ lw_tbl := by decide +kernel
theorem wsL_in_wsX00 : ∀ w ∈ wsX00, w ∈ lw_tbl := by decide +kernel
theorem wsL_in_wsX10 : ∀ w ∈ wsX10, w ∈ lw_tbl := by decide +kernel
theorem wsL_in_wsX20 : ∀ w ∈ wsX20, w ∈ lw_tbl := by decide +kernel
theorem ws_app {a b B : List Cond} (ha : ∀ w ∈ a, w ∈ B) (hb : ∀ w ∈ b, w ∈ B) : ∀ w ∈ a ++ b, w ∈ B := fun w h => (List.mem_append.mp h).elim (ha w) (hb w)
theorem wsL_law_in0 : ∀ w ∈ wsL_law0, w ∈ lw_tbl := ws_app (ws_app (ws_app (ws_app (ws_app (ws_app (ws_app wsL_in_r1 (ws_app wsL_in_r2 (ws_app wsL_in_r3 (ws_app wsL_in_r4 (ws_app wsL_in_r5 (ws_app wsL_in_r6 (ws_app wsL_in_r7 (ws_app wsL_in_r8 (ws_app wsL_in_r9 (ws_app wsL_in_r10 (ws_app wsL_in_r11 (ws_app wsL_in_r12 (ws_app wsL_in_r13 (ws_app wsL_in_r14 (ws_app wsL_in_r15 (ws_app wsL_in_r16 (ws_app wsL_in_r17 (wsL_in_r18)))))))))))))))))) wsL_in_wsX30) wsL_in_wsX40) wsL_in_wsX00) wsL_in_wsX10) wsL_in_wsX20) (fun _ h => absurd h List.not_mem_nil)
theorem wsL_law_x0 : ∀ w ∈ (vx_atS RX3 41 "java/lang/IllegalArgumentException" ["java/lang/RuntimeException", "java/lang/Exception"]).filter goodWord, w ∈ lw_tbl := by decide +kernel
theorem wsL_law_x1 : ∀ w ∈ (vx_atS RX3 55 "java/lang/IllegalStateException" ["java/lang/RuntimeException", "java/lang/Exception"]).filter goodWord, w ∈ lw_tbl := by decide +kernel
theorem wsL_law_x2 : ∀ w ∈ (vx_atS RX3 165 "java/lang/IndexOutOfBoundsException" ["java/lang/RuntimeException", "java/lang/Exception"]).filter goodWord, w ∈ lw_tbl := by decide +kernel
theorem wsL_law_in : ∀ w ∈ wsL_law, w ∈ lw_tbl := fun w h => (List.mem_append.mp h).elim (fun h => (List.mem_append.mp h).elim (fun h => (List.mem_append.mp h).elim (fun h => wsL_law_in0 w h) (fun h => wsL_law_x0 w h)) (fun h => wsL_law_x1 w h)) (fun h => wsL_law_x2 w h)
theorem inlX0 : ∀ w ∈ wsX00, w ∈ wsL_law := fun _ h => List.mem_append_left _ (List.mem_append_left _ (List.mem_append_left _ (List.mem_append_left _ (List.mem_append_left _ (List.mem_append_left _ (List.mem_append_right _ h))))))
theorem inX0 : ∀ w ∈ wsX00, w ∈ lw_tbl := fun w h => wsL_law_in w (inlX0 w h)
theorem inlX1 : ∀ w ∈ wsX10, w ∈ wsL_law := fun _ h => List.mem_append_left _ (List.mem_append_left _ (List.mem_append_left _ (List.mem_append_left _ (List.mem_append_left _ (List.mem_append_right _ h)))))
theorem inX1 : ∀ w ∈ wsX10, w ∈ lw_tbl := fun w h => wsL_law_in w (inlX1 w h)
theorem inlX2 : ∀ w ∈ wsX20, w ∈ wsL_law := fun _ h => List.mem_append_left _ (List.mem_append_left _ (List.mem_append_left _ (List.mem_append_left _ (List.mem_append_right _ h))))
theorem inX2 : ∀ w ∈ wsX20, w ∈ lw_tbl := fun w h => wsL_law_in w (inlX2 w h)
theorem inlX3 : ∀ w ∈ wsX30, w ∈ wsL_law := fun _ h => List.mem_append_left _ (List.mem_append_left _ (List.mem_append_left _ (List.mem_append_left _ (List.mem_append_left _ (List.mem_append_left _ (List.mem_append_left _ (List.mem_append_left _ (List.mem_append_right _ h))))))))
theorem inX3 : ∀ w ∈ wsX30, w ∈ lw_tbl := fun w h => wsL_law_in w (inlX3 w h)
theorem inlX4 : ∀ w ∈ wsX40, w ∈ wsL_law := fun _ h => List.mem_append_left _ (List.mem_append_left _ (List.mem_append_left _ (List.mem_append_left _ (List.mem_append_left _ (List.mem_append_left _ (List.mem_append_left _ (List.mem_append_right _ h)))))))
theorem inX4 : ∀ w ∈ wsX40, w ∈ lw_tbl := fun w h => wsL_law_in w (inlX4 w h)
theorem inJ9 : ∀ w ∈ wsJ90, w ∈ lw_tbl := by decide +kernel
theorem inJ0 : ∀ w ∈ wsJ00, w ∈ lw_tbl := by decide +kernel
abbrev vwCl : List vw_C := [(RX0, TX0, 7), (RX1, TX1, 6), (RX2, TX2, 5), (RX3, TX3, 4), (RX4, TX4, 18)]
end
section
theorem dX0_init_0 : decode cX0_init 0 = .ok (.aload_n 0, 1) := by decide +kernel
theorem dX0_init_1 : decode cX0_init 1 = .ok (.invokespecial 3, 3) := by decide +kernel
theorem dX0_init_4 : decode cX0_init 4 = .ok (.aload_n 0, 1) := by decide +kernel
theorem dX0_init_5 : decode cX0_init 5 = .ok (.bipush 8, 2) := by decide +kernel
theorem dX0_init_7 : decode cX0_init 7 = .ok (.anewarray 9, 3) := by decide +kernel
theorem dX0_init_10 : decode cX0_init 10 = .ok (.putfield 11, 3) := by decide +kernel
theorem dX0_init_13 : decode cX0_init 13 = .ok (.aload_n 0, 1) := by decide +kernel
theorem dX0_init_14 : decode cX0_init 14 = .ok (.iconst 0, 1) := by decide +kernel
theorem dX0_init_15 : decode cX0_init 15 = .ok (.putfield 17, 3) := by decide +kernel
theorem dX0_init_18 : decode cX0_init 18 = .ok (.aload_n 0, 1) := by decide +kernel
theorem dX0_init_19 : decode cX0_init 19 = .ok (.iconst 3, 1) := by decide +kernel
theorem dX0_init_20 : decode cX0_init 20 = .ok (.newarray .int, 2) := by decide +kernel
theorem dX0_init_22 : decode cX0_init 22 = .ok (.dup, 1) := by decide +kernel
theorem dX0_init_23 : decode cX0_init 23 = .ok (.iconst 0, 1) := by decide +kernel
theorem dX0_init_24 : decode cX0_init 24 = .ok (.iconst 4, 1) := by decide +kernel
theorem dX0_init_25 : decode cX0_init 25 = .ok (.iastore, 1) := by decide +kernel
theorem dX0_init_26 : decode cX0_init 26 = .ok (.dup, 1) := by decide +kernel
theorem dX0_init_27 : decode cX0_init 27 = .ok (.iconst 1, 1) := by decide +kernel
theorem dX0_init_28 : decode cX0_init 28 = .ok (.iconst 4, 1) := by decide +kernel
theorem dX0_init_29 : decode cX0_init 29 = .ok (.iastore, 1) := by decide +kernel
theorem dX0_init_30 : decode cX0_init 30 = .ok (.dup, 1) := by decide +kernel
theorem dX0_init_31 : decode cX0_init 31 = .ok (.iconst 2, 1) := by decide +kernel
theorem dX0_init_32 : decode cX0_init 32 = .ok (.iconst 4, 1) := by decide +kernel
theorem dX0_init_33 : decode cX0_init 33 = .ok (.iastore, 1) := by decide +kernel
theorem dX0_init_34 : decode cX0_init 34 = .ok (.putfield 21, 3) := by decide +kernel
theorem dX0_init_37 : decode cX0_init 37 = .ok (.aload_n 0, 1) := by decide +kernel
theorem dX0_init_38 : decode cX0_init 38 = .ok (.iconst 3, 1) := by decide +kernel
theorem dX0_init_39 : decode cX0_init 39 = .ok (.putfield 25, 3) := by decide +kernel
theorem dX0_init_42 : decode cX0_init 42 = .ok (.aload_n 0, 1) := by decide +kernel
theorem dX0_init_43 : decode cX0_init 43 = .ok (.iconst 1, 1) := by decide +kernel
theorem dX0_init_44 : decode cX0_init 44 = .ok (.putfield 28, 3) := by decide +kernel
theorem dX0_init_47 : decode cX0_init 47 = .ok (.aload_n 0, 1) := by decide +kernel
theorem dX0_init_48 : decode cX0_init 48 = .ok (.iconst 0, 1) := by decide +kernel
theorem dX0_init_49 : decode cX0_init 49 = .ok (.putfield 31, 3) := by decide +kernel
theorem dX0_init_52 : decode cX0_init 52 = .ok (.aload_n 0, 1) := by decide +kernel
theorem dX0_init_53 : decode cX0_init 53 = .ok (.iconst 0, 1) := by decide +kernel
theorem dX0_init_54 : decode cX0_init 54 = .ok (.putfield 34, 3) := by decide +kernel
theorem dX0_init_57 : decode cX0_init 57 = .ok (.return_, 1) := by decide +kernel
theorem dX0_admit_0 : decode cX0_admit 0 = .ok (.aload_n 0, 1) := by decide +kernel
theorem dX0_admit_1 : decode cX0_admit 1 = .ok (.getfield 17, 3) := by decide +kernel
theorem dX0_admit_4 : decode cX0_admit 4 = .ok (.istore_n 2, 1) := by decide +kernel
theorem dX0_admit_5 : decode cX0_admit 5 = .ok (.iload_n 2, 1) := by decide +kernel
theorem dX0_admit_6 : decode cX0_admit 6 = .ok (.aload_n 0, 1) := by decide +kernel
theorem dX0_admit_7 : decode cX0_admit 7 = .ok (.getfield 11, 3) := by decide +kernel
theorem dX0_admit_10 : decode cX0_admit 10 = .ok (.arraylength, 1) := by decide +kernel
theorem dX0_admit_11 : decode cX0_admit 11 = .ok (.if_icmp .ge 20, 3) := by decide +kernel
theorem dX0_admit_14 : decode cX0_admit 14 = .ok (.aload_n 0, 1) := by decide +kernel
theorem dX0_admit_15 : decode cX0_admit 15 = .ok (.getfield 11, 3) := by decide +kernel
theorem dX0_admit_18 : decode cX0_admit 18 = .ok (.iload_n 2, 1) := by decide +kernel
theorem dX0_admit_19 : decode cX0_admit 19 = .ok (.aload_n 1, 1) := by decide +kernel
theorem dX0_admit_20 : decode cX0_admit 20 = .ok (.aastore, 1) := by decide +kernel
theorem dX0_admit_21 : decode cX0_admit 21 = .ok (.aload_n 0, 1) := by decide +kernel
theorem dX0_admit_22 : decode cX0_admit 22 = .ok (.dup, 1) := by decide +kernel
theorem dX0_admit_23 : decode cX0_admit 23 = .ok (.getfield 17, 3) := by decide +kernel
theorem dX0_admit_26 : decode cX0_admit 26 = .ok (.iconst 1, 1) := by decide +kernel
theorem dX0_admit_27 : decode cX0_admit 27 = .ok (.iadd, 1) := by decide +kernel
theorem dX0_admit_28 : decode cX0_admit 28 = .ok (.putfield 17, 3) := by decide +kernel
theorem dX0_admit_31 : decode cX0_admit 31 = .ok (.iload_n 2, 1) := by decide +kernel
theorem dX0_admit_32 : decode cX0_admit 32 = .ok (.ireturn, 1) := by decide +kernel
theorem dX0_shipOrNull_0 : decode cX0_shipOrNull 0 = .ok (.iload_n 1, 1) := by decide +kernel
theorem dX0_shipOrNull_1 : decode cX0_shipOrNull 1 = .ok (.ifCond .lt 21, 3) := by decide +kernel
theorem dX0_shipOrNull_4 : decode cX0_shipOrNull 4 = .ok (.iload_n 1, 1) := by decide +kernel
theorem dX0_shipOrNull_5 : decode cX0_shipOrNull 5 = .ok (.aload_n 0, 1) := by decide +kernel
theorem dX0_shipOrNull_6 : decode cX0_shipOrNull 6 = .ok (.getfield 11, 3) := by decide +kernel
theorem dX0_shipOrNull_9 : decode cX0_shipOrNull 9 = .ok (.arraylength, 1) := by decide +kernel
theorem dX0_shipOrNull_10 : decode cX0_shipOrNull 10 = .ok (.if_icmp .ge 12, 3) := by decide +kernel
theorem dX0_shipOrNull_13 : decode cX0_shipOrNull 13 = .ok (.aload_n 0, 1) := by decide +kernel
theorem dX0_shipOrNull_14 : decode cX0_shipOrNull 14 = .ok (.getfield 11, 3) := by decide +kernel
theorem dX0_shipOrNull_17 : decode cX0_shipOrNull 17 = .ok (.iload_n 1, 1) := by decide +kernel
theorem dX0_shipOrNull_18 : decode cX0_shipOrNull 18 = .ok (.aaload, 1) := by decide +kernel
theorem dX0_shipOrNull_19 : decode cX0_shipOrNull 19 = .ok (.goto 4, 3) := by decide +kernel
theorem dX0_shipOrNull_22 : decode cX0_shipOrNull 22 = .ok (.aconst_null, 1) := by decide +kernel
theorem dX0_shipOrNull_23 : decode cX0_shipOrNull 23 = .ok (.areturn, 1) := by decide +kernel
set_option maxRecDepth 20000 in
theorem ggX0_play_X2_startAfresh : GoodIn wsX0_play wsX2_startAfresh := goodIn_r _ [7, 8, 9, 10, 74, 75, 76, 77, 78] (by decide +kernel) (by decide +kernel)
set_option maxRecDepth 20000 in
theorem gX0_play_X2_startAfresh_n37 : GoodIn wsX0_play (wsX2_startAfresh) := ggX0_play_X2_startAfresh
set_option maxRecDepth 20000 in
theorem ggX0_play_X1_orderFor : GoodIn wsX0_play wsX1_orderFor := goodIn_r _ [14, 15, 16, 17, 18, 19, 12, 20, 21, 79, 80, 81, 82, 83, 84] (by decide +kernel) (by decide +kernel)
set_option maxRecDepth 20000 in
theorem gX0_play_X1_orderFor_n40 : GoodIn wsX0_play (wsX1_orderFor) := ggX0_play_X1_orderFor
set_option maxRecDepth 20000 in
theorem ggX0_play_X0_passTurn : GoodIn wsX0_play wsX0_passTurn := goodIn_r _ [26, 3, 2, 1, 27, 28, 25, 29, 30, 31, 32, 33, 34, 35, 36, 37, 38, 39, 40, 41, 42, 43, 44, 45, 46, 47, 48, 49, 50, 51, 52, 53, 54, 55, 56, 57, 58, 59, 60, 5, 61, 62, 10, 63, 64, 65, 66, 67, 68, 69, 70, 71, 72, 73, 74, 75, 76, 77, 78] (by decide +kernel) (by decide +kernel)
set_option maxRecDepth 20000 in
theorem gX0_play_X0_passTurn : GoodIn wsX0_play (wsV RX0 46 RX0 yX0_passTurn wsX0_passTurn) := goodIn_app (goodIn_of _ (by decide +kernel)) ggX0_play_X0_passTurn
theorem dX0_play_0 : decode cX0_play 0 = .ok (.aload_n 0, 1) := by decide +kernel
theorem dX0_play_1 : decode cX0_play 1 = .ok (.iconst 0, 1) := by decide +kernel
theorem dX0_play_2 : decode cX0_play 2 = .ok (.putfield 31, 3) := by decide +kernel
theorem dX0_play_5 : decode cX0_play 5 = .ok (.aload_n 0, 1) := by decide +kernel
theorem dX0_play_6 : decode cX0_play 6 = .ok (.iconst 0, 1) := by decide +kernel
theorem dX0_play_7 : decode cX0_play 7 = .ok (.putfield 34, 3) := by decide +kernel
theorem dX0_play_10 : decode cX0_play 10 = .ok (.aload_n 0, 1) := by decide +kernel
theorem dX0_play_11 : decode cX0_play 11 = .ok (.getfield 11, 3) := by decide +kernel
theorem dX0_play_14 : decode cX0_play 14 = .ok (.astore_n 3, 1) := by decide +kernel
theorem dX0_play_15 : decode cX0_play 15 = .ok (.aload_n 3, 1) := by decide +kernel
theorem dX0_play_16 : decode cX0_play 16 = .ok (.arraylength, 1) := by decide +kernel
theorem dX0_play_17 : decode cX0_play 17 = .ok (.istore 4, 2) := by decide +kernel
theorem dX0_play_19 : decode cX0_play 19 = .ok (.iconst 0, 1) := by decide +kernel
theorem dX0_play_20 : decode cX0_play 20 = .ok (.istore 5, 2) := by decide +kernel
theorem dX0_play_22 : decode cX0_play 22 = .ok (.iload 5, 2) := by decide +kernel
theorem dX0_play_24 : decode cX0_play 24 = .ok (.iload 4, 2) := by decide +kernel
theorem dX0_play_26 : decode cX0_play 26 = .ok (.if_icmp .ge 25, 3) := by decide +kernel
theorem dX0_play_29 : decode cX0_play 29 = .ok (.aload_n 3, 1) := by decide +kernel
theorem dX0_play_30 : decode cX0_play 30 = .ok (.iload 5, 2) := by decide +kernel
theorem dX0_play_32 : decode cX0_play 32 = .ok (.aaload, 1) := by decide +kernel
theorem dX0_play_33 : decode cX0_play 33 = .ok (.astore 6, 2) := by decide +kernel
theorem dX0_play_35 : decode cX0_play 35 = .ok (.aload 6, 2) := by decide +kernel
theorem dX0_play_37 : decode cX0_play 37 = .ok (.ifnull 8, 3) := by decide +kernel
theorem dX0_play_40 : decode cX0_play 40 = .ok (.aload 6, 2) := by decide +kernel
theorem dX0_play_42 : decode cX0_play 42 = .ok (.invokevirtual 37, 3) := by decide +kernel
theorem dX0_play_45 : decode cX0_play 45 = .ok (.iinc 5 1, 3) := by decide +kernel
theorem dX0_play_48 : decode cX0_play 48 = .ok (.goto (-26), 3) := by decide +kernel
theorem dX0_play_51 : decode cX0_play 51 = .ok (.iconst 0, 1) := by decide +kernel
theorem dX0_play_52 : decode cX0_play 52 = .ok (.istore_n 3, 1) := by decide +kernel
theorem dX0_play_53 : decode cX0_play 53 = .ok (.iload_n 3, 1) := by decide +kernel
theorem dX0_play_54 : decode cX0_play 54 = .ok (.iload_n 2, 1) := by decide +kernel
theorem dX0_play_55 : decode cX0_play 55 = .ok (.if_icmp .gt 25, 3) := by decide +kernel
theorem dX0_play_58 : decode cX0_play 58 = .ok (.iload_n 3, 1) := by decide +kernel
theorem dX0_play_59 : decode cX0_play 59 = .ok (.bipush 30, 2) := by decide +kernel
theorem dX0_play_61 : decode cX0_play 61 = .ok (.if_icmp .ge 19, 3) := by decide +kernel
theorem dX0_play_64 : decode cX0_play 64 = .ok (.aload_n 0, 1) := by decide +kernel
theorem dX0_play_65 : decode cX0_play 65 = .ok (.iload_n 3, 1) := by decide +kernel
theorem dX0_play_66 : decode cX0_play 66 = .ok (.aload_n 1, 1) := by decide +kernel
theorem dX0_play_67 : decode cX0_play 67 = .ok (.iload_n 3, 1) := by decide +kernel
theorem dX0_play_68 : decode cX0_play 68 = .ok (.invokevirtual 40, 3) := by decide +kernel
theorem dX0_play_71 : decode cX0_play 71 = .ok (.invokevirtual 46, 3) := by decide +kernel
theorem dX0_play_74 : decode cX0_play 74 = .ok (.iinc 3 1, 3) := by decide +kernel
theorem dX0_play_77 : decode cX0_play 77 = .ok (.goto (-24), 3) := by decide +kernel
theorem dX0_play_80 : decode cX0_play 80 = .ok (.return_, 1) := by decide +kernel
set_option maxRecDepth 20000 in
theorem ggX0_passTurn_X0_tideOf : GoodIn wsX0_passTurn wsX0_tideOf := goodIn_r _ [7] (by decide +kernel) (by decide +kernel)
set_option maxRecDepth 20000 in
theorem gX0_passTurn_X0_tideOf : GoodIn wsX0_passTurn (va_wsS RX0 56 yX0_tideOf wsX0_tideOf) := goodIn_app (goodIn_of _ (by decide +kernel)) ggX0_passTurn_X0_tideOf
set_option maxRecDepth 20000 in
theorem ggX0_passTurn_X0_carryOut : GoodIn wsX0_passTurn wsX0_carryOut := goodIn_r _ [11, 12, 13, 14, 6, 15, 1, 16, 17, 18, 19, 20, 21, 22, 23, 24, 25, 26, 27, 28, 29, 30, 54, 55, 56, 57, 58, 47, 48, 49, 50, 51, 52, 53] (by decide +kernel) (by decide +kernel)
set_option maxRecDepth 20000 in
theorem gX0_passTurn_X0_carryOut : GoodIn wsX0_passTurn (wsV RX0 59 RX0 yX0_carryOut wsX0_carryOut) := goodIn_app (goodIn_of _ (by decide +kernel)) ggX0_passTurn_X0_carryOut
set_option maxRecDepth 20000 in
theorem ggX0_passTurn_X0_earningInTurn : GoodIn wsX0_passTurn wsX0_earningInTurn := goodIn_r _ [34, 35, 36, 37, 28, 29, 30, 38, 39, 40, 41, 42, 43, 44, 45, 46, 54, 55, 56, 57, 58, 47, 48, 49, 50, 51, 52, 53] (by decide +kernel) (by decide +kernel)
set_option maxRecDepth 20000 in
theorem gX0_passTurn_X0_earningInTurn : GoodIn wsX0_passTurn (wsV RX0 63 RX0 yX0_earningInTurn wsX0_earningInTurn) := goodIn_app (goodIn_of _ (by decide +kernel)) ggX0_passTurn_X0_earningInTurn
theorem dX0_passTurn_0 : decode cX0_passTurn 0 = .ok (.aload_n 0, 1) := by decide +kernel
theorem dX0_passTurn_1 : decode cX0_passTurn 1 = .ok (.getfield 11, 3) := by decide +kernel
theorem dX0_passTurn_4 : decode cX0_passTurn 4 = .ok (.astore_n 3, 1) := by decide +kernel
theorem dX0_passTurn_5 : decode cX0_passTurn 5 = .ok (.aload_n 3, 1) := by decide +kernel
theorem dX0_passTurn_6 : decode cX0_passTurn 6 = .ok (.arraylength, 1) := by decide +kernel
theorem dX0_passTurn_7 : decode cX0_passTurn 7 = .ok (.istore 4, 2) := by decide +kernel
theorem dX0_passTurn_9 : decode cX0_passTurn 9 = .ok (.iconst 0, 1) := by decide +kernel
theorem dX0_passTurn_10 : decode cX0_passTurn 10 = .ok (.istore 5, 2) := by decide +kernel
theorem dX0_passTurn_12 : decode cX0_passTurn 12 = .ok (.iload 5, 2) := by decide +kernel
theorem dX0_passTurn_14 : decode cX0_passTurn 14 = .ok (.iload 4, 2) := by decide +kernel
theorem dX0_passTurn_16 : decode cX0_passTurn 16 = .ok (.if_icmp .ge 35, 3) := by decide +kernel
theorem dX0_passTurn_19 : decode cX0_passTurn 19 = .ok (.aload_n 3, 1) := by decide +kernel
theorem dX0_passTurn_20 : decode cX0_passTurn 20 = .ok (.iload 5, 2) := by decide +kernel
theorem dX0_passTurn_22 : decode cX0_passTurn 22 = .ok (.aaload, 1) := by decide +kernel
theorem dX0_passTurn_23 : decode cX0_passTurn 23 = .ok (.astore 6, 2) := by decide +kernel
theorem dX0_passTurn_25 : decode cX0_passTurn 25 = .ok (.aload 6, 2) := by decide +kernel
theorem dX0_passTurn_27 : decode cX0_passTurn 27 = .ok (.ifnull 18, 3) := by decide +kernel
theorem dX0_passTurn_30 : decode cX0_passTurn 30 = .ok (.aload 6, 2) := by decide +kernel
theorem dX0_passTurn_32 : decode cX0_passTurn 32 = .ok (.getfield 50, 3) := by decide +kernel
theorem dX0_passTurn_35 : decode cX0_passTurn 35 = .ok (.iload_n 1, 1) := by decide +kernel
theorem dX0_passTurn_36 : decode cX0_passTurn 36 = .ok (.if_icmp .ne 9, 3) := by decide +kernel
theorem dX0_passTurn_39 : decode cX0_passTurn 39 = .ok (.aload 6, 2) := by decide +kernel
theorem dX0_passTurn_41 : decode cX0_passTurn 41 = .ok (.iconst (-1), 1) := by decide +kernel
theorem dX0_passTurn_42 : decode cX0_passTurn 42 = .ok (.putfield 53, 3) := by decide +kernel
theorem dX0_passTurn_45 : decode cX0_passTurn 45 = .ok (.iinc 5 1, 3) := by decide +kernel
theorem dX0_passTurn_48 : decode cX0_passTurn 48 = .ok (.goto (-36), 3) := by decide +kernel
theorem dX0_passTurn_51 : decode cX0_passTurn 51 = .ok (.iload_n 2, 1) := by decide +kernel
theorem dX0_passTurn_52 : decode cX0_passTurn 52 = .ok (.ifCond .eq 27, 3) := by decide +kernel
theorem dX0_passTurn_55 : decode cX0_passTurn 55 = .ok (.aload_n 0, 1) := by decide +kernel
theorem dX0_passTurn_56 : decode cX0_passTurn 56 = .ok (.iload_n 2, 1) := by decide +kernel
theorem dX0_passTurn_57 : decode cX0_passTurn 57 = .ok (.iload_n 1, 1) := by decide +kernel
theorem dX0_passTurn_58 : decode cX0_passTurn 58 = .ok (.invokestatic 56, 3) := by decide +kernel
theorem dX0_passTurn_61 : decode cX0_passTurn 61 = .ok (.invokevirtual 59, 3) := by decide +kernel
theorem dX0_passTurn_64 : decode cX0_passTurn 64 = .ok (.ifCond .ne 15, 3) := by decide +kernel
theorem dX0_passTurn_67 : decode cX0_passTurn 67 = .ok (.aload_n 0, 1) := by decide +kernel
theorem dX0_passTurn_68 : decode cX0_passTurn 68 = .ok (.dup, 1) := by decide +kernel
theorem dX0_passTurn_69 : decode cX0_passTurn 69 = .ok (.getfield 34, 3) := by decide +kernel
theorem dX0_passTurn_72 : decode cX0_passTurn 72 = .ok (.iconst 1, 1) := by decide +kernel
theorem dX0_passTurn_73 : decode cX0_passTurn 73 = .ok (.iload_n 1, 1) := by decide +kernel
theorem dX0_passTurn_74 : decode cX0_passTurn 74 = .ok (.ishl, 1) := by decide +kernel
theorem dX0_passTurn_75 : decode cX0_passTurn 75 = .ok (.ior, 1) := by decide +kernel
theorem dX0_passTurn_76 : decode cX0_passTurn 76 = .ok (.putfield 34, 3) := by decide +kernel
theorem dX0_passTurn_79 : decode cX0_passTurn 79 = .ok (.aload_n 0, 1) := by decide +kernel
theorem dX0_passTurn_80 : decode cX0_passTurn 80 = .ok (.getfield 11, 3) := by decide +kernel
theorem dX0_passTurn_83 : decode cX0_passTurn 83 = .ok (.astore_n 3, 1) := by decide +kernel
theorem dX0_passTurn_84 : decode cX0_passTurn 84 = .ok (.aload_n 3, 1) := by decide +kernel
theorem dX0_passTurn_85 : decode cX0_passTurn 85 = .ok (.arraylength, 1) := by decide +kernel
theorem dX0_passTurn_86 : decode cX0_passTurn 86 = .ok (.istore 4, 2) := by decide +kernel
theorem dX0_passTurn_88 : decode cX0_passTurn 88 = .ok (.iconst 0, 1) := by decide +kernel
theorem dX0_passTurn_89 : decode cX0_passTurn 89 = .ok (.istore 5, 2) := by decide +kernel
theorem dX0_passTurn_91 : decode cX0_passTurn 91 = .ok (.iload 5, 2) := by decide +kernel
theorem dX0_passTurn_93 : decode cX0_passTurn 93 = .ok (.iload 4, 2) := by decide +kernel
theorem dX0_passTurn_95 : decode cX0_passTurn 95 = .ok (.if_icmp .ge 35, 3) := by decide +kernel
theorem dX0_passTurn_98 : decode cX0_passTurn 98 = .ok (.aload_n 3, 1) := by decide +kernel
theorem dX0_passTurn_99 : decode cX0_passTurn 99 = .ok (.iload 5, 2) := by decide +kernel
theorem dX0_passTurn_101 : decode cX0_passTurn 101 = .ok (.aaload, 1) := by decide +kernel
theorem dX0_passTurn_102 : decode cX0_passTurn 102 = .ok (.astore 6, 2) := by decide +kernel
theorem dX0_passTurn_104 : decode cX0_passTurn 104 = .ok (.aload 6, 2) := by decide +kernel
theorem dX0_passTurn_106 : decode cX0_passTurn 106 = .ok (.ifnull 18, 3) := by decide +kernel
theorem dX0_passTurn_109 : decode cX0_passTurn 109 = .ok (.aload_n 0, 1) := by decide +kernel
theorem dX0_passTurn_110 : decode cX0_passTurn 110 = .ok (.dup, 1) := by decide +kernel
theorem dX0_passTurn_111 : decode cX0_passTurn 111 = .ok (.getfield 31, 3) := by decide +kernel
theorem dX0_passTurn_114 : decode cX0_passTurn 114 = .ok (.aload_n 0, 1) := by decide +kernel
theorem dX0_passTurn_115 : decode cX0_passTurn 115 = .ok (.aload 6, 2) := by decide +kernel
theorem dX0_passTurn_117 : decode cX0_passTurn 117 = .ok (.invokevirtual 63, 3) := by decide +kernel
theorem dX0_passTurn_120 : decode cX0_passTurn 120 = .ok (.iadd, 1) := by decide +kernel
theorem dX0_passTurn_121 : decode cX0_passTurn 121 = .ok (.putfield 31, 3) := by decide +kernel
theorem dX0_passTurn_124 : decode cX0_passTurn 124 = .ok (.iinc 5 1, 3) := by decide +kernel
theorem dX0_passTurn_127 : decode cX0_passTurn 127 = .ok (.goto (-36), 3) := by decide +kernel
theorem dX0_passTurn_130 : decode cX0_passTurn 130 = .ok (.return_, 1) := by decide +kernel
theorem dX0_tideOf_0 : decode cX0_tideOf 0 = .ok (.iload_n 0, 1) := by decide +kernel
theorem dX0_tideOf_1 : decode cX0_tideOf 1 = .ok (.iconst 3, 1) := by decide +kernel
theorem dX0_tideOf_2 : decode cX0_tideOf 2 = .ok (.iand, 1) := by decide +kernel
theorem dX0_tideOf_3 : decode cX0_tideOf 3 = .ok (.istore_n 1, 1) := by decide +kernel
theorem dX0_tideOf_4 : decode cX0_tideOf 4 = .ok (.iload_n 1, 1) := by decide +kernel
theorem dX0_tideOf_5 : decode cX0_tideOf 5 = .ok (.iconst 3, 1) := by decide +kernel
theorem dX0_tideOf_6 : decode cX0_tideOf 6 = .ok (.if_icmp .ne 7, 3) := by decide +kernel
theorem dX0_tideOf_9 : decode cX0_tideOf 9 = .ok (.iconst 1, 1) := by decide +kernel
theorem dX0_tideOf_10 : decode cX0_tideOf 10 = .ok (.goto 4, 3) := by decide +kernel
theorem dX0_tideOf_13 : decode cX0_tideOf 13 = .ok (.iload_n 1, 1) := by decide +kernel
theorem dX0_tideOf_14 : decode cX0_tideOf 14 = .ok (.ireturn, 1) := by decide +kernel
set_option maxRecDepth 20000 in
theorem ggX0_carryOut_X0_shipOrNull : GoodIn wsX0_carryOut wsX0_shipOrNull := goodIn_r _ [5, 6, 27, 28, 29, 30, 31, 32, 33] (by decide +kernel) (by decide +kernel)
set_option maxRecDepth 20000 in
theorem gX0_carryOut_X0_shipOrNull : GoodIn wsX0_carryOut (wsV RX0 67 RX0 yX0_shipOrNull wsX0_shipOrNull) := goodIn_app (goodIn_of _ (by decide +kernel)) ggX0_carryOut_X0_shipOrNull
set_option maxRecDepth 20000 in
theorem ggX0_carryOut_X0_putToBerth : GoodIn wsX0_carryOut wsX0_putToBerth := goodIn_r _ [10, 11, 12, 13, 4, 14, 6, 22, 23, 24, 25, 26, 27, 28, 29, 30, 31, 32, 33] (by decide +kernel) (by decide +kernel)
set_option maxRecDepth 20000 in
theorem gX0_carryOut_X0_putToBerth : GoodIn wsX0_carryOut (wsV RX0 74 RX0 yX0_putToBerth wsX0_putToBerth) := goodIn_app (goodIn_of _ (by decide +kernel)) ggX0_carryOut_X0_putToBerth
set_option maxRecDepth 20000 in
theorem ggX0_carryOut_X0_letLeave : GoodIn wsX0_carryOut wsX0_letLeave := goodIn_r _ [18, 19, 20, 21, 22, 23, 24, 25, 26] (by decide +kernel) (by decide +kernel)
set_option maxRecDepth 20000 in
theorem gX0_carryOut_X0_letLeave : GoodIn wsX0_carryOut (wsV RX0 78 RX0 yX0_letLeave wsX0_letLeave) := goodIn_app (goodIn_of _ (by decide +kernel)) ggX0_carryOut_X0_letLeave
theorem dX0_carryOut_0 : decode cX0_carryOut 0 = .ok (.aload_n 0, 1) := by decide +kernel
theorem dX0_carryOut_1 : decode cX0_carryOut 1 = .ok (.iload_n 1, 1) := by decide +kernel
theorem dX0_carryOut_2 : decode cX0_carryOut 2 = .ok (.bipush 10, 2) := by decide +kernel
theorem dX0_carryOut_4 : decode cX0_carryOut 4 = .ok (.idiv, 1) := by decide +kernel
theorem dX0_carryOut_5 : decode cX0_carryOut 5 = .ok (.bipush 10, 2) := by decide +kernel
theorem dX0_carryOut_7 : decode cX0_carryOut 7 = .ok (.irem, 1) := by decide +kernel
theorem dX0_carryOut_8 : decode cX0_carryOut 8 = .ok (.invokevirtual 67, 3) := by decide +kernel
theorem dX0_carryOut_11 : decode cX0_carryOut 11 = .ok (.astore_n 3, 1) := by decide +kernel
theorem dX0_carryOut_12 : decode cX0_carryOut 12 = .ok (.aload_n 3, 1) := by decide +kernel
theorem dX0_carryOut_13 : decode cX0_carryOut 13 = .ok (.ifnull 11, 3) := by decide +kernel
theorem dX0_carryOut_16 : decode cX0_carryOut 16 = .ok (.iload_n 2, 1) := by decide +kernel
theorem dX0_carryOut_17 : decode cX0_carryOut 17 = .ok (.aload_n 3, 1) := by decide +kernel
theorem dX0_carryOut_18 : decode cX0_carryOut 18 = .ok (.getfield 71, 3) := by decide +kernel
theorem dX0_carryOut_21 : decode cX0_carryOut 21 = .ok (.if_icmp .ge 5, 3) := by decide +kernel
theorem dX0_carryOut_24 : decode cX0_carryOut 24 = .ok (.iconst 0, 1) := by decide +kernel
theorem dX0_carryOut_25 : decode cX0_carryOut 25 = .ok (.ireturn, 1) := by decide +kernel
theorem dX0_carryOut_26 : decode cX0_carryOut 26 = .ok (.iload_n 1, 1) := by decide +kernel
theorem dX0_carryOut_27 : decode cX0_carryOut 27 = .ok (.bipush 100, 2) := by decide +kernel
theorem dX0_carryOut_29 : decode cX0_carryOut 29 = .ok (.idiv, 1) := by decide +kernel
theorem dX0_carryOut_30 : decode cX0_carryOut 30 = .ok (.iconst 1, 1) := by decide +kernel
theorem dX0_carryOut_31 : decode cX0_carryOut 31 = .ok (.if_icmp .ne 15, 3) := by decide +kernel
theorem dX0_carryOut_34 : decode cX0_carryOut 34 = .ok (.aload_n 0, 1) := by decide +kernel
theorem dX0_carryOut_35 : decode cX0_carryOut 35 = .ok (.aload_n 3, 1) := by decide +kernel
theorem dX0_carryOut_36 : decode cX0_carryOut 36 = .ok (.iload_n 1, 1) := by decide +kernel
theorem dX0_carryOut_37 : decode cX0_carryOut 37 = .ok (.bipush 10, 2) := by decide +kernel
theorem dX0_carryOut_39 : decode cX0_carryOut 39 = .ok (.irem, 1) := by decide +kernel
theorem dX0_carryOut_40 : decode cX0_carryOut 40 = .ok (.invokevirtual 74, 3) := by decide +kernel
theorem dX0_carryOut_43 : decode cX0_carryOut 43 = .ok (.goto 8, 3) := by decide +kernel
theorem dX0_carryOut_46 : decode cX0_carryOut 46 = .ok (.aload_n 0, 1) := by decide +kernel
theorem dX0_carryOut_47 : decode cX0_carryOut 47 = .ok (.aload_n 3, 1) := by decide +kernel
theorem dX0_carryOut_48 : decode cX0_carryOut 48 = .ok (.invokevirtual 78, 3) := by decide +kernel
theorem dX0_carryOut_51 : decode cX0_carryOut 51 = .ok (.ireturn, 1) := by decide +kernel
set_option maxRecDepth 20000 in
theorem ggX0_putToBerth_X0_isTaken : GoodIn wsX0_putToBerth wsX0_isTaken := goodIn_r _ [5, 6, 12, 13, 14, 15, 16, 17, 18, 7, 8, 9, 10, 11] (by decide +kernel) (by decide +kernel)
set_option maxRecDepth 20000 in
theorem gX0_putToBerth_X0_isTaken : GoodIn wsX0_putToBerth (wsV RX0 82 RX0 yX0_isTaken wsX0_isTaken) := goodIn_app (goodIn_of _ (by decide +kernel)) ggX0_putToBerth_X0_isTaken
theorem dX0_putToBerth_0 : decode cX0_putToBerth 0 = .ok (.aload_n 1, 1) := by decide +kernel
theorem dX0_putToBerth_1 : decode cX0_putToBerth 1 = .ok (.getfield 53, 3) := by decide +kernel
theorem dX0_putToBerth_4 : decode cX0_putToBerth 4 = .ok (.iconst (-1), 1) := by decide +kernel
theorem dX0_putToBerth_5 : decode cX0_putToBerth 5 = .ok (.if_icmp .ne 11, 3) := by decide +kernel
theorem dX0_putToBerth_8 : decode cX0_putToBerth 8 = .ok (.aload_n 0, 1) := by decide +kernel
theorem dX0_putToBerth_9 : decode cX0_putToBerth 9 = .ok (.iload_n 2, 1) := by decide +kernel
theorem dX0_putToBerth_10 : decode cX0_putToBerth 10 = .ok (.invokevirtual 82, 3) := by decide +kernel
theorem dX0_putToBerth_13 : decode cX0_putToBerth 13 = .ok (.ifCond .eq 5, 3) := by decide +kernel
theorem dX0_putToBerth_16 : decode cX0_putToBerth 16 = .ok (.iconst 0, 1) := by decide +kernel
theorem dX0_putToBerth_17 : decode cX0_putToBerth 17 = .ok (.ireturn, 1) := by decide +kernel
theorem dX0_putToBerth_18 : decode cX0_putToBerth 18 = .ok (.aload_n 1, 1) := by decide +kernel
theorem dX0_putToBerth_19 : decode cX0_putToBerth 19 = .ok (.iload_n 2, 1) := by decide +kernel
theorem dX0_putToBerth_20 : decode cX0_putToBerth 20 = .ok (.putfield 53, 3) := by decide +kernel
theorem dX0_putToBerth_23 : decode cX0_putToBerth 23 = .ok (.iconst 1, 1) := by decide +kernel
theorem dX0_putToBerth_24 : decode cX0_putToBerth 24 = .ok (.ireturn, 1) := by decide +kernel
set_option maxRecDepth 20000 in
theorem ggX0_letLeave_X3_isBerth : GoodIn wsX0_letLeave wsX3_isBerth := goodIn_r _ [3] (by decide +kernel) (by decide +kernel)
set_option maxRecDepth 20000 in
theorem gX0_letLeave_X3_isBerth_n86 : GoodIn wsX0_letLeave (wsX3_isBerth) := ggX0_letLeave_X3_isBerth
theorem dX0_letLeave_0 : decode cX0_letLeave 0 = .ok (.aload_n 1, 1) := by decide +kernel
theorem dX0_letLeave_1 : decode cX0_letLeave 1 = .ok (.getfield 53, 3) := by decide +kernel
theorem dX0_letLeave_4 : decode cX0_letLeave 4 = .ok (.invokestatic 86, 3) := by decide +kernel
theorem dX0_letLeave_7 : decode cX0_letLeave 7 = .ok (.ifCond .eq 10, 3) := by decide +kernel
theorem dX0_letLeave_10 : decode cX0_letLeave 10 = .ok (.aload_n 1, 1) := by decide +kernel
theorem dX0_letLeave_11 : decode cX0_letLeave 11 = .ok (.getfield 89, 3) := by decide +kernel
theorem dX0_letLeave_14 : decode cX0_letLeave 14 = .ok (.ifCond .le 5, 3) := by decide +kernel
theorem dX0_letLeave_17 : decode cX0_letLeave 17 = .ok (.iconst 0, 1) := by decide +kernel
theorem dX0_letLeave_18 : decode cX0_letLeave 18 = .ok (.ireturn, 1) := by decide +kernel
theorem dX0_letLeave_19 : decode cX0_letLeave 19 = .ok (.aload_n 1, 1) := by decide +kernel
theorem dX0_letLeave_20 : decode cX0_letLeave 20 = .ok (.bipush (-3), 2) := by decide +kernel
theorem dX0_letLeave_22 : decode cX0_letLeave 22 = .ok (.putfield 53, 3) := by decide +kernel
theorem dX0_letLeave_25 : decode cX0_letLeave 25 = .ok (.iconst 1, 1) := by decide +kernel
theorem dX0_letLeave_26 : decode cX0_letLeave 26 = .ok (.ireturn, 1) := by decide +kernel
theorem dX0_isTaken_0 : decode cX0_isTaken 0 = .ok (.aload_n 0, 1) := by decide +kernel
theorem dX0_isTaken_1 : decode cX0_isTaken 1 = .ok (.getfield 11, 3) := by decide +kernel
theorem dX0_isTaken_4 : decode cX0_isTaken 4 = .ok (.astore_n 2, 1) := by decide +kernel
theorem dX0_isTaken_5 : decode cX0_isTaken 5 = .ok (.aload_n 2, 1) := by decide +kernel
theorem dX0_isTaken_6 : decode cX0_isTaken 6 = .ok (.arraylength, 1) := by decide +kernel
theorem dX0_isTaken_7 : decode cX0_isTaken 7 = .ok (.istore_n 3, 1) := by decide +kernel
theorem dX0_isTaken_8 : decode cX0_isTaken 8 = .ok (.iconst 0, 1) := by decide +kernel
theorem dX0_isTaken_9 : decode cX0_isTaken 9 = .ok (.istore 4, 2) := by decide +kernel
theorem dX0_isTaken_11 : decode cX0_isTaken 11 = .ok (.iload 4, 2) := by decide +kernel
theorem dX0_isTaken_13 : decode cX0_isTaken 13 = .ok (.iload_n 3, 1) := by decide +kernel
theorem dX0_isTaken_14 : decode cX0_isTaken 14 = .ok (.if_icmp .ge 31, 3) := by decide +kernel
theorem dX0_isTaken_17 : decode cX0_isTaken 17 = .ok (.aload_n 2, 1) := by decide +kernel
theorem dX0_isTaken_18 : decode cX0_isTaken 18 = .ok (.iload 4, 2) := by decide +kernel
theorem dX0_isTaken_20 : decode cX0_isTaken 20 = .ok (.aaload, 1) := by decide +kernel
theorem dX0_isTaken_21 : decode cX0_isTaken 21 = .ok (.astore 5, 2) := by decide +kernel
theorem dX0_isTaken_23 : decode cX0_isTaken 23 = .ok (.aload 5, 2) := by decide +kernel
theorem dX0_isTaken_25 : decode cX0_isTaken 25 = .ok (.ifnull 14, 3) := by decide +kernel
theorem dX0_isTaken_28 : decode cX0_isTaken 28 = .ok (.aload 5, 2) := by decide +kernel
theorem dX0_isTaken_30 : decode cX0_isTaken 30 = .ok (.getfield 53, 3) := by decide +kernel
theorem dX0_isTaken_33 : decode cX0_isTaken 33 = .ok (.iload_n 1, 1) := by decide +kernel
theorem dX0_isTaken_34 : decode cX0_isTaken 34 = .ok (.if_icmp .ne 5, 3) := by decide +kernel
theorem dX0_isTaken_37 : decode cX0_isTaken 37 = .ok (.iconst 1, 1) := by decide +kernel
theorem dX0_isTaken_38 : decode cX0_isTaken 38 = .ok (.ireturn, 1) := by decide +kernel
theorem dX0_isTaken_39 : decode cX0_isTaken 39 = .ok (.iinc 4 1, 3) := by decide +kernel
theorem dX0_isTaken_42 : decode cX0_isTaken 42 = .ok (.goto (-31), 3) := by decide +kernel
theorem dX0_isTaken_45 : decode cX0_isTaken 45 = .ok (.iconst 0, 1) := by decide +kernel
theorem dX0_isTaken_46 : decode cX0_isTaken 46 = .ok (.ireturn, 1) := by decide +kernel
set_option maxRecDepth 20000 in
theorem ggX0_earningInTurn_X3_isBerth : GoodIn wsX0_earningInTurn wsX3_isBerth := goodIn_r _ [6] (by decide +kernel) (by decide +kernel)
set_option maxRecDepth 20000 in
theorem gX0_earningInTurn_X3_isBerth_n86 : GoodIn wsX0_earningInTurn (wsX3_isBerth) := ggX0_earningInTurn_X3_isBerth
set_option maxRecDepth 20000 in
theorem ggX0_earningInTurn_X2_unload : GoodIn wsX0_earningInTurn wsX2_unload := goodIn_r _ [10, 11, 12, 13, 14, 15, 16, 17, 18, 19, 20] (by decide +kernel) (by decide +kernel)
set_option maxRecDepth 20000 in
theorem gX0_earningInTurn_X2_unload_n92 : GoodIn wsX0_earningInTurn (wsX2_unload) := ggX0_earningInTurn_X2_unload
theorem dX0_earningInTurn_0 : decode cX0_earningInTurn 0 = .ok (.aload_n 1, 1) := by decide +kernel
theorem dX0_earningInTurn_1 : decode cX0_earningInTurn 1 = .ok (.getfield 53, 3) := by decide +kernel
theorem dX0_earningInTurn_4 : decode cX0_earningInTurn 4 = .ok (.invokestatic 86, 3) := by decide +kernel
theorem dX0_earningInTurn_7 : decode cX0_earningInTurn 7 = .ok (.ifCond .eq 22, 3) := by decide +kernel
theorem dX0_earningInTurn_10 : decode cX0_earningInTurn 10 = .ok (.aload_n 0, 1) := by decide +kernel
theorem dX0_earningInTurn_11 : decode cX0_earningInTurn 11 = .ok (.getfield 25, 3) := by decide +kernel
theorem dX0_earningInTurn_14 : decode cX0_earningInTurn 14 = .ok (.aload_n 1, 1) := by decide +kernel
theorem dX0_earningInTurn_15 : decode cX0_earningInTurn 15 = .ok (.aload_n 0, 1) := by decide +kernel
theorem dX0_earningInTurn_16 : decode cX0_earningInTurn 16 = .ok (.getfield 21, 3) := by decide +kernel
theorem dX0_earningInTurn_19 : decode cX0_earningInTurn 19 = .ok (.aload_n 1, 1) := by decide +kernel
theorem dX0_earningInTurn_20 : decode cX0_earningInTurn 20 = .ok (.getfield 53, 3) := by decide +kernel
theorem dX0_earningInTurn_23 : decode cX0_earningInTurn 23 = .ok (.iaload, 1) := by decide +kernel
theorem dX0_earningInTurn_24 : decode cX0_earningInTurn 24 = .ok (.invokevirtual 92, 3) := by decide +kernel
theorem dX0_earningInTurn_27 : decode cX0_earningInTurn 27 = .ok (.imul, 1) := by decide +kernel
theorem dX0_earningInTurn_28 : decode cX0_earningInTurn 28 = .ok (.ireturn, 1) := by decide +kernel
theorem dX0_earningInTurn_29 : decode cX0_earningInTurn 29 = .ok (.aload_n 1, 1) := by decide +kernel
theorem dX0_earningInTurn_30 : decode cX0_earningInTurn 30 = .ok (.getfield 53, 3) := by decide +kernel
theorem dX0_earningInTurn_33 : decode cX0_earningInTurn 33 = .ok (.iconst (-1), 1) := by decide +kernel
theorem dX0_earningInTurn_34 : decode cX0_earningInTurn 34 = .ok (.if_icmp .ne 11, 3) := by decide +kernel
theorem dX0_earningInTurn_37 : decode cX0_earningInTurn 37 = .ok (.aload_n 0, 1) := by decide +kernel
theorem dX0_earningInTurn_38 : decode cX0_earningInTurn 38 = .ok (.getfield 28, 3) := by decide +kernel
theorem dX0_earningInTurn_41 : decode cX0_earningInTurn 41 = .ok (.ineg, 1) := by decide +kernel
theorem dX0_earningInTurn_42 : decode cX0_earningInTurn 42 = .ok (.goto 4, 3) := by decide +kernel
theorem dX0_earningInTurn_45 : decode cX0_earningInTurn 45 = .ok (.iconst 0, 1) := by decide +kernel
theorem dX0_earningInTurn_46 : decode cX0_earningInTurn 46 = .ok (.ireturn, 1) := by decide +kernel
theorem dX1_init_0 : decode cX1_init 0 = .ok (.aload_n 0, 1) := by decide +kernel
theorem dX1_init_1 : decode cX1_init 1 = .ok (.invokespecial 3, 3) := by decide +kernel
theorem dX1_init_4 : decode cX1_init 4 = .ok (.aload_n 0, 1) := by decide +kernel
theorem dX1_init_5 : decode cX1_init 5 = .ok (.bipush 30, 2) := by decide +kernel
theorem dX1_init_7 : decode cX1_init 7 = .ok (.newarray .int, 2) := by decide +kernel
theorem dX1_init_9 : decode cX1_init 9 = .ok (.putfield 9, 3) := by decide +kernel
theorem dX1_init_12 : decode cX1_init 12 = .ok (.aload_n 0, 1) := by decide +kernel
theorem dX1_init_13 : decode cX1_init 13 = .ok (.iconst 0, 1) := by decide +kernel
theorem dX1_init_14 : decode cX1_init 14 = .ok (.putfield 15, 3) := by decide +kernel
theorem dX1_init_17 : decode cX1_init 17 = .ok (.aload_n 0, 1) := by decide +kernel
theorem dX1_init_18 : decode cX1_init 18 = .ok (.iconst 0, 1) := by decide +kernel
theorem dX1_init_19 : decode cX1_init 19 = .ok (.putfield 19, 3) := by decide +kernel
theorem dX1_init_22 : decode cX1_init 22 = .ok (.aload_n 0, 1) := by decide +kernel
theorem dX1_init_23 : decode cX1_init 23 = .ok (.aload_n 1, 1) := by decide +kernel
theorem dX1_init_24 : decode cX1_init 24 = .ok (.putfield 22, 3) := by decide +kernel
theorem dX1_init_27 : decode cX1_init 27 = .ok (.aload_n 0, 1) := by decide +kernel
theorem dX1_init_28 : decode cX1_init 28 = .ok (.iload_n 2, 1) := by decide +kernel
theorem dX1_init_29 : decode cX1_init 29 = .ok (.putfield 26, 3) := by decide +kernel
theorem dX1_init_32 : decode cX1_init 32 = .ok (.aload_n 0, 1) := by decide +kernel
theorem dX1_init_33 : decode cX1_init 33 = .ok (.aload_n 1, 1) := by decide +kernel
theorem dX1_init_34 : decode cX1_init 34 = .ok (.ifnonnull 7, 3) := by decide +kernel
theorem dX1_init_37 : decode cX1_init 37 = .ok (.iconst (-1), 1) := by decide +kernel
theorem dX1_init_38 : decode cX1_init 38 = .ok (.goto 7, 3) := by decide +kernel
theorem dX1_init_41 : decode cX1_init 41 = .ok (.aload_n 1, 1) := by decide +kernel
theorem dX1_init_42 : decode cX1_init 42 = .ok (.getfield 29, 3) := by decide +kernel
theorem dX1_init_45 : decode cX1_init 45 = .ok (.putfield 29, 3) := by decide +kernel
theorem dX1_init_48 : decode cX1_init 48 = .ok (.return_, 1) := by decide +kernel
theorem dX1_hasOwn_0 : decode cX1_hasOwn 0 = .ok (.aload_n 0, 1) := by decide +kernel
theorem dX1_hasOwn_1 : decode cX1_hasOwn 1 = .ok (.getfield 15, 3) := by decide +kernel
theorem dX1_hasOwn_4 : decode cX1_hasOwn 4 = .ok (.iconst 1, 1) := by decide +kernel
theorem dX1_hasOwn_5 : decode cX1_hasOwn 5 = .ok (.iload_n 1, 1) := by decide +kernel
theorem dX1_hasOwn_6 : decode cX1_hasOwn 6 = .ok (.ishl, 1) := by decide +kernel
theorem dX1_hasOwn_7 : decode cX1_hasOwn 7 = .ok (.iand, 1) := by decide +kernel
theorem dX1_hasOwn_8 : decode cX1_hasOwn 8 = .ok (.ifCond .eq 7, 3) := by decide +kernel
theorem dX1_hasOwn_11 : decode cX1_hasOwn 11 = .ok (.iconst 1, 1) := by decide +kernel
theorem dX1_hasOwn_12 : decode cX1_hasOwn 12 = .ok (.goto 4, 3) := by decide +kernel
theorem dX1_hasOwn_15 : decode cX1_hasOwn 15 = .ok (.iconst 0, 1) := by decide +kernel
theorem dX1_hasOwn_16 : decode cX1_hasOwn 16 = .ok (.ireturn, 1) := by decide +kernel
set_option maxRecDepth 20000 in
theorem ggX1_orderFor_X1_hasOwn : GoodIn wsX1_orderFor wsX1_hasOwn := goodIn_r _ [7, 8, 9, 10, 11, 12, 13, 14] (by decide +kernel) (by decide +kernel)
set_option maxRecDepth 20000 in
theorem gX1_orderFor_X1_hasOwn : GoodIn wsX1_orderFor (wsV RX1 32 RX1 yX1_hasOwn wsX1_hasOwn) := goodIn_app (goodIn_of _ (by decide +kernel)) ggX1_orderFor_X1_hasOwn
theorem dX1_orderFor_0 : decode cX1_orderFor 0 = .ok (.aload_n 0, 1) := by decide +kernel
theorem dX1_orderFor_1 : decode cX1_orderFor 1 = .ok (.astore_n 2, 1) := by decide +kernel
theorem dX1_orderFor_2 : decode cX1_orderFor 2 = .ok (.aload_n 2, 1) := by decide +kernel
theorem dX1_orderFor_3 : decode cX1_orderFor 3 = .ok (.ifnull 26, 3) := by decide +kernel
theorem dX1_orderFor_6 : decode cX1_orderFor 6 = .ok (.aload_n 2, 1) := by decide +kernel
theorem dX1_orderFor_7 : decode cX1_orderFor 7 = .ok (.iload_n 1, 1) := by decide +kernel
theorem dX1_orderFor_8 : decode cX1_orderFor 8 = .ok (.invokevirtual 32, 3) := by decide +kernel
theorem dX1_orderFor_11 : decode cX1_orderFor 11 = .ok (.ifCond .eq 10, 3) := by decide +kernel
theorem dX1_orderFor_14 : decode cX1_orderFor 14 = .ok (.aload_n 2, 1) := by decide +kernel
theorem dX1_orderFor_15 : decode cX1_orderFor 15 = .ok (.getfield 9, 3) := by decide +kernel
theorem dX1_orderFor_18 : decode cX1_orderFor 18 = .ok (.iload_n 1, 1) := by decide +kernel
theorem dX1_orderFor_19 : decode cX1_orderFor 19 = .ok (.iaload, 1) := by decide +kernel
theorem dX1_orderFor_20 : decode cX1_orderFor 20 = .ok (.ireturn, 1) := by decide +kernel
theorem dX1_orderFor_21 : decode cX1_orderFor 21 = .ok (.aload_n 2, 1) := by decide +kernel
theorem dX1_orderFor_22 : decode cX1_orderFor 22 = .ok (.getfield 22, 3) := by decide +kernel
theorem dX1_orderFor_25 : decode cX1_orderFor 25 = .ok (.astore_n 2, 1) := by decide +kernel
theorem dX1_orderFor_26 : decode cX1_orderFor 26 = .ok (.goto (-24), 3) := by decide +kernel
theorem dX1_orderFor_29 : decode cX1_orderFor 29 = .ok (.iconst 0, 1) := by decide +kernel
theorem dX1_orderFor_30 : decode cX1_orderFor 30 = .ok (.ireturn, 1) := by decide +kernel
theorem dX1_give_0 : decode cX1_give 0 = .ok (.aload_n 0, 1) := by decide +kernel
theorem dX1_give_1 : decode cX1_give 1 = .ok (.getfield 22, 3) := by decide +kernel
theorem dX1_give_4 : decode cX1_give 4 = .ok (.ifnull 15, 3) := by decide +kernel
theorem dX1_give_7 : decode cX1_give 7 = .ok (.aload_n 0, 1) := by decide +kernel
theorem dX1_give_8 : decode cX1_give 8 = .ok (.getfield 29, 3) := by decide +kernel
theorem dX1_give_11 : decode cX1_give 11 = .ok (.iload_n 1, 1) := by decide +kernel
theorem dX1_give_12 : decode cX1_give 12 = .ok (.if_icmp .le 7, 3) := by decide +kernel
theorem dX1_give_15 : decode cX1_give 15 = .ok (.iconst 1, 1) := by decide +kernel
theorem dX1_give_16 : decode cX1_give 16 = .ok (.goto 4, 3) := by decide +kernel
theorem dX1_give_19 : decode cX1_give 19 = .ok (.iconst 0, 1) := by decide +kernel
theorem dX1_give_20 : decode cX1_give 20 = .ok (.istore_n 3, 1) := by decide +kernel
theorem dX1_give_21 : decode cX1_give 21 = .ok (.iload_n 3, 1) := by decide +kernel
theorem dX1_give_22 : decode cX1_give 22 = .ok (.ifCond .eq 15, 3) := by decide +kernel
theorem dX1_give_25 : decode cX1_give 25 = .ok (.aload_n 0, 1) := by decide +kernel
theorem dX1_give_26 : decode cX1_give 26 = .ok (.dup, 1) := by decide +kernel
theorem dX1_give_27 : decode cX1_give 27 = .ok (.getfield 19, 3) := by decide +kernel
theorem dX1_give_30 : decode cX1_give 30 = .ok (.iconst 1, 1) := by decide +kernel
theorem dX1_give_31 : decode cX1_give 31 = .ok (.iload_n 1, 1) := by decide +kernel
theorem dX1_give_32 : decode cX1_give 32 = .ok (.ishl, 1) := by decide +kernel
theorem dX1_give_33 : decode cX1_give 33 = .ok (.ior, 1) := by decide +kernel
theorem dX1_give_34 : decode cX1_give 34 = .ok (.putfield 19, 3) := by decide +kernel
theorem dX1_give_37 : decode cX1_give 37 = .ok (.aload_n 0, 1) := by decide +kernel
theorem dX1_give_38 : decode cX1_give 38 = .ok (.dup, 1) := by decide +kernel
theorem dX1_give_39 : decode cX1_give 39 = .ok (.getfield 15, 3) := by decide +kernel
theorem dX1_give_42 : decode cX1_give 42 = .ok (.iconst 1, 1) := by decide +kernel
theorem dX1_give_43 : decode cX1_give 43 = .ok (.iload_n 1, 1) := by decide +kernel
theorem dX1_give_44 : decode cX1_give 44 = .ok (.ishl, 1) := by decide +kernel
theorem dX1_give_45 : decode cX1_give 45 = .ok (.ior, 1) := by decide +kernel
theorem dX1_give_46 : decode cX1_give 46 = .ok (.putfield 15, 3) := by decide +kernel
theorem dX1_give_49 : decode cX1_give 49 = .ok (.aload_n 0, 1) := by decide +kernel
theorem dX1_give_50 : decode cX1_give 50 = .ok (.getfield 9, 3) := by decide +kernel
theorem dX1_give_53 : decode cX1_give 53 = .ok (.iload_n 1, 1) := by decide +kernel
theorem dX1_give_54 : decode cX1_give 54 = .ok (.iload_n 2, 1) := by decide +kernel
theorem dX1_give_55 : decode cX1_give 55 = .ok (.iastore, 1) := by decide +kernel
theorem dX1_give_56 : decode cX1_give 56 = .ok (.iload_n 3, 1) := by decide +kernel
theorem dX1_give_57 : decode cX1_give 57 = .ok (.ireturn, 1) := by decide +kernel
set_option maxRecDepth 20000 in
theorem ggX1_drop_X1_hasOwn : GoodIn wsX1_drop wsX1_hasOwn := goodIn_r _ [7, 1, 8, 9, 10, 11, 12, 13] (by decide +kernel) (by decide +kernel)
set_option maxRecDepth 20000 in
theorem gX1_drop_X1_hasOwn : GoodIn wsX1_drop (wsV RX1 32 RX1 yX1_hasOwn wsX1_hasOwn) := goodIn_app (goodIn_of _ (by decide +kernel)) ggX1_drop_X1_hasOwn
theorem dX1_drop_0 : decode cX1_drop 0 = .ok (.aload_n 0, 1) := by decide +kernel
theorem dX1_drop_1 : decode cX1_drop 1 = .ok (.iload_n 1, 1) := by decide +kernel
theorem dX1_drop_2 : decode cX1_drop 2 = .ok (.invokevirtual 32, 3) := by decide +kernel
theorem dX1_drop_5 : decode cX1_drop 5 = .ok (.istore_n 2, 1) := by decide +kernel
theorem dX1_drop_6 : decode cX1_drop 6 = .ok (.aload_n 0, 1) := by decide +kernel
theorem dX1_drop_7 : decode cX1_drop 7 = .ok (.dup, 1) := by decide +kernel
theorem dX1_drop_8 : decode cX1_drop 8 = .ok (.getfield 15, 3) := by decide +kernel
theorem dX1_drop_11 : decode cX1_drop 11 = .ok (.iconst 1, 1) := by decide +kernel
theorem dX1_drop_12 : decode cX1_drop 12 = .ok (.iload_n 1, 1) := by decide +kernel
theorem dX1_drop_13 : decode cX1_drop 13 = .ok (.ishl, 1) := by decide +kernel
theorem dX1_drop_14 : decode cX1_drop 14 = .ok (.iconst (-1), 1) := by decide +kernel
theorem dX1_drop_15 : decode cX1_drop 15 = .ok (.ixor, 1) := by decide +kernel
theorem dX1_drop_16 : decode cX1_drop 16 = .ok (.iand, 1) := by decide +kernel
theorem dX1_drop_17 : decode cX1_drop 17 = .ok (.putfield 15, 3) := by decide +kernel
theorem dX1_drop_20 : decode cX1_drop 20 = .ok (.aload_n 0, 1) := by decide +kernel
theorem dX1_drop_21 : decode cX1_drop 21 = .ok (.dup, 1) := by decide +kernel
theorem dX1_drop_22 : decode cX1_drop 22 = .ok (.getfield 19, 3) := by decide +kernel
theorem dX1_drop_25 : decode cX1_drop 25 = .ok (.iconst 1, 1) := by decide +kernel
theorem dX1_drop_26 : decode cX1_drop 26 = .ok (.iload_n 1, 1) := by decide +kernel
theorem dX1_drop_27 : decode cX1_drop 27 = .ok (.ishl, 1) := by decide +kernel
theorem dX1_drop_28 : decode cX1_drop 28 = .ok (.iconst (-1), 1) := by decide +kernel
theorem dX1_drop_29 : decode cX1_drop 29 = .ok (.ixor, 1) := by decide +kernel
theorem dX1_drop_30 : decode cX1_drop 30 = .ok (.iand, 1) := by decide +kernel
theorem dX1_drop_31 : decode cX1_drop 31 = .ok (.putfield 19, 3) := by decide +kernel
theorem dX1_drop_34 : decode cX1_drop 34 = .ok (.iload_n 2, 1) := by decide +kernel
theorem dX1_drop_35 : decode cX1_drop 35 = .ok (.ireturn, 1) := by decide +kernel
theorem dX2_init_0 : decode cX2_init 0 = .ok (.aload_n 0, 1) := by decide +kernel
theorem dX2_init_1 : decode cX2_init 1 = .ok (.invokespecial 3, 3) := by decide +kernel
theorem dX2_init_4 : decode cX2_init 4 = .ok (.aload_n 0, 1) := by decide +kernel
theorem dX2_init_5 : decode cX2_init 5 = .ok (.bipush (-2), 2) := by decide +kernel
theorem dX2_init_7 : decode cX2_init 7 = .ok (.putfield 9, 3) := by decide +kernel
theorem dX2_init_10 : decode cX2_init 10 = .ok (.aload_n 0, 1) := by decide +kernel
theorem dX2_init_11 : decode cX2_init 11 = .ok (.iload_n 1, 1) := by decide +kernel
theorem dX2_init_12 : decode cX2_init 12 = .ok (.putfield 15, 3) := by decide +kernel
theorem dX2_init_15 : decode cX2_init 15 = .ok (.aload_n 0, 1) := by decide +kernel
theorem dX2_init_16 : decode cX2_init 16 = .ok (.iload_n 2, 1) := by decide +kernel
theorem dX2_init_17 : decode cX2_init 17 = .ok (.putfield 18, 3) := by decide +kernel
theorem dX2_init_20 : decode cX2_init 20 = .ok (.aload_n 0, 1) := by decide +kernel
theorem dX2_init_21 : decode cX2_init 21 = .ok (.iload_n 3, 1) := by decide +kernel
theorem dX2_init_22 : decode cX2_init 22 = .ok (.putfield 21, 3) := by decide +kernel
theorem dX2_init_25 : decode cX2_init 25 = .ok (.aload_n 0, 1) := by decide +kernel
theorem dX2_init_26 : decode cX2_init 26 = .ok (.iload_n 3, 1) := by decide +kernel
theorem dX2_init_27 : decode cX2_init 27 = .ok (.putfield 24, 3) := by decide +kernel
theorem dX2_init_30 : decode cX2_init 30 = .ok (.return_, 1) := by decide +kernel
theorem dX2_startAfresh_0 : decode cX2_startAfresh 0 = .ok (.aload_n 0, 1) := by decide +kernel
theorem dX2_startAfresh_1 : decode cX2_startAfresh 1 = .ok (.bipush (-2), 2) := by decide +kernel
theorem dX2_startAfresh_3 : decode cX2_startAfresh 3 = .ok (.putfield 9, 3) := by decide +kernel
theorem dX2_startAfresh_6 : decode cX2_startAfresh 6 = .ok (.aload_n 0, 1) := by decide +kernel
theorem dX2_startAfresh_7 : decode cX2_startAfresh 7 = .ok (.aload_n 0, 1) := by decide +kernel
theorem dX2_startAfresh_8 : decode cX2_startAfresh 8 = .ok (.getfield 21, 3) := by decide +kernel
theorem dX2_startAfresh_11 : decode cX2_startAfresh 11 = .ok (.putfield 24, 3) := by decide +kernel
theorem dX2_startAfresh_14 : decode cX2_startAfresh 14 = .ok (.return_, 1) := by decide +kernel
theorem dX2_unload_0 : decode cX2_unload 0 = .ok (.iload_n 1, 1) := by decide +kernel
theorem dX2_unload_1 : decode cX2_unload 1 = .ok (.aload_n 0, 1) := by decide +kernel
theorem dX2_unload_2 : decode cX2_unload 2 = .ok (.getfield 24, 3) := by decide +kernel
theorem dX2_unload_5 : decode cX2_unload 5 = .ok (.invokestatic 27, 3) := by decide +kernel
theorem dX2_unload_8 : decode cX2_unload 8 = .ok (.istore_n 2, 1) := by decide +kernel
theorem dX2_unload_9 : decode cX2_unload 9 = .ok (.aload_n 0, 1) := by decide +kernel
theorem dX2_unload_10 : decode cX2_unload 10 = .ok (.dup, 1) := by decide +kernel
theorem dX2_unload_11 : decode cX2_unload 11 = .ok (.getfield 24, 3) := by decide +kernel
theorem dX2_unload_14 : decode cX2_unload 14 = .ok (.iload_n 2, 1) := by decide +kernel
theorem dX2_unload_15 : decode cX2_unload 15 = .ok (.isub, 1) := by decide +kernel
theorem dX2_unload_16 : decode cX2_unload 16 = .ok (.putfield 24, 3) := by decide +kernel
theorem dX2_unload_19 : decode cX2_unload 19 = .ok (.iload_n 2, 1) := by decide +kernel
theorem dX2_unload_20 : decode cX2_unload 20 = .ok (.ireturn, 1) := by decide +kernel
set_option maxRecDepth 20000 in
theorem ggX3_init_X0_init : GoodIn wsX3_init wsX0_init := goodIn_r _ [15, 16, 2, 3, 17, 18, 19, 20, 21, 22, 23, 24, 25, 35, 36, 37, 38, 39, 40, 41] (by decide +kernel) (by decide +kernel)
set_option maxRecDepth 20000 in
theorem gX3_init_X0_init_n11 : GoodIn wsX3_init (wsX0_init) := ggX3_init_X0_init
set_option maxRecDepth 20000 in
theorem ggX3_init_X1_init : GoodIn wsX3_init wsX1_init := goodIn_r _ [27, 28, 2, 3, 20, 29, 30, 31, 32, 33, 34, 46, 47, 48, 49, 50, 51] (by decide +kernel) (by decide +kernel)
set_option maxRecDepth 20000 in
theorem gX3_init_X1_init_n18 : GoodIn wsX3_init (wsX1_init) := ggX3_init_X1_init
end
section
theorem dX3_init_0 : decode cX3_init 0 = .ok (.aload_n 0, 1) := by decide +kernel
theorem dX3_init_1 : decode cX3_init 1 = .ok (.invokespecial 3, 3) := by decide +kernel
theorem dX3_init_4 : decode cX3_init 4 = .ok (.aload_n 0, 1) := by decide +kernel
theorem dX3_init_5 : decode cX3_init 5 = .ok (.new 9, 3) := by decide +kernel
theorem dX3_init_8 : decode cX3_init 8 = .ok (.dup, 1) := by decide +kernel
theorem dX3_init_9 : decode cX3_init 9 = .ok (.invokespecial 11, 3) := by decide +kernel
theorem dX3_init_12 : decode cX3_init 12 = .ok (.putfield 12, 3) := by decide +kernel
theorem dX3_init_15 : decode cX3_init 15 = .ok (.aload_n 0, 1) := by decide +kernel
theorem dX3_init_16 : decode cX3_init 16 = .ok (.new 16, 3) := by decide +kernel
theorem dX3_init_19 : decode cX3_init 19 = .ok (.dup, 1) := by decide +kernel
theorem dX3_init_20 : decode cX3_init 20 = .ok (.aconst_null, 1) := by decide +kernel
theorem dX3_init_21 : decode cX3_init 21 = .ok (.iconst 0, 1) := by decide +kernel
theorem dX3_init_22 : decode cX3_init 22 = .ok (.invokespecial 18, 3) := by decide +kernel
theorem dX3_init_25 : decode cX3_init 25 = .ok (.putfield 21, 3) := by decide +kernel
theorem dX3_init_28 : decode cX3_init 28 = .ok (.aload_n 0, 1) := by decide +kernel
theorem dX3_init_29 : decode cX3_init 29 = .ok (.bipush 9, 2) := by decide +kernel
theorem dX3_init_31 : decode cX3_init 31 = .ok (.anewarray 16, 3) := by decide +kernel
theorem dX3_init_34 : decode cX3_init 34 = .ok (.putfield 25, 3) := by decide +kernel
theorem dX3_init_37 : decode cX3_init 37 = .ok (.aload_n 0, 1) := by decide +kernel
theorem dX3_init_38 : decode cX3_init 38 = .ok (.iconst 0, 1) := by decide +kernel
theorem dX3_init_39 : decode cX3_init 39 = .ok (.putfield 29, 3) := by decide +kernel
theorem dX3_init_42 : decode cX3_init 42 = .ok (.aload_n 0, 1) := by decide +kernel
theorem dX3_init_43 : decode cX3_init 43 = .ok (.getfield 25, 3) := by decide +kernel
theorem dX3_init_46 : decode cX3_init 46 = .ok (.iconst 0, 1) := by decide +kernel
theorem dX3_init_47 : decode cX3_init 47 = .ok (.aload_n 0, 1) := by decide +kernel
theorem dX3_init_48 : decode cX3_init 48 = .ok (.getfield 21, 3) := by decide +kernel
theorem dX3_init_51 : decode cX3_init 51 = .ok (.aastore, 1) := by decide +kernel
theorem dX3_init_52 : decode cX3_init 52 = .ok (.return_, 1) := by decide +kernel
set_option maxRecDepth 20000 in
theorem ggX3_addShip_X3_isTurn : GoodIn wsX3_addShip wsX3_isTurn := goodIn_r _ [12] (by decide +kernel) (by decide +kernel)
set_option maxRecDepth 20000 in
theorem gX3_addShip_X3_isTurn : GoodIn wsX3_addShip (va_wsS RX3 33 yX3_isTurn wsX3_isTurn) := goodIn_app (goodIn_of _ (by decide +kernel)) ggX3_addShip_X3_isTurn
set_option maxRecDepth 20000 in
theorem ggX3_addShip_X2_init : GoodIn wsX3_addShip wsX2_init := goodIn_r _ [14, 15, 16, 17, 18, 19, 20, 21, 22, 40, 41, 42, 43, 44] (by decide +kernel) (by decide +kernel)
set_option maxRecDepth 20000 in
theorem gX3_addShip_X2_init_n58 : GoodIn wsX3_addShip (wsX2_init) := ggX3_addShip_X2_init
set_option maxRecDepth 20000 in
theorem ggX3_addShip_X0_admit : GoodIn wsX3_addShip wsX0_admit := goodIn_r _ [26, 27, 28, 33, 34, 35, 36, 37, 38, 39] (by decide +kernel) (by decide +kernel)
set_option maxRecDepth 20000 in
theorem gX3_addShip_X0_admit_n61 : GoodIn wsX3_addShip (wsX0_admit) := ggX3_addShip_X0_admit
theorem dX3_addShip_0 : decode cX3_addShip 0 = .ok (.iload_n 1, 1) := by decide +kernel
theorem dX3_addShip_1 : decode cX3_addShip 1 = .ok (.invokestatic 33, 3) := by decide +kernel
theorem dX3_addShip_4 : decode cX3_addShip 4 = .ok (.ifCond .ne 13, 3) := by decide +kernel
theorem dX3_addShip_7 : decode cX3_addShip 7 = .ok (.new 37, 3) := by decide +kernel
theorem dX3_addShip_10 : decode cX3_addShip 10 = .ok (.dup, 1) := by decide +kernel
theorem dX3_addShip_11 : decode cX3_addShip 11 = .ok (.ldc 39, 2) := by decide +kernel
theorem dX3_addShip_13 : decode cX3_addShip 13 = .ok (.invokespecial 41, 3) := by decide +kernel
theorem dX3_addShip_16 : decode cX3_addShip 16 = .ok (.athrow, 1) := by decide +kernel
theorem dX3_addShip_17 : decode cX3_addShip 17 = .ok (.iload_n 2, 1) := by decide +kernel
theorem dX3_addShip_18 : decode cX3_addShip 18 = .ok (.ifCond .lt 8, 3) := by decide +kernel
theorem dX3_addShip_21 : decode cX3_addShip 21 = .ok (.iload_n 2, 1) := by decide +kernel
theorem dX3_addShip_22 : decode cX3_addShip 22 = .ok (.iconst 2, 1) := by decide +kernel
theorem dX3_addShip_23 : decode cX3_addShip 23 = .ok (.if_icmp .le 13, 3) := by decide +kernel
theorem dX3_addShip_26 : decode cX3_addShip 26 = .ok (.new 37, 3) := by decide +kernel
theorem dX3_addShip_29 : decode cX3_addShip 29 = .ok (.dup, 1) := by decide +kernel
theorem dX3_addShip_30 : decode cX3_addShip 30 = .ok (.ldc 44, 2) := by decide +kernel
theorem dX3_addShip_32 : decode cX3_addShip 32 = .ok (.invokespecial 41, 3) := by decide +kernel
theorem dX3_addShip_35 : decode cX3_addShip 35 = .ok (.athrow, 1) := by decide +kernel
theorem dX3_addShip_36 : decode cX3_addShip 36 = .ok (.iload_n 3, 1) := by decide +kernel
theorem dX3_addShip_37 : decode cX3_addShip 37 = .ok (.iconst 1, 1) := by decide +kernel
theorem dX3_addShip_38 : decode cX3_addShip 38 = .ok (.if_icmp .lt 9, 3) := by decide +kernel
theorem dX3_addShip_41 : decode cX3_addShip 41 = .ok (.iload_n 3, 1) := by decide +kernel
theorem dX3_addShip_42 : decode cX3_addShip 42 = .ok (.bipush 100, 2) := by decide +kernel
theorem dX3_addShip_44 : decode cX3_addShip 44 = .ok (.if_icmp .le 13, 3) := by decide +kernel
theorem dX3_addShip_47 : decode cX3_addShip 47 = .ok (.new 37, 3) := by decide +kernel
theorem dX3_addShip_50 : decode cX3_addShip 50 = .ok (.dup, 1) := by decide +kernel
theorem dX3_addShip_51 : decode cX3_addShip 51 = .ok (.ldc 46, 2) := by decide +kernel
theorem dX3_addShip_53 : decode cX3_addShip 53 = .ok (.invokespecial 41, 3) := by decide +kernel
theorem dX3_addShip_56 : decode cX3_addShip 56 = .ok (.athrow, 1) := by decide +kernel
theorem dX3_addShip_57 : decode cX3_addShip 57 = .ok (.aload_n 0, 1) := by decide +kernel
theorem dX3_addShip_58 : decode cX3_addShip 58 = .ok (.getfield 12, 3) := by decide +kernel
theorem dX3_addShip_61 : decode cX3_addShip 61 = .ok (.getfield 48, 3) := by decide +kernel
theorem dX3_addShip_64 : decode cX3_addShip 64 = .ok (.bipush 8, 2) := by decide +kernel
theorem dX3_addShip_66 : decode cX3_addShip 66 = .ok (.if_icmp .lt 13, 3) := by decide +kernel
theorem dX3_addShip_69 : decode cX3_addShip 69 = .ok (.new 51, 3) := by decide +kernel
theorem dX3_addShip_72 : decode cX3_addShip 72 = .ok (.dup, 1) := by decide +kernel
theorem dX3_addShip_73 : decode cX3_addShip 73 = .ok (.ldc 53, 2) := by decide +kernel
theorem dX3_addShip_75 : decode cX3_addShip 75 = .ok (.invokespecial 55, 3) := by decide +kernel
theorem dX3_addShip_78 : decode cX3_addShip 78 = .ok (.athrow, 1) := by decide +kernel
theorem dX3_addShip_79 : decode cX3_addShip 79 = .ok (.aload_n 0, 1) := by decide +kernel
theorem dX3_addShip_80 : decode cX3_addShip 80 = .ok (.getfield 12, 3) := by decide +kernel
theorem dX3_addShip_83 : decode cX3_addShip 83 = .ok (.new 56, 3) := by decide +kernel
theorem dX3_addShip_86 : decode cX3_addShip 86 = .ok (.dup, 1) := by decide +kernel
theorem dX3_addShip_87 : decode cX3_addShip 87 = .ok (.iload_n 1, 1) := by decide +kernel
theorem dX3_addShip_88 : decode cX3_addShip 88 = .ok (.iload_n 2, 1) := by decide +kernel
theorem dX3_addShip_89 : decode cX3_addShip 89 = .ok (.iload_n 3, 1) := by decide +kernel
theorem dX3_addShip_90 : decode cX3_addShip 90 = .ok (.invokespecial 58, 3) := by decide +kernel
theorem dX3_addShip_93 : decode cX3_addShip 93 = .ok (.invokevirtual 61, 3) := by decide +kernel
theorem dX3_addShip_96 : decode cX3_addShip 96 = .ok (.ireturn, 1) := by decide +kernel
set_option maxRecDepth 20000 in
theorem ggX3_setRate_X3_checkBerth : GoodIn wsX3_setRate wsX3_checkBerth := goodIn_ca (goodIn_r _ [7, 8, 9, 10, 11, 6, 12] (by decide +kernel) (by decide +kernel)) (goodIn_sub (fun _ h => List.mem_cons_of_mem _ (List.mem_append_right _ h)) (by decide +kernel))
set_option maxRecDepth 20000 in
theorem gX3_setRate_X3_checkBerth : GoodIn wsX3_setRate (va_wsS RX3 65 yX3_checkBerth wsX3_checkBerth) := goodIn_app (goodIn_of _ (by decide +kernel)) ggX3_setRate_X3_checkBerth
theorem dX3_setRate_0 : decode cX3_setRate 0 = .ok (.iload_n 1, 1) := by decide +kernel
theorem dX3_setRate_1 : decode cX3_setRate 1 = .ok (.invokestatic 65, 3) := by decide +kernel
theorem dX3_setRate_4 : decode cX3_setRate 4 = .ok (.iload_n 2, 1) := by decide +kernel
theorem dX3_setRate_5 : decode cX3_setRate 5 = .ok (.ifCond .lt 9, 3) := by decide +kernel
theorem dX3_setRate_8 : decode cX3_setRate 8 = .ok (.iload_n 2, 1) := by decide +kernel
theorem dX3_setRate_9 : decode cX3_setRate 9 = .ok (.bipush 20, 2) := by decide +kernel
theorem dX3_setRate_11 : decode cX3_setRate 11 = .ok (.if_icmp .le 13, 3) := by decide +kernel
theorem dX3_setRate_14 : decode cX3_setRate 14 = .ok (.new 37, 3) := by decide +kernel
theorem dX3_setRate_17 : decode cX3_setRate 17 = .ok (.dup, 1) := by decide +kernel
theorem dX3_setRate_18 : decode cX3_setRate 18 = .ok (.ldc 69, 2) := by decide +kernel
theorem dX3_setRate_20 : decode cX3_setRate 20 = .ok (.invokespecial 41, 3) := by decide +kernel
theorem dX3_setRate_23 : decode cX3_setRate 23 = .ok (.athrow, 1) := by decide +kernel
theorem dX3_setRate_24 : decode cX3_setRate 24 = .ok (.aload_n 0, 1) := by decide +kernel
theorem dX3_setRate_25 : decode cX3_setRate 25 = .ok (.getfield 12, 3) := by decide +kernel
theorem dX3_setRate_28 : decode cX3_setRate 28 = .ok (.getfield 71, 3) := by decide +kernel
theorem dX3_setRate_31 : decode cX3_setRate 31 = .ok (.iload_n 1, 1) := by decide +kernel
theorem dX3_setRate_32 : decode cX3_setRate 32 = .ok (.iaload, 1) := by decide +kernel
theorem dX3_setRate_33 : decode cX3_setRate 33 = .ok (.istore_n 3, 1) := by decide +kernel
theorem dX3_setRate_34 : decode cX3_setRate 34 = .ok (.aload_n 0, 1) := by decide +kernel
theorem dX3_setRate_35 : decode cX3_setRate 35 = .ok (.getfield 12, 3) := by decide +kernel
theorem dX3_setRate_38 : decode cX3_setRate 38 = .ok (.getfield 71, 3) := by decide +kernel
theorem dX3_setRate_41 : decode cX3_setRate 41 = .ok (.iload_n 1, 1) := by decide +kernel
theorem dX3_setRate_42 : decode cX3_setRate 42 = .ok (.iload_n 2, 1) := by decide +kernel
theorem dX3_setRate_43 : decode cX3_setRate 43 = .ok (.iastore, 1) := by decide +kernel
theorem dX3_setRate_44 : decode cX3_setRate 44 = .ok (.iload_n 3, 1) := by decide +kernel
theorem dX3_setRate_45 : decode cX3_setRate 45 = .ok (.ireturn, 1) := by decide +kernel
theorem dX3_setRules_0 : decode cX3_setRules 0 = .ok (.iload_n 1, 1) := by decide +kernel
theorem dX3_setRules_1 : decode cX3_setRules 1 = .ok (.ifCond .lt 9, 3) := by decide +kernel
theorem dX3_setRules_4 : decode cX3_setRules 4 = .ok (.iload_n 1, 1) := by decide +kernel
theorem dX3_setRules_5 : decode cX3_setRules 5 = .ok (.bipush 100, 2) := by decide +kernel
theorem dX3_setRules_7 : decode cX3_setRules 7 = .ok (.if_icmp .le 13, 3) := by decide +kernel
theorem dX3_setRules_10 : decode cX3_setRules 10 = .ok (.new 37, 3) := by decide +kernel
theorem dX3_setRules_13 : decode cX3_setRules 13 = .ok (.dup, 1) := by decide +kernel
theorem dX3_setRules_14 : decode cX3_setRules 14 = .ok (.ldc 75, 2) := by decide +kernel
theorem dX3_setRules_16 : decode cX3_setRules 16 = .ok (.invokespecial 41, 3) := by decide +kernel
theorem dX3_setRules_19 : decode cX3_setRules 19 = .ok (.athrow, 1) := by decide +kernel
theorem dX3_setRules_20 : decode cX3_setRules 20 = .ok (.iload_n 2, 1) := by decide +kernel
theorem dX3_setRules_21 : decode cX3_setRules 21 = .ok (.ifCond .lt 9, 3) := by decide +kernel
theorem dX3_setRules_24 : decode cX3_setRules 24 = .ok (.iload_n 2, 1) := by decide +kernel
theorem dX3_setRules_25 : decode cX3_setRules 25 = .ok (.bipush 100, 2) := by decide +kernel
theorem dX3_setRules_27 : decode cX3_setRules 27 = .ok (.if_icmp .le 13, 3) := by decide +kernel
theorem dX3_setRules_30 : decode cX3_setRules 30 = .ok (.new 37, 3) := by decide +kernel
theorem dX3_setRules_33 : decode cX3_setRules 33 = .ok (.dup, 1) := by decide +kernel
theorem dX3_setRules_34 : decode cX3_setRules 34 = .ok (.ldc 77, 2) := by decide +kernel
theorem dX3_setRules_36 : decode cX3_setRules 36 = .ok (.invokespecial 41, 3) := by decide +kernel
theorem dX3_setRules_39 : decode cX3_setRules 39 = .ok (.athrow, 1) := by decide +kernel
theorem dX3_setRules_40 : decode cX3_setRules 40 = .ok (.aload_n 0, 1) := by decide +kernel
theorem dX3_setRules_41 : decode cX3_setRules 41 = .ok (.getfield 12, 3) := by decide +kernel
theorem dX3_setRules_44 : decode cX3_setRules 44 = .ok (.iload_n 1, 1) := by decide +kernel
theorem dX3_setRules_45 : decode cX3_setRules 45 = .ok (.putfield 79, 3) := by decide +kernel
theorem dX3_setRules_48 : decode cX3_setRules 48 = .ok (.aload_n 0, 1) := by decide +kernel
theorem dX3_setRules_49 : decode cX3_setRules 49 = .ok (.getfield 12, 3) := by decide +kernel
theorem dX3_setRules_52 : decode cX3_setRules 52 = .ok (.iload_n 2, 1) := by decide +kernel
theorem dX3_setRules_53 : decode cX3_setRules 53 = .ok (.putfield 82, 3) := by decide +kernel
theorem dX3_setRules_56 : decode cX3_setRules 56 = .ok (.return_, 1) := by decide +kernel
set_option maxRecDepth 20000 in
theorem ggX3_fork_X3_lineNumbered : GoodIn wsX3_fork wsX3_lineNumbered := goodIn_ca (goodIn_r _ [12, 13, 14, 4, 33, 34, 35, 36] (by decide +kernel) (by decide +kernel)) (goodIn_sub (fun _ h => List.mem_cons_of_mem _ (List.mem_append_right _ h)) (by decide +kernel))
set_option maxRecDepth 20000 in
theorem gX3_fork_X3_lineNumbered : GoodIn wsX3_fork (wsV RX3 85 RX3 yX3_lineNumbered wsX3_lineNumbered) := goodIn_app (goodIn_of _ (by decide +kernel)) ggX3_fork_X3_lineNumbered
set_option maxRecDepth 20000 in
theorem ggX3_fork_X3_checkTurn : GoodIn wsX3_fork wsX3_checkTurn := goodIn_ca (goodIn_r _ [17, 13, 14, 18, 19, 11, 20] (by decide +kernel) (by decide +kernel)) (goodIn_sub (fun _ h => List.mem_cons_of_mem _ (List.mem_append_right _ h)) (by decide +kernel))
set_option maxRecDepth 20000 in
theorem gX3_fork_X3_checkTurn : GoodIn wsX3_fork (va_wsS RX3 89 yX3_checkTurn wsX3_checkTurn) := goodIn_app (goodIn_of _ (by decide +kernel)) ggX3_fork_X3_checkTurn
set_option maxRecDepth 20000 in
theorem ggX3_fork_X1_init : GoodIn wsX3_fork wsX1_init := goodIn_r _ [22, 23, 24, 25, 26, 27, 28, 29, 30, 31, 32, 37, 38, 39, 40, 41, 42] (by decide +kernel) (by decide +kernel)
set_option maxRecDepth 20000 in
theorem gX3_fork_X1_init_n18 : GoodIn wsX3_fork (wsX1_init) := ggX3_fork_X1_init
theorem dX3_fork_0 : decode cX3_fork 0 = .ok (.aload_n 0, 1) := by decide +kernel
theorem dX3_fork_1 : decode cX3_fork 1 = .ok (.iload_n 1, 1) := by decide +kernel
theorem dX3_fork_2 : decode cX3_fork 2 = .ok (.invokevirtual 85, 3) := by decide +kernel
theorem dX3_fork_5 : decode cX3_fork 5 = .ok (.astore_n 3, 1) := by decide +kernel
theorem dX3_fork_6 : decode cX3_fork 6 = .ok (.iload_n 2, 1) := by decide +kernel
theorem dX3_fork_7 : decode cX3_fork 7 = .ok (.invokestatic 89, 3) := by decide +kernel
theorem dX3_fork_10 : decode cX3_fork 10 = .ok (.aload_n 0, 1) := by decide +kernel
theorem dX3_fork_11 : decode cX3_fork 11 = .ok (.getfield 29, 3) := by decide +kernel
theorem dX3_fork_14 : decode cX3_fork 14 = .ok (.bipush 8, 2) := by decide +kernel
theorem dX3_fork_16 : decode cX3_fork 16 = .ok (.if_icmp .lt 13, 3) := by decide +kernel
theorem dX3_fork_19 : decode cX3_fork 19 = .ok (.new 51, 3) := by decide +kernel
theorem dX3_fork_22 : decode cX3_fork 22 = .ok (.dup, 1) := by decide +kernel
theorem dX3_fork_23 : decode cX3_fork 23 = .ok (.ldc 92, 2) := by decide +kernel
theorem dX3_fork_25 : decode cX3_fork 25 = .ok (.invokespecial 55, 3) := by decide +kernel
theorem dX3_fork_28 : decode cX3_fork 28 = .ok (.athrow, 1) := by decide +kernel
theorem dX3_fork_29 : decode cX3_fork 29 = .ok (.aload_n 0, 1) := by decide +kernel
theorem dX3_fork_30 : decode cX3_fork 30 = .ok (.dup, 1) := by decide +kernel
theorem dX3_fork_31 : decode cX3_fork 31 = .ok (.getfield 29, 3) := by decide +kernel
theorem dX3_fork_34 : decode cX3_fork 34 = .ok (.iconst 1, 1) := by decide +kernel
theorem dX3_fork_35 : decode cX3_fork 35 = .ok (.iadd, 1) := by decide +kernel
theorem dX3_fork_36 : decode cX3_fork 36 = .ok (.putfield 29, 3) := by decide +kernel
theorem dX3_fork_39 : decode cX3_fork 39 = .ok (.aload_n 0, 1) := by decide +kernel
theorem dX3_fork_40 : decode cX3_fork 40 = .ok (.getfield 25, 3) := by decide +kernel
theorem dX3_fork_43 : decode cX3_fork 43 = .ok (.aload_n 0, 1) := by decide +kernel
theorem dX3_fork_44 : decode cX3_fork 44 = .ok (.getfield 29, 3) := by decide +kernel
theorem dX3_fork_47 : decode cX3_fork 47 = .ok (.new 16, 3) := by decide +kernel
theorem dX3_fork_50 : decode cX3_fork 50 = .ok (.dup, 1) := by decide +kernel
theorem dX3_fork_51 : decode cX3_fork 51 = .ok (.aload_n 3, 1) := by decide +kernel
theorem dX3_fork_52 : decode cX3_fork 52 = .ok (.iload_n 2, 1) := by decide +kernel
theorem dX3_fork_53 : decode cX3_fork 53 = .ok (.invokespecial 18, 3) := by decide +kernel
theorem dX3_fork_56 : decode cX3_fork 56 = .ok (.aastore, 1) := by decide +kernel
theorem dX3_fork_57 : decode cX3_fork 57 = .ok (.aload_n 0, 1) := by decide +kernel
theorem dX3_fork_58 : decode cX3_fork 58 = .ok (.getfield 29, 3) := by decide +kernel
theorem dX3_fork_61 : decode cX3_fork 61 = .ok (.ireturn, 1) := by decide +kernel
set_option maxRecDepth 20000 in
theorem ggX3_order_X3_lineNumbered : GoodIn wsX3_order wsX3_lineNumbered := goodIn_ca (goodIn_r _ [9, 10, 11, 12, 53, 54, 55, 56] (by decide +kernel) (by decide +kernel)) (goodIn_sub (fun _ h => List.mem_cons_of_mem _ (List.mem_append_right _ h)) (by decide +kernel))
set_option maxRecDepth 20000 in
theorem gX3_order_X3_lineNumbered : GoodIn wsX3_order (wsV RX3 85 RX3 yX3_lineNumbered wsX3_lineNumbered) := goodIn_app (goodIn_of _ (by decide +kernel)) ggX3_order_X3_lineNumbered
set_option maxRecDepth 20000 in
theorem ggX3_order_X3_checkTurn : GoodIn wsX3_order wsX3_checkTurn := goodIn_ca (goodIn_r _ [15, 10, 11, 16, 17, 8, 18] (by decide +kernel) (by decide +kernel)) (goodIn_sub (fun _ h => List.mem_cons_of_mem _ (List.mem_append_right _ h)) (by decide +kernel))
set_option maxRecDepth 20000 in
theorem gX3_order_X3_checkTurn : GoodIn wsX3_order (va_wsS RX3 89 yX3_checkTurn wsX3_checkTurn) := goodIn_app (goodIn_of _ (by decide +kernel)) ggX3_order_X3_checkTurn
set_option maxRecDepth 20000 in
theorem ggX3_order_X3_shipNumbered : GoodIn wsX3_order wsX3_shipNumbered := goodIn_ca (goodIn_r _ [22, 10, 11, 23, 24, 25, 26, 27, 28, 53, 54, 55, 56, 57, 58, 59, 60, 61, 62, 63] (by decide +kernel) (by decide +kernel)) (goodIn_sub (fun _ h => List.mem_cons_of_mem _ (List.mem_append_right _ h)) (by decide +kernel))
set_option maxRecDepth 20000 in
theorem gX3_order_X3_shipNumbered : GoodIn wsX3_order (wsV RX3 94 RX3 yX3_shipNumbered wsX3_shipNumbered) := goodIn_app (goodIn_of _ (by decide +kernel)) ggX3_order_X3_shipNumbered
set_option maxRecDepth 20000 in
theorem ggX3_order_X3_checkBerth : GoodIn wsX3_order wsX3_checkBerth := goodIn_ca (goodIn_r _ [31, 10, 11, 32, 33, 8, 34] (by decide +kernel) (by decide +kernel)) (goodIn_sub (fun _ h => List.mem_cons_of_mem _ (List.mem_append_right _ h)) (by decide +kernel))
set_option maxRecDepth 20000 in
theorem gX3_order_X3_checkBerth : GoodIn wsX3_order (va_wsS RX3 65 yX3_checkBerth wsX3_checkBerth) := goodIn_app (goodIn_of _ (by decide +kernel)) ggX3_order_X3_checkBerth
set_option maxRecDepth 20000 in
theorem ggX3_order_X3_codeOf : GoodIn wsX3_order wsX3_codeOf := goodIn_r _ [37] (by decide +kernel) (by decide +kernel)
set_option maxRecDepth 20000 in
theorem gX3_order_X3_codeOf : GoodIn wsX3_order (va_wsS RX3 105 yX3_codeOf wsX3_codeOf) := goodIn_app (goodIn_of _ (by decide +kernel)) ggX3_order_X3_codeOf
set_option maxRecDepth 20000 in
theorem ggX3_order_X1_give : GoodIn wsX3_order wsX1_give := goodIn_r _ [41, 42, 43, 44, 45, 46, 47, 48, 49, 50, 51, 52] (by decide +kernel) (by decide +kernel)
set_option maxRecDepth 20000 in
theorem gX3_order_X1_give_n109 : GoodIn wsX3_order (wsX1_give) := ggX3_order_X1_give
theorem dX3_order_0 : decode cX3_order 0 = .ok (.aload_n 0, 1) := by decide +kernel
theorem dX3_order_1 : decode cX3_order 1 = .ok (.iload_n 1, 1) := by decide +kernel
theorem dX3_order_2 : decode cX3_order 2 = .ok (.invokevirtual 85, 3) := by decide +kernel
theorem dX3_order_5 : decode cX3_order 5 = .ok (.astore 6, 2) := by decide +kernel
theorem dX3_order_7 : decode cX3_order 7 = .ok (.iload_n 2, 1) := by decide +kernel
theorem dX3_order_8 : decode cX3_order 8 = .ok (.invokestatic 89, 3) := by decide +kernel
theorem dX3_order_11 : decode cX3_order 11 = .ok (.aload_n 0, 1) := by decide +kernel
theorem dX3_order_12 : decode cX3_order 12 = .ok (.iload 4, 2) := by decide +kernel
theorem dX3_order_14 : decode cX3_order 14 = .ok (.invokevirtual 94, 3) := by decide +kernel
theorem dX3_order_17 : decode cX3_order 17 = .ok (.pop, 1) := by decide +kernel
theorem dX3_order_18 : decode cX3_order 18 = .ok (.iload 5, 2) := by decide +kernel
theorem dX3_order_20 : decode cX3_order 20 = .ok (.invokestatic 65, 3) := by decide +kernel
theorem dX3_order_23 : decode cX3_order 23 = .ok (.iload_n 3, 1) := by decide +kernel
theorem dX3_order_24 : decode cX3_order 24 = .ok (.ifCond .eq 23, 3) := by decide +kernel
theorem dX3_order_27 : decode cX3_order 27 = .ok (.iload_n 3, 1) := by decide +kernel
theorem dX3_order_28 : decode cX3_order 28 = .ok (.iconst 1, 1) := by decide +kernel
theorem dX3_order_29 : decode cX3_order 29 = .ok (.if_icmp .eq 18, 3) := by decide +kernel
theorem dX3_order_32 : decode cX3_order 32 = .ok (.iload_n 3, 1) := by decide +kernel
theorem dX3_order_33 : decode cX3_order 33 = .ok (.iconst 2, 1) := by decide +kernel
theorem dX3_order_34 : decode cX3_order 34 = .ok (.if_icmp .eq 13, 3) := by decide +kernel
theorem dX3_order_37 : decode cX3_order 37 = .ok (.new 37, 3) := by decide +kernel
theorem dX3_order_40 : decode cX3_order 40 = .ok (.dup, 1) := by decide +kernel
theorem dX3_order_41 : decode cX3_order 41 = .ok (.ldc 98, 2) := by decide +kernel
theorem dX3_order_43 : decode cX3_order 43 = .ok (.invokespecial 41, 3) := by decide +kernel
theorem dX3_order_46 : decode cX3_order 46 = .ok (.athrow, 1) := by decide +kernel
theorem dX3_order_47 : decode cX3_order 47 = .ok (.iload_n 2, 1) := by decide +kernel
theorem dX3_order_48 : decode cX3_order 48 = .ok (.aload 6, 2) := by decide +kernel
theorem dX3_order_50 : decode cX3_order 50 = .ok (.getfield 100, 3) := by decide +kernel
theorem dX3_order_53 : decode cX3_order 53 = .ok (.if_icmp .ge 13, 3) := by decide +kernel
theorem dX3_order_56 : decode cX3_order 56 = .ok (.new 51, 3) := by decide +kernel
theorem dX3_order_59 : decode cX3_order 59 = .ok (.dup, 1) := by decide +kernel
theorem dX3_order_60 : decode cX3_order 60 = .ok (.ldc 103, 2) := by decide +kernel
theorem dX3_order_62 : decode cX3_order 62 = .ok (.invokespecial 55, 3) := by decide +kernel
theorem dX3_order_65 : decode cX3_order 65 = .ok (.athrow, 1) := by decide +kernel
theorem dX3_order_66 : decode cX3_order 66 = .ok (.aload 6, 2) := by decide +kernel
theorem dX3_order_68 : decode cX3_order 68 = .ok (.iload_n 2, 1) := by decide +kernel
theorem dX3_order_69 : decode cX3_order 69 = .ok (.iload_n 3, 1) := by decide +kernel
theorem dX3_order_70 : decode cX3_order 70 = .ok (.iload 4, 2) := by decide +kernel
theorem dX3_order_72 : decode cX3_order 72 = .ok (.iload 5, 2) := by decide +kernel
theorem dX3_order_74 : decode cX3_order 74 = .ok (.invokestatic 105, 3) := by decide +kernel
theorem dX3_order_77 : decode cX3_order 77 = .ok (.invokevirtual 109, 3) := by decide +kernel
theorem dX3_order_80 : decode cX3_order 80 = .ok (.ireturn, 1) := by decide +kernel
set_option maxRecDepth 20000 in
theorem ggX3_takeAway_X3_lineNumbered : GoodIn wsX3_takeAway wsX3_lineNumbered := goodIn_ca (goodIn_r _ [5, 6, 7, 8, 25, 26, 27, 28] (by decide +kernel) (by decide +kernel)) (goodIn_sub (fun _ h => List.mem_cons_of_mem _ (List.mem_append_right _ h)) (by decide +kernel))
set_option maxRecDepth 20000 in
theorem gX3_takeAway_X3_lineNumbered : GoodIn wsX3_takeAway (wsV RX3 85 RX3 yX3_lineNumbered wsX3_lineNumbered) := goodIn_app (goodIn_of _ (by decide +kernel)) ggX3_takeAway_X3_lineNumbered
set_option maxRecDepth 20000 in
theorem ggX3_takeAway_X3_checkTurn : GoodIn wsX3_takeAway wsX3_checkTurn := goodIn_ca (goodIn_r _ [11, 6, 7, 12, 13, 4, 14] (by decide +kernel) (by decide +kernel)) (goodIn_sub (fun _ h => List.mem_cons_of_mem _ (List.mem_append_right _ h)) (by decide +kernel))
set_option maxRecDepth 20000 in
theorem gX3_takeAway_X3_checkTurn : GoodIn wsX3_takeAway (va_wsS RX3 89 yX3_checkTurn wsX3_checkTurn) := goodIn_app (goodIn_of _ (by decide +kernel)) ggX3_takeAway_X3_checkTurn
set_option maxRecDepth 20000 in
theorem ggX3_takeAway_X1_drop : GoodIn wsX3_takeAway wsX1_drop := goodIn_r _ [18, 19, 20, 21, 22, 23, 16, 24, 29, 30, 31, 32, 33, 34] (by decide +kernel) (by decide +kernel)
set_option maxRecDepth 20000 in
theorem gX3_takeAway_X1_drop_n113 : GoodIn wsX3_takeAway (wsX1_drop) := ggX3_takeAway_X1_drop
theorem dX3_takeAway_0 : decode cX3_takeAway 0 = .ok (.aload_n 0, 1) := by decide +kernel
theorem dX3_takeAway_1 : decode cX3_takeAway 1 = .ok (.iload_n 1, 1) := by decide +kernel
theorem dX3_takeAway_2 : decode cX3_takeAway 2 = .ok (.invokevirtual 85, 3) := by decide +kernel
theorem dX3_takeAway_5 : decode cX3_takeAway 5 = .ok (.astore_n 3, 1) := by decide +kernel
theorem dX3_takeAway_6 : decode cX3_takeAway 6 = .ok (.iload_n 2, 1) := by decide +kernel
theorem dX3_takeAway_7 : decode cX3_takeAway 7 = .ok (.invokestatic 89, 3) := by decide +kernel
theorem dX3_takeAway_10 : decode cX3_takeAway 10 = .ok (.aload_n 3, 1) := by decide +kernel
theorem dX3_takeAway_11 : decode cX3_takeAway 11 = .ok (.iload_n 2, 1) := by decide +kernel
theorem dX3_takeAway_12 : decode cX3_takeAway 12 = .ok (.invokevirtual 113, 3) := by decide +kernel
theorem dX3_takeAway_15 : decode cX3_takeAway 15 = .ok (.ireturn, 1) := by decide +kernel
set_option maxRecDepth 20000 in
theorem ggX3_orderOf_X3_lineNumbered : GoodIn wsX3_orderOf wsX3_lineNumbered := goodIn_ca (goodIn_r _ [5, 6, 7, 8, 26, 27, 28, 29] (by decide +kernel) (by decide +kernel)) (goodIn_sub (fun _ h => List.mem_cons_of_mem _ (List.mem_append_right _ h)) (by decide +kernel))
set_option maxRecDepth 20000 in
theorem gX3_orderOf_X3_lineNumbered : GoodIn wsX3_orderOf (wsV RX3 85 RX3 yX3_lineNumbered wsX3_lineNumbered) := goodIn_app (goodIn_of _ (by decide +kernel)) ggX3_orderOf_X3_lineNumbered
set_option maxRecDepth 20000 in
theorem ggX3_orderOf_X3_checkTurn : GoodIn wsX3_orderOf wsX3_checkTurn := goodIn_ca (goodIn_r _ [11, 6, 7, 12, 13, 4, 14] (by decide +kernel) (by decide +kernel)) (goodIn_sub (fun _ h => List.mem_cons_of_mem _ (List.mem_append_right _ h)) (by decide +kernel))
set_option maxRecDepth 20000 in
theorem gX3_orderOf_X3_checkTurn : GoodIn wsX3_orderOf (va_wsS RX3 89 yX3_checkTurn wsX3_checkTurn) := goodIn_app (goodIn_of _ (by decide +kernel)) ggX3_orderOf_X3_checkTurn
set_option maxRecDepth 20000 in
theorem ggX3_orderOf_X1_orderFor : GoodIn wsX3_orderOf wsX1_orderFor := goodIn_r _ [18, 19, 20, 21, 22, 23, 16, 24, 25, 30, 31, 32, 33, 34, 35] (by decide +kernel) (by decide +kernel)
set_option maxRecDepth 20000 in
theorem gX3_orderOf_X1_orderFor_n116 : GoodIn wsX3_orderOf (wsX1_orderFor) := ggX3_orderOf_X1_orderFor
theorem dX3_orderOf_0 : decode cX3_orderOf 0 = .ok (.aload_n 0, 1) := by decide +kernel
theorem dX3_orderOf_1 : decode cX3_orderOf 1 = .ok (.iload_n 1, 1) := by decide +kernel
theorem dX3_orderOf_2 : decode cX3_orderOf 2 = .ok (.invokevirtual 85, 3) := by decide +kernel
theorem dX3_orderOf_5 : decode cX3_orderOf 5 = .ok (.astore_n 3, 1) := by decide +kernel
theorem dX3_orderOf_6 : decode cX3_orderOf 6 = .ok (.iload_n 2, 1) := by decide +kernel
theorem dX3_orderOf_7 : decode cX3_orderOf 7 = .ok (.invokestatic 89, 3) := by decide +kernel
theorem dX3_orderOf_10 : decode cX3_orderOf 10 = .ok (.aload_n 3, 1) := by decide +kernel
theorem dX3_orderOf_11 : decode cX3_orderOf 11 = .ok (.iload_n 2, 1) := by decide +kernel
theorem dX3_orderOf_12 : decode cX3_orderOf 12 = .ok (.invokevirtual 116, 3) := by decide +kernel
theorem dX3_orderOf_15 : decode cX3_orderOf 15 = .ok (.ireturn, 1) := by decide +kernel
set_option maxRecDepth 20000 in
theorem ggX3_differences_X3_lineNumbered : GoodIn wsX3_differences wsX3_lineNumbered := goodIn_ca (goodIn_r _ [5, 6, 7, 8, 20, 21, 22, 23] (by decide +kernel) (by decide +kernel)) (goodIn_sub (fun _ h => List.mem_cons_of_mem _ (List.mem_append_right _ h)) (by decide +kernel))
set_option maxRecDepth 20000 in
theorem gX3_differences_X3_lineNumbered : GoodIn wsX3_differences (wsV RX3 85 RX3 yX3_lineNumbered wsX3_lineNumbered) := goodIn_app (goodIn_of _ (by decide +kernel)) ggX3_differences_X3_lineNumbered
set_option maxRecDepth 20000 in
theorem ggX3_differences_X1_orderFor : GoodIn wsX3_differences wsX1_orderFor := goodIn_r _ [12, 13, 14, 15, 16, 17, 10, 18, 19, 24, 25, 26, 27, 28, 29] (by decide +kernel) (by decide +kernel)
set_option maxRecDepth 20000 in
theorem gX3_differences_X1_orderFor_n116 : GoodIn wsX3_differences (wsX1_orderFor) := ggX3_differences_X1_orderFor
theorem dX3_differences_0 : decode cX3_differences 0 = .ok (.aload_n 0, 1) := by decide +kernel
theorem dX3_differences_1 : decode cX3_differences 1 = .ok (.iload_n 1, 1) := by decide +kernel
theorem dX3_differences_2 : decode cX3_differences 2 = .ok (.invokevirtual 85, 3) := by decide +kernel
theorem dX3_differences_5 : decode cX3_differences 5 = .ok (.astore_n 3, 1) := by decide +kernel
theorem dX3_differences_6 : decode cX3_differences 6 = .ok (.aload_n 0, 1) := by decide +kernel
theorem dX3_differences_7 : decode cX3_differences 7 = .ok (.iload_n 2, 1) := by decide +kernel
theorem dX3_differences_8 : decode cX3_differences 8 = .ok (.invokevirtual 85, 3) := by decide +kernel
theorem dX3_differences_11 : decode cX3_differences 11 = .ok (.astore 4, 2) := by decide +kernel
theorem dX3_differences_13 : decode cX3_differences 13 = .ok (.iconst 0, 1) := by decide +kernel
theorem dX3_differences_14 : decode cX3_differences 14 = .ok (.istore 5, 2) := by decide +kernel
theorem dX3_differences_16 : decode cX3_differences 16 = .ok (.iconst 0, 1) := by decide +kernel
theorem dX3_differences_17 : decode cX3_differences 17 = .ok (.istore 6, 2) := by decide +kernel
theorem dX3_differences_19 : decode cX3_differences 19 = .ok (.iload 6, 2) := by decide +kernel
theorem dX3_differences_21 : decode cX3_differences 21 = .ok (.bipush 30, 2) := by decide +kernel
theorem dX3_differences_23 : decode cX3_differences 23 = .ok (.if_icmp .ge 34, 3) := by decide +kernel
theorem dX3_differences_26 : decode cX3_differences 26 = .ok (.aload_n 3, 1) := by decide +kernel
theorem dX3_differences_27 : decode cX3_differences 27 = .ok (.iload 6, 2) := by decide +kernel
theorem dX3_differences_29 : decode cX3_differences 29 = .ok (.invokevirtual 116, 3) := by decide +kernel
theorem dX3_differences_32 : decode cX3_differences 32 = .ok (.aload 4, 2) := by decide +kernel
theorem dX3_differences_34 : decode cX3_differences 34 = .ok (.iload 6, 2) := by decide +kernel
theorem dX3_differences_36 : decode cX3_differences 36 = .ok (.invokevirtual 116, 3) := by decide +kernel
theorem dX3_differences_39 : decode cX3_differences 39 = .ok (.if_icmp .eq 12, 3) := by decide +kernel
theorem dX3_differences_42 : decode cX3_differences 42 = .ok (.iload 5, 2) := by decide +kernel
theorem dX3_differences_44 : decode cX3_differences 44 = .ok (.iconst 1, 1) := by decide +kernel
theorem dX3_differences_45 : decode cX3_differences 45 = .ok (.iload 6, 2) := by decide +kernel
theorem dX3_differences_47 : decode cX3_differences 47 = .ok (.ishl, 1) := by decide +kernel
theorem dX3_differences_48 : decode cX3_differences 48 = .ok (.ior, 1) := by decide +kernel
theorem dX3_differences_49 : decode cX3_differences 49 = .ok (.istore 5, 2) := by decide +kernel
theorem dX3_differences_51 : decode cX3_differences 51 = .ok (.iinc 6 1, 3) := by decide +kernel
theorem dX3_differences_54 : decode cX3_differences 54 = .ok (.goto (-35), 3) := by decide +kernel
theorem dX3_differences_57 : decode cX3_differences 57 = .ok (.iload 5, 2) := by decide +kernel
theorem dX3_differences_59 : decode cX3_differences 59 = .ok (.ireturn, 1) := by decide +kernel
set_option maxRecDepth 20000 in
theorem ggX3_where_X3_shipBehind : GoodIn wsX3_where wsX3_shipBehind := goodIn_ca (goodIn_r _ [5, 6, 7, 8, 9, 4, 10, 11, 12, 13, 14, 15, 16, 17, 18, 19, 20, 21, 22, 23, 24, 25, 26, 27, 28, 29, 30, 31, 32, 33, 34, 35, 36, 37, 38, 39, 40, 41, 42, 43, 44, 45, 46, 47, 48, 49, 50, 51, 52, 53, 54, 55, 56, 57, 58, 59, 60, 61, 62, 63, 64, 65, 66, 67, 68, 69, 70, 71, 72, 73, 74, 75, 76, 77, 78, 79, 80, 81, 82, 83, 84, 85, 86, 87, 88, 89, 90, 91, 97, 98, 99, 100, 101, 102, 103, 104, 105, 106, 107, 92, 93, 94, 95, 96, 108, 109, 110, 111, 112, 113] (by decide +kernel) (by decide +kernel)) (goodIn_sub (fun _ h => List.mem_cons_of_mem _ (List.mem_append_right _ h)) (by decide +kernel))
set_option maxRecDepth 20000 in
theorem gX3_where_X3_shipBehind : GoodIn wsX3_where (wsV RX3 120 RX3 yX3_shipBehind wsX3_shipBehind) := goodIn_app (goodIn_of _ (by decide +kernel)) ggX3_where_X3_shipBehind
theorem dX3_where_0 : decode cX3_where 0 = .ok (.aload_n 0, 1) := by decide +kernel
theorem dX3_where_1 : decode cX3_where 1 = .ok (.iload_n 1, 1) := by decide +kernel
theorem dX3_where_2 : decode cX3_where 2 = .ok (.iload_n 2, 1) := by decide +kernel
theorem dX3_where_3 : decode cX3_where 3 = .ok (.iload_n 3, 1) := by decide +kernel
theorem dX3_where_4 : decode cX3_where 4 = .ok (.invokevirtual 120, 3) := by decide +kernel
theorem dX3_where_7 : decode cX3_where 7 = .ok (.getfield 124, 3) := by decide +kernel
theorem dX3_where_10 : decode cX3_where 10 = .ok (.ireturn, 1) := by decide +kernel
set_option maxRecDepth 20000 in
theorem ggX3_cargo_X3_shipBehind : GoodIn wsX3_cargo wsX3_shipBehind := goodIn_ca (goodIn_r _ [5, 6, 7, 8, 9, 4, 10, 11, 12, 13, 14, 15, 16, 17, 18, 19, 20, 21, 22, 23, 24, 25, 26, 27, 28, 29, 30, 31, 32, 33, 34, 35, 36, 37, 38, 39, 40, 41, 42, 43, 44, 45, 46, 47, 48, 49, 50, 51, 52, 53, 54, 55, 56, 57, 58, 59, 60, 61, 62, 63, 64, 65, 66, 67, 68, 69, 70, 71, 72, 73, 74, 75, 76, 77, 78, 79, 80, 81, 82, 83, 84, 85, 86, 87, 88, 89, 90, 91, 97, 98, 99, 100, 101, 102, 103, 104, 105, 106, 107, 92, 93, 94, 95, 96, 108, 109, 110, 111, 112, 113] (by decide +kernel) (by decide +kernel)) (goodIn_sub (fun _ h => List.mem_cons_of_mem _ (List.mem_append_right _ h)) (by decide +kernel))
set_option maxRecDepth 20000 in
theorem gX3_cargo_X3_shipBehind : GoodIn wsX3_cargo (wsV RX3 120 RX3 yX3_shipBehind wsX3_shipBehind) := goodIn_app (goodIn_of _ (by decide +kernel)) ggX3_cargo_X3_shipBehind
theorem dX3_cargo_0 : decode cX3_cargo 0 = .ok (.aload_n 0, 1) := by decide +kernel
theorem dX3_cargo_1 : decode cX3_cargo 1 = .ok (.iload_n 1, 1) := by decide +kernel
theorem dX3_cargo_2 : decode cX3_cargo 2 = .ok (.iload_n 2, 1) := by decide +kernel
theorem dX3_cargo_3 : decode cX3_cargo 3 = .ok (.iload_n 3, 1) := by decide +kernel
theorem dX3_cargo_4 : decode cX3_cargo 4 = .ok (.invokevirtual 120, 3) := by decide +kernel
theorem dX3_cargo_7 : decode cX3_cargo 7 = .ok (.getfield 127, 3) := by decide +kernel
theorem dX3_cargo_10 : decode cX3_cargo 10 = .ok (.ireturn, 1) := by decide +kernel
set_option maxRecDepth 20000 in
theorem ggX3_failures_X3_lineNumbered : GoodIn wsX3_failures wsX3_lineNumbered := goodIn_ca (goodIn_r _ [6, 7, 8, 9, 78, 79, 80, 81] (by decide +kernel) (by decide +kernel)) (goodIn_sub (fun _ h => List.mem_cons_of_mem _ (List.mem_append_right _ h)) (by decide +kernel))
set_option maxRecDepth 20000 in
theorem gX3_failures_X3_lineNumbered : GoodIn wsX3_failures (wsV RX3 85 RX3 yX3_lineNumbered wsX3_lineNumbered) := goodIn_app (goodIn_of _ (by decide +kernel)) ggX3_failures_X3_lineNumbered
set_option maxRecDepth 20000 in
theorem ggX3_failures_X0_play : GoodIn wsX3_failures wsX0_play := goodIn_r _ [13, 14, 15, 16, 17, 18, 19, 20, 21, 22, 23, 24, 25, 26, 27, 28, 29, 30, 31, 32, 33, 34, 35, 36, 37, 11, 38, 39, 40, 41, 42, 43, 44, 45, 46, 47, 48, 49, 50, 51, 52, 53, 54, 55, 56, 57, 58, 59, 60, 61, 62, 5, 63, 64, 65, 66, 67, 68, 69, 70, 71, 72, 73, 74, 75, 76, 77, 82, 83, 84, 85, 86, 87, 88, 89, 90, 91, 92, 93, 94, 95, 96, 97, 98, 99] (by decide +kernel) (by decide +kernel)
set_option maxRecDepth 20000 in
theorem gX3_failures_X0_play_n130 : GoodIn wsX3_failures (wsX0_play) := ggX3_failures_X0_play
theorem dX3_failures_0 : decode cX3_failures 0 = .ok (.aload_n 0, 1) := by decide +kernel
theorem dX3_failures_1 : decode cX3_failures 1 = .ok (.iload_n 1, 1) := by decide +kernel
theorem dX3_failures_2 : decode cX3_failures 2 = .ok (.invokevirtual 85, 3) := by decide +kernel
theorem dX3_failures_5 : decode cX3_failures 5 = .ok (.astore_n 2, 1) := by decide +kernel
theorem dX3_failures_6 : decode cX3_failures 6 = .ok (.aload_n 0, 1) := by decide +kernel
theorem dX3_failures_7 : decode cX3_failures 7 = .ok (.getfield 12, 3) := by decide +kernel
theorem dX3_failures_10 : decode cX3_failures 10 = .ok (.aload_n 2, 1) := by decide +kernel
theorem dX3_failures_11 : decode cX3_failures 11 = .ok (.bipush 29, 2) := by decide +kernel
theorem dX3_failures_13 : decode cX3_failures 13 = .ok (.invokevirtual 130, 3) := by decide +kernel
theorem dX3_failures_16 : decode cX3_failures 16 = .ok (.aload_n 0, 1) := by decide +kernel
theorem dX3_failures_17 : decode cX3_failures 17 = .ok (.getfield 12, 3) := by decide +kernel
theorem dX3_failures_20 : decode cX3_failures 20 = .ok (.getfield 133, 3) := by decide +kernel
theorem dX3_failures_23 : decode cX3_failures 23 = .ok (.ireturn, 1) := by decide +kernel
set_option maxRecDepth 20000 in
theorem ggX3_look_X3_lineNumbered : GoodIn wsX3_look wsX3_lineNumbered := goodIn_ca (goodIn_r _ [9, 10, 11, 12, 97, 98, 99, 100] (by decide +kernel) (by decide +kernel)) (goodIn_sub (fun _ h => List.mem_cons_of_mem _ (List.mem_append_right _ h)) (by decide +kernel))
set_option maxRecDepth 20000 in
theorem gX3_look_X3_lineNumbered : GoodIn wsX3_look (wsV RX3 85 RX3 yX3_lineNumbered wsX3_lineNumbered) := goodIn_app (goodIn_of _ (by decide +kernel)) ggX3_look_X3_lineNumbered
set_option maxRecDepth 20000 in
theorem ggX3_look_X3_checkTurn : GoodIn wsX3_look wsX3_checkTurn := goodIn_ca (goodIn_r _ [15, 10, 11, 16, 17, 8, 18] (by decide +kernel) (by decide +kernel)) (goodIn_sub (fun _ h => List.mem_cons_of_mem _ (List.mem_append_right _ h)) (by decide +kernel))
set_option maxRecDepth 20000 in
theorem gX3_look_X3_checkTurn : GoodIn wsX3_look (va_wsS RX3 89 yX3_checkTurn wsX3_checkTurn) := goodIn_app (goodIn_of _ (by decide +kernel)) ggX3_look_X3_checkTurn
set_option maxRecDepth 20000 in
theorem ggX3_look_X3_earningOf : GoodIn wsX3_look wsX3_earningOf := goodIn_r _ [22, 23, 24, 25, 26, 27, 28, 29, 30, 31, 32, 33, 34, 35, 36, 37, 38, 39, 40, 41, 42, 43, 44, 45, 46, 47, 48, 49, 50, 51, 52, 53, 54, 55, 56, 57, 58, 59, 60, 61, 62, 63, 64, 65, 66, 67, 68, 69, 70, 71, 72, 73, 74, 75, 76, 8, 77, 78, 79, 80, 81, 82, 83, 84, 85, 86, 87, 88, 89, 3, 90, 97, 98, 99, 100, 101, 102, 103, 104, 105, 106, 107, 108, 109, 110, 111, 112, 91, 92, 93, 94, 95, 96] (by decide +kernel) (by decide +kernel)
set_option maxRecDepth 20000 in
theorem gX3_look_X3_earningOf : GoodIn wsX3_look (wsV RX3 145 RX3 yX3_earningOf wsX3_earningOf) := goodIn_app (goodIn_of _ (by decide +kernel)) ggX3_look_X3_earningOf
theorem dX3_look_0 : decode cX3_look 0 = .ok (.aload_n 0, 1) := by decide +kernel
theorem dX3_look_1 : decode cX3_look 1 = .ok (.iload_n 1, 1) := by decide +kernel
theorem dX3_look_2 : decode cX3_look 2 = .ok (.invokevirtual 85, 3) := by decide +kernel
theorem dX3_look_5 : decode cX3_look 5 = .ok (.astore_n 3, 1) := by decide +kernel
theorem dX3_look_6 : decode cX3_look 6 = .ok (.iload_n 2, 1) := by decide +kernel
theorem dX3_look_7 : decode cX3_look 7 = .ok (.invokestatic 89, 3) := by decide +kernel
theorem dX3_look_10 : decode cX3_look 10 = .ok (.aload_n 3, 1) := by decide +kernel
theorem dX3_look_11 : decode cX3_look 11 = .ok (.aload_n 3, 1) := by decide +kernel
theorem dX3_look_12 : decode cX3_look 12 = .ok (.getfield 136, 3) := by decide +kernel
theorem dX3_look_15 : decode cX3_look 15 = .ok (.iload_n 2, 1) := by decide +kernel
theorem dX3_look_16 : decode cX3_look 16 = .ok (.invokestatic 139, 3) := by decide +kernel
theorem dX3_look_19 : decode cX3_look 19 = .ok (.putfield 136, 3) := by decide +kernel
theorem dX3_look_22 : decode cX3_look 22 = .ok (.aload_n 0, 1) := by decide +kernel
theorem dX3_look_23 : decode cX3_look 23 = .ok (.aload_n 3, 1) := by decide +kernel
theorem dX3_look_24 : decode cX3_look 24 = .ok (.iload_n 2, 1) := by decide +kernel
theorem dX3_look_25 : decode cX3_look 25 = .ok (.invokevirtual 145, 3) := by decide +kernel
theorem dX3_look_28 : decode cX3_look 28 = .ok (.ireturn, 1) := by decide +kernel
set_option maxRecDepth 20000 in
theorem ggX3_seen_X3_lineNumbered : GoodIn wsX3_seen wsX3_lineNumbered := goodIn_ca (goodIn_r _ [5, 6, 7, 8, 15, 16, 17, 18] (by decide +kernel) (by decide +kernel)) (goodIn_sub (fun _ h => List.mem_cons_of_mem _ (List.mem_append_right _ h)) (by decide +kernel))
set_option maxRecDepth 20000 in
theorem gX3_seen_X3_lineNumbered : GoodIn wsX3_seen (wsV RX3 85 RX3 yX3_lineNumbered wsX3_lineNumbered) := goodIn_app (goodIn_of _ (by decide +kernel)) ggX3_seen_X3_lineNumbered
theorem dX3_seen_0 : decode cX3_seen 0 = .ok (.aload_n 0, 1) := by decide +kernel
theorem dX3_seen_1 : decode cX3_seen 1 = .ok (.iload_n 1, 1) := by decide +kernel
theorem dX3_seen_2 : decode cX3_seen 2 = .ok (.invokevirtual 85, 3) := by decide +kernel
theorem dX3_seen_5 : decode cX3_seen 5 = .ok (.getfield 136, 3) := by decide +kernel
theorem dX3_seen_8 : decode cX3_seen 8 = .ok (.ireturn, 1) := by decide +kernel
set_option maxRecDepth 20000 in
theorem ggX3_ahead_X3_lineNumbered : GoodIn wsX3_ahead wsX3_lineNumbered := goodIn_ca (goodIn_r _ [5, 6, 7, 8, 15, 16, 17, 18] (by decide +kernel) (by decide +kernel)) (goodIn_sub (fun _ h => List.mem_cons_of_mem _ (List.mem_append_right _ h)) (by decide +kernel))
set_option maxRecDepth 20000 in
theorem gX3_ahead_X3_lineNumbered : GoodIn wsX3_ahead (wsV RX3 85 RX3 yX3_lineNumbered wsX3_lineNumbered) := goodIn_app (goodIn_of _ (by decide +kernel)) ggX3_ahead_X3_lineNumbered
theorem dX3_ahead_0 : decode cX3_ahead 0 = .ok (.aload_n 0, 1) := by decide +kernel
theorem dX3_ahead_1 : decode cX3_ahead 1 = .ok (.iload_n 1, 1) := by decide +kernel
theorem dX3_ahead_2 : decode cX3_ahead 2 = .ok (.invokevirtual 85, 3) := by decide +kernel
theorem dX3_ahead_5 : decode cX3_ahead 5 = .ok (.getfield 149, 3) := by decide +kernel
theorem dX3_ahead_8 : decode cX3_ahead 8 = .ok (.ireturn, 1) := by decide +kernel
set_option maxRecDepth 20000 in
theorem ggX3_mark_X3_lineNumbered : GoodIn wsX3_mark wsX3_lineNumbered := goodIn_ca (goodIn_r _ [6, 7, 8, 9, 91, 92, 93, 94] (by decide +kernel) (by decide +kernel)) (goodIn_sub (fun _ h => List.mem_cons_of_mem _ (List.mem_append_right _ h)) (by decide +kernel))
set_option maxRecDepth 20000 in
theorem gX3_mark_X3_lineNumbered : GoodIn wsX3_mark (wsV RX3 85 RX3 yX3_lineNumbered wsX3_lineNumbered) := goodIn_app (goodIn_of _ (by decide +kernel)) ggX3_mark_X3_lineNumbered
set_option maxRecDepth 20000 in
theorem ggX3_mark_X3_earningOf : GoodIn wsX3_mark wsX3_earningOf := goodIn_r _ [13, 14, 15, 16, 17, 18, 19, 20, 21, 22, 23, 24, 25, 26, 27, 28, 29, 30, 31, 32, 33, 34, 35, 36, 37, 38, 39, 40, 41, 42, 43, 44, 45, 46, 47, 48, 49, 50, 51, 52, 53, 54, 55, 56, 57, 58, 59, 60, 61, 62, 63, 64, 65, 66, 67, 5, 68, 69, 70, 71, 72, 73, 74, 75, 76, 77, 78, 79, 80, 81, 82, 91, 92, 93, 94, 95, 96, 97, 98, 99, 100, 101, 102, 103, 104, 105, 106, 107, 108, 109, 110, 111, 112] (by decide +kernel) (by decide +kernel)
set_option maxRecDepth 20000 in
theorem gX3_mark_X3_earningOf : GoodIn wsX3_mark (wsV RX3 145 RX3 yX3_earningOf wsX3_earningOf) := goodIn_app (goodIn_of _ (by decide +kernel)) ggX3_mark_X3_earningOf
set_option maxRecDepth 20000 in
theorem ggX3_mark_X3_markAgainst : GoodIn wsX3_mark wsX3_markAgainst := goodIn_r _ [86, 87, 80, 81, 82, 88, 89, 90, 10, 11, 12, 5, 13, 14, 15, 16, 17, 18, 19, 20, 21, 22, 23, 24, 25, 26, 27, 28, 29, 30, 31, 32, 33, 34, 35, 36, 37, 38, 39, 40, 41, 42, 43, 44, 45, 46, 47, 48, 49, 50, 51, 52, 53, 54, 55, 56, 57, 58, 59, 60, 61, 62, 63, 64, 65, 66, 67, 68, 69, 70, 71, 72, 73, 74, 75, 76, 77, 78, 79, 107, 108, 109, 110, 111, 112, 91, 92, 93, 94, 95, 96, 97, 98, 99, 100, 101, 102, 103, 104, 105, 106] (by decide +kernel) (by decide +kernel)
set_option maxRecDepth 20000 in
theorem gX3_mark_X3_markAgainst : GoodIn wsX3_mark (wsV RX3 152 RX3 yX3_markAgainst wsX3_markAgainst) := goodIn_app (goodIn_of _ (by decide +kernel)) ggX3_mark_X3_markAgainst
theorem dX3_mark_0 : decode cX3_mark 0 = .ok (.aload_n 0, 1) := by decide +kernel
theorem dX3_mark_1 : decode cX3_mark 1 = .ok (.iload_n 1, 1) := by decide +kernel
theorem dX3_mark_2 : decode cX3_mark 2 = .ok (.invokevirtual 85, 3) := by decide +kernel
theorem dX3_mark_5 : decode cX3_mark 5 = .ok (.astore_n 2, 1) := by decide +kernel
theorem dX3_mark_6 : decode cX3_mark 6 = .ok (.aload_n 0, 1) := by decide +kernel
theorem dX3_mark_7 : decode cX3_mark 7 = .ok (.aload_n 2, 1) := by decide +kernel
theorem dX3_mark_8 : decode cX3_mark 8 = .ok (.aload_n 0, 1) := by decide +kernel
theorem dX3_mark_9 : decode cX3_mark 9 = .ok (.aload_n 0, 1) := by decide +kernel
theorem dX3_mark_10 : decode cX3_mark 10 = .ok (.getfield 21, 3) := by decide +kernel
theorem dX3_mark_13 : decode cX3_mark 13 = .ok (.bipush 29, 2) := by decide +kernel
theorem dX3_mark_15 : decode cX3_mark 15 = .ok (.invokevirtual 145, 3) := by decide +kernel
theorem dX3_mark_18 : decode cX3_mark 18 = .ok (.invokevirtual 152, 3) := by decide +kernel
theorem dX3_mark_21 : decode cX3_mark 21 = .ok (.ireturn, 1) := by decide +kernel
set_option maxRecDepth 20000 in
theorem ggX3_best_X3_earningOf : GoodIn wsX3_best wsX3_earningOf := goodIn_r _ [7, 8, 9, 10, 11, 12, 13, 14, 15, 16, 17, 18, 19, 20, 21, 22, 23, 24, 25, 26, 27, 28, 29, 30, 31, 32, 33, 34, 35, 36, 37, 38, 39, 40, 41, 42, 43, 44, 45, 46, 47, 48, 49, 50, 51, 52, 53, 54, 55, 56, 57, 58, 59, 60, 61, 6, 62, 63, 64, 65, 66, 67, 68, 69, 70, 71, 72, 73, 74, 75, 76, 85, 86, 87, 88, 89, 90, 91, 92, 93, 94, 95, 96, 97, 98, 99, 100, 101, 102, 103, 104, 105, 106] (by decide +kernel) (by decide +kernel)
set_option maxRecDepth 20000 in
theorem gX3_best_X3_earningOf : GoodIn wsX3_best (wsV RX3 145 RX3 yX3_earningOf wsX3_earningOf) := goodIn_app (goodIn_of _ (by decide +kernel)) ggX3_best_X3_earningOf
set_option maxRecDepth 20000 in
theorem ggX3_best_X3_markAgainst : GoodIn wsX3_best wsX3_markAgainst := goodIn_r _ [80, 81, 74, 75, 76, 82, 83, 84, 3, 4, 5, 6, 7, 8, 9, 10, 11, 12, 13, 14, 15, 16, 17, 18, 19, 20, 21, 22, 23, 24, 25, 26, 27, 28, 29, 30, 31, 32, 33, 34, 35, 36, 37, 38, 39, 40, 41, 42, 43, 44, 45, 46, 47, 48, 49, 50, 51, 52, 53, 54, 55, 56, 57, 58, 59, 60, 61, 62, 63, 64, 65, 66, 67, 68, 69, 70, 71, 72, 73, 101, 102, 103, 104, 105, 106, 85, 86, 87, 88, 89, 90, 91, 92, 93, 94, 95, 96, 97, 98, 99, 100] (by decide +kernel) (by decide +kernel)
set_option maxRecDepth 20000 in
theorem gX3_best_X3_markAgainst : GoodIn wsX3_best (wsV RX3 152 RX3 yX3_markAgainst wsX3_markAgainst) := goodIn_app (goodIn_of _ (by decide +kernel)) ggX3_best_X3_markAgainst
theorem dX3_best_0 : decode cX3_best 0 = .ok (.aload_n 0, 1) := by decide +kernel
theorem dX3_best_1 : decode cX3_best 1 = .ok (.aload_n 0, 1) := by decide +kernel
theorem dX3_best_2 : decode cX3_best 2 = .ok (.getfield 21, 3) := by decide +kernel
theorem dX3_best_5 : decode cX3_best 5 = .ok (.bipush 29, 2) := by decide +kernel
theorem dX3_best_7 : decode cX3_best 7 = .ok (.invokevirtual 145, 3) := by decide +kernel
theorem dX3_best_10 : decode cX3_best 10 = .ok (.istore_n 1, 1) := by decide +kernel
theorem dX3_best_11 : decode cX3_best 11 = .ok (.iconst (-1), 1) := by decide +kernel
theorem dX3_best_12 : decode cX3_best 12 = .ok (.istore_n 2, 1) := by decide +kernel
theorem dX3_best_13 : decode cX3_best 13 = .ok (.iconst (-1), 1) := by decide +kernel
theorem dX3_best_14 : decode cX3_best 14 = .ok (.istore_n 3, 1) := by decide +kernel
theorem dX3_best_15 : decode cX3_best 15 = .ok (.iconst 1, 1) := by decide +kernel
theorem dX3_best_16 : decode cX3_best 16 = .ok (.istore 4, 2) := by decide +kernel
theorem dX3_best_18 : decode cX3_best 18 = .ok (.iload 4, 2) := by decide +kernel
theorem dX3_best_20 : decode cX3_best 20 = .ok (.aload_n 0, 1) := by decide +kernel
theorem dX3_best_21 : decode cX3_best 21 = .ok (.getfield 25, 3) := by decide +kernel
theorem dX3_best_24 : decode cX3_best 24 = .ok (.arraylength, 1) := by decide +kernel
theorem dX3_best_25 : decode cX3_best 25 = .ok (.if_icmp .ge 48, 3) := by decide +kernel
theorem dX3_best_28 : decode cX3_best 28 = .ok (.aload_n 0, 1) := by decide +kernel
theorem dX3_best_29 : decode cX3_best 29 = .ok (.getfield 25, 3) := by decide +kernel
theorem dX3_best_32 : decode cX3_best 32 = .ok (.iload 4, 2) := by decide +kernel
theorem dX3_best_34 : decode cX3_best 34 = .ok (.aaload, 1) := by decide +kernel
theorem dX3_best_35 : decode cX3_best 35 = .ok (.astore 5, 2) := by decide +kernel
theorem dX3_best_37 : decode cX3_best 37 = .ok (.aload 5, 2) := by decide +kernel
theorem dX3_best_39 : decode cX3_best 39 = .ok (.ifnonnull 7, 3) := by decide +kernel
theorem dX3_best_42 : decode cX3_best 42 = .ok (.iconst (-1), 1) := by decide +kernel
theorem dX3_best_43 : decode cX3_best 43 = .ok (.goto 10, 3) := by decide +kernel
theorem dX3_best_46 : decode cX3_best 46 = .ok (.aload_n 0, 1) := by decide +kernel
theorem dX3_best_47 : decode cX3_best 47 = .ok (.aload 5, 2) := by decide +kernel
theorem dX3_best_49 : decode cX3_best 49 = .ok (.iload_n 1, 1) := by decide +kernel
theorem dX3_best_50 : decode cX3_best 50 = .ok (.invokevirtual 152, 3) := by decide +kernel
theorem dX3_best_53 : decode cX3_best 53 = .ok (.istore 6, 2) := by decide +kernel
theorem dX3_best_55 : decode cX3_best 55 = .ok (.iload 6, 2) := by decide +kernel
theorem dX3_best_57 : decode cX3_best 57 = .ok (.iload_n 3, 1) := by decide +kernel
theorem dX3_best_58 : decode cX3_best 58 = .ok (.if_icmp .le 9, 3) := by decide +kernel
theorem dX3_best_61 : decode cX3_best 61 = .ok (.iload 4, 2) := by decide +kernel
theorem dX3_best_63 : decode cX3_best 63 = .ok (.istore_n 2, 1) := by decide +kernel
theorem dX3_best_64 : decode cX3_best 64 = .ok (.iload 6, 2) := by decide +kernel
theorem dX3_best_66 : decode cX3_best 66 = .ok (.istore_n 3, 1) := by decide +kernel
theorem dX3_best_67 : decode cX3_best 67 = .ok (.iinc 4 1, 3) := by decide +kernel
theorem dX3_best_70 : decode cX3_best 70 = .ok (.goto (-52), 3) := by decide +kernel
theorem dX3_best_73 : decode cX3_best 73 = .ok (.iload_n 2, 1) := by decide +kernel
theorem dX3_best_74 : decode cX3_best 74 = .ok (.ireturn, 1) := by decide +kernel
set_option maxRecDepth 20000 in
theorem ggX3_shipBehind_X3_lineNumbered : GoodIn wsX3_shipBehind wsX3_lineNumbered := goodIn_ca (goodIn_r _ [6, 7, 8, 9, 88, 89, 90, 91] (by decide +kernel) (by decide +kernel)) (goodIn_sub (fun _ h => List.mem_cons_of_mem _ (List.mem_append_right _ h)) (by decide +kernel))
set_option maxRecDepth 20000 in
theorem gX3_shipBehind_X3_lineNumbered : GoodIn wsX3_shipBehind (wsV RX3 85 RX3 yX3_lineNumbered wsX3_lineNumbered) := goodIn_app (goodIn_of _ (by decide +kernel)) ggX3_shipBehind_X3_lineNumbered
set_option maxRecDepth 20000 in
theorem ggX3_shipBehind_X3_shipNumbered : GoodIn wsX3_shipBehind wsX3_shipNumbered := goodIn_ca (goodIn_r _ [13, 7, 8, 1, 14, 15, 16, 17, 18, 88, 89, 90, 91, 92, 93, 94, 95, 96, 97, 98] (by decide +kernel) (by decide +kernel)) (goodIn_sub (fun _ h => List.mem_cons_of_mem _ (List.mem_append_right _ h)) (by decide +kernel))
set_option maxRecDepth 20000 in
theorem gX3_shipBehind_X3_shipNumbered : GoodIn wsX3_shipBehind (wsV RX3 94 RX3 yX3_shipNumbered wsX3_shipNumbered) := goodIn_app (goodIn_of _ (by decide +kernel)) ggX3_shipBehind_X3_shipNumbered
set_option maxRecDepth 20000 in
theorem ggX3_shipBehind_X3_checkTurn : GoodIn wsX3_shipBehind wsX3_checkTurn := goodIn_ca (goodIn_r _ [21, 7, 8, 22, 23, 5, 24] (by decide +kernel) (by decide +kernel)) (goodIn_sub (fun _ h => List.mem_cons_of_mem _ (List.mem_append_right _ h)) (by decide +kernel))
set_option maxRecDepth 20000 in
theorem gX3_shipBehind_X3_checkTurn : GoodIn wsX3_shipBehind (va_wsS RX3 89 yX3_checkTurn wsX3_checkTurn) := goodIn_app (goodIn_of _ (by decide +kernel)) ggX3_shipBehind_X3_checkTurn
set_option maxRecDepth 20000 in
theorem ggX3_shipBehind_X0_play : GoodIn wsX3_shipBehind wsX0_play := goodIn_r _ [27, 28, 29, 18, 30, 31, 32, 33, 34, 35, 36, 37, 38, 39, 40, 41, 42, 43, 44, 45, 46, 47, 48, 49, 50, 15, 51, 52, 53, 54, 55, 56, 57, 58, 59, 14, 16, 17, 60, 61, 62, 63, 64, 65, 66, 67, 68, 69, 70, 71, 72, 5, 73, 74, 75, 76, 77, 78, 79, 80, 81, 82, 83, 84, 85, 86, 87, 92, 93, 94, 95, 96, 97, 98, 99, 100, 101, 102, 103, 104, 105, 106, 107, 108, 109] (by decide +kernel) (by decide +kernel)
set_option maxRecDepth 20000 in
theorem gX3_shipBehind_X0_play_n130 : GoodIn wsX3_shipBehind (wsX0_play) := ggX3_shipBehind_X0_play
theorem dX3_shipBehind_0 : decode cX3_shipBehind 0 = .ok (.aload_n 0, 1) := by decide +kernel
theorem dX3_shipBehind_1 : decode cX3_shipBehind 1 = .ok (.iload_n 1, 1) := by decide +kernel
theorem dX3_shipBehind_2 : decode cX3_shipBehind 2 = .ok (.invokevirtual 85, 3) := by decide +kernel
theorem dX3_shipBehind_5 : decode cX3_shipBehind 5 = .ok (.astore 4, 2) := by decide +kernel
theorem dX3_shipBehind_7 : decode cX3_shipBehind 7 = .ok (.aload_n 0, 1) := by decide +kernel
theorem dX3_shipBehind_8 : decode cX3_shipBehind 8 = .ok (.iload_n 2, 1) := by decide +kernel
theorem dX3_shipBehind_9 : decode cX3_shipBehind 9 = .ok (.invokevirtual 94, 3) := by decide +kernel
theorem dX3_shipBehind_12 : decode cX3_shipBehind 12 = .ok (.astore 5, 2) := by decide +kernel
theorem dX3_shipBehind_14 : decode cX3_shipBehind 14 = .ok (.iload_n 3, 1) := by decide +kernel
theorem dX3_shipBehind_15 : decode cX3_shipBehind 15 = .ok (.invokestatic 89, 3) := by decide +kernel
theorem dX3_shipBehind_18 : decode cX3_shipBehind 18 = .ok (.aload_n 0, 1) := by decide +kernel
theorem dX3_shipBehind_19 : decode cX3_shipBehind 19 = .ok (.getfield 12, 3) := by decide +kernel
theorem dX3_shipBehind_22 : decode cX3_shipBehind 22 = .ok (.aload 4, 2) := by decide +kernel
theorem dX3_shipBehind_24 : decode cX3_shipBehind 24 = .ok (.iload_n 3, 1) := by decide +kernel
theorem dX3_shipBehind_25 : decode cX3_shipBehind 25 = .ok (.invokevirtual 130, 3) := by decide +kernel
theorem dX3_shipBehind_28 : decode cX3_shipBehind 28 = .ok (.aload 5, 2) := by decide +kernel
theorem dX3_shipBehind_30 : decode cX3_shipBehind 30 = .ok (.areturn, 1) := by decide +kernel
set_option maxRecDepth 20000 in
theorem ggX3_earningOf_X0_play : GoodIn wsX3_earningOf wsX0_play := goodIn_r _ [5, 6, 7, 8, 9, 10, 11, 12, 13, 14, 15, 16, 17, 18, 19, 20, 21, 22, 23, 24, 25, 26, 27, 28, 29, 3, 30, 31, 32, 33, 34, 35, 36, 37, 38, 39, 40, 41, 42, 43, 44, 45, 46, 47, 48, 49, 50, 51, 52, 53, 54, 55, 56, 57, 58, 59, 60, 61, 62, 63, 64, 65, 66, 67, 68, 69, 70, 75, 76, 77, 78, 79, 80, 81, 82, 83, 84, 85, 86, 87, 88, 89, 90, 91, 92] (by decide +kernel) (by decide +kernel)
set_option maxRecDepth 20000 in
theorem gX3_earningOf_X0_play_n130 : GoodIn wsX3_earningOf (wsX0_play) := ggX3_earningOf_X0_play
theorem dX3_earningOf_0 : decode cX3_earningOf 0 = .ok (.aload_n 0, 1) := by decide +kernel
theorem dX3_earningOf_1 : decode cX3_earningOf 1 = .ok (.getfield 12, 3) := by decide +kernel
theorem dX3_earningOf_4 : decode cX3_earningOf 4 = .ok (.aload_n 1, 1) := by decide +kernel
theorem dX3_earningOf_5 : decode cX3_earningOf 5 = .ok (.iload_n 2, 1) := by decide +kernel
theorem dX3_earningOf_6 : decode cX3_earningOf 6 = .ok (.invokevirtual 130, 3) := by decide +kernel
theorem dX3_earningOf_9 : decode cX3_earningOf 9 = .ok (.aload_n 0, 1) := by decide +kernel
theorem dX3_earningOf_10 : decode cX3_earningOf 10 = .ok (.getfield 12, 3) := by decide +kernel
theorem dX3_earningOf_13 : decode cX3_earningOf 13 = .ok (.getfield 155, 3) := by decide +kernel
theorem dX3_earningOf_16 : decode cX3_earningOf 16 = .ok (.ireturn, 1) := by decide +kernel
set_option maxRecDepth 20000 in
theorem ggX3_markAgainst_X3_earningOf : GoodIn wsX3_markAgainst wsX3_earningOf := goodIn_r _ [12, 13, 14, 15, 16, 17, 18, 19, 20, 21, 22, 23, 24, 25, 26, 27, 28, 29, 30, 31, 32, 33, 34, 35, 36, 37, 38, 39, 40, 41, 42, 43, 44, 45, 46, 47, 48, 49, 50, 51, 52, 53, 54, 55, 56, 57, 58, 59, 60, 61, 62, 63, 64, 65, 66, 11, 67, 68, 69, 70, 71, 72, 73, 74, 75, 76, 77, 78, 2, 3, 4, 85, 86, 87, 88, 89, 90, 91, 92, 93, 94, 95, 96, 97, 98, 99, 100, 79, 80, 81, 82, 83, 84] (by decide +kernel) (by decide +kernel)
set_option maxRecDepth 20000 in
theorem gX3_markAgainst_X3_earningOf : GoodIn wsX3_markAgainst (wsV RX3 145 RX3 yX3_earningOf wsX3_earningOf) := goodIn_app (goodIn_of _ (by decide +kernel)) ggX3_markAgainst_X3_earningOf
theorem dX3_markAgainst_0 : decode cX3_markAgainst 0 = .ok (.aload_n 1, 1) := by decide +kernel
theorem dX3_markAgainst_1 : decode cX3_markAgainst 1 = .ok (.getfield 149, 3) := by decide +kernel
theorem dX3_markAgainst_4 : decode cX3_markAgainst 4 = .ok (.ifCond .eq 5, 3) := by decide +kernel
theorem dX3_markAgainst_7 : decode cX3_markAgainst 7 = .ok (.iconst 0, 1) := by decide +kernel
theorem dX3_markAgainst_8 : decode cX3_markAgainst 8 = .ok (.ireturn, 1) := by decide +kernel
theorem dX3_markAgainst_9 : decode cX3_markAgainst 9 = .ok (.bipush 50, 2) := by decide +kernel
theorem dX3_markAgainst_11 : decode cX3_markAgainst 11 = .ok (.aload_n 0, 1) := by decide +kernel
theorem dX3_markAgainst_12 : decode cX3_markAgainst 12 = .ok (.aload_n 1, 1) := by decide +kernel
theorem dX3_markAgainst_13 : decode cX3_markAgainst 13 = .ok (.bipush 29, 2) := by decide +kernel
theorem dX3_markAgainst_15 : decode cX3_markAgainst 15 = .ok (.invokevirtual 145, 3) := by decide +kernel
theorem dX3_markAgainst_18 : decode cX3_markAgainst 18 = .ok (.iadd, 1) := by decide +kernel
theorem dX3_markAgainst_19 : decode cX3_markAgainst 19 = .ok (.iload_n 2, 1) := by decide +kernel
theorem dX3_markAgainst_20 : decode cX3_markAgainst 20 = .ok (.isub, 1) := by decide +kernel
theorem dX3_markAgainst_21 : decode cX3_markAgainst 21 = .ok (.istore_n 3, 1) := by decide +kernel
theorem dX3_markAgainst_22 : decode cX3_markAgainst 22 = .ok (.iconst 0, 1) := by decide +kernel
theorem dX3_markAgainst_23 : decode cX3_markAgainst 23 = .ok (.bipush 100, 2) := by decide +kernel
theorem dX3_markAgainst_25 : decode cX3_markAgainst 25 = .ok (.iload_n 3, 1) := by decide +kernel
theorem dX3_markAgainst_26 : decode cX3_markAgainst 26 = .ok (.invokestatic 158, 3) := by decide +kernel
theorem dX3_markAgainst_29 : decode cX3_markAgainst 29 = .ok (.invokestatic 139, 3) := by decide +kernel
theorem dX3_markAgainst_32 : decode cX3_markAgainst 32 = .ok (.ireturn, 1) := by decide +kernel
theorem dX3_codeOf_0 : decode cX3_codeOf 0 = .ok (.iload_n 0, 1) := by decide +kernel
theorem dX3_codeOf_1 : decode cX3_codeOf 1 = .ok (.ifCond .ne 5, 3) := by decide +kernel
theorem dX3_codeOf_4 : decode cX3_codeOf 4 = .ok (.iconst 0, 1) := by decide +kernel
theorem dX3_codeOf_5 : decode cX3_codeOf 5 = .ok (.ireturn, 1) := by decide +kernel
theorem dX3_codeOf_6 : decode cX3_codeOf 6 = .ok (.bipush 100, 2) := by decide +kernel
theorem dX3_codeOf_8 : decode cX3_codeOf 8 = .ok (.iload_n 0, 1) := by decide +kernel
theorem dX3_codeOf_9 : decode cX3_codeOf 9 = .ok (.imul, 1) := by decide +kernel
theorem dX3_codeOf_10 : decode cX3_codeOf 10 = .ok (.bipush 10, 2) := by decide +kernel
theorem dX3_codeOf_12 : decode cX3_codeOf 12 = .ok (.iload_n 1, 1) := by decide +kernel
theorem dX3_codeOf_13 : decode cX3_codeOf 13 = .ok (.imul, 1) := by decide +kernel
theorem dX3_codeOf_14 : decode cX3_codeOf 14 = .ok (.iadd, 1) := by decide +kernel
theorem dX3_codeOf_15 : decode cX3_codeOf 15 = .ok (.iload_n 0, 1) := by decide +kernel
theorem dX3_codeOf_16 : decode cX3_codeOf 16 = .ok (.iconst 1, 1) := by decide +kernel
theorem dX3_codeOf_17 : decode cX3_codeOf 17 = .ok (.if_icmp .ne 7, 3) := by decide +kernel
theorem dX3_codeOf_20 : decode cX3_codeOf 20 = .ok (.iload_n 2, 1) := by decide +kernel
theorem dX3_codeOf_21 : decode cX3_codeOf 21 = .ok (.goto 4, 3) := by decide +kernel
theorem dX3_codeOf_24 : decode cX3_codeOf 24 = .ok (.iconst 0, 1) := by decide +kernel
theorem dX3_codeOf_25 : decode cX3_codeOf 25 = .ok (.iadd, 1) := by decide +kernel
theorem dX3_codeOf_26 : decode cX3_codeOf 26 = .ok (.ireturn, 1) := by decide +kernel
theorem dX3_lineNumbered_0 : decode cX3_lineNumbered 0 = .ok (.iload_n 1, 1) := by decide +kernel
theorem dX3_lineNumbered_1 : decode cX3_lineNumbered 1 = .ok (.ifCond .lt 21, 3) := by decide +kernel
theorem dX3_lineNumbered_4 : decode cX3_lineNumbered 4 = .ok (.iload_n 1, 1) := by decide +kernel
theorem dX3_lineNumbered_5 : decode cX3_lineNumbered 5 = .ok (.aload_n 0, 1) := by decide +kernel
theorem dX3_lineNumbered_6 : decode cX3_lineNumbered 6 = .ok (.getfield 25, 3) := by decide +kernel
theorem dX3_lineNumbered_9 : decode cX3_lineNumbered 9 = .ok (.arraylength, 1) := by decide +kernel
theorem dX3_lineNumbered_10 : decode cX3_lineNumbered 10 = .ok (.if_icmp .ge 12, 3) := by decide +kernel
theorem dX3_lineNumbered_13 : decode cX3_lineNumbered 13 = .ok (.aload_n 0, 1) := by decide +kernel
theorem dX3_lineNumbered_14 : decode cX3_lineNumbered 14 = .ok (.getfield 25, 3) := by decide +kernel
theorem dX3_lineNumbered_17 : decode cX3_lineNumbered 17 = .ok (.iload_n 1, 1) := by decide +kernel
theorem dX3_lineNumbered_18 : decode cX3_lineNumbered 18 = .ok (.aaload, 1) := by decide +kernel
theorem dX3_lineNumbered_19 : decode cX3_lineNumbered 19 = .ok (.goto 4, 3) := by decide +kernel
theorem dX3_lineNumbered_22 : decode cX3_lineNumbered 22 = .ok (.aconst_null, 1) := by decide +kernel
theorem dX3_lineNumbered_23 : decode cX3_lineNumbered 23 = .ok (.astore_n 2, 1) := by decide +kernel
theorem dX3_lineNumbered_24 : decode cX3_lineNumbered 24 = .ok (.aload_n 2, 1) := by decide +kernel
theorem dX3_lineNumbered_25 : decode cX3_lineNumbered 25 = .ok (.ifnonnull 13, 3) := by decide +kernel
theorem dX3_lineNumbered_28 : decode cX3_lineNumbered 28 = .ok (.new 161, 3) := by decide +kernel
theorem dX3_lineNumbered_31 : decode cX3_lineNumbered 31 = .ok (.dup, 1) := by decide +kernel
theorem dX3_lineNumbered_32 : decode cX3_lineNumbered 32 = .ok (.ldc 163, 2) := by decide +kernel
theorem dX3_lineNumbered_34 : decode cX3_lineNumbered 34 = .ok (.invokespecial 165, 3) := by decide +kernel
theorem dX3_lineNumbered_37 : decode cX3_lineNumbered 37 = .ok (.athrow, 1) := by decide +kernel
theorem dX3_lineNumbered_38 : decode cX3_lineNumbered 38 = .ok (.aload_n 2, 1) := by decide +kernel
theorem dX3_lineNumbered_39 : decode cX3_lineNumbered 39 = .ok (.areturn, 1) := by decide +kernel
set_option maxRecDepth 20000 in
theorem ggX3_shipNumbered_X0_shipOrNull : GoodIn wsX3_shipNumbered wsX0_shipOrNull := goodIn_r _ [7, 8, 13, 14, 15, 16, 17, 18, 19] (by decide +kernel) (by decide +kernel)
set_option maxRecDepth 20000 in
theorem gX3_shipNumbered_X0_shipOrNull_n166 : GoodIn wsX3_shipNumbered (wsX0_shipOrNull) := ggX3_shipNumbered_X0_shipOrNull
theorem dX3_shipNumbered_0 : decode cX3_shipNumbered 0 = .ok (.aload_n 0, 1) := by decide +kernel
theorem dX3_shipNumbered_1 : decode cX3_shipNumbered 1 = .ok (.getfield 12, 3) := by decide +kernel
theorem dX3_shipNumbered_4 : decode cX3_shipNumbered 4 = .ok (.iload_n 1, 1) := by decide +kernel
theorem dX3_shipNumbered_5 : decode cX3_shipNumbered 5 = .ok (.invokevirtual 166, 3) := by decide +kernel
theorem dX3_shipNumbered_8 : decode cX3_shipNumbered 8 = .ok (.astore_n 2, 1) := by decide +kernel
theorem dX3_shipNumbered_9 : decode cX3_shipNumbered 9 = .ok (.aload_n 2, 1) := by decide +kernel
theorem dX3_shipNumbered_10 : decode cX3_shipNumbered 10 = .ok (.ifnonnull 13, 3) := by decide +kernel
theorem dX3_shipNumbered_13 : decode cX3_shipNumbered 13 = .ok (.new 161, 3) := by decide +kernel
theorem dX3_shipNumbered_16 : decode cX3_shipNumbered 16 = .ok (.dup, 1) := by decide +kernel
theorem dX3_shipNumbered_17 : decode cX3_shipNumbered 17 = .ok (.ldc 169, 2) := by decide +kernel
theorem dX3_shipNumbered_19 : decode cX3_shipNumbered 19 = .ok (.invokespecial 165, 3) := by decide +kernel
theorem dX3_shipNumbered_22 : decode cX3_shipNumbered 22 = .ok (.athrow, 1) := by decide +kernel
theorem dX3_shipNumbered_23 : decode cX3_shipNumbered 23 = .ok (.aload_n 2, 1) := by decide +kernel
theorem dX3_shipNumbered_24 : decode cX3_shipNumbered 24 = .ok (.areturn, 1) := by decide +kernel
theorem dX3_isTurn_0 : decode cX3_isTurn 0 = .ok (.iload_n 0, 1) := by decide +kernel
theorem dX3_isTurn_1 : decode cX3_isTurn 1 = .ok (.ifCond .lt 13, 3) := by decide +kernel
theorem dX3_isTurn_4 : decode cX3_isTurn 4 = .ok (.iload_n 0, 1) := by decide +kernel
theorem dX3_isTurn_5 : decode cX3_isTurn 5 = .ok (.bipush 30, 2) := by decide +kernel
theorem dX3_isTurn_7 : decode cX3_isTurn 7 = .ok (.if_icmp .ge 7, 3) := by decide +kernel
theorem dX3_isTurn_10 : decode cX3_isTurn 10 = .ok (.iconst 1, 1) := by decide +kernel
theorem dX3_isTurn_11 : decode cX3_isTurn 11 = .ok (.goto 4, 3) := by decide +kernel
theorem dX3_isTurn_14 : decode cX3_isTurn 14 = .ok (.iconst 0, 1) := by decide +kernel
theorem dX3_isTurn_15 : decode cX3_isTurn 15 = .ok (.ireturn, 1) := by decide +kernel
set_option maxRecDepth 20000 in
theorem ggX3_checkTurn_X3_isTurn : GoodIn wsX3_checkTurn wsX3_isTurn := goodIn_r _ [6] (by decide +kernel) (by decide +kernel)
set_option maxRecDepth 20000 in
theorem gX3_checkTurn_X3_isTurn : GoodIn wsX3_checkTurn (va_wsS RX3 33 yX3_isTurn wsX3_isTurn) := goodIn_app (goodIn_of _ (by decide +kernel)) ggX3_checkTurn_X3_isTurn
theorem dX3_checkTurn_0 : decode cX3_checkTurn 0 = .ok (.iload_n 0, 1) := by decide +kernel
theorem dX3_checkTurn_1 : decode cX3_checkTurn 1 = .ok (.invokestatic 33, 3) := by decide +kernel
theorem dX3_checkTurn_4 : decode cX3_checkTurn 4 = .ok (.ifCond .ne 13, 3) := by decide +kernel
theorem dX3_checkTurn_7 : decode cX3_checkTurn 7 = .ok (.new 161, 3) := by decide +kernel
theorem dX3_checkTurn_10 : decode cX3_checkTurn 10 = .ok (.dup, 1) := by decide +kernel
theorem dX3_checkTurn_11 : decode cX3_checkTurn 11 = .ok (.ldc 171, 2) := by decide +kernel
theorem dX3_checkTurn_13 : decode cX3_checkTurn 13 = .ok (.invokespecial 165, 3) := by decide +kernel
theorem dX3_checkTurn_16 : decode cX3_checkTurn 16 = .ok (.athrow, 1) := by decide +kernel
theorem dX3_checkTurn_17 : decode cX3_checkTurn 17 = .ok (.return_, 1) := by decide +kernel
theorem dX3_isBerth_0 : decode cX3_isBerth 0 = .ok (.iload_n 0, 1) := by decide +kernel
theorem dX3_isBerth_1 : decode cX3_isBerth 1 = .ok (.ifCond .lt 12, 3) := by decide +kernel
theorem dX3_isBerth_4 : decode cX3_isBerth 4 = .ok (.iload_n 0, 1) := by decide +kernel
theorem dX3_isBerth_5 : decode cX3_isBerth 5 = .ok (.iconst 3, 1) := by decide +kernel
theorem dX3_isBerth_6 : decode cX3_isBerth 6 = .ok (.if_icmp .ge 7, 3) := by decide +kernel
theorem dX3_isBerth_9 : decode cX3_isBerth 9 = .ok (.iconst 1, 1) := by decide +kernel
theorem dX3_isBerth_10 : decode cX3_isBerth 10 = .ok (.goto 4, 3) := by decide +kernel
theorem dX3_isBerth_13 : decode cX3_isBerth 13 = .ok (.iconst 0, 1) := by decide +kernel
theorem dX3_isBerth_14 : decode cX3_isBerth 14 = .ok (.ireturn, 1) := by decide +kernel
set_option maxRecDepth 20000 in
theorem ggX3_checkBerth_X3_isBerth : GoodIn wsX3_checkBerth wsX3_isBerth := goodIn_r _ [6] (by decide +kernel) (by decide +kernel)
set_option maxRecDepth 20000 in
theorem gX3_checkBerth_X3_isBerth : GoodIn wsX3_checkBerth (va_wsS RX3 173 yX3_isBerth wsX3_isBerth) := goodIn_app (goodIn_of _ (by decide +kernel)) ggX3_checkBerth_X3_isBerth
theorem dX3_checkBerth_0 : decode cX3_checkBerth 0 = .ok (.iload_n 0, 1) := by decide +kernel
theorem dX3_checkBerth_1 : decode cX3_checkBerth 1 = .ok (.invokestatic 173, 3) := by decide +kernel
theorem dX3_checkBerth_4 : decode cX3_checkBerth 4 = .ok (.ifCond .ne 13, 3) := by decide +kernel
theorem dX3_checkBerth_7 : decode cX3_checkBerth 7 = .ok (.new 161, 3) := by decide +kernel
theorem dX3_checkBerth_10 : decode cX3_checkBerth 10 = .ok (.dup, 1) := by decide +kernel
theorem dX3_checkBerth_11 : decode cX3_checkBerth 11 = .ok (.ldc 176, 2) := by decide +kernel
theorem dX3_checkBerth_13 : decode cX3_checkBerth 13 = .ok (.invokespecial 165, 3) := by decide +kernel
theorem dX3_checkBerth_16 : decode cX3_checkBerth 16 = .ok (.athrow, 1) := by decide +kernel
theorem dX3_checkBerth_17 : decode cX3_checkBerth 17 = .ok (.return_, 1) := by decide +kernel
end
section
theorem dX4_init_0 : decode cX4_init 0 = .ok (.aload_n 0, 1) := by decide +kernel
theorem dX4_init_1 : decode cX4_init 1 = .ok (.invokespecial 1, 3) := by decide +kernel
theorem dX4_init_4 : decode cX4_init 4 = .ok (.aload_n 0, 1) := by decide +kernel
theorem dX4_init_5 : decode cX4_init 5 = .ok (.bipush 8, 2) := by decide +kernel
theorem dX4_init_7 : decode cX4_init 7 = .ok (.newarray .int, 2) := by decide +kernel
theorem dX4_init_9 : decode cX4_init 9 = .ok (.putfield 7, 3) := by decide +kernel
theorem dX4_init_12 : decode cX4_init 12 = .ok (.aload_n 0, 1) := by decide +kernel
theorem dX4_init_13 : decode cX4_init 13 = .ok (.bipush 8, 2) := by decide +kernel
theorem dX4_init_15 : decode cX4_init 15 = .ok (.newarray .int, 2) := by decide +kernel
theorem dX4_init_17 : decode cX4_init 17 = .ok (.putfield 13, 3) := by decide +kernel
theorem dX4_init_20 : decode cX4_init 20 = .ok (.aload_n 0, 1) := by decide +kernel
theorem dX4_init_21 : decode cX4_init 21 = .ok (.bipush 8, 2) := by decide +kernel
theorem dX4_init_23 : decode cX4_init 23 = .ok (.newarray .int, 2) := by decide +kernel
theorem dX4_init_25 : decode cX4_init 25 = .ok (.putfield 16, 3) := by decide +kernel
theorem dX4_init_28 : decode cX4_init 28 = .ok (.aload_n 0, 1) := by decide +kernel
theorem dX4_init_29 : decode cX4_init 29 = .ok (.iconst 3, 1) := by decide +kernel
theorem dX4_init_30 : decode cX4_init 30 = .ok (.newarray .int, 2) := by decide +kernel
theorem dX4_init_32 : decode cX4_init 32 = .ok (.putfield 19, 3) := by decide +kernel
theorem dX4_init_35 : decode cX4_init 35 = .ok (.aload_n 0, 1) := by decide +kernel
theorem dX4_init_36 : decode cX4_init 36 = .ok (.iconst 3, 1) := by decide +kernel
theorem dX4_init_37 : decode cX4_init 37 = .ok (.putfield 22, 3) := by decide +kernel
theorem dX4_init_40 : decode cX4_init 40 = .ok (.aload_n 0, 1) := by decide +kernel
theorem dX4_init_41 : decode cX4_init 41 = .ok (.iconst 1, 1) := by decide +kernel
theorem dX4_init_42 : decode cX4_init 42 = .ok (.putfield 26, 3) := by decide +kernel
theorem dX4_init_45 : decode cX4_init 45 = .ok (.aload_n 0, 1) := by decide +kernel
theorem dX4_init_46 : decode cX4_init 46 = .ok (.iconst 1, 1) := by decide +kernel
theorem dX4_init_47 : decode cX4_init 47 = .ok (.putfield 29, 3) := by decide +kernel
theorem dX4_init_50 : decode cX4_init 50 = .ok (.aload_n 0, 1) := by decide +kernel
theorem dX4_init_51 : decode cX4_init 51 = .ok (.bipush 9, 2) := by decide +kernel
theorem dX4_init_53 : decode cX4_init 53 = .ok (.newarray .int, 2) := by decide +kernel
theorem dX4_init_55 : decode cX4_init 55 = .ok (.putfield 32, 3) := by decide +kernel
theorem dX4_init_58 : decode cX4_init 58 = .ok (.aload_n 0, 1) := by decide +kernel
theorem dX4_init_59 : decode cX4_init 59 = .ok (.bipush 9, 2) := by decide +kernel
theorem dX4_init_61 : decode cX4_init 61 = .ok (.newarray .int, 2) := by decide +kernel
theorem dX4_init_63 : decode cX4_init 63 = .ok (.putfield 35, 3) := by decide +kernel
theorem dX4_init_66 : decode cX4_init 66 = .ok (.aload_n 0, 1) := by decide +kernel
theorem dX4_init_67 : decode cX4_init 67 = .ok (.bipush 9, 2) := by decide +kernel
theorem dX4_init_69 : decode cX4_init 69 = .ok (.newarray .int, 2) := by decide +kernel
theorem dX4_init_71 : decode cX4_init 71 = .ok (.putfield 38, 3) := by decide +kernel
theorem dX4_init_74 : decode cX4_init 74 = .ok (.aload_n 0, 1) := by decide +kernel
theorem dX4_init_75 : decode cX4_init 75 = .ok (.sipush 270, 3) := by decide +kernel
theorem dX4_init_78 : decode cX4_init 78 = .ok (.newarray .int, 2) := by decide +kernel
theorem dX4_init_80 : decode cX4_init 80 = .ok (.putfield 41, 3) := by decide +kernel
theorem dX4_init_83 : decode cX4_init 83 = .ok (.aload_n 0, 1) := by decide +kernel
theorem dX4_init_84 : decode cX4_init 84 = .ok (.sipush 270, 3) := by decide +kernel
theorem dX4_init_87 : decode cX4_init 87 = .ok (.newarray .boolean, 2) := by decide +kernel
theorem dX4_init_89 : decode cX4_init 89 = .ok (.putfield 44, 3) := by decide +kernel
theorem dX4_init_92 : decode cX4_init 92 = .ok (.aload_n 0, 1) := by decide +kernel
theorem dX4_init_93 : decode cX4_init 93 = .ok (.bipush 8, 2) := by decide +kernel
theorem dX4_init_95 : decode cX4_init 95 = .ok (.newarray .int, 2) := by decide +kernel
theorem dX4_init_97 : decode cX4_init 97 = .ok (.putfield 48, 3) := by decide +kernel
theorem dX4_init_100 : decode cX4_init 100 = .ok (.aload_n 0, 1) := by decide +kernel
theorem dX4_init_101 : decode cX4_init 101 = .ok (.bipush 8, 2) := by decide +kernel
theorem dX4_init_103 : decode cX4_init 103 = .ok (.newarray .int, 2) := by decide +kernel
theorem dX4_init_105 : decode cX4_init 105 = .ok (.putfield 51, 3) := by decide +kernel
theorem dX4_init_108 : decode cX4_init 108 = .ok (.iconst 0, 1) := by decide +kernel
theorem dX4_init_109 : decode cX4_init 109 = .ok (.istore_n 1, 1) := by decide +kernel
theorem dX4_init_110 : decode cX4_init 110 = .ok (.iload_n 1, 1) := by decide +kernel
theorem dX4_init_111 : decode cX4_init 111 = .ok (.iconst 3, 1) := by decide +kernel
theorem dX4_init_112 : decode cX4_init 112 = .ok (.if_icmp .ge 16, 3) := by decide +kernel
theorem dX4_init_115 : decode cX4_init 115 = .ok (.aload_n 0, 1) := by decide +kernel
theorem dX4_init_116 : decode cX4_init 116 = .ok (.getfield 19, 3) := by decide +kernel
theorem dX4_init_119 : decode cX4_init 119 = .ok (.iload_n 1, 1) := by decide +kernel
theorem dX4_init_120 : decode cX4_init 120 = .ok (.iconst 4, 1) := by decide +kernel
theorem dX4_init_121 : decode cX4_init 121 = .ok (.iastore, 1) := by decide +kernel
theorem dX4_init_122 : decode cX4_init 122 = .ok (.iinc 1 1, 3) := by decide +kernel
theorem dX4_init_125 : decode cX4_init 125 = .ok (.goto (-15), 3) := by decide +kernel
theorem dX4_init_128 : decode cX4_init 128 = .ok (.iconst 0, 1) := by decide +kernel
theorem dX4_init_129 : decode cX4_init 129 = .ok (.istore_n 1, 1) := by decide +kernel
theorem dX4_init_130 : decode cX4_init 130 = .ok (.iload_n 1, 1) := by decide +kernel
theorem dX4_init_131 : decode cX4_init 131 = .ok (.sipush 270, 3) := by decide +kernel
theorem dX4_init_134 : decode cX4_init 134 = .ok (.if_icmp .ge 16, 3) := by decide +kernel
theorem dX4_init_137 : decode cX4_init 137 = .ok (.aload_n 0, 1) := by decide +kernel
theorem dX4_init_138 : decode cX4_init 138 = .ok (.getfield 41, 3) := by decide +kernel
theorem dX4_init_141 : decode cX4_init 141 = .ok (.iload_n 1, 1) := by decide +kernel
theorem dX4_init_142 : decode cX4_init 142 = .ok (.iconst (-1), 1) := by decide +kernel
theorem dX4_init_143 : decode cX4_init 143 = .ok (.iastore, 1) := by decide +kernel
theorem dX4_init_144 : decode cX4_init 144 = .ok (.iinc 1 1, 3) := by decide +kernel
theorem dX4_init_147 : decode cX4_init 147 = .ok (.goto (-17), 3) := by decide +kernel
theorem dX4_init_150 : decode cX4_init 150 = .ok (.aload_n 0, 1) := by decide +kernel
theorem dX4_init_151 : decode cX4_init 151 = .ok (.getfield 32, 3) := by decide +kernel
theorem dX4_init_154 : decode cX4_init 154 = .ok (.iconst 0, 1) := by decide +kernel
theorem dX4_init_155 : decode cX4_init 155 = .ok (.iconst (-1), 1) := by decide +kernel
theorem dX4_init_156 : decode cX4_init 156 = .ok (.iastore, 1) := by decide +kernel
theorem dX4_init_157 : decode cX4_init 157 = .ok (.aload_n 0, 1) := by decide +kernel
theorem dX4_init_158 : decode cX4_init 158 = .ok (.getfield 38, 3) := by decide +kernel
theorem dX4_init_161 : decode cX4_init 161 = .ok (.iconst 0, 1) := by decide +kernel
theorem dX4_init_162 : decode cX4_init 162 = .ok (.iconst (-1), 1) := by decide +kernel
theorem dX4_init_163 : decode cX4_init 163 = .ok (.iastore, 1) := by decide +kernel
theorem dX4_init_164 : decode cX4_init 164 = .ok (.return_, 1) := by decide +kernel
theorem dX4_thrown_0 : decode cX4_thrown 0 = .ok (.aload_n 0, 1) := by decide +kernel
theorem dX4_thrown_1 : decode cX4_thrown 1 = .ok (.getfield 54, 3) := by decide +kernel
theorem dX4_thrown_4 : decode cX4_thrown 4 = .ok (.ireturn, 1) := by decide +kernel
theorem dX4_fails_0 : decode cX4_fails 0 = .ok (.aload_n 0, 1) := by decide +kernel
theorem dX4_fails_1 : decode cX4_fails 1 = .ok (.iload_n 1, 1) := by decide +kernel
theorem dX4_fails_2 : decode cX4_fails 2 = .ok (.putfield 54, 3) := by decide +kernel
theorem dX4_fails_5 : decode cX4_fails 5 = .ok (.iload_n 1, 1) := by decide +kernel
theorem dX4_fails_6 : decode cX4_fails 6 = .ok (.ifCond .le 7, 3) := by decide +kernel
theorem dX4_fails_9 : decode cX4_fails 9 = .ok (.iconst 1, 1) := by decide +kernel
theorem dX4_fails_10 : decode cX4_fails 10 = .ok (.goto 4, 3) := by decide +kernel
theorem dX4_fails_13 : decode cX4_fails 13 = .ok (.iconst 0, 1) := by decide +kernel
theorem dX4_fails_14 : decode cX4_fails 14 = .ok (.ireturn, 1) := by decide +kernel
theorem dX4_isIn_0 : decode cX4_isIn 0 = .ok (.iload_n 0, 1) := by decide +kernel
theorem dX4_isIn_1 : decode cX4_isIn 1 = .ok (.iload_n 1, 1) := by decide +kernel
theorem dX4_isIn_2 : decode cX4_isIn 2 = .ok (.if_icmp .lt 12, 3) := by decide +kernel
theorem dX4_isIn_5 : decode cX4_isIn 5 = .ok (.iload_n 0, 1) := by decide +kernel
theorem dX4_isIn_6 : decode cX4_isIn 6 = .ok (.iload_n 2, 1) := by decide +kernel
theorem dX4_isIn_7 : decode cX4_isIn 7 = .ok (.if_icmp .gt 7, 3) := by decide +kernel
theorem dX4_isIn_10 : decode cX4_isIn 10 = .ok (.iconst 1, 1) := by decide +kernel
theorem dX4_isIn_11 : decode cX4_isIn 11 = .ok (.goto 4, 3) := by decide +kernel
theorem dX4_isIn_14 : decode cX4_isIn 14 = .ok (.iconst 0, 1) := by decide +kernel
theorem dX4_isIn_15 : decode cX4_isIn 15 = .ok (.ireturn, 1) := by decide +kernel
set_option maxRecDepth 20000 in
theorem ggX4_isShip_X4_isIn : GoodIn wsX4_isShip wsX4_isIn := goodIn_r _ [5] (by decide +kernel) (by decide +kernel)
set_option maxRecDepth 20000 in
theorem gX4_isShip_X4_isIn : GoodIn wsX4_isShip (va_wsS RX4 60 yX4_isIn wsX4_isIn) := goodIn_app (goodIn_of _ (by decide +kernel)) ggX4_isShip_X4_isIn
theorem dX4_isShip_0 : decode cX4_isShip 0 = .ok (.iload_n 1, 1) := by decide +kernel
theorem dX4_isShip_1 : decode cX4_isShip 1 = .ok (.iconst 0, 1) := by decide +kernel
theorem dX4_isShip_2 : decode cX4_isShip 2 = .ok (.aload_n 0, 1) := by decide +kernel
theorem dX4_isShip_3 : decode cX4_isShip 3 = .ok (.getfield 57, 3) := by decide +kernel
theorem dX4_isShip_6 : decode cX4_isShip 6 = .ok (.iconst 1, 1) := by decide +kernel
theorem dX4_isShip_7 : decode cX4_isShip 7 = .ok (.isub, 1) := by decide +kernel
theorem dX4_isShip_8 : decode cX4_isShip 8 = .ok (.invokestatic 60, 3) := by decide +kernel
theorem dX4_isShip_11 : decode cX4_isShip 11 = .ok (.ireturn, 1) := by decide +kernel
set_option maxRecDepth 20000 in
theorem ggX4_isBerth_X4_isIn : GoodIn wsX4_isBerth wsX4_isIn := goodIn_r _ [4] (by decide +kernel) (by decide +kernel)
set_option maxRecDepth 20000 in
theorem gX4_isBerth_X4_isIn : GoodIn wsX4_isBerth (va_wsS RX4 60 yX4_isIn wsX4_isIn) := goodIn_app (goodIn_of _ (by decide +kernel)) ggX4_isBerth_X4_isIn
theorem dX4_isBerth_0 : decode cX4_isBerth 0 = .ok (.iload_n 0, 1) := by decide +kernel
theorem dX4_isBerth_1 : decode cX4_isBerth 1 = .ok (.iconst 0, 1) := by decide +kernel
theorem dX4_isBerth_2 : decode cX4_isBerth 2 = .ok (.iconst 2, 1) := by decide +kernel
theorem dX4_isBerth_3 : decode cX4_isBerth 3 = .ok (.invokestatic 60, 3) := by decide +kernel
theorem dX4_isBerth_6 : decode cX4_isBerth 6 = .ok (.ireturn, 1) := by decide +kernel
set_option maxRecDepth 20000 in
theorem ggX4_isLine_X4_isIn : GoodIn wsX4_isLine wsX4_isIn := goodIn_r _ [5] (by decide +kernel) (by decide +kernel)
set_option maxRecDepth 20000 in
theorem gX4_isLine_X4_isIn : GoodIn wsX4_isLine (va_wsS RX4 60 yX4_isIn wsX4_isIn) := goodIn_app (goodIn_of _ (by decide +kernel)) ggX4_isLine_X4_isIn
theorem dX4_isLine_0 : decode cX4_isLine 0 = .ok (.iload_n 1, 1) := by decide +kernel
theorem dX4_isLine_1 : decode cX4_isLine 1 = .ok (.iconst 0, 1) := by decide +kernel
theorem dX4_isLine_2 : decode cX4_isLine 2 = .ok (.aload_n 0, 1) := by decide +kernel
theorem dX4_isLine_3 : decode cX4_isLine 3 = .ok (.getfield 29, 3) := by decide +kernel
theorem dX4_isLine_6 : decode cX4_isLine 6 = .ok (.iconst 1, 1) := by decide +kernel
theorem dX4_isLine_7 : decode cX4_isLine 7 = .ok (.isub, 1) := by decide +kernel
theorem dX4_isLine_8 : decode cX4_isLine 8 = .ok (.invokestatic 60, 3) := by decide +kernel
theorem dX4_isLine_11 : decode cX4_isLine 11 = .ok (.ireturn, 1) := by decide +kernel
set_option maxRecDepth 20000 in
theorem ggX4_isTurn_X4_isIn : GoodIn wsX4_isTurn wsX4_isIn := goodIn_r _ [4] (by decide +kernel) (by decide +kernel)
set_option maxRecDepth 20000 in
theorem gX4_isTurn_X4_isIn : GoodIn wsX4_isTurn (va_wsS RX4 60 yX4_isIn wsX4_isIn) := goodIn_app (goodIn_of _ (by decide +kernel)) ggX4_isTurn_X4_isIn
theorem dX4_isTurn_0 : decode cX4_isTurn 0 = .ok (.iload_n 0, 1) := by decide +kernel
theorem dX4_isTurn_1 : decode cX4_isTurn 1 = .ok (.iconst 0, 1) := by decide +kernel
theorem dX4_isTurn_2 : decode cX4_isTurn 2 = .ok (.bipush 29, 2) := by decide +kernel
theorem dX4_isTurn_4 : decode cX4_isTurn 4 = .ok (.invokestatic 60, 3) := by decide +kernel
theorem dX4_isTurn_7 : decode cX4_isTurn 7 = .ok (.ireturn, 1) := by decide +kernel
set_option maxRecDepth 20000 in
theorem ggX4_addShip_X4_isTurn : GoodIn wsX4_addShip wsX4_isTurn := goodIn_r _ [8, 9, 10, 7, 11] (by decide +kernel) (by decide +kernel)
set_option maxRecDepth 20000 in
theorem gX4_addShip_X4_isTurn : GoodIn wsX4_addShip (va_wsS RX4 64 yX4_isTurn wsX4_isTurn) := goodIn_app (goodIn_of _ (by decide +kernel)) ggX4_addShip_X4_isTurn
set_option maxRecDepth 20000 in
theorem ggX4_addShip_X4_isIn : GoodIn wsX4_addShip wsX4_isIn := goodIn_r _ [11] (by decide +kernel) (by decide +kernel)
set_option maxRecDepth 20000 in
theorem gX4_addShip_X4_isIn : GoodIn wsX4_addShip (va_wsS RX4 60 yX4_isIn wsX4_isIn) := goodIn_app (goodIn_of _ (by decide +kernel)) ggX4_addShip_X4_isIn
set_option maxRecDepth 20000 in
theorem ggX4_addShip_X4_fails : GoodIn wsX4_addShip wsX4_fails := goodIn_r _ [15, 16, 17, 18, 19, 20, 21, 22, 23, 24, 25, 26, 27, 28, 29, 30, 31, 32, 33, 34] (by decide +kernel) (by decide +kernel)
set_option maxRecDepth 20000 in
theorem gX4_addShip_X4_fails : GoodIn wsX4_addShip (wsV RX4 68 RX4 yX4_fails wsX4_fails) := goodIn_app (goodIn_of _ (by decide +kernel)) ggX4_addShip_X4_fails
theorem dX4_addShip_0 : decode cX4_addShip 0 = .ok (.iload_n 1, 1) := by decide +kernel
theorem dX4_addShip_1 : decode cX4_addShip 1 = .ok (.invokestatic 64, 3) := by decide +kernel
theorem dX4_addShip_4 : decode cX4_addShip 4 = .ok (.ifCond .eq 26, 3) := by decide +kernel
theorem dX4_addShip_7 : decode cX4_addShip 7 = .ok (.iload_n 2, 1) := by decide +kernel
theorem dX4_addShip_8 : decode cX4_addShip 8 = .ok (.iconst 0, 1) := by decide +kernel
theorem dX4_addShip_9 : decode cX4_addShip 9 = .ok (.iconst 2, 1) := by decide +kernel
theorem dX4_addShip_10 : decode cX4_addShip 10 = .ok (.invokestatic 60, 3) := by decide +kernel
theorem dX4_addShip_13 : decode cX4_addShip 13 = .ok (.ifCond .eq 17, 3) := by decide +kernel
theorem dX4_addShip_16 : decode cX4_addShip 16 = .ok (.iload_n 3, 1) := by decide +kernel
theorem dX4_addShip_17 : decode cX4_addShip 17 = .ok (.iconst 1, 1) := by decide +kernel
theorem dX4_addShip_18 : decode cX4_addShip 18 = .ok (.bipush 100, 2) := by decide +kernel
theorem dX4_addShip_20 : decode cX4_addShip 20 = .ok (.invokestatic 60, 3) := by decide +kernel
theorem dX4_addShip_23 : decode cX4_addShip 23 = .ok (.ifCond .eq 7, 3) := by decide +kernel
theorem dX4_addShip_26 : decode cX4_addShip 26 = .ok (.iconst 1, 1) := by decide +kernel
theorem dX4_addShip_27 : decode cX4_addShip 27 = .ok (.goto 4, 3) := by decide +kernel
theorem dX4_addShip_30 : decode cX4_addShip 30 = .ok (.iconst 0, 1) := by decide +kernel
theorem dX4_addShip_31 : decode cX4_addShip 31 = .ok (.istore 4, 2) := by decide +kernel
theorem dX4_addShip_33 : decode cX4_addShip 33 = .ok (.aload_n 0, 1) := by decide +kernel
theorem dX4_addShip_34 : decode cX4_addShip 34 = .ok (.iload 4, 2) := by decide +kernel
theorem dX4_addShip_36 : decode cX4_addShip 36 = .ok (.ifCond .ne 7, 3) := by decide +kernel
theorem dX4_addShip_39 : decode cX4_addShip 39 = .ok (.iconst 1, 1) := by decide +kernel
theorem dX4_addShip_40 : decode cX4_addShip 40 = .ok (.goto 17, 3) := by decide +kernel
theorem dX4_addShip_43 : decode cX4_addShip 43 = .ok (.aload_n 0, 1) := by decide +kernel
theorem dX4_addShip_44 : decode cX4_addShip 44 = .ok (.getfield 57, 3) := by decide +kernel
theorem dX4_addShip_47 : decode cX4_addShip 47 = .ok (.bipush 8, 2) := by decide +kernel
theorem dX4_addShip_49 : decode cX4_addShip 49 = .ok (.if_icmp .ne 7, 3) := by decide +kernel
theorem dX4_addShip_52 : decode cX4_addShip 52 = .ok (.iconst 2, 1) := by decide +kernel
theorem dX4_addShip_53 : decode cX4_addShip 53 = .ok (.goto 4, 3) := by decide +kernel
theorem dX4_addShip_56 : decode cX4_addShip 56 = .ok (.iconst 0, 1) := by decide +kernel
theorem dX4_addShip_57 : decode cX4_addShip 57 = .ok (.invokevirtual 68, 3) := by decide +kernel
theorem dX4_addShip_60 : decode cX4_addShip 60 = .ok (.ifCond .eq 5, 3) := by decide +kernel
theorem dX4_addShip_63 : decode cX4_addShip 63 = .ok (.iconst 0, 1) := by decide +kernel
theorem dX4_addShip_64 : decode cX4_addShip 64 = .ok (.ireturn, 1) := by decide +kernel
theorem dX4_addShip_65 : decode cX4_addShip 65 = .ok (.aload_n 0, 1) := by decide +kernel
theorem dX4_addShip_66 : decode cX4_addShip 66 = .ok (.getfield 7, 3) := by decide +kernel
theorem dX4_addShip_69 : decode cX4_addShip 69 = .ok (.aload_n 0, 1) := by decide +kernel
theorem dX4_addShip_70 : decode cX4_addShip 70 = .ok (.getfield 57, 3) := by decide +kernel
theorem dX4_addShip_73 : decode cX4_addShip 73 = .ok (.iload_n 1, 1) := by decide +kernel
theorem dX4_addShip_74 : decode cX4_addShip 74 = .ok (.iastore, 1) := by decide +kernel
theorem dX4_addShip_75 : decode cX4_addShip 75 = .ok (.aload_n 0, 1) := by decide +kernel
theorem dX4_addShip_76 : decode cX4_addShip 76 = .ok (.getfield 13, 3) := by decide +kernel
theorem dX4_addShip_79 : decode cX4_addShip 79 = .ok (.aload_n 0, 1) := by decide +kernel
theorem dX4_addShip_80 : decode cX4_addShip 80 = .ok (.getfield 57, 3) := by decide +kernel
theorem dX4_addShip_83 : decode cX4_addShip 83 = .ok (.iload_n 2, 1) := by decide +kernel
theorem dX4_addShip_84 : decode cX4_addShip 84 = .ok (.iastore, 1) := by decide +kernel
theorem dX4_addShip_85 : decode cX4_addShip 85 = .ok (.aload_n 0, 1) := by decide +kernel
theorem dX4_addShip_86 : decode cX4_addShip 86 = .ok (.getfield 16, 3) := by decide +kernel
theorem dX4_addShip_89 : decode cX4_addShip 89 = .ok (.aload_n 0, 1) := by decide +kernel
theorem dX4_addShip_90 : decode cX4_addShip 90 = .ok (.getfield 57, 3) := by decide +kernel
theorem dX4_addShip_93 : decode cX4_addShip 93 = .ok (.iload_n 3, 1) := by decide +kernel
theorem dX4_addShip_94 : decode cX4_addShip 94 = .ok (.iastore, 1) := by decide +kernel
theorem dX4_addShip_95 : decode cX4_addShip 95 = .ok (.aload_n 0, 1) := by decide +kernel
theorem dX4_addShip_96 : decode cX4_addShip 96 = .ok (.dup, 1) := by decide +kernel
theorem dX4_addShip_97 : decode cX4_addShip 97 = .ok (.getfield 57, 3) := by decide +kernel
theorem dX4_addShip_100 : decode cX4_addShip 100 = .ok (.iconst 1, 1) := by decide +kernel
theorem dX4_addShip_101 : decode cX4_addShip 101 = .ok (.iadd, 1) := by decide +kernel
theorem dX4_addShip_102 : decode cX4_addShip 102 = .ok (.putfield 57, 3) := by decide +kernel
theorem dX4_addShip_105 : decode cX4_addShip 105 = .ok (.aload_n 0, 1) := by decide +kernel
theorem dX4_addShip_106 : decode cX4_addShip 106 = .ok (.getfield 57, 3) := by decide +kernel
theorem dX4_addShip_109 : decode cX4_addShip 109 = .ok (.iconst 1, 1) := by decide +kernel
theorem dX4_addShip_110 : decode cX4_addShip 110 = .ok (.isub, 1) := by decide +kernel
theorem dX4_addShip_111 : decode cX4_addShip 111 = .ok (.ireturn, 1) := by decide +kernel
set_option maxRecDepth 20000 in
theorem ggX4_setRate_X4_isBerth : GoodIn wsX4_setRate wsX4_isBerth := goodIn_r _ [5, 6, 7, 4, 8] (by decide +kernel) (by decide +kernel)
set_option maxRecDepth 20000 in
theorem gX4_setRate_X4_isBerth : GoodIn wsX4_setRate (va_wsS RX4 71 yX4_isBerth wsX4_isBerth) := goodIn_app (goodIn_of _ (by decide +kernel)) ggX4_setRate_X4_isBerth
set_option maxRecDepth 20000 in
theorem ggX4_setRate_X4_isIn : GoodIn wsX4_setRate wsX4_isIn := goodIn_r _ [8] (by decide +kernel) (by decide +kernel)
set_option maxRecDepth 20000 in
theorem gX4_setRate_X4_isIn : GoodIn wsX4_setRate (va_wsS RX4 60 yX4_isIn wsX4_isIn) := goodIn_app (goodIn_of _ (by decide +kernel)) ggX4_setRate_X4_isIn
set_option maxRecDepth 20000 in
theorem ggX4_setRate_X4_fails : GoodIn wsX4_setRate wsX4_fails := goodIn_r _ [12, 13, 14, 15, 16, 17, 18, 19, 20, 21, 22, 23, 24, 25, 26, 27, 28, 29, 30, 31] (by decide +kernel) (by decide +kernel)
set_option maxRecDepth 20000 in
theorem gX4_setRate_X4_fails : GoodIn wsX4_setRate (wsV RX4 68 RX4 yX4_fails wsX4_fails) := goodIn_app (goodIn_of _ (by decide +kernel)) ggX4_setRate_X4_fails
theorem dX4_setRate_0 : decode cX4_setRate 0 = .ok (.iload_n 1, 1) := by decide +kernel
theorem dX4_setRate_1 : decode cX4_setRate 1 = .ok (.invokestatic 71, 3) := by decide +kernel
theorem dX4_setRate_4 : decode cX4_setRate 4 = .ok (.istore_n 3, 1) := by decide +kernel
theorem dX4_setRate_5 : decode cX4_setRate 5 = .ok (.aload_n 0, 1) := by decide +kernel
theorem dX4_setRate_6 : decode cX4_setRate 6 = .ok (.iload_n 3, 1) := by decide +kernel
theorem dX4_setRate_7 : decode cX4_setRate 7 = .ok (.ifCond .ne 7, 3) := by decide +kernel
theorem dX4_setRate_10 : decode cX4_setRate 10 = .ok (.iconst 1, 1) := by decide +kernel
theorem dX4_setRate_11 : decode cX4_setRate 11 = .ok (.goto 18, 3) := by decide +kernel
theorem dX4_setRate_14 : decode cX4_setRate 14 = .ok (.iload_n 2, 1) := by decide +kernel
theorem dX4_setRate_15 : decode cX4_setRate 15 = .ok (.iconst 0, 1) := by decide +kernel
theorem dX4_setRate_16 : decode cX4_setRate 16 = .ok (.bipush 20, 2) := by decide +kernel
theorem dX4_setRate_18 : decode cX4_setRate 18 = .ok (.invokestatic 60, 3) := by decide +kernel
theorem dX4_setRate_21 : decode cX4_setRate 21 = .ok (.ifCond .eq 7, 3) := by decide +kernel
theorem dX4_setRate_24 : decode cX4_setRate 24 = .ok (.iconst 0, 1) := by decide +kernel
theorem dX4_setRate_25 : decode cX4_setRate 25 = .ok (.goto 4, 3) := by decide +kernel
theorem dX4_setRate_28 : decode cX4_setRate 28 = .ok (.iconst 2, 1) := by decide +kernel
theorem dX4_setRate_29 : decode cX4_setRate 29 = .ok (.invokevirtual 68, 3) := by decide +kernel
theorem dX4_setRate_32 : decode cX4_setRate 32 = .ok (.ifCond .eq 5, 3) := by decide +kernel
theorem dX4_setRate_35 : decode cX4_setRate 35 = .ok (.iconst 0, 1) := by decide +kernel
theorem dX4_setRate_36 : decode cX4_setRate 36 = .ok (.ireturn, 1) := by decide +kernel
theorem dX4_setRate_37 : decode cX4_setRate 37 = .ok (.aload_n 0, 1) := by decide +kernel
theorem dX4_setRate_38 : decode cX4_setRate 38 = .ok (.getfield 19, 3) := by decide +kernel
theorem dX4_setRate_41 : decode cX4_setRate 41 = .ok (.iload_n 1, 1) := by decide +kernel
theorem dX4_setRate_42 : decode cX4_setRate 42 = .ok (.iaload, 1) := by decide +kernel
theorem dX4_setRate_43 : decode cX4_setRate 43 = .ok (.istore 4, 2) := by decide +kernel
theorem dX4_setRate_45 : decode cX4_setRate 45 = .ok (.aload_n 0, 1) := by decide +kernel
theorem dX4_setRate_46 : decode cX4_setRate 46 = .ok (.getfield 19, 3) := by decide +kernel
theorem dX4_setRate_49 : decode cX4_setRate 49 = .ok (.iload_n 1, 1) := by decide +kernel
theorem dX4_setRate_50 : decode cX4_setRate 50 = .ok (.iload_n 2, 1) := by decide +kernel
theorem dX4_setRate_51 : decode cX4_setRate 51 = .ok (.iastore, 1) := by decide +kernel
theorem dX4_setRate_52 : decode cX4_setRate 52 = .ok (.iload 4, 2) := by decide +kernel
theorem dX4_setRate_54 : decode cX4_setRate 54 = .ok (.ireturn, 1) := by decide +kernel
set_option maxRecDepth 20000 in
theorem ggX4_setRules_X4_isIn : GoodIn wsX4_setRules wsX4_isIn := goodIn_r _ [6] (by decide +kernel) (by decide +kernel)
set_option maxRecDepth 20000 in
theorem gX4_setRules_X4_isIn : GoodIn wsX4_setRules (va_wsS RX4 60 yX4_isIn wsX4_isIn) := goodIn_app (goodIn_of _ (by decide +kernel)) ggX4_setRules_X4_isIn
set_option maxRecDepth 20000 in
theorem ggX4_setRules_X4_fails : GoodIn wsX4_setRules wsX4_fails := goodIn_r _ [10, 11, 12, 13, 14, 15, 16, 17, 18, 19, 20, 21, 22, 23, 24, 25, 26, 27, 28, 29] (by decide +kernel) (by decide +kernel)
set_option maxRecDepth 20000 in
theorem gX4_setRules_X4_fails : GoodIn wsX4_setRules (wsV RX4 68 RX4 yX4_fails wsX4_fails) := goodIn_app (goodIn_of _ (by decide +kernel)) ggX4_setRules_X4_fails
theorem dX4_setRules_0 : decode cX4_setRules 0 = .ok (.aload_n 0, 1) := by decide +kernel
theorem dX4_setRules_1 : decode cX4_setRules 1 = .ok (.iload_n 1, 1) := by decide +kernel
theorem dX4_setRules_2 : decode cX4_setRules 2 = .ok (.iconst 0, 1) := by decide +kernel
theorem dX4_setRules_3 : decode cX4_setRules 3 = .ok (.bipush 100, 2) := by decide +kernel
theorem dX4_setRules_5 : decode cX4_setRules 5 = .ok (.invokestatic 60, 3) := by decide +kernel
theorem dX4_setRules_8 : decode cX4_setRules 8 = .ok (.ifCond .eq 17, 3) := by decide +kernel
theorem dX4_setRules_11 : decode cX4_setRules 11 = .ok (.iload_n 2, 1) := by decide +kernel
theorem dX4_setRules_12 : decode cX4_setRules 12 = .ok (.iconst 0, 1) := by decide +kernel
theorem dX4_setRules_13 : decode cX4_setRules 13 = .ok (.bipush 100, 2) := by decide +kernel
theorem dX4_setRules_15 : decode cX4_setRules 15 = .ok (.invokestatic 60, 3) := by decide +kernel
theorem dX4_setRules_18 : decode cX4_setRules 18 = .ok (.ifCond .eq 7, 3) := by decide +kernel
theorem dX4_setRules_21 : decode cX4_setRules 21 = .ok (.iconst 0, 1) := by decide +kernel
theorem dX4_setRules_22 : decode cX4_setRules 22 = .ok (.goto 4, 3) := by decide +kernel
theorem dX4_setRules_25 : decode cX4_setRules 25 = .ok (.iconst 1, 1) := by decide +kernel
theorem dX4_setRules_26 : decode cX4_setRules 26 = .ok (.invokevirtual 68, 3) := by decide +kernel
theorem dX4_setRules_29 : decode cX4_setRules 29 = .ok (.ifCond .ne 13, 3) := by decide +kernel
theorem dX4_setRules_32 : decode cX4_setRules 32 = .ok (.aload_n 0, 1) := by decide +kernel
theorem dX4_setRules_33 : decode cX4_setRules 33 = .ok (.iload_n 1, 1) := by decide +kernel
theorem dX4_setRules_34 : decode cX4_setRules 34 = .ok (.putfield 22, 3) := by decide +kernel
theorem dX4_setRules_37 : decode cX4_setRules 37 = .ok (.aload_n 0, 1) := by decide +kernel
theorem dX4_setRules_38 : decode cX4_setRules 38 = .ok (.iload_n 2, 1) := by decide +kernel
theorem dX4_setRules_39 : decode cX4_setRules 39 = .ok (.putfield 26, 3) := by decide +kernel
theorem dX4_setRules_42 : decode cX4_setRules 42 = .ok (.return_, 1) := by decide +kernel
set_option maxRecDepth 20000 in
theorem ggX4_fork_X4_isLine : GoodIn wsX4_fork wsX4_isLine := goodIn_r _ [9, 1, 10, 11, 8, 12, 21, 22, 23, 24, 25, 26, 27, 28, 29, 30, 31, 32, 33, 34, 35, 36, 37, 38] (by decide +kernel) (by decide +kernel)
set_option maxRecDepth 20000 in
theorem gX4_fork_X4_isLine : GoodIn wsX4_fork (wsV RX4 74 RX4 yX4_isLine wsX4_isLine) := goodIn_app (goodIn_of _ (by decide +kernel)) ggX4_fork_X4_isLine
set_option maxRecDepth 20000 in
theorem ggX4_fork_X4_isTurn : GoodIn wsX4_fork wsX4_isTurn := goodIn_r _ [15, 10, 11, 8, 12] (by decide +kernel) (by decide +kernel)
set_option maxRecDepth 20000 in
theorem gX4_fork_X4_isTurn : GoodIn wsX4_fork (va_wsS RX4 64 yX4_isTurn wsX4_isTurn) := goodIn_app (goodIn_of _ (by decide +kernel)) ggX4_fork_X4_isTurn
set_option maxRecDepth 20000 in
theorem ggX4_fork_X4_fails : GoodIn wsX4_fork wsX4_fails := goodIn_r _ [19, 20, 21, 22, 23, 24, 25, 26, 27, 28, 29, 30, 31, 32, 33, 34, 35, 36, 37, 38] (by decide +kernel) (by decide +kernel)
set_option maxRecDepth 20000 in
theorem gX4_fork_X4_fails : GoodIn wsX4_fork (wsV RX4 68 RX4 yX4_fails wsX4_fails) := goodIn_app (goodIn_of _ (by decide +kernel)) ggX4_fork_X4_fails
theorem dX4_fork_0 : decode cX4_fork 0 = .ok (.aload_n 0, 1) := by decide +kernel
theorem dX4_fork_1 : decode cX4_fork 1 = .ok (.iload_n 1, 1) := by decide +kernel
theorem dX4_fork_2 : decode cX4_fork 2 = .ok (.invokevirtual 74, 3) := by decide +kernel
theorem dX4_fork_5 : decode cX4_fork 5 = .ok (.ifCond .eq 14, 3) := by decide +kernel
theorem dX4_fork_8 : decode cX4_fork 8 = .ok (.iload_n 2, 1) := by decide +kernel
theorem dX4_fork_9 : decode cX4_fork 9 = .ok (.invokestatic 64, 3) := by decide +kernel
theorem dX4_fork_12 : decode cX4_fork 12 = .ok (.ifCond .eq 7, 3) := by decide +kernel
theorem dX4_fork_15 : decode cX4_fork 15 = .ok (.iconst 1, 1) := by decide +kernel
theorem dX4_fork_16 : decode cX4_fork 16 = .ok (.goto 4, 3) := by decide +kernel
theorem dX4_fork_19 : decode cX4_fork 19 = .ok (.iconst 0, 1) := by decide +kernel
theorem dX4_fork_20 : decode cX4_fork 20 = .ok (.istore_n 3, 1) := by decide +kernel
theorem dX4_fork_21 : decode cX4_fork 21 = .ok (.aload_n 0, 1) := by decide +kernel
theorem dX4_fork_22 : decode cX4_fork 22 = .ok (.iload_n 3, 1) := by decide +kernel
theorem dX4_fork_23 : decode cX4_fork 23 = .ok (.ifCond .ne 7, 3) := by decide +kernel
theorem dX4_fork_26 : decode cX4_fork 26 = .ok (.iconst 1, 1) := by decide +kernel
theorem dX4_fork_27 : decode cX4_fork 27 = .ok (.goto 17, 3) := by decide +kernel
theorem dX4_fork_30 : decode cX4_fork 30 = .ok (.aload_n 0, 1) := by decide +kernel
theorem dX4_fork_31 : decode cX4_fork 31 = .ok (.getfield 29, 3) := by decide +kernel
theorem dX4_fork_34 : decode cX4_fork 34 = .ok (.bipush 9, 2) := by decide +kernel
theorem dX4_fork_36 : decode cX4_fork 36 = .ok (.if_icmp .ne 7, 3) := by decide +kernel
theorem dX4_fork_39 : decode cX4_fork 39 = .ok (.iconst 2, 1) := by decide +kernel
theorem dX4_fork_40 : decode cX4_fork 40 = .ok (.goto 4, 3) := by decide +kernel
theorem dX4_fork_43 : decode cX4_fork 43 = .ok (.iconst 0, 1) := by decide +kernel
theorem dX4_fork_44 : decode cX4_fork 44 = .ok (.invokevirtual 68, 3) := by decide +kernel
theorem dX4_fork_47 : decode cX4_fork 47 = .ok (.ifCond .eq 5, 3) := by decide +kernel
theorem dX4_fork_50 : decode cX4_fork 50 = .ok (.iconst 0, 1) := by decide +kernel
theorem dX4_fork_51 : decode cX4_fork 51 = .ok (.ireturn, 1) := by decide +kernel
theorem dX4_fork_52 : decode cX4_fork 52 = .ok (.aload_n 0, 1) := by decide +kernel
theorem dX4_fork_53 : decode cX4_fork 53 = .ok (.getfield 32, 3) := by decide +kernel
theorem dX4_fork_56 : decode cX4_fork 56 = .ok (.aload_n 0, 1) := by decide +kernel
theorem dX4_fork_57 : decode cX4_fork 57 = .ok (.getfield 29, 3) := by decide +kernel
theorem dX4_fork_60 : decode cX4_fork 60 = .ok (.iload_n 1, 1) := by decide +kernel
theorem dX4_fork_61 : decode cX4_fork 61 = .ok (.iastore, 1) := by decide +kernel
theorem dX4_fork_62 : decode cX4_fork 62 = .ok (.aload_n 0, 1) := by decide +kernel
theorem dX4_fork_63 : decode cX4_fork 63 = .ok (.getfield 35, 3) := by decide +kernel
theorem dX4_fork_66 : decode cX4_fork 66 = .ok (.aload_n 0, 1) := by decide +kernel
theorem dX4_fork_67 : decode cX4_fork 67 = .ok (.getfield 29, 3) := by decide +kernel
theorem dX4_fork_70 : decode cX4_fork 70 = .ok (.iload_n 2, 1) := by decide +kernel
theorem dX4_fork_71 : decode cX4_fork 71 = .ok (.iastore, 1) := by decide +kernel
theorem dX4_fork_72 : decode cX4_fork 72 = .ok (.aload_n 0, 1) := by decide +kernel
theorem dX4_fork_73 : decode cX4_fork 73 = .ok (.getfield 38, 3) := by decide +kernel
theorem dX4_fork_76 : decode cX4_fork 76 = .ok (.aload_n 0, 1) := by decide +kernel
theorem dX4_fork_77 : decode cX4_fork 77 = .ok (.getfield 29, 3) := by decide +kernel
theorem dX4_fork_80 : decode cX4_fork 80 = .ok (.aload_n 0, 1) := by decide +kernel
theorem dX4_fork_81 : decode cX4_fork 81 = .ok (.getfield 38, 3) := by decide +kernel
theorem dX4_fork_84 : decode cX4_fork 84 = .ok (.iload_n 1, 1) := by decide +kernel
theorem dX4_fork_85 : decode cX4_fork 85 = .ok (.iaload, 1) := by decide +kernel
theorem dX4_fork_86 : decode cX4_fork 86 = .ok (.iastore, 1) := by decide +kernel
theorem dX4_fork_87 : decode cX4_fork 87 = .ok (.aload_n 0, 1) := by decide +kernel
theorem dX4_fork_88 : decode cX4_fork 88 = .ok (.dup, 1) := by decide +kernel
theorem dX4_fork_89 : decode cX4_fork 89 = .ok (.getfield 29, 3) := by decide +kernel
theorem dX4_fork_92 : decode cX4_fork 92 = .ok (.iconst 1, 1) := by decide +kernel
theorem dX4_fork_93 : decode cX4_fork 93 = .ok (.iadd, 1) := by decide +kernel
theorem dX4_fork_94 : decode cX4_fork 94 = .ok (.putfield 29, 3) := by decide +kernel
theorem dX4_fork_97 : decode cX4_fork 97 = .ok (.aload_n 0, 1) := by decide +kernel
theorem dX4_fork_98 : decode cX4_fork 98 = .ok (.getfield 29, 3) := by decide +kernel
theorem dX4_fork_101 : decode cX4_fork 101 = .ok (.iconst 1, 1) := by decide +kernel
theorem dX4_fork_102 : decode cX4_fork 102 = .ok (.isub, 1) := by decide +kernel
theorem dX4_fork_103 : decode cX4_fork 103 = .ok (.ireturn, 1) := by decide +kernel
set_option maxRecDepth 20000 in
theorem ggX4_order_X4_isLine : GoodIn wsX4_order wsX4_isLine := goodIn_r _ [9, 10, 11, 12, 8, 13, 30, 31, 32, 33, 34, 35, 36, 37, 38, 39, 40, 41, 42, 43, 44, 45, 46, 47] (by decide +kernel) (by decide +kernel)
set_option maxRecDepth 20000 in
theorem gX4_order_X4_isLine : GoodIn wsX4_order (wsV RX4 74 RX4 yX4_isLine wsX4_isLine) := goodIn_app (goodIn_of _ (by decide +kernel)) ggX4_order_X4_isLine
set_option maxRecDepth 20000 in
theorem ggX4_order_X4_isTurn : GoodIn wsX4_order wsX4_isTurn := goodIn_r _ [16, 11, 12, 8, 13] (by decide +kernel) (by decide +kernel)
set_option maxRecDepth 20000 in
theorem gX4_order_X4_isTurn : GoodIn wsX4_order (va_wsS RX4 64 yX4_isTurn wsX4_isTurn) := goodIn_app (goodIn_of _ (by decide +kernel)) ggX4_order_X4_isTurn
set_option maxRecDepth 20000 in
theorem ggX4_order_X4_isShip : GoodIn wsX4_order wsX4_isShip := goodIn_r _ [20, 21, 11, 12, 8, 13, 30, 31, 32, 33, 34, 35, 36, 37, 38, 39, 40, 41, 42, 43, 44, 45, 46, 47] (by decide +kernel) (by decide +kernel)
set_option maxRecDepth 20000 in
theorem gX4_order_X4_isShip : GoodIn wsX4_order (wsV RX4 77 RX4 yX4_isShip wsX4_isShip) := goodIn_app (goodIn_of _ (by decide +kernel)) ggX4_order_X4_isShip
set_option maxRecDepth 20000 in
theorem ggX4_order_X4_isBerth : GoodIn wsX4_order wsX4_isBerth := goodIn_r _ [24, 11, 12, 8, 13] (by decide +kernel) (by decide +kernel)
set_option maxRecDepth 20000 in
theorem gX4_order_X4_isBerth : GoodIn wsX4_order (va_wsS RX4 71 yX4_isBerth wsX4_isBerth) := goodIn_app (goodIn_of _ (by decide +kernel)) ggX4_order_X4_isBerth
set_option maxRecDepth 20000 in
theorem ggX4_order_X4_isIn : GoodIn wsX4_order wsX4_isIn := goodIn_r _ [13] (by decide +kernel) (by decide +kernel)
set_option maxRecDepth 20000 in
theorem gX4_order_X4_isIn : GoodIn wsX4_order (va_wsS RX4 60 yX4_isIn wsX4_isIn) := goodIn_app (goodIn_of _ (by decide +kernel)) ggX4_order_X4_isIn
set_option maxRecDepth 20000 in
theorem ggX4_order_X4_fails : GoodIn wsX4_order wsX4_fails := goodIn_r _ [28, 29, 30, 31, 32, 33, 34, 35, 36, 37, 38, 39, 40, 41, 42, 43, 44, 45, 46, 47] (by decide +kernel) (by decide +kernel)
set_option maxRecDepth 20000 in
theorem gX4_order_X4_fails : GoodIn wsX4_order (wsV RX4 68 RX4 yX4_fails wsX4_fails) := goodIn_app (goodIn_of _ (by decide +kernel)) ggX4_order_X4_fails
theorem dX4_order_0 : decode cX4_order 0 = .ok (.aload_n 0, 1) := by decide +kernel
theorem dX4_order_1 : decode cX4_order 1 = .ok (.iload_n 1, 1) := by decide +kernel
theorem dX4_order_2 : decode cX4_order 2 = .ok (.invokevirtual 74, 3) := by decide +kernel
theorem dX4_order_5 : decode cX4_order 5 = .ok (.ifCond .eq 31, 3) := by decide +kernel
theorem dX4_order_8 : decode cX4_order 8 = .ok (.iload_n 2, 1) := by decide +kernel
theorem dX4_order_9 : decode cX4_order 9 = .ok (.invokestatic 64, 3) := by decide +kernel
theorem dX4_order_12 : decode cX4_order 12 = .ok (.ifCond .eq 24, 3) := by decide +kernel
theorem dX4_order_15 : decode cX4_order 15 = .ok (.aload_n 0, 1) := by decide +kernel
theorem dX4_order_16 : decode cX4_order 16 = .ok (.iload 4, 2) := by decide +kernel
theorem dX4_order_18 : decode cX4_order 18 = .ok (.invokevirtual 77, 3) := by decide +kernel
theorem dX4_order_21 : decode cX4_order 21 = .ok (.ifCond .eq 15, 3) := by decide +kernel
theorem dX4_order_24 : decode cX4_order 24 = .ok (.iload 5, 2) := by decide +kernel
theorem dX4_order_26 : decode cX4_order 26 = .ok (.invokestatic 71, 3) := by decide +kernel
theorem dX4_order_29 : decode cX4_order 29 = .ok (.ifCond .eq 7, 3) := by decide +kernel
theorem dX4_order_32 : decode cX4_order 32 = .ok (.iconst 1, 1) := by decide +kernel
theorem dX4_order_33 : decode cX4_order 33 = .ok (.goto 4, 3) := by decide +kernel
theorem dX4_order_36 : decode cX4_order 36 = .ok (.iconst 0, 1) := by decide +kernel
theorem dX4_order_37 : decode cX4_order 37 = .ok (.istore 6, 2) := by decide +kernel
theorem dX4_order_39 : decode cX4_order 39 = .ok (.aload_n 0, 1) := by decide +kernel
theorem dX4_order_40 : decode cX4_order 40 = .ok (.iload 6, 2) := by decide +kernel
theorem dX4_order_42 : decode cX4_order 42 = .ok (.ifCond .ne 7, 3) := by decide +kernel
theorem dX4_order_45 : decode cX4_order 45 = .ok (.iconst 1, 1) := by decide +kernel
theorem dX4_order_46 : decode cX4_order 46 = .ok (.goto 31, 3) := by decide +kernel
theorem dX4_order_49 : decode cX4_order 49 = .ok (.iload_n 3, 1) := by decide +kernel
theorem dX4_order_50 : decode cX4_order 50 = .ok (.iconst 0, 1) := by decide +kernel
theorem dX4_order_51 : decode cX4_order 51 = .ok (.iconst 2, 1) := by decide +kernel
theorem dX4_order_52 : decode cX4_order 52 = .ok (.invokestatic 60, 3) := by decide +kernel
theorem dX4_order_55 : decode cX4_order 55 = .ok (.ifCond .ne 7, 3) := by decide +kernel
theorem dX4_order_58 : decode cX4_order 58 = .ok (.iconst 2, 1) := by decide +kernel
theorem dX4_order_59 : decode cX4_order 59 = .ok (.goto 18, 3) := by decide +kernel
theorem dX4_order_62 : decode cX4_order 62 = .ok (.iload_n 2, 1) := by decide +kernel
theorem dX4_order_63 : decode cX4_order 63 = .ok (.aload_n 0, 1) := by decide +kernel
theorem dX4_order_64 : decode cX4_order 64 = .ok (.getfield 35, 3) := by decide +kernel
theorem dX4_order_67 : decode cX4_order 67 = .ok (.iload_n 1, 1) := by decide +kernel
theorem dX4_order_68 : decode cX4_order 68 = .ok (.iaload, 1) := by decide +kernel
theorem dX4_order_69 : decode cX4_order 69 = .ok (.if_icmp .ge 7, 3) := by decide +kernel
theorem dX4_order_72 : decode cX4_order 72 = .ok (.iconst 3, 1) := by decide +kernel
theorem dX4_order_73 : decode cX4_order 73 = .ok (.goto 4, 3) := by decide +kernel
theorem dX4_order_76 : decode cX4_order 76 = .ok (.iconst 0, 1) := by decide +kernel
theorem dX4_order_77 : decode cX4_order 77 = .ok (.invokevirtual 68, 3) := by decide +kernel
theorem dX4_order_80 : decode cX4_order 80 = .ok (.ifCond .eq 5, 3) := by decide +kernel
theorem dX4_order_83 : decode cX4_order 83 = .ok (.iconst 0, 1) := by decide +kernel
theorem dX4_order_84 : decode cX4_order 84 = .ok (.ireturn, 1) := by decide +kernel
theorem dX4_order_85 : decode cX4_order 85 = .ok (.bipush 30, 2) := by decide +kernel
theorem dX4_order_87 : decode cX4_order 87 = .ok (.iload_n 1, 1) := by decide +kernel
theorem dX4_order_88 : decode cX4_order 88 = .ok (.imul, 1) := by decide +kernel
theorem dX4_order_89 : decode cX4_order 89 = .ok (.iload_n 2, 1) := by decide +kernel
theorem dX4_order_90 : decode cX4_order 90 = .ok (.iadd, 1) := by decide +kernel
theorem dX4_order_91 : decode cX4_order 91 = .ok (.istore 7, 2) := by decide +kernel
theorem dX4_order_93 : decode cX4_order 93 = .ok (.aload_n 0, 1) := by decide +kernel
theorem dX4_order_94 : decode cX4_order 94 = .ok (.getfield 41, 3) := by decide +kernel
theorem dX4_order_97 : decode cX4_order 97 = .ok (.iload 7, 2) := by decide +kernel
theorem dX4_order_99 : decode cX4_order 99 = .ok (.iload_n 3, 1) := by decide +kernel
theorem dX4_order_100 : decode cX4_order 100 = .ok (.ifCond .ne 7, 3) := by decide +kernel
theorem dX4_order_103 : decode cX4_order 103 = .ok (.iconst 0, 1) := by decide +kernel
theorem dX4_order_104 : decode cX4_order 104 = .ok (.goto 25, 3) := by decide +kernel
theorem dX4_order_107 : decode cX4_order 107 = .ok (.bipush 100, 2) := by decide +kernel
theorem dX4_order_109 : decode cX4_order 109 = .ok (.iload_n 3, 1) := by decide +kernel
theorem dX4_order_110 : decode cX4_order 110 = .ok (.imul, 1) := by decide +kernel
theorem dX4_order_111 : decode cX4_order 111 = .ok (.bipush 10, 2) := by decide +kernel
theorem dX4_order_113 : decode cX4_order 113 = .ok (.iload 4, 2) := by decide +kernel
theorem dX4_order_115 : decode cX4_order 115 = .ok (.imul, 1) := by decide +kernel
theorem dX4_order_116 : decode cX4_order 116 = .ok (.iadd, 1) := by decide +kernel
theorem dX4_order_117 : decode cX4_order 117 = .ok (.iload_n 3, 1) := by decide +kernel
theorem dX4_order_118 : decode cX4_order 118 = .ok (.iconst 1, 1) := by decide +kernel
theorem dX4_order_119 : decode cX4_order 119 = .ok (.if_icmp .ne 8, 3) := by decide +kernel
theorem dX4_order_122 : decode cX4_order 122 = .ok (.iload 5, 2) := by decide +kernel
theorem dX4_order_124 : decode cX4_order 124 = .ok (.goto 4, 3) := by decide +kernel
theorem dX4_order_127 : decode cX4_order 127 = .ok (.iconst 0, 1) := by decide +kernel
theorem dX4_order_128 : decode cX4_order 128 = .ok (.iadd, 1) := by decide +kernel
theorem dX4_order_129 : decode cX4_order 129 = .ok (.iastore, 1) := by decide +kernel
theorem dX4_order_130 : decode cX4_order 130 = .ok (.aload_n 0, 1) := by decide +kernel
theorem dX4_order_131 : decode cX4_order 131 = .ok (.getfield 44, 3) := by decide +kernel
theorem dX4_order_134 : decode cX4_order 134 = .ok (.iload 7, 2) := by decide +kernel
theorem dX4_order_136 : decode cX4_order 136 = .ok (.iload_n 1, 1) := by decide +kernel
theorem dX4_order_137 : decode cX4_order 137 = .ok (.ifCond .le 17, 3) := by decide +kernel
theorem dX4_order_140 : decode cX4_order 140 = .ok (.aload_n 0, 1) := by decide +kernel
theorem dX4_order_141 : decode cX4_order 141 = .ok (.getfield 38, 3) := by decide +kernel
theorem dX4_order_144 : decode cX4_order 144 = .ok (.iload_n 1, 1) := by decide +kernel
theorem dX4_order_145 : decode cX4_order 145 = .ok (.iaload, 1) := by decide +kernel
theorem dX4_order_146 : decode cX4_order 146 = .ok (.iload_n 2, 1) := by decide +kernel
theorem dX4_order_147 : decode cX4_order 147 = .ok (.if_icmp .le 7, 3) := by decide +kernel
theorem dX4_order_150 : decode cX4_order 150 = .ok (.iconst 1, 1) := by decide +kernel
theorem dX4_order_151 : decode cX4_order 151 = .ok (.goto 4, 3) := by decide +kernel
theorem dX4_order_154 : decode cX4_order 154 = .ok (.iconst 0, 1) := by decide +kernel
theorem dX4_order_155 : decode cX4_order 155 = .ok (.bastore, 1) := by decide +kernel
theorem dX4_order_156 : decode cX4_order 156 = .ok (.aload_n 0, 1) := by decide +kernel
theorem dX4_order_157 : decode cX4_order 157 = .ok (.getfield 44, 3) := by decide +kernel
theorem dX4_order_160 : decode cX4_order 160 = .ok (.iload 7, 2) := by decide +kernel
theorem dX4_order_162 : decode cX4_order 162 = .ok (.baload, 1) := by decide +kernel
theorem dX4_order_163 : decode cX4_order 163 = .ok (.ireturn, 1) := by decide +kernel
set_option maxRecDepth 20000 in
theorem ggX4_takeAway_X4_isLine : GoodIn wsX4_takeAway wsX4_isLine := goodIn_r _ [5, 6, 7, 8, 4, 9, 28, 29, 30, 31, 32, 33, 34, 35, 36, 37, 38, 39, 40, 41, 42, 43, 44, 45] (by decide +kernel) (by decide +kernel)
set_option maxRecDepth 20000 in
theorem gX4_takeAway_X4_isLine : GoodIn wsX4_takeAway (wsV RX4 74 RX4 yX4_isLine wsX4_isLine) := goodIn_app (goodIn_of _ (by decide +kernel)) ggX4_takeAway_X4_isLine
set_option maxRecDepth 20000 in
theorem ggX4_takeAway_X4_isTurn : GoodIn wsX4_takeAway wsX4_isTurn := goodIn_r _ [12, 7, 8, 4, 9] (by decide +kernel) (by decide +kernel)
set_option maxRecDepth 20000 in
theorem gX4_takeAway_X4_isTurn : GoodIn wsX4_takeAway (va_wsS RX4 64 yX4_isTurn wsX4_isTurn) := goodIn_app (goodIn_of _ (by decide +kernel)) ggX4_takeAway_X4_isTurn
set_option maxRecDepth 20000 in
theorem ggX4_takeAway_X4_fails : GoodIn wsX4_takeAway wsX4_fails := goodIn_r _ [16, 17, 28, 29, 30, 31, 32, 33, 34, 35, 36, 37, 38, 39, 40, 41, 42, 43, 44, 45] (by decide +kernel) (by decide +kernel)
set_option maxRecDepth 20000 in
theorem gX4_takeAway_X4_fails : GoodIn wsX4_takeAway (wsV RX4 68 RX4 yX4_fails wsX4_fails) := goodIn_app (goodIn_of _ (by decide +kernel)) ggX4_takeAway_X4_fails
set_option maxRecDepth 20000 in
theorem ggX4_takeAway_X4_hasOwn : GoodIn wsX4_takeAway wsX4_hasOwn := goodIn_r _ [21, 22, 28, 29, 30, 31, 32, 33, 34, 35, 36, 37, 38, 39, 40, 41, 42, 43, 44, 45] (by decide +kernel) (by decide +kernel)
set_option maxRecDepth 20000 in
theorem gX4_takeAway_X4_hasOwn : GoodIn wsX4_takeAway (wsV RX4 80 RX4 yX4_hasOwn wsX4_hasOwn) := goodIn_app (goodIn_of _ (by decide +kernel)) ggX4_takeAway_X4_hasOwn
set_option maxRecDepth 20000 in
theorem ggX4_takeAway_X4_removes : GoodIn wsX4_takeAway wsX4_removes := goodIn_r _ [26, 22, 27, 28, 29, 30, 31, 32, 33, 34, 35, 36, 37, 38, 39, 40, 41, 42, 43, 44, 45] (by decide +kernel) (by decide +kernel)
set_option maxRecDepth 20000 in
theorem gX4_takeAway_X4_removes : GoodIn wsX4_takeAway (wsV RX4 84 RX4 yX4_removes wsX4_removes) := goodIn_app (goodIn_of _ (by decide +kernel)) ggX4_takeAway_X4_removes
theorem dX4_takeAway_0 : decode cX4_takeAway 0 = .ok (.aload_n 0, 1) := by decide +kernel
theorem dX4_takeAway_1 : decode cX4_takeAway 1 = .ok (.aload_n 0, 1) := by decide +kernel
theorem dX4_takeAway_2 : decode cX4_takeAway 2 = .ok (.iload_n 1, 1) := by decide +kernel
theorem dX4_takeAway_3 : decode cX4_takeAway 3 = .ok (.invokevirtual 74, 3) := by decide +kernel
theorem dX4_takeAway_6 : decode cX4_takeAway 6 = .ok (.ifCond .eq 14, 3) := by decide +kernel
theorem dX4_takeAway_9 : decode cX4_takeAway 9 = .ok (.iload_n 2, 1) := by decide +kernel
theorem dX4_takeAway_10 : decode cX4_takeAway 10 = .ok (.invokestatic 64, 3) := by decide +kernel
theorem dX4_takeAway_13 : decode cX4_takeAway 13 = .ok (.ifCond .eq 7, 3) := by decide +kernel
theorem dX4_takeAway_16 : decode cX4_takeAway 16 = .ok (.iconst 0, 1) := by decide +kernel
theorem dX4_takeAway_17 : decode cX4_takeAway 17 = .ok (.goto 4, 3) := by decide +kernel
theorem dX4_takeAway_20 : decode cX4_takeAway 20 = .ok (.iconst 1, 1) := by decide +kernel
theorem dX4_takeAway_21 : decode cX4_takeAway 21 = .ok (.invokevirtual 68, 3) := by decide +kernel
theorem dX4_takeAway_24 : decode cX4_takeAway 24 = .ok (.ifCond .eq 5, 3) := by decide +kernel
theorem dX4_takeAway_27 : decode cX4_takeAway 27 = .ok (.iconst 0, 1) := by decide +kernel
theorem dX4_takeAway_28 : decode cX4_takeAway 28 = .ok (.ireturn, 1) := by decide +kernel
theorem dX4_takeAway_29 : decode cX4_takeAway 29 = .ok (.aload_n 0, 1) := by decide +kernel
theorem dX4_takeAway_30 : decode cX4_takeAway 30 = .ok (.iload_n 1, 1) := by decide +kernel
theorem dX4_takeAway_31 : decode cX4_takeAway 31 = .ok (.iload_n 2, 1) := by decide +kernel
theorem dX4_takeAway_32 : decode cX4_takeAway 32 = .ok (.invokevirtual 80, 3) := by decide +kernel
theorem dX4_takeAway_35 : decode cX4_takeAway 35 = .ok (.ifCond .eq 16, 3) := by decide +kernel
theorem dX4_takeAway_38 : decode cX4_takeAway 38 = .ok (.aload_n 0, 1) := by decide +kernel
theorem dX4_takeAway_39 : decode cX4_takeAway 39 = .ok (.iload_n 1, 1) := by decide +kernel
theorem dX4_takeAway_40 : decode cX4_takeAway 40 = .ok (.iload_n 2, 1) := by decide +kernel
theorem dX4_takeAway_41 : decode cX4_takeAway 41 = .ok (.invokevirtual 84, 3) := by decide +kernel
theorem dX4_takeAway_44 : decode cX4_takeAway 44 = .ok (.ifCond .eq 7, 3) := by decide +kernel
theorem dX4_takeAway_47 : decode cX4_takeAway 47 = .ok (.iconst 1, 1) := by decide +kernel
theorem dX4_takeAway_48 : decode cX4_takeAway 48 = .ok (.goto 4, 3) := by decide +kernel
theorem dX4_takeAway_51 : decode cX4_takeAway 51 = .ok (.iconst 0, 1) := by decide +kernel
theorem dX4_takeAway_52 : decode cX4_takeAway 52 = .ok (.ireturn, 1) := by decide +kernel
theorem dX4_hasOwn_0 : decode cX4_hasOwn 0 = .ok (.aload_n 0, 1) := by decide +kernel
theorem dX4_hasOwn_1 : decode cX4_hasOwn 1 = .ok (.getfield 41, 3) := by decide +kernel
theorem dX4_hasOwn_4 : decode cX4_hasOwn 4 = .ok (.bipush 30, 2) := by decide +kernel
theorem dX4_hasOwn_6 : decode cX4_hasOwn 6 = .ok (.iload_n 1, 1) := by decide +kernel
theorem dX4_hasOwn_7 : decode cX4_hasOwn 7 = .ok (.imul, 1) := by decide +kernel
theorem dX4_hasOwn_8 : decode cX4_hasOwn 8 = .ok (.iload_n 2, 1) := by decide +kernel
theorem dX4_hasOwn_9 : decode cX4_hasOwn 9 = .ok (.iadd, 1) := by decide +kernel
theorem dX4_hasOwn_10 : decode cX4_hasOwn 10 = .ok (.iaload, 1) := by decide +kernel
theorem dX4_hasOwn_11 : decode cX4_hasOwn 11 = .ok (.iconst (-1), 1) := by decide +kernel
theorem dX4_hasOwn_12 : decode cX4_hasOwn 12 = .ok (.if_icmp .eq 7, 3) := by decide +kernel
theorem dX4_hasOwn_15 : decode cX4_hasOwn 15 = .ok (.iconst 1, 1) := by decide +kernel
theorem dX4_hasOwn_16 : decode cX4_hasOwn 16 = .ok (.goto 4, 3) := by decide +kernel
theorem dX4_hasOwn_19 : decode cX4_hasOwn 19 = .ok (.iconst 0, 1) := by decide +kernel
theorem dX4_hasOwn_20 : decode cX4_hasOwn 20 = .ok (.ireturn, 1) := by decide +kernel
theorem dX4_removes_0 : decode cX4_removes 0 = .ok (.aload_n 0, 1) := by decide +kernel
theorem dX4_removes_1 : decode cX4_removes 1 = .ok (.getfield 41, 3) := by decide +kernel
theorem dX4_removes_4 : decode cX4_removes 4 = .ok (.bipush 30, 2) := by decide +kernel
theorem dX4_removes_6 : decode cX4_removes 6 = .ok (.iload_n 1, 1) := by decide +kernel
theorem dX4_removes_7 : decode cX4_removes 7 = .ok (.imul, 1) := by decide +kernel
theorem dX4_removes_8 : decode cX4_removes 8 = .ok (.iload_n 2, 1) := by decide +kernel
theorem dX4_removes_9 : decode cX4_removes 9 = .ok (.iadd, 1) := by decide +kernel
theorem dX4_removes_10 : decode cX4_removes 10 = .ok (.iconst (-1), 1) := by decide +kernel
theorem dX4_removes_11 : decode cX4_removes 11 = .ok (.iastore, 1) := by decide +kernel
theorem dX4_removes_12 : decode cX4_removes 12 = .ok (.aload_n 0, 1) := by decide +kernel
theorem dX4_removes_13 : decode cX4_removes 13 = .ok (.getfield 44, 3) := by decide +kernel
theorem dX4_removes_16 : decode cX4_removes 16 = .ok (.bipush 30, 2) := by decide +kernel
theorem dX4_removes_18 : decode cX4_removes 18 = .ok (.iload_n 1, 1) := by decide +kernel
theorem dX4_removes_19 : decode cX4_removes 19 = .ok (.imul, 1) := by decide +kernel
theorem dX4_removes_20 : decode cX4_removes 20 = .ok (.iload_n 2, 1) := by decide +kernel
theorem dX4_removes_21 : decode cX4_removes 21 = .ok (.iadd, 1) := by decide +kernel
theorem dX4_removes_22 : decode cX4_removes 22 = .ok (.iconst 0, 1) := by decide +kernel
theorem dX4_removes_23 : decode cX4_removes 23 = .ok (.bastore, 1) := by decide +kernel
theorem dX4_removes_24 : decode cX4_removes 24 = .ok (.iconst 1, 1) := by decide +kernel
theorem dX4_removes_25 : decode cX4_removes 25 = .ok (.ireturn, 1) := by decide +kernel
set_option maxRecDepth 20000 in
theorem ggX4_orderAt_X4_hasOwn : GoodIn wsX4_orderAt wsX4_hasOwn := goodIn_r _ [7, 2, 8, 9, 10, 11, 12, 13, 14, 15, 16, 17, 18, 19, 20, 21, 22, 23, 24, 25] (by decide +kernel) (by decide +kernel)
set_option maxRecDepth 20000 in
theorem gX4_orderAt_X4_hasOwn : GoodIn wsX4_orderAt (wsV RX4 80 RX4 yX4_hasOwn wsX4_hasOwn) := goodIn_app (goodIn_of _ (by decide +kernel)) ggX4_orderAt_X4_hasOwn
theorem dX4_orderAt_0 : decode cX4_orderAt 0 = .ok (.iload_n 1, 1) := by decide +kernel
theorem dX4_orderAt_1 : decode cX4_orderAt 1 = .ok (.istore_n 3, 1) := by decide +kernel
theorem dX4_orderAt_2 : decode cX4_orderAt 2 = .ok (.iload_n 3, 1) := by decide +kernel
theorem dX4_orderAt_3 : decode cX4_orderAt 3 = .ok (.iconst (-1), 1) := by decide +kernel
theorem dX4_orderAt_4 : decode cX4_orderAt 4 = .ok (.if_icmp .eq 22, 3) := by decide +kernel
theorem dX4_orderAt_7 : decode cX4_orderAt 7 = .ok (.aload_n 0, 1) := by decide +kernel
theorem dX4_orderAt_8 : decode cX4_orderAt 8 = .ok (.iload_n 3, 1) := by decide +kernel
theorem dX4_orderAt_9 : decode cX4_orderAt 9 = .ok (.iload_n 2, 1) := by decide +kernel
theorem dX4_orderAt_10 : decode cX4_orderAt 10 = .ok (.invokevirtual 80, 3) := by decide +kernel
theorem dX4_orderAt_13 : decode cX4_orderAt 13 = .ok (.ifCond .ne 13, 3) := by decide +kernel
theorem dX4_orderAt_16 : decode cX4_orderAt 16 = .ok (.aload_n 0, 1) := by decide +kernel
theorem dX4_orderAt_17 : decode cX4_orderAt 17 = .ok (.getfield 32, 3) := by decide +kernel
theorem dX4_orderAt_20 : decode cX4_orderAt 20 = .ok (.iload_n 3, 1) := by decide +kernel
theorem dX4_orderAt_21 : decode cX4_orderAt 21 = .ok (.iaload, 1) := by decide +kernel
theorem dX4_orderAt_22 : decode cX4_orderAt 22 = .ok (.istore_n 3, 1) := by decide +kernel
theorem dX4_orderAt_23 : decode cX4_orderAt 23 = .ok (.goto (-21), 3) := by decide +kernel
theorem dX4_orderAt_26 : decode cX4_orderAt 26 = .ok (.iload_n 3, 1) := by decide +kernel
theorem dX4_orderAt_27 : decode cX4_orderAt 27 = .ok (.iconst (-1), 1) := by decide +kernel
theorem dX4_orderAt_28 : decode cX4_orderAt 28 = .ok (.if_icmp .ne 7, 3) := by decide +kernel
theorem dX4_orderAt_31 : decode cX4_orderAt 31 = .ok (.iconst 0, 1) := by decide +kernel
theorem dX4_orderAt_32 : decode cX4_orderAt 32 = .ok (.goto 14, 3) := by decide +kernel
theorem dX4_orderAt_35 : decode cX4_orderAt 35 = .ok (.aload_n 0, 1) := by decide +kernel
theorem dX4_orderAt_36 : decode cX4_orderAt 36 = .ok (.getfield 41, 3) := by decide +kernel
theorem dX4_orderAt_39 : decode cX4_orderAt 39 = .ok (.bipush 30, 2) := by decide +kernel
theorem dX4_orderAt_41 : decode cX4_orderAt 41 = .ok (.iload_n 3, 1) := by decide +kernel
theorem dX4_orderAt_42 : decode cX4_orderAt 42 = .ok (.imul, 1) := by decide +kernel
theorem dX4_orderAt_43 : decode cX4_orderAt 43 = .ok (.iload_n 2, 1) := by decide +kernel
theorem dX4_orderAt_44 : decode cX4_orderAt 44 = .ok (.iadd, 1) := by decide +kernel
theorem dX4_orderAt_45 : decode cX4_orderAt 45 = .ok (.iaload, 1) := by decide +kernel
theorem dX4_orderAt_46 : decode cX4_orderAt 46 = .ok (.ireturn, 1) := by decide +kernel
set_option maxRecDepth 20000 in
theorem ggX4_orderOf_X4_isLine : GoodIn wsX4_orderOf wsX4_isLine := goodIn_r _ [5, 6, 7, 8, 4, 9, 28, 29, 30, 31, 32, 33, 34, 35, 36, 37, 38, 39, 40, 41, 42, 43, 44, 45] (by decide +kernel) (by decide +kernel)
set_option maxRecDepth 20000 in
theorem gX4_orderOf_X4_isLine : GoodIn wsX4_orderOf (wsV RX4 74 RX4 yX4_isLine wsX4_isLine) := goodIn_app (goodIn_of _ (by decide +kernel)) ggX4_orderOf_X4_isLine
set_option maxRecDepth 20000 in
theorem ggX4_orderOf_X4_isTurn : GoodIn wsX4_orderOf wsX4_isTurn := goodIn_r _ [12, 7, 8, 4, 9] (by decide +kernel) (by decide +kernel)
set_option maxRecDepth 20000 in
theorem gX4_orderOf_X4_isTurn : GoodIn wsX4_orderOf (va_wsS RX4 64 yX4_isTurn wsX4_isTurn) := goodIn_app (goodIn_of _ (by decide +kernel)) ggX4_orderOf_X4_isTurn
set_option maxRecDepth 20000 in
theorem ggX4_orderOf_X4_fails : GoodIn wsX4_orderOf wsX4_fails := goodIn_r _ [16, 17, 28, 29, 30, 31, 32, 33, 34, 35, 36, 37, 38, 39, 40, 41, 42, 43, 44, 45] (by decide +kernel) (by decide +kernel)
set_option maxRecDepth 20000 in
theorem gX4_orderOf_X4_fails : GoodIn wsX4_orderOf (wsV RX4 68 RX4 yX4_fails wsX4_fails) := goodIn_app (goodIn_of _ (by decide +kernel)) ggX4_orderOf_X4_fails
set_option maxRecDepth 20000 in
theorem ggX4_orderOf_X4_orderAt : GoodIn wsX4_orderOf wsX4_orderAt := goodIn_r _ [21, 22, 23, 24, 25, 26, 4, 27, 28, 29, 30, 31, 32, 33, 34, 35, 36, 37, 38, 39, 40, 41, 42, 43, 44, 45] (by decide +kernel) (by decide +kernel)
set_option maxRecDepth 20000 in
theorem gX4_orderOf_X4_orderAt : GoodIn wsX4_orderOf (wsV RX4 87 RX4 yX4_orderAt wsX4_orderAt) := goodIn_app (goodIn_of _ (by decide +kernel)) ggX4_orderOf_X4_orderAt
theorem dX4_orderOf_0 : decode cX4_orderOf 0 = .ok (.aload_n 0, 1) := by decide +kernel
theorem dX4_orderOf_1 : decode cX4_orderOf 1 = .ok (.aload_n 0, 1) := by decide +kernel
theorem dX4_orderOf_2 : decode cX4_orderOf 2 = .ok (.iload_n 1, 1) := by decide +kernel
theorem dX4_orderOf_3 : decode cX4_orderOf 3 = .ok (.invokevirtual 74, 3) := by decide +kernel
theorem dX4_orderOf_6 : decode cX4_orderOf 6 = .ok (.ifCond .eq 14, 3) := by decide +kernel
theorem dX4_orderOf_9 : decode cX4_orderOf 9 = .ok (.iload_n 2, 1) := by decide +kernel
theorem dX4_orderOf_10 : decode cX4_orderOf 10 = .ok (.invokestatic 64, 3) := by decide +kernel
theorem dX4_orderOf_13 : decode cX4_orderOf 13 = .ok (.ifCond .eq 7, 3) := by decide +kernel
theorem dX4_orderOf_16 : decode cX4_orderOf 16 = .ok (.iconst 0, 1) := by decide +kernel
theorem dX4_orderOf_17 : decode cX4_orderOf 17 = .ok (.goto 4, 3) := by decide +kernel
theorem dX4_orderOf_20 : decode cX4_orderOf 20 = .ok (.iconst 1, 1) := by decide +kernel
theorem dX4_orderOf_21 : decode cX4_orderOf 21 = .ok (.invokevirtual 68, 3) := by decide +kernel
theorem dX4_orderOf_24 : decode cX4_orderOf 24 = .ok (.ifCond .eq 7, 3) := by decide +kernel
theorem dX4_orderOf_27 : decode cX4_orderOf 27 = .ok (.iconst 0, 1) := by decide +kernel
theorem dX4_orderOf_28 : decode cX4_orderOf 28 = .ok (.goto 9, 3) := by decide +kernel
theorem dX4_orderOf_31 : decode cX4_orderOf 31 = .ok (.aload_n 0, 1) := by decide +kernel
theorem dX4_orderOf_32 : decode cX4_orderOf 32 = .ok (.iload_n 1, 1) := by decide +kernel
theorem dX4_orderOf_33 : decode cX4_orderOf 33 = .ok (.iload_n 2, 1) := by decide +kernel
theorem dX4_orderOf_34 : decode cX4_orderOf 34 = .ok (.invokevirtual 87, 3) := by decide +kernel
theorem dX4_orderOf_37 : decode cX4_orderOf 37 = .ok (.ireturn, 1) := by decide +kernel
set_option maxRecDepth 20000 in
theorem ggX4_differences_X4_isLine : GoodIn wsX4_differences wsX4_isLine := goodIn_r _ [5, 6, 7, 8, 4, 9, 25, 26, 27, 28, 29, 30, 31, 32, 33, 34, 35, 36, 37, 38, 39, 40, 41, 42] (by decide +kernel) (by decide +kernel)
set_option maxRecDepth 20000 in
theorem gX4_differences_X4_isLine : GoodIn wsX4_differences (wsV RX4 74 RX4 yX4_isLine wsX4_isLine) := goodIn_app (goodIn_of _ (by decide +kernel)) ggX4_differences_X4_isLine
set_option maxRecDepth 20000 in
theorem ggX4_differences_X4_fails : GoodIn wsX4_differences wsX4_fails := goodIn_r _ [13, 14, 25, 26, 27, 28, 29, 30, 31, 32, 33, 34, 35, 36, 37, 38, 39, 40, 41, 42] (by decide +kernel) (by decide +kernel)
set_option maxRecDepth 20000 in
theorem gX4_differences_X4_fails : GoodIn wsX4_differences (wsV RX4 68 RX4 yX4_fails wsX4_fails) := goodIn_app (goodIn_of _ (by decide +kernel)) ggX4_differences_X4_fails
set_option maxRecDepth 20000 in
theorem ggX4_differences_X4_orderAt : GoodIn wsX4_differences wsX4_orderAt := goodIn_r _ [18, 19, 20, 21, 22, 23, 4, 24, 25, 26, 27, 28, 29, 30, 31, 32, 33, 34, 35, 36, 37, 38, 39, 40, 41, 42] (by decide +kernel) (by decide +kernel)
set_option maxRecDepth 20000 in
theorem gX4_differences_X4_orderAt : GoodIn wsX4_differences (wsV RX4 87 RX4 yX4_orderAt wsX4_orderAt) := goodIn_app (goodIn_of _ (by decide +kernel)) ggX4_differences_X4_orderAt
theorem dX4_differences_0 : decode cX4_differences 0 = .ok (.aload_n 0, 1) := by decide +kernel
theorem dX4_differences_1 : decode cX4_differences 1 = .ok (.aload_n 0, 1) := by decide +kernel
theorem dX4_differences_2 : decode cX4_differences 2 = .ok (.iload_n 1, 1) := by decide +kernel
theorem dX4_differences_3 : decode cX4_differences 3 = .ok (.invokevirtual 74, 3) := by decide +kernel
theorem dX4_differences_6 : decode cX4_differences 6 = .ok (.ifCond .eq 15, 3) := by decide +kernel
theorem dX4_differences_9 : decode cX4_differences 9 = .ok (.aload_n 0, 1) := by decide +kernel
theorem dX4_differences_10 : decode cX4_differences 10 = .ok (.iload_n 2, 1) := by decide +kernel
theorem dX4_differences_11 : decode cX4_differences 11 = .ok (.invokevirtual 74, 3) := by decide +kernel
theorem dX4_differences_14 : decode cX4_differences 14 = .ok (.ifCond .eq 7, 3) := by decide +kernel
theorem dX4_differences_17 : decode cX4_differences 17 = .ok (.iconst 0, 1) := by decide +kernel
theorem dX4_differences_18 : decode cX4_differences 18 = .ok (.goto 4, 3) := by decide +kernel
theorem dX4_differences_21 : decode cX4_differences 21 = .ok (.iconst 1, 1) := by decide +kernel
theorem dX4_differences_22 : decode cX4_differences 22 = .ok (.invokevirtual 68, 3) := by decide +kernel
theorem dX4_differences_25 : decode cX4_differences 25 = .ok (.ifCond .eq 5, 3) := by decide +kernel
theorem dX4_differences_28 : decode cX4_differences 28 = .ok (.iconst 0, 1) := by decide +kernel
theorem dX4_differences_29 : decode cX4_differences 29 = .ok (.ireturn, 1) := by decide +kernel
theorem dX4_differences_30 : decode cX4_differences 30 = .ok (.iconst 0, 1) := by decide +kernel
theorem dX4_differences_31 : decode cX4_differences 31 = .ok (.istore_n 3, 1) := by decide +kernel
theorem dX4_differences_32 : decode cX4_differences 32 = .ok (.iconst 0, 1) := by decide +kernel
theorem dX4_differences_33 : decode cX4_differences 33 = .ok (.istore 4, 2) := by decide +kernel
theorem dX4_differences_35 : decode cX4_differences 35 = .ok (.iload 4, 2) := by decide +kernel
theorem dX4_differences_37 : decode cX4_differences 37 = .ok (.bipush 30, 2) := by decide +kernel
theorem dX4_differences_39 : decode cX4_differences 39 = .ok (.if_icmp .ge 37, 3) := by decide +kernel
theorem dX4_differences_42 : decode cX4_differences 42 = .ok (.iload_n 3, 1) := by decide +kernel
theorem dX4_differences_43 : decode cX4_differences 43 = .ok (.aload_n 0, 1) := by decide +kernel
theorem dX4_differences_44 : decode cX4_differences 44 = .ok (.iload_n 1, 1) := by decide +kernel
theorem dX4_differences_45 : decode cX4_differences 45 = .ok (.iload 4, 2) := by decide +kernel
theorem dX4_differences_47 : decode cX4_differences 47 = .ok (.invokevirtual 87, 3) := by decide +kernel
theorem dX4_differences_50 : decode cX4_differences 50 = .ok (.aload_n 0, 1) := by decide +kernel
theorem dX4_differences_51 : decode cX4_differences 51 = .ok (.iload_n 2, 1) := by decide +kernel
theorem dX4_differences_52 : decode cX4_differences 52 = .ok (.iload 4, 2) := by decide +kernel
theorem dX4_differences_54 : decode cX4_differences 54 = .ok (.invokevirtual 87, 3) := by decide +kernel
theorem dX4_differences_57 : decode cX4_differences 57 = .ok (.if_icmp .ne 7, 3) := by decide +kernel
theorem dX4_differences_60 : decode cX4_differences 60 = .ok (.iconst 0, 1) := by decide +kernel
theorem dX4_differences_61 : decode cX4_differences 61 = .ok (.goto 7, 3) := by decide +kernel
theorem dX4_differences_64 : decode cX4_differences 64 = .ok (.iconst 1, 1) := by decide +kernel
theorem dX4_differences_65 : decode cX4_differences 65 = .ok (.iload 4, 2) := by decide +kernel
theorem dX4_differences_67 : decode cX4_differences 67 = .ok (.ishl, 1) := by decide +kernel
theorem dX4_differences_68 : decode cX4_differences 68 = .ok (.ior, 1) := by decide +kernel
theorem dX4_differences_69 : decode cX4_differences 69 = .ok (.istore_n 3, 1) := by decide +kernel
theorem dX4_differences_70 : decode cX4_differences 70 = .ok (.iinc 4 1, 3) := by decide +kernel
theorem dX4_differences_73 : decode cX4_differences 73 = .ok (.goto (-38), 3) := by decide +kernel
theorem dX4_differences_76 : decode cX4_differences 76 = .ok (.iload_n 3, 1) := by decide +kernel
theorem dX4_differences_77 : decode cX4_differences 77 = .ok (.ireturn, 1) := by decide +kernel
end
section
theorem dX4_can_0 : decode cX4_can 0 = .ok (.iload 4, 2) := by decide +kernel
theorem dX4_can_2 : decode cX4_can 2 = .ok (.iconst 4, 1) := by decide +kernel
theorem dX4_can_3 : decode cX4_can 3 = .ok (.irem, 1) := by decide +kernel
theorem dX4_can_4 : decode cX4_can 4 = .ok (.iconst 3, 1) := by decide +kernel
theorem dX4_can_5 : decode cX4_can 5 = .ok (.if_icmp .ne 7, 3) := by decide +kernel
theorem dX4_can_8 : decode cX4_can 8 = .ok (.iconst 1, 1) := by decide +kernel
theorem dX4_can_9 : decode cX4_can 9 = .ok (.goto 7, 3) := by decide +kernel
theorem dX4_can_12 : decode cX4_can 12 = .ok (.iload 4, 2) := by decide +kernel
theorem dX4_can_14 : decode cX4_can 14 = .ok (.iconst 4, 1) := by decide +kernel
theorem dX4_can_15 : decode cX4_can 15 = .ok (.irem, 1) := by decide +kernel
theorem dX4_can_16 : decode cX4_can 16 = .ok (.istore 5, 2) := by decide +kernel
theorem dX4_can_18 : decode cX4_can 18 = .ok (.iload 5, 2) := by decide +kernel
theorem dX4_can_20 : decode cX4_can 20 = .ok (.aload_n 0, 1) := by decide +kernel
theorem dX4_can_21 : decode cX4_can 21 = .ok (.getfield 13, 3) := by decide +kernel
theorem dX4_can_24 : decode cX4_can 24 = .ok (.iload_n 2, 1) := by decide +kernel
theorem dX4_can_25 : decode cX4_can 25 = .ok (.iaload, 1) := by decide +kernel
theorem dX4_can_26 : decode cX4_can 26 = .ok (.if_icmp .ge 5, 3) := by decide +kernel
theorem dX4_can_29 : decode cX4_can 29 = .ok (.iconst 0, 1) := by decide +kernel
theorem dX4_can_30 : decode cX4_can 30 = .ok (.ireturn, 1) := by decide +kernel
theorem dX4_can_31 : decode cX4_can 31 = .ok (.iload_n 1, 1) := by decide +kernel
theorem dX4_can_32 : decode cX4_can 32 = .ok (.iconst 2, 1) := by decide +kernel
theorem dX4_can_33 : decode cX4_can 33 = .ok (.if_icmp .ne 27, 3) := by decide +kernel
theorem dX4_can_36 : decode cX4_can 36 = .ok (.aload_n 0, 1) := by decide +kernel
theorem dX4_can_37 : decode cX4_can 37 = .ok (.getfield 48, 3) := by decide +kernel
theorem dX4_can_40 : decode cX4_can 40 = .ok (.iload_n 2, 1) := by decide +kernel
theorem dX4_can_41 : decode cX4_can 41 = .ok (.iaload, 1) := by decide +kernel
theorem dX4_can_42 : decode cX4_can 42 = .ok (.ifCond .lt 16, 3) := by decide +kernel
theorem dX4_can_45 : decode cX4_can 45 = .ok (.aload_n 0, 1) := by decide +kernel
theorem dX4_can_46 : decode cX4_can 46 = .ok (.getfield 51, 3) := by decide +kernel
theorem dX4_can_49 : decode cX4_can 49 = .ok (.iload_n 2, 1) := by decide +kernel
theorem dX4_can_50 : decode cX4_can 50 = .ok (.iaload, 1) := by decide +kernel
theorem dX4_can_51 : decode cX4_can 51 = .ok (.ifCond .ne 7, 3) := by decide +kernel
theorem dX4_can_54 : decode cX4_can 54 = .ok (.iconst 1, 1) := by decide +kernel
theorem dX4_can_55 : decode cX4_can 55 = .ok (.goto 4, 3) := by decide +kernel
theorem dX4_can_58 : decode cX4_can 58 = .ok (.iconst 0, 1) := by decide +kernel
theorem dX4_can_59 : decode cX4_can 59 = .ok (.ireturn, 1) := by decide +kernel
theorem dX4_can_60 : decode cX4_can 60 = .ok (.aload_n 0, 1) := by decide +kernel
theorem dX4_can_61 : decode cX4_can 61 = .ok (.getfield 48, 3) := by decide +kernel
theorem dX4_can_64 : decode cX4_can 64 = .ok (.iload_n 2, 1) := by decide +kernel
theorem dX4_can_65 : decode cX4_can 65 = .ok (.iaload, 1) := by decide +kernel
theorem dX4_can_66 : decode cX4_can 66 = .ok (.iconst (-1), 1) := by decide +kernel
theorem dX4_can_67 : decode cX4_can 67 = .ok (.if_icmp .ne 7, 3) := by decide +kernel
theorem dX4_can_70 : decode cX4_can 70 = .ok (.iconst 1, 1) := by decide +kernel
theorem dX4_can_71 : decode cX4_can 71 = .ok (.goto 4, 3) := by decide +kernel
theorem dX4_can_74 : decode cX4_can 74 = .ok (.iconst 0, 1) := by decide +kernel
theorem dX4_can_75 : decode cX4_can 75 = .ok (.istore 6, 2) := by decide +kernel
theorem dX4_can_77 : decode cX4_can 77 = .ok (.iconst 0, 1) := by decide +kernel
theorem dX4_can_78 : decode cX4_can 78 = .ok (.istore 7, 2) := by decide +kernel
theorem dX4_can_80 : decode cX4_can 80 = .ok (.iload 7, 2) := by decide +kernel
theorem dX4_can_82 : decode cX4_can 82 = .ok (.aload_n 0, 1) := by decide +kernel
theorem dX4_can_83 : decode cX4_can 83 = .ok (.getfield 57, 3) := by decide +kernel
theorem dX4_can_86 : decode cX4_can 86 = .ok (.if_icmp .ge 32, 3) := by decide +kernel
theorem dX4_can_89 : decode cX4_can 89 = .ok (.iload 6, 2) := by decide +kernel
theorem dX4_can_91 : decode cX4_can 91 = .ok (.ifCond .eq 18, 3) := by decide +kernel
theorem dX4_can_94 : decode cX4_can 94 = .ok (.aload_n 0, 1) := by decide +kernel
theorem dX4_can_95 : decode cX4_can 95 = .ok (.getfield 48, 3) := by decide +kernel
theorem dX4_can_98 : decode cX4_can 98 = .ok (.iload 7, 2) := by decide +kernel
theorem dX4_can_100 : decode cX4_can 100 = .ok (.iaload, 1) := by decide +kernel
theorem dX4_can_101 : decode cX4_can 101 = .ok (.iload_n 3, 1) := by decide +kernel
theorem dX4_can_102 : decode cX4_can 102 = .ok (.if_icmp .eq 7, 3) := by decide +kernel
theorem dX4_can_105 : decode cX4_can 105 = .ok (.iconst 1, 1) := by decide +kernel
theorem dX4_can_106 : decode cX4_can 106 = .ok (.goto 4, 3) := by decide +kernel
theorem dX4_can_109 : decode cX4_can 109 = .ok (.iconst 0, 1) := by decide +kernel
theorem dX4_can_110 : decode cX4_can 110 = .ok (.istore 6, 2) := by decide +kernel
theorem dX4_can_112 : decode cX4_can 112 = .ok (.iinc 7 1, 3) := by decide +kernel
theorem dX4_can_115 : decode cX4_can 115 = .ok (.goto (-35), 3) := by decide +kernel
theorem dX4_can_118 : decode cX4_can 118 = .ok (.iload 6, 2) := by decide +kernel
theorem dX4_can_120 : decode cX4_can 120 = .ok (.ireturn, 1) := by decide +kernel
set_option maxRecDepth 20000 in
theorem ggX4_does_X4_can : GoodIn wsX4_does wsX4_can := goodIn_r _ [7, 8, 2, 9, 10, 11, 12, 13, 14, 15, 16, 17, 18, 19, 20, 21, 22, 23, 24, 25, 26, 27, 28] (by decide +kernel) (by decide +kernel)
set_option maxRecDepth 20000 in
theorem gX4_does_X4_can : GoodIn wsX4_does (wsV RX4 91 RX4 yX4_can wsX4_can) := goodIn_app (goodIn_of _ (by decide +kernel)) ggX4_does_X4_can
theorem dX4_does_0 : decode cX4_does 0 = .ok (.iload_n 1, 1) := by decide +kernel
theorem dX4_does_1 : decode cX4_does 1 = .ok (.bipush 100, 2) := by decide +kernel
theorem dX4_does_3 : decode cX4_does 3 = .ok (.idiv, 1) := by decide +kernel
theorem dX4_does_4 : decode cX4_does 4 = .ok (.istore_n 3, 1) := by decide +kernel
theorem dX4_does_5 : decode cX4_does 5 = .ok (.iload_n 1, 1) := by decide +kernel
theorem dX4_does_6 : decode cX4_does 6 = .ok (.bipush 10, 2) := by decide +kernel
theorem dX4_does_8 : decode cX4_does 8 = .ok (.idiv, 1) := by decide +kernel
theorem dX4_does_9 : decode cX4_does 9 = .ok (.bipush 10, 2) := by decide +kernel
theorem dX4_does_11 : decode cX4_does 11 = .ok (.irem, 1) := by decide +kernel
theorem dX4_does_12 : decode cX4_does 12 = .ok (.istore 4, 2) := by decide +kernel
theorem dX4_does_14 : decode cX4_does 14 = .ok (.iload_n 3, 1) := by decide +kernel
theorem dX4_does_15 : decode cX4_does 15 = .ok (.ifCond .ne 4, 3) := by decide +kernel
theorem dX4_does_18 : decode cX4_does 18 = .ok (.return_, 1) := by decide +kernel
theorem dX4_does_19 : decode cX4_does 19 = .ok (.aload_n 0, 1) := by decide +kernel
theorem dX4_does_20 : decode cX4_does 20 = .ok (.iload_n 3, 1) := by decide +kernel
theorem dX4_does_21 : decode cX4_does 21 = .ok (.iload 4, 2) := by decide +kernel
theorem dX4_does_23 : decode cX4_does 23 = .ok (.iload_n 1, 1) := by decide +kernel
theorem dX4_does_24 : decode cX4_does 24 = .ok (.bipush 10, 2) := by decide +kernel
theorem dX4_does_26 : decode cX4_does 26 = .ok (.irem, 1) := by decide +kernel
theorem dX4_does_27 : decode cX4_does 27 = .ok (.iload_n 2, 1) := by decide +kernel
theorem dX4_does_28 : decode cX4_does 28 = .ok (.invokevirtual 91, 3) := by decide +kernel
theorem dX4_does_31 : decode cX4_does 31 = .ok (.ifCond .ne 16, 3) := by decide +kernel
theorem dX4_does_34 : decode cX4_does 34 = .ok (.aload_n 0, 1) := by decide +kernel
theorem dX4_does_35 : decode cX4_does 35 = .ok (.dup, 1) := by decide +kernel
theorem dX4_does_36 : decode cX4_does 36 = .ok (.getfield 95, 3) := by decide +kernel
theorem dX4_does_39 : decode cX4_does 39 = .ok (.iconst 1, 1) := by decide +kernel
theorem dX4_does_40 : decode cX4_does 40 = .ok (.iload_n 2, 1) := by decide +kernel
theorem dX4_does_41 : decode cX4_does 41 = .ok (.ishl, 1) := by decide +kernel
theorem dX4_does_42 : decode cX4_does 42 = .ok (.ior, 1) := by decide +kernel
theorem dX4_does_43 : decode cX4_does 43 = .ok (.putfield 95, 3) := by decide +kernel
theorem dX4_does_46 : decode cX4_does 46 = .ok (.return_, 1) := by decide +kernel
theorem dX4_does_47 : decode cX4_does 47 = .ok (.aload_n 0, 1) := by decide +kernel
theorem dX4_does_48 : decode cX4_does 48 = .ok (.getfield 48, 3) := by decide +kernel
theorem dX4_does_51 : decode cX4_does 51 = .ok (.iload 4, 2) := by decide +kernel
theorem dX4_does_53 : decode cX4_does 53 = .ok (.iload_n 3, 1) := by decide +kernel
theorem dX4_does_54 : decode cX4_does 54 = .ok (.iconst 1, 1) := by decide +kernel
theorem dX4_does_55 : decode cX4_does 55 = .ok (.if_icmp .ne 10, 3) := by decide +kernel
theorem dX4_does_58 : decode cX4_does 58 = .ok (.iload_n 1, 1) := by decide +kernel
theorem dX4_does_59 : decode cX4_does 59 = .ok (.bipush 10, 2) := by decide +kernel
theorem dX4_does_61 : decode cX4_does 61 = .ok (.irem, 1) := by decide +kernel
theorem dX4_does_62 : decode cX4_does 62 = .ok (.goto 5, 3) := by decide +kernel
theorem dX4_does_65 : decode cX4_does 65 = .ok (.bipush (-3), 2) := by decide +kernel
theorem dX4_does_67 : decode cX4_does 67 = .ok (.iastore, 1) := by decide +kernel
theorem dX4_does_68 : decode cX4_does 68 = .ok (.return_, 1) := by decide +kernel
set_option maxRecDepth 20000 in
theorem ggX4_plays_X4_orderAt : GoodIn wsX4_plays wsX4_orderAt := goodIn_r _ [15, 16, 17, 18, 19, 20, 14, 21, 31, 32, 33, 34, 35, 36, 37, 38, 39, 40, 41, 42, 43, 44, 45, 46, 47, 48] (by decide +kernel) (by decide +kernel)
set_option maxRecDepth 20000 in
theorem gX4_plays_X4_orderAt : GoodIn wsX4_plays (wsV RX4 87 RX4 yX4_orderAt wsX4_orderAt) := goodIn_app (goodIn_of _ (by decide +kernel)) ggX4_plays_X4_orderAt
set_option maxRecDepth 20000 in
theorem ggX4_plays_X4_does : GoodIn wsX4_plays wsX4_does := goodIn_r _ [25, 2, 4, 26, 27, 28, 14, 29, 30, 5, 3, 31, 32, 33, 34, 35, 36, 37, 38, 39, 40, 41, 42, 43, 44, 45, 46, 47, 48] (by decide +kernel) (by decide +kernel)
set_option maxRecDepth 20000 in
theorem gX4_plays_X4_does : GoodIn wsX4_plays (wsV RX4 101 RX4 yX4_does wsX4_does) := goodIn_app (goodIn_of _ (by decide +kernel)) ggX4_plays_X4_does
theorem dX4_plays_0 : decode cX4_plays 0 = .ok (.aload_n 0, 1) := by decide +kernel
theorem dX4_plays_1 : decode cX4_plays 1 = .ok (.iconst 0, 1) := by decide +kernel
theorem dX4_plays_2 : decode cX4_plays 2 = .ok (.putfield 98, 3) := by decide +kernel
theorem dX4_plays_5 : decode cX4_plays 5 = .ok (.aload_n 0, 1) := by decide +kernel
theorem dX4_plays_6 : decode cX4_plays 6 = .ok (.iconst 0, 1) := by decide +kernel
theorem dX4_plays_7 : decode cX4_plays 7 = .ok (.putfield 95, 3) := by decide +kernel
theorem dX4_plays_10 : decode cX4_plays 10 = .ok (.iconst 0, 1) := by decide +kernel
theorem dX4_plays_11 : decode cX4_plays 11 = .ok (.istore_n 3, 1) := by decide +kernel
theorem dX4_plays_12 : decode cX4_plays 12 = .ok (.iload_n 3, 1) := by decide +kernel
theorem dX4_plays_13 : decode cX4_plays 13 = .ok (.aload_n 0, 1) := by decide +kernel
theorem dX4_plays_14 : decode cX4_plays 14 = .ok (.getfield 57, 3) := by decide +kernel
theorem dX4_plays_17 : decode cX4_plays 17 = .ok (.if_icmp .ge 29, 3) := by decide +kernel
theorem dX4_plays_20 : decode cX4_plays 20 = .ok (.aload_n 0, 1) := by decide +kernel
theorem dX4_plays_21 : decode cX4_plays 21 = .ok (.getfield 48, 3) := by decide +kernel
theorem dX4_plays_24 : decode cX4_plays 24 = .ok (.iload_n 3, 1) := by decide +kernel
theorem dX4_plays_25 : decode cX4_plays 25 = .ok (.bipush (-2), 2) := by decide +kernel
theorem dX4_plays_27 : decode cX4_plays 27 = .ok (.iastore, 1) := by decide +kernel
theorem dX4_plays_28 : decode cX4_plays 28 = .ok (.aload_n 0, 1) := by decide +kernel
theorem dX4_plays_29 : decode cX4_plays 29 = .ok (.getfield 51, 3) := by decide +kernel
theorem dX4_plays_32 : decode cX4_plays 32 = .ok (.iload_n 3, 1) := by decide +kernel
theorem dX4_plays_33 : decode cX4_plays 33 = .ok (.aload_n 0, 1) := by decide +kernel
theorem dX4_plays_34 : decode cX4_plays 34 = .ok (.getfield 16, 3) := by decide +kernel
theorem dX4_plays_37 : decode cX4_plays 37 = .ok (.iload_n 3, 1) := by decide +kernel
theorem dX4_plays_38 : decode cX4_plays 38 = .ok (.iaload, 1) := by decide +kernel
theorem dX4_plays_39 : decode cX4_plays 39 = .ok (.iastore, 1) := by decide +kernel
theorem dX4_plays_40 : decode cX4_plays 40 = .ok (.iinc 3 1, 3) := by decide +kernel
theorem dX4_plays_43 : decode cX4_plays 43 = .ok (.goto (-31), 3) := by decide +kernel
theorem dX4_plays_46 : decode cX4_plays 46 = .ok (.iconst 0, 1) := by decide +kernel
theorem dX4_plays_47 : decode cX4_plays 47 = .ok (.istore_n 3, 1) := by decide +kernel
theorem dX4_plays_48 : decode cX4_plays 48 = .ok (.iload_n 3, 1) := by decide +kernel
theorem dX4_plays_49 : decode cX4_plays 49 = .ok (.iload_n 2, 1) := by decide +kernel
theorem dX4_plays_50 : decode cX4_plays 50 = .ok (.if_icmp .gt 197, 3) := by decide +kernel
theorem dX4_plays_53 : decode cX4_plays 53 = .ok (.iconst 0, 1) := by decide +kernel
theorem dX4_plays_54 : decode cX4_plays 54 = .ok (.istore 4, 2) := by decide +kernel
theorem dX4_plays_56 : decode cX4_plays 56 = .ok (.iload 4, 2) := by decide +kernel
theorem dX4_plays_58 : decode cX4_plays 58 = .ok (.aload_n 0, 1) := by decide +kernel
theorem dX4_plays_59 : decode cX4_plays 59 = .ok (.getfield 57, 3) := by decide +kernel
theorem dX4_plays_62 : decode cX4_plays 62 = .ok (.if_icmp .ge 38, 3) := by decide +kernel
theorem dX4_plays_65 : decode cX4_plays 65 = .ok (.aload_n 0, 1) := by decide +kernel
theorem dX4_plays_66 : decode cX4_plays 66 = .ok (.getfield 48, 3) := by decide +kernel
theorem dX4_plays_69 : decode cX4_plays 69 = .ok (.iload 4, 2) := by decide +kernel
theorem dX4_plays_71 : decode cX4_plays 71 = .ok (.aload_n 0, 1) := by decide +kernel
theorem dX4_plays_72 : decode cX4_plays 72 = .ok (.getfield 7, 3) := by decide +kernel
theorem dX4_plays_75 : decode cX4_plays 75 = .ok (.iload 4, 2) := by decide +kernel
theorem dX4_plays_77 : decode cX4_plays 77 = .ok (.iaload, 1) := by decide +kernel
theorem dX4_plays_78 : decode cX4_plays 78 = .ok (.iload_n 3, 1) := by decide +kernel
theorem dX4_plays_79 : decode cX4_plays 79 = .ok (.if_icmp .ne 7, 3) := by decide +kernel
theorem dX4_plays_82 : decode cX4_plays 82 = .ok (.iconst (-1), 1) := by decide +kernel
theorem dX4_plays_83 : decode cX4_plays 83 = .ok (.goto 10, 3) := by decide +kernel
theorem dX4_plays_86 : decode cX4_plays 86 = .ok (.aload_n 0, 1) := by decide +kernel
theorem dX4_plays_87 : decode cX4_plays 87 = .ok (.getfield 48, 3) := by decide +kernel
theorem dX4_plays_90 : decode cX4_plays 90 = .ok (.iload 4, 2) := by decide +kernel
theorem dX4_plays_92 : decode cX4_plays 92 = .ok (.iaload, 1) := by decide +kernel
theorem dX4_plays_93 : decode cX4_plays 93 = .ok (.iastore, 1) := by decide +kernel
theorem dX4_plays_94 : decode cX4_plays 94 = .ok (.iinc 4 1, 3) := by decide +kernel
theorem dX4_plays_97 : decode cX4_plays 97 = .ok (.goto (-41), 3) := by decide +kernel
theorem dX4_plays_100 : decode cX4_plays 100 = .ok (.aload_n 0, 1) := by decide +kernel
theorem dX4_plays_101 : decode cX4_plays 101 = .ok (.aload_n 0, 1) := by decide +kernel
theorem dX4_plays_102 : decode cX4_plays 102 = .ok (.iload_n 1, 1) := by decide +kernel
theorem dX4_plays_103 : decode cX4_plays 103 = .ok (.iload_n 3, 1) := by decide +kernel
theorem dX4_plays_104 : decode cX4_plays 104 = .ok (.invokevirtual 87, 3) := by decide +kernel
theorem dX4_plays_107 : decode cX4_plays 107 = .ok (.iload_n 3, 1) := by decide +kernel
theorem dX4_plays_108 : decode cX4_plays 108 = .ok (.invokevirtual 101, 3) := by decide +kernel
theorem dX4_plays_111 : decode cX4_plays 111 = .ok (.iconst 0, 1) := by decide +kernel
theorem dX4_plays_112 : decode cX4_plays 112 = .ok (.istore 4, 2) := by decide +kernel
theorem dX4_plays_114 : decode cX4_plays 114 = .ok (.iload 4, 2) := by decide +kernel
theorem dX4_plays_116 : decode cX4_plays 116 = .ok (.aload_n 0, 1) := by decide +kernel
theorem dX4_plays_117 : decode cX4_plays 117 = .ok (.getfield 57, 3) := by decide +kernel
theorem dX4_plays_120 : decode cX4_plays 120 = .ok (.if_icmp .ge 121, 3) := by decide +kernel
theorem dX4_plays_123 : decode cX4_plays 123 = .ok (.aload_n 0, 1) := by decide +kernel
theorem dX4_plays_124 : decode cX4_plays 124 = .ok (.getfield 48, 3) := by decide +kernel
theorem dX4_plays_127 : decode cX4_plays 127 = .ok (.iload 4, 2) := by decide +kernel
theorem dX4_plays_129 : decode cX4_plays 129 = .ok (.iaload, 1) := by decide +kernel
theorem dX4_plays_130 : decode cX4_plays 130 = .ok (.ifCond .lt 77, 3) := by decide +kernel
theorem dX4_plays_133 : decode cX4_plays 133 = .ok (.aload_n 0, 1) := by decide +kernel
theorem dX4_plays_134 : decode cX4_plays 134 = .ok (.getfield 51, 3) := by decide +kernel
theorem dX4_plays_137 : decode cX4_plays 137 = .ok (.iload 4, 2) := by decide +kernel
theorem dX4_plays_139 : decode cX4_plays 139 = .ok (.iaload, 1) := by decide +kernel
theorem dX4_plays_140 : decode cX4_plays 140 = .ok (.aload_n 0, 1) := by decide +kernel
theorem dX4_plays_141 : decode cX4_plays 141 = .ok (.getfield 19, 3) := by decide +kernel
theorem dX4_plays_144 : decode cX4_plays 144 = .ok (.aload_n 0, 1) := by decide +kernel
theorem dX4_plays_145 : decode cX4_plays 145 = .ok (.getfield 48, 3) := by decide +kernel
theorem dX4_plays_148 : decode cX4_plays 148 = .ok (.iload 4, 2) := by decide +kernel
theorem dX4_plays_150 : decode cX4_plays 150 = .ok (.iaload, 1) := by decide +kernel
theorem dX4_plays_151 : decode cX4_plays 151 = .ok (.iaload, 1) := by decide +kernel
theorem dX4_plays_152 : decode cX4_plays 152 = .ok (.if_icmp .ge 13, 3) := by decide +kernel
theorem dX4_plays_155 : decode cX4_plays 155 = .ok (.aload_n 0, 1) := by decide +kernel
theorem dX4_plays_156 : decode cX4_plays 156 = .ok (.getfield 51, 3) := by decide +kernel
theorem dX4_plays_159 : decode cX4_plays 159 = .ok (.iload 4, 2) := by decide +kernel
theorem dX4_plays_161 : decode cX4_plays 161 = .ok (.iaload, 1) := by decide +kernel
theorem dX4_plays_162 : decode cX4_plays 162 = .ok (.goto 15, 3) := by decide +kernel
theorem dX4_plays_165 : decode cX4_plays 165 = .ok (.aload_n 0, 1) := by decide +kernel
theorem dX4_plays_166 : decode cX4_plays 166 = .ok (.getfield 19, 3) := by decide +kernel
theorem dX4_plays_169 : decode cX4_plays 169 = .ok (.aload_n 0, 1) := by decide +kernel
theorem dX4_plays_170 : decode cX4_plays 170 = .ok (.getfield 48, 3) := by decide +kernel
theorem dX4_plays_173 : decode cX4_plays 173 = .ok (.iload 4, 2) := by decide +kernel
theorem dX4_plays_175 : decode cX4_plays 175 = .ok (.iaload, 1) := by decide +kernel
theorem dX4_plays_176 : decode cX4_plays 176 = .ok (.iaload, 1) := by decide +kernel
theorem dX4_plays_177 : decode cX4_plays 177 = .ok (.istore 5, 2) := by decide +kernel
theorem dX4_plays_179 : decode cX4_plays 179 = .ok (.aload_n 0, 1) := by decide +kernel
theorem dX4_plays_180 : decode cX4_plays 180 = .ok (.getfield 51, 3) := by decide +kernel
theorem dX4_plays_183 : decode cX4_plays 183 = .ok (.iload 4, 2) := by decide +kernel
theorem dX4_plays_185 : decode cX4_plays 185 = .ok (.dup2, 1) := by decide +kernel
theorem dX4_plays_186 : decode cX4_plays 186 = .ok (.iaload, 1) := by decide +kernel
theorem dX4_plays_187 : decode cX4_plays 187 = .ok (.iload 5, 2) := by decide +kernel
theorem dX4_plays_189 : decode cX4_plays 189 = .ok (.isub, 1) := by decide +kernel
theorem dX4_plays_190 : decode cX4_plays 190 = .ok (.iastore, 1) := by decide +kernel
theorem dX4_plays_191 : decode cX4_plays 191 = .ok (.aload_n 0, 1) := by decide +kernel
theorem dX4_plays_192 : decode cX4_plays 192 = .ok (.dup, 1) := by decide +kernel
theorem dX4_plays_193 : decode cX4_plays 193 = .ok (.getfield 98, 3) := by decide +kernel
theorem dX4_plays_196 : decode cX4_plays 196 = .ok (.aload_n 0, 1) := by decide +kernel
theorem dX4_plays_197 : decode cX4_plays 197 = .ok (.getfield 22, 3) := by decide +kernel
theorem dX4_plays_200 : decode cX4_plays 200 = .ok (.iload 5, 2) := by decide +kernel
theorem dX4_plays_202 : decode cX4_plays 202 = .ok (.imul, 1) := by decide +kernel
theorem dX4_plays_203 : decode cX4_plays 203 = .ok (.iadd, 1) := by decide +kernel
theorem dX4_plays_204 : decode cX4_plays 204 = .ok (.putfield 98, 3) := by decide +kernel
theorem dX4_plays_207 : decode cX4_plays 207 = .ok (.aload_n 0, 1) := by decide +kernel
theorem dX4_plays_208 : decode cX4_plays 208 = .ok (.dup, 1) := by decide +kernel
theorem dX4_plays_209 : decode cX4_plays 209 = .ok (.getfield 98, 3) := by decide +kernel
theorem dX4_plays_212 : decode cX4_plays 212 = .ok (.aload_n 0, 1) := by decide +kernel
theorem dX4_plays_213 : decode cX4_plays 213 = .ok (.getfield 48, 3) := by decide +kernel
theorem dX4_plays_216 : decode cX4_plays 216 = .ok (.iload 4, 2) := by decide +kernel
theorem dX4_plays_218 : decode cX4_plays 218 = .ok (.iaload, 1) := by decide +kernel
theorem dX4_plays_219 : decode cX4_plays 219 = .ok (.iconst (-1), 1) := by decide +kernel
theorem dX4_plays_220 : decode cX4_plays 220 = .ok (.if_icmp .ne 10, 3) := by decide +kernel
theorem dX4_plays_223 : decode cX4_plays 223 = .ok (.aload_n 0, 1) := by decide +kernel
theorem dX4_plays_224 : decode cX4_plays 224 = .ok (.getfield 26, 3) := by decide +kernel
theorem dX4_plays_227 : decode cX4_plays 227 = .ok (.goto 4, 3) := by decide +kernel
theorem dX4_plays_230 : decode cX4_plays 230 = .ok (.iconst 0, 1) := by decide +kernel
theorem dX4_plays_231 : decode cX4_plays 231 = .ok (.isub, 1) := by decide +kernel
theorem dX4_plays_232 : decode cX4_plays 232 = .ok (.putfield 98, 3) := by decide +kernel
theorem dX4_plays_235 : decode cX4_plays 235 = .ok (.iinc 4 1, 3) := by decide +kernel
theorem dX4_plays_238 : decode cX4_plays 238 = .ok (.goto (-124), 3) := by decide +kernel
theorem dX4_plays_241 : decode cX4_plays 241 = .ok (.iinc 3 1, 3) := by decide +kernel
theorem dX4_plays_244 : decode cX4_plays 244 = .ok (.goto (-196), 3) := by decide +kernel
theorem dX4_plays_247 : decode cX4_plays 247 = .ok (.return_, 1) := by decide +kernel
set_option maxRecDepth 20000 in
theorem ggX4_misses_X4_isLine : GoodIn wsX4_misses wsX4_isLine := goodIn_r _ [5, 6, 7, 8, 4, 9, 23, 24, 25, 26, 27, 28, 29, 30, 31, 32, 33, 34, 35, 36, 37, 38, 39, 40] (by decide +kernel) (by decide +kernel)
set_option maxRecDepth 20000 in
theorem gX4_misses_X4_isLine : GoodIn wsX4_misses (wsV RX4 74 RX4 yX4_isLine wsX4_isLine) := goodIn_app (goodIn_of _ (by decide +kernel)) ggX4_misses_X4_isLine
set_option maxRecDepth 20000 in
theorem ggX4_misses_X4_isShip : GoodIn wsX4_misses wsX4_isShip := goodIn_r _ [13, 14, 7, 8, 4, 9, 23, 24, 25, 26, 27, 28, 29, 30, 31, 32, 33, 34, 35, 36, 37, 38, 39, 40] (by decide +kernel) (by decide +kernel)
set_option maxRecDepth 20000 in
theorem gX4_misses_X4_isShip : GoodIn wsX4_misses (wsV RX4 77 RX4 yX4_isShip wsX4_isShip) := goodIn_app (goodIn_of _ (by decide +kernel)) ggX4_misses_X4_isShip
set_option maxRecDepth 20000 in
theorem ggX4_misses_X4_isTurn : GoodIn wsX4_misses wsX4_isTurn := goodIn_r _ [17, 7, 8, 4, 9] (by decide +kernel) (by decide +kernel)
set_option maxRecDepth 20000 in
theorem gX4_misses_X4_isTurn : GoodIn wsX4_misses (va_wsS RX4 64 yX4_isTurn wsX4_isTurn) := goodIn_app (goodIn_of _ (by decide +kernel)) ggX4_misses_X4_isTurn
set_option maxRecDepth 20000 in
theorem ggX4_misses_X4_fails : GoodIn wsX4_misses wsX4_fails := goodIn_r _ [21, 22, 23, 24, 25, 26, 27, 28, 29, 30, 31, 32, 33, 34, 35, 36, 37, 38, 39, 40] (by decide +kernel) (by decide +kernel)
set_option maxRecDepth 20000 in
theorem gX4_misses_X4_fails : GoodIn wsX4_misses (wsV RX4 68 RX4 yX4_fails wsX4_fails) := goodIn_app (goodIn_of _ (by decide +kernel)) ggX4_misses_X4_fails
theorem dX4_misses_0 : decode cX4_misses 0 = .ok (.aload_n 0, 1) := by decide +kernel
theorem dX4_misses_1 : decode cX4_misses 1 = .ok (.aload_n 0, 1) := by decide +kernel
theorem dX4_misses_2 : decode cX4_misses 2 = .ok (.iload_n 1, 1) := by decide +kernel
theorem dX4_misses_3 : decode cX4_misses 3 = .ok (.invokevirtual 74, 3) := by decide +kernel
theorem dX4_misses_6 : decode cX4_misses 6 = .ok (.ifCond .eq 22, 3) := by decide +kernel
theorem dX4_misses_9 : decode cX4_misses 9 = .ok (.aload_n 0, 1) := by decide +kernel
theorem dX4_misses_10 : decode cX4_misses 10 = .ok (.iload_n 2, 1) := by decide +kernel
theorem dX4_misses_11 : decode cX4_misses 11 = .ok (.invokevirtual 77, 3) := by decide +kernel
theorem dX4_misses_14 : decode cX4_misses 14 = .ok (.ifCond .eq 14, 3) := by decide +kernel
theorem dX4_misses_17 : decode cX4_misses 17 = .ok (.iload_n 3, 1) := by decide +kernel
theorem dX4_misses_18 : decode cX4_misses 18 = .ok (.invokestatic 64, 3) := by decide +kernel
theorem dX4_misses_21 : decode cX4_misses 21 = .ok (.ifCond .eq 7, 3) := by decide +kernel
theorem dX4_misses_24 : decode cX4_misses 24 = .ok (.iconst 0, 1) := by decide +kernel
theorem dX4_misses_25 : decode cX4_misses 25 = .ok (.goto 4, 3) := by decide +kernel
theorem dX4_misses_28 : decode cX4_misses 28 = .ok (.iconst 1, 1) := by decide +kernel
theorem dX4_misses_29 : decode cX4_misses 29 = .ok (.invokevirtual 68, 3) := by decide +kernel
theorem dX4_misses_32 : decode cX4_misses 32 = .ok (.ireturn, 1) := by decide +kernel
set_option maxRecDepth 20000 in
theorem ggX4_where_X4_misses : GoodIn wsX4_where wsX4_misses := goodIn_r _ [6, 7, 8, 9, 5, 10, 11, 12, 13, 14, 15, 16, 17, 18, 19, 20, 21, 22, 23, 24, 25, 26, 27, 59, 60, 61, 62, 63, 64, 65, 66, 67, 68, 69, 70, 71, 72, 73, 74, 75, 76] (by decide +kernel) (by decide +kernel)
set_option maxRecDepth 20000 in
theorem gX4_where_X4_misses : GoodIn wsX4_where (wsV RX4 105 RX4 yX4_misses wsX4_misses) := goodIn_app (goodIn_of _ (by decide +kernel)) ggX4_where_X4_misses
set_option maxRecDepth 20000 in
theorem ggX4_where_X4_plays : GoodIn wsX4_where wsX4_plays := goodIn_r _ [31, 32, 33, 19, 1, 34, 35, 36, 37, 38, 39, 40, 41, 42, 5, 43, 44, 45, 46, 47, 48, 49, 50, 51, 52, 53, 54, 55, 56, 57, 58, 59, 60, 61, 62, 63, 64, 65, 66, 67, 68, 69, 70, 71, 72, 73, 74, 75, 76] (by decide +kernel) (by decide +kernel)
set_option maxRecDepth 20000 in
theorem gX4_where_X4_plays : GoodIn wsX4_where (wsV RX4 108 RX4 yX4_plays wsX4_plays) := goodIn_app (goodIn_of _ (by decide +kernel)) ggX4_where_X4_plays
theorem dX4_where_0 : decode cX4_where 0 = .ok (.aload_n 0, 1) := by decide +kernel
theorem dX4_where_1 : decode cX4_where 1 = .ok (.iload_n 1, 1) := by decide +kernel
theorem dX4_where_2 : decode cX4_where 2 = .ok (.iload_n 2, 1) := by decide +kernel
theorem dX4_where_3 : decode cX4_where 3 = .ok (.iload_n 3, 1) := by decide +kernel
theorem dX4_where_4 : decode cX4_where 4 = .ok (.invokevirtual 105, 3) := by decide +kernel
theorem dX4_where_7 : decode cX4_where 7 = .ok (.ifCond .eq 5, 3) := by decide +kernel
theorem dX4_where_10 : decode cX4_where 10 = .ok (.iconst 0, 1) := by decide +kernel
theorem dX4_where_11 : decode cX4_where 11 = .ok (.ireturn, 1) := by decide +kernel
theorem dX4_where_12 : decode cX4_where 12 = .ok (.aload_n 0, 1) := by decide +kernel
theorem dX4_where_13 : decode cX4_where 13 = .ok (.iload_n 1, 1) := by decide +kernel
theorem dX4_where_14 : decode cX4_where 14 = .ok (.iload_n 3, 1) := by decide +kernel
theorem dX4_where_15 : decode cX4_where 15 = .ok (.invokevirtual 108, 3) := by decide +kernel
theorem dX4_where_18 : decode cX4_where 18 = .ok (.aload_n 0, 1) := by decide +kernel
theorem dX4_where_19 : decode cX4_where 19 = .ok (.getfield 48, 3) := by decide +kernel
theorem dX4_where_22 : decode cX4_where 22 = .ok (.iload_n 2, 1) := by decide +kernel
theorem dX4_where_23 : decode cX4_where 23 = .ok (.iaload, 1) := by decide +kernel
theorem dX4_where_24 : decode cX4_where 24 = .ok (.ireturn, 1) := by decide +kernel
set_option maxRecDepth 20000 in
theorem ggX4_cargo_X4_misses : GoodIn wsX4_cargo wsX4_misses := goodIn_r _ [6, 7, 8, 9, 5, 10, 11, 12, 13, 14, 15, 16, 17, 18, 19, 20, 21, 22, 23, 24, 25, 26, 27, 59, 60, 61, 62, 63, 64, 65, 66, 67, 68, 69, 70, 71, 72, 73, 74, 75, 76] (by decide +kernel) (by decide +kernel)
set_option maxRecDepth 20000 in
theorem gX4_cargo_X4_misses : GoodIn wsX4_cargo (wsV RX4 105 RX4 yX4_misses wsX4_misses) := goodIn_app (goodIn_of _ (by decide +kernel)) ggX4_cargo_X4_misses
set_option maxRecDepth 20000 in
theorem ggX4_cargo_X4_plays : GoodIn wsX4_cargo wsX4_plays := goodIn_r _ [31, 32, 33, 19, 34, 1, 35, 36, 37, 38, 39, 40, 41, 42, 5, 43, 44, 45, 46, 47, 48, 49, 50, 51, 52, 53, 54, 55, 56, 57, 58, 59, 60, 61, 62, 63, 64, 65, 66, 67, 68, 69, 70, 71, 72, 73, 74, 75, 76] (by decide +kernel) (by decide +kernel)
set_option maxRecDepth 20000 in
theorem gX4_cargo_X4_plays : GoodIn wsX4_cargo (wsV RX4 108 RX4 yX4_plays wsX4_plays) := goodIn_app (goodIn_of _ (by decide +kernel)) ggX4_cargo_X4_plays
theorem dX4_cargo_0 : decode cX4_cargo 0 = .ok (.aload_n 0, 1) := by decide +kernel
theorem dX4_cargo_1 : decode cX4_cargo 1 = .ok (.iload_n 1, 1) := by decide +kernel
theorem dX4_cargo_2 : decode cX4_cargo 2 = .ok (.iload_n 2, 1) := by decide +kernel
theorem dX4_cargo_3 : decode cX4_cargo 3 = .ok (.iload_n 3, 1) := by decide +kernel
theorem dX4_cargo_4 : decode cX4_cargo 4 = .ok (.invokevirtual 105, 3) := by decide +kernel
theorem dX4_cargo_7 : decode cX4_cargo 7 = .ok (.ifCond .eq 5, 3) := by decide +kernel
theorem dX4_cargo_10 : decode cX4_cargo 10 = .ok (.iconst 0, 1) := by decide +kernel
theorem dX4_cargo_11 : decode cX4_cargo 11 = .ok (.ireturn, 1) := by decide +kernel
theorem dX4_cargo_12 : decode cX4_cargo 12 = .ok (.aload_n 0, 1) := by decide +kernel
theorem dX4_cargo_13 : decode cX4_cargo 13 = .ok (.iload_n 1, 1) := by decide +kernel
theorem dX4_cargo_14 : decode cX4_cargo 14 = .ok (.iload_n 3, 1) := by decide +kernel
theorem dX4_cargo_15 : decode cX4_cargo 15 = .ok (.invokevirtual 108, 3) := by decide +kernel
theorem dX4_cargo_18 : decode cX4_cargo 18 = .ok (.aload_n 0, 1) := by decide +kernel
theorem dX4_cargo_19 : decode cX4_cargo 19 = .ok (.getfield 51, 3) := by decide +kernel
theorem dX4_cargo_22 : decode cX4_cargo 22 = .ok (.iload_n 2, 1) := by decide +kernel
theorem dX4_cargo_23 : decode cX4_cargo 23 = .ok (.iaload, 1) := by decide +kernel
theorem dX4_cargo_24 : decode cX4_cargo 24 = .ok (.ireturn, 1) := by decide +kernel
set_option maxRecDepth 20000 in
theorem ggX4_failures_X4_isLine : GoodIn wsX4_failures wsX4_isLine := goodIn_r _ [6, 7, 8, 9, 5, 10, 48, 49, 50, 51, 52, 53, 54, 55, 56, 57, 58, 59, 60, 61, 62, 63, 64, 65] (by decide +kernel) (by decide +kernel)
set_option maxRecDepth 20000 in
theorem gX4_failures_X4_isLine : GoodIn wsX4_failures (wsV RX4 74 RX4 yX4_isLine wsX4_isLine) := goodIn_app (goodIn_of _ (by decide +kernel)) ggX4_failures_X4_isLine
set_option maxRecDepth 20000 in
theorem ggX4_failures_X4_fails : GoodIn wsX4_failures wsX4_fails := goodIn_r _ [14, 15, 48, 49, 50, 51, 52, 53, 54, 55, 56, 57, 58, 59, 60, 61, 62, 63, 64, 65] (by decide +kernel) (by decide +kernel)
set_option maxRecDepth 20000 in
theorem gX4_failures_X4_fails : GoodIn wsX4_failures (wsV RX4 68 RX4 yX4_fails wsX4_fails) := goodIn_app (goodIn_of _ (by decide +kernel)) ggX4_failures_X4_fails
set_option maxRecDepth 20000 in
theorem ggX4_failures_X4_plays : GoodIn wsX4_failures wsX4_plays := goodIn_r _ [19, 20, 1, 21, 22, 23, 24, 25, 26, 27, 28, 29, 30, 31, 5, 32, 33, 34, 35, 36, 37, 38, 39, 40, 41, 42, 43, 44, 45, 46, 47, 48, 49, 50, 51, 52, 53, 54, 55, 56, 57, 58, 59, 60, 61, 62, 63, 64, 65] (by decide +kernel) (by decide +kernel)
set_option maxRecDepth 20000 in
theorem gX4_failures_X4_plays : GoodIn wsX4_failures (wsV RX4 108 RX4 yX4_plays wsX4_plays) := goodIn_app (goodIn_of _ (by decide +kernel)) ggX4_failures_X4_plays
theorem dX4_failures_0 : decode cX4_failures 0 = .ok (.aload_n 0, 1) := by decide +kernel
theorem dX4_failures_1 : decode cX4_failures 1 = .ok (.aload_n 0, 1) := by decide +kernel
theorem dX4_failures_2 : decode cX4_failures 2 = .ok (.iload_n 1, 1) := by decide +kernel
theorem dX4_failures_3 : decode cX4_failures 3 = .ok (.invokevirtual 74, 3) := by decide +kernel
theorem dX4_failures_6 : decode cX4_failures 6 = .ok (.ifCond .eq 7, 3) := by decide +kernel
theorem dX4_failures_9 : decode cX4_failures 9 = .ok (.iconst 0, 1) := by decide +kernel
theorem dX4_failures_10 : decode cX4_failures 10 = .ok (.goto 4, 3) := by decide +kernel
theorem dX4_failures_13 : decode cX4_failures 13 = .ok (.iconst 1, 1) := by decide +kernel
theorem dX4_failures_14 : decode cX4_failures 14 = .ok (.invokevirtual 68, 3) := by decide +kernel
theorem dX4_failures_17 : decode cX4_failures 17 = .ok (.ifCond .eq 5, 3) := by decide +kernel
theorem dX4_failures_20 : decode cX4_failures 20 = .ok (.iconst 0, 1) := by decide +kernel
theorem dX4_failures_21 : decode cX4_failures 21 = .ok (.ireturn, 1) := by decide +kernel
theorem dX4_failures_22 : decode cX4_failures 22 = .ok (.aload_n 0, 1) := by decide +kernel
theorem dX4_failures_23 : decode cX4_failures 23 = .ok (.iload_n 1, 1) := by decide +kernel
theorem dX4_failures_24 : decode cX4_failures 24 = .ok (.bipush 29, 2) := by decide +kernel
theorem dX4_failures_26 : decode cX4_failures 26 = .ok (.invokevirtual 108, 3) := by decide +kernel
theorem dX4_failures_29 : decode cX4_failures 29 = .ok (.aload_n 0, 1) := by decide +kernel
theorem dX4_failures_30 : decode cX4_failures 30 = .ok (.getfield 95, 3) := by decide +kernel
theorem dX4_failures_33 : decode cX4_failures 33 = .ok (.ireturn, 1) := by decide +kernel
set_option maxRecDepth 20000 in
theorem ggX4_look_X4_isLine : GoodIn wsX4_look wsX4_isLine := goodIn_r _ [7, 8, 9, 10, 6, 11, 52, 53, 54, 55, 56, 57, 58, 59, 60, 61, 62, 63, 64, 65, 66, 67, 68, 69] (by decide +kernel) (by decide +kernel)
set_option maxRecDepth 20000 in
theorem gX4_look_X4_isLine : GoodIn wsX4_look (wsV RX4 74 RX4 yX4_isLine wsX4_isLine) := goodIn_app (goodIn_of _ (by decide +kernel)) ggX4_look_X4_isLine
set_option maxRecDepth 20000 in
theorem ggX4_look_X4_isTurn : GoodIn wsX4_look wsX4_isTurn := goodIn_r _ [14, 9, 10, 6, 11] (by decide +kernel) (by decide +kernel)
set_option maxRecDepth 20000 in
theorem gX4_look_X4_isTurn : GoodIn wsX4_look (va_wsS RX4 64 yX4_isTurn wsX4_isTurn) := goodIn_app (goodIn_of _ (by decide +kernel)) ggX4_look_X4_isTurn
set_option maxRecDepth 20000 in
theorem ggX4_look_X4_fails : GoodIn wsX4_look wsX4_fails := goodIn_r _ [18, 19, 52, 53, 54, 55, 56, 57, 58, 59, 60, 61, 62, 63, 64, 65, 66, 67, 68, 69] (by decide +kernel) (by decide +kernel)
set_option maxRecDepth 20000 in
theorem gX4_look_X4_fails : GoodIn wsX4_look (wsV RX4 68 RX4 yX4_fails wsX4_fails) := goodIn_app (goodIn_of _ (by decide +kernel)) ggX4_look_X4_fails
set_option maxRecDepth 20000 in
theorem ggX4_look_X4_plays : GoodIn wsX4_look wsX4_plays := goodIn_r _ [23, 2, 24, 25, 26, 27, 28, 29, 30, 31, 32, 33, 34, 35, 6, 36, 37, 38, 39, 40, 41, 42, 43, 44, 45, 46, 47, 48, 49, 50, 51, 52, 53, 54, 55, 56, 57, 58, 59, 60, 61, 62, 63, 64, 65, 66, 67, 68, 69] (by decide +kernel) (by decide +kernel)
set_option maxRecDepth 20000 in
theorem gX4_look_X4_plays : GoodIn wsX4_look (wsV RX4 108 RX4 yX4_plays wsX4_plays) := goodIn_app (goodIn_of _ (by decide +kernel)) ggX4_look_X4_plays
theorem dX4_look_0 : decode cX4_look 0 = .ok (.aload_n 0, 1) := by decide +kernel
theorem dX4_look_1 : decode cX4_look 1 = .ok (.aload_n 0, 1) := by decide +kernel
theorem dX4_look_2 : decode cX4_look 2 = .ok (.iload_n 1, 1) := by decide +kernel
theorem dX4_look_3 : decode cX4_look 3 = .ok (.invokevirtual 74, 3) := by decide +kernel
theorem dX4_look_6 : decode cX4_look 6 = .ok (.ifCond .eq 14, 3) := by decide +kernel
theorem dX4_look_9 : decode cX4_look 9 = .ok (.iload_n 2, 1) := by decide +kernel
theorem dX4_look_10 : decode cX4_look 10 = .ok (.invokestatic 64, 3) := by decide +kernel
theorem dX4_look_13 : decode cX4_look 13 = .ok (.ifCond .eq 7, 3) := by decide +kernel
theorem dX4_look_16 : decode cX4_look 16 = .ok (.iconst 0, 1) := by decide +kernel
theorem dX4_look_17 : decode cX4_look 17 = .ok (.goto 4, 3) := by decide +kernel
theorem dX4_look_20 : decode cX4_look 20 = .ok (.iconst 1, 1) := by decide +kernel
theorem dX4_look_21 : decode cX4_look 21 = .ok (.invokevirtual 68, 3) := by decide +kernel
theorem dX4_look_24 : decode cX4_look 24 = .ok (.ifCond .eq 5, 3) := by decide +kernel
theorem dX4_look_27 : decode cX4_look 27 = .ok (.iconst 0, 1) := by decide +kernel
theorem dX4_look_28 : decode cX4_look 28 = .ok (.ireturn, 1) := by decide +kernel
theorem dX4_look_29 : decode cX4_look 29 = .ok (.aload_n 0, 1) := by decide +kernel
theorem dX4_look_30 : decode cX4_look 30 = .ok (.getfield 38, 3) := by decide +kernel
theorem dX4_look_33 : decode cX4_look 33 = .ok (.iload_n 1, 1) := by decide +kernel
theorem dX4_look_34 : decode cX4_look 34 = .ok (.iload_n 2, 1) := by decide +kernel
theorem dX4_look_35 : decode cX4_look 35 = .ok (.aload_n 0, 1) := by decide +kernel
theorem dX4_look_36 : decode cX4_look 36 = .ok (.getfield 38, 3) := by decide +kernel
theorem dX4_look_39 : decode cX4_look 39 = .ok (.iload_n 1, 1) := by decide +kernel
theorem dX4_look_40 : decode cX4_look 40 = .ok (.iaload, 1) := by decide +kernel
theorem dX4_look_41 : decode cX4_look 41 = .ok (.if_icmp .le 7, 3) := by decide +kernel
theorem dX4_look_44 : decode cX4_look 44 = .ok (.iload_n 2, 1) := by decide +kernel
theorem dX4_look_45 : decode cX4_look 45 = .ok (.goto 9, 3) := by decide +kernel
theorem dX4_look_48 : decode cX4_look 48 = .ok (.aload_n 0, 1) := by decide +kernel
theorem dX4_look_49 : decode cX4_look 49 = .ok (.getfield 38, 3) := by decide +kernel
theorem dX4_look_52 : decode cX4_look 52 = .ok (.iload_n 1, 1) := by decide +kernel
theorem dX4_look_53 : decode cX4_look 53 = .ok (.iaload, 1) := by decide +kernel
theorem dX4_look_54 : decode cX4_look 54 = .ok (.iastore, 1) := by decide +kernel
theorem dX4_look_55 : decode cX4_look 55 = .ok (.aload_n 0, 1) := by decide +kernel
theorem dX4_look_56 : decode cX4_look 56 = .ok (.iload_n 1, 1) := by decide +kernel
theorem dX4_look_57 : decode cX4_look 57 = .ok (.iload_n 2, 1) := by decide +kernel
theorem dX4_look_58 : decode cX4_look 58 = .ok (.invokevirtual 108, 3) := by decide +kernel
theorem dX4_look_61 : decode cX4_look 61 = .ok (.aload_n 0, 1) := by decide +kernel
theorem dX4_look_62 : decode cX4_look 62 = .ok (.getfield 98, 3) := by decide +kernel
theorem dX4_look_65 : decode cX4_look 65 = .ok (.ireturn, 1) := by decide +kernel
set_option maxRecDepth 20000 in
theorem ggX4_seen_X4_isLine : GoodIn wsX4_seen wsX4_isLine := goodIn_r _ [6, 7, 8, 9, 5, 10, 16, 17, 18, 19, 20, 21, 22, 23, 24, 25, 26, 27, 28, 29, 30, 31, 32, 33] (by decide +kernel) (by decide +kernel)
set_option maxRecDepth 20000 in
theorem gX4_seen_X4_isLine : GoodIn wsX4_seen (wsV RX4 74 RX4 yX4_isLine wsX4_isLine) := goodIn_app (goodIn_of _ (by decide +kernel)) ggX4_seen_X4_isLine
set_option maxRecDepth 20000 in
theorem ggX4_seen_X4_fails : GoodIn wsX4_seen wsX4_fails := goodIn_r _ [14, 15, 16, 17, 18, 19, 20, 21, 22, 23, 24, 25, 26, 27, 28, 29, 30, 31, 32, 33] (by decide +kernel) (by decide +kernel)
set_option maxRecDepth 20000 in
theorem gX4_seen_X4_fails : GoodIn wsX4_seen (wsV RX4 68 RX4 yX4_fails wsX4_fails) := goodIn_app (goodIn_of _ (by decide +kernel)) ggX4_seen_X4_fails
theorem dX4_seen_0 : decode cX4_seen 0 = .ok (.aload_n 0, 1) := by decide +kernel
theorem dX4_seen_1 : decode cX4_seen 1 = .ok (.aload_n 0, 1) := by decide +kernel
theorem dX4_seen_2 : decode cX4_seen 2 = .ok (.iload_n 1, 1) := by decide +kernel
theorem dX4_seen_3 : decode cX4_seen 3 = .ok (.invokevirtual 74, 3) := by decide +kernel
theorem dX4_seen_6 : decode cX4_seen 6 = .ok (.ifCond .eq 7, 3) := by decide +kernel
theorem dX4_seen_9 : decode cX4_seen 9 = .ok (.iconst 0, 1) := by decide +kernel
theorem dX4_seen_10 : decode cX4_seen 10 = .ok (.goto 4, 3) := by decide +kernel
theorem dX4_seen_13 : decode cX4_seen 13 = .ok (.iconst 1, 1) := by decide +kernel
theorem dX4_seen_14 : decode cX4_seen 14 = .ok (.invokevirtual 68, 3) := by decide +kernel
theorem dX4_seen_17 : decode cX4_seen 17 = .ok (.ifCond .eq 7, 3) := by decide +kernel
theorem dX4_seen_20 : decode cX4_seen 20 = .ok (.iconst 0, 1) := by decide +kernel
theorem dX4_seen_21 : decode cX4_seen 21 = .ok (.goto 9, 3) := by decide +kernel
theorem dX4_seen_24 : decode cX4_seen 24 = .ok (.aload_n 0, 1) := by decide +kernel
theorem dX4_seen_25 : decode cX4_seen 25 = .ok (.getfield 38, 3) := by decide +kernel
theorem dX4_seen_28 : decode cX4_seen 28 = .ok (.iload_n 1, 1) := by decide +kernel
theorem dX4_seen_29 : decode cX4_seen 29 = .ok (.iaload, 1) := by decide +kernel
theorem dX4_seen_30 : decode cX4_seen 30 = .ok (.ireturn, 1) := by decide +kernel
theorem dX4_aheadOf_0 : decode cX4_aheadOf 0 = .ok (.iconst 0, 1) := by decide +kernel
theorem dX4_aheadOf_1 : decode cX4_aheadOf 1 = .ok (.istore_n 2, 1) := by decide +kernel
theorem dX4_aheadOf_2 : decode cX4_aheadOf 2 = .ok (.iconst 0, 1) := by decide +kernel
theorem dX4_aheadOf_3 : decode cX4_aheadOf 3 = .ok (.istore_n 3, 1) := by decide +kernel
theorem dX4_aheadOf_4 : decode cX4_aheadOf 4 = .ok (.iload_n 3, 1) := by decide +kernel
theorem dX4_aheadOf_5 : decode cX4_aheadOf 5 = .ok (.bipush 30, 2) := by decide +kernel
theorem dX4_aheadOf_7 : decode cX4_aheadOf 7 = .ok (.if_icmp .ge 33, 3) := by decide +kernel
theorem dX4_aheadOf_10 : decode cX4_aheadOf 10 = .ok (.iload_n 2, 1) := by decide +kernel
theorem dX4_aheadOf_11 : decode cX4_aheadOf 11 = .ok (.aload_n 0, 1) := by decide +kernel
theorem dX4_aheadOf_12 : decode cX4_aheadOf 12 = .ok (.getfield 44, 3) := by decide +kernel
theorem dX4_aheadOf_15 : decode cX4_aheadOf 15 = .ok (.bipush 30, 2) := by decide +kernel
theorem dX4_aheadOf_17 : decode cX4_aheadOf 17 = .ok (.iload_n 1, 1) := by decide +kernel
theorem dX4_aheadOf_18 : decode cX4_aheadOf 18 = .ok (.imul, 1) := by decide +kernel
theorem dX4_aheadOf_19 : decode cX4_aheadOf 19 = .ok (.iload_n 3, 1) := by decide +kernel
theorem dX4_aheadOf_20 : decode cX4_aheadOf 20 = .ok (.iadd, 1) := by decide +kernel
theorem dX4_aheadOf_21 : decode cX4_aheadOf 21 = .ok (.baload, 1) := by decide +kernel
theorem dX4_aheadOf_22 : decode cX4_aheadOf 22 = .ok (.ifCond .eq 9, 3) := by decide +kernel
theorem dX4_aheadOf_25 : decode cX4_aheadOf 25 = .ok (.iconst 1, 1) := by decide +kernel
theorem dX4_aheadOf_26 : decode cX4_aheadOf 26 = .ok (.iload_n 3, 1) := by decide +kernel
theorem dX4_aheadOf_27 : decode cX4_aheadOf 27 = .ok (.ishl, 1) := by decide +kernel
theorem dX4_aheadOf_28 : decode cX4_aheadOf 28 = .ok (.goto 4, 3) := by decide +kernel
theorem dX4_aheadOf_31 : decode cX4_aheadOf 31 = .ok (.iconst 0, 1) := by decide +kernel
theorem dX4_aheadOf_32 : decode cX4_aheadOf 32 = .ok (.ior, 1) := by decide +kernel
theorem dX4_aheadOf_33 : decode cX4_aheadOf 33 = .ok (.istore_n 2, 1) := by decide +kernel
theorem dX4_aheadOf_34 : decode cX4_aheadOf 34 = .ok (.iinc 3 1, 3) := by decide +kernel
theorem dX4_aheadOf_37 : decode cX4_aheadOf 37 = .ok (.goto (-33), 3) := by decide +kernel
theorem dX4_aheadOf_40 : decode cX4_aheadOf 40 = .ok (.iload_n 2, 1) := by decide +kernel
theorem dX4_aheadOf_41 : decode cX4_aheadOf 41 = .ok (.ireturn, 1) := by decide +kernel
set_option maxRecDepth 20000 in
theorem ggX4_ahead_X4_isLine : GoodIn wsX4_ahead wsX4_isLine := goodIn_r _ [5, 6, 7, 8, 4, 9, 20, 21, 22, 23, 24, 25, 26, 27, 28, 29, 30, 31, 32, 33, 34, 35, 36, 37] (by decide +kernel) (by decide +kernel)
set_option maxRecDepth 20000 in
theorem gX4_ahead_X4_isLine : GoodIn wsX4_ahead (wsV RX4 74 RX4 yX4_isLine wsX4_isLine) := goodIn_app (goodIn_of _ (by decide +kernel)) ggX4_ahead_X4_isLine
set_option maxRecDepth 20000 in
theorem ggX4_ahead_X4_fails : GoodIn wsX4_ahead wsX4_fails := goodIn_r _ [13, 14, 20, 21, 22, 23, 24, 25, 26, 27, 28, 29, 30, 31, 32, 33, 34, 35, 36, 37] (by decide +kernel) (by decide +kernel)
set_option maxRecDepth 20000 in
theorem gX4_ahead_X4_fails : GoodIn wsX4_ahead (wsV RX4 68 RX4 yX4_fails wsX4_fails) := goodIn_app (goodIn_of _ (by decide +kernel)) ggX4_ahead_X4_fails
set_option maxRecDepth 20000 in
theorem ggX4_ahead_X4_aheadOf : GoodIn wsX4_ahead wsX4_aheadOf := goodIn_r _ [18, 19, 20, 21, 22, 23, 24, 25, 26, 27, 28, 29, 30, 31, 32, 33, 34, 35, 36, 37] (by decide +kernel) (by decide +kernel)
set_option maxRecDepth 20000 in
theorem gX4_ahead_X4_aheadOf : GoodIn wsX4_ahead (wsV RX4 111 RX4 yX4_aheadOf wsX4_aheadOf) := goodIn_app (goodIn_of _ (by decide +kernel)) ggX4_ahead_X4_aheadOf
theorem dX4_ahead_0 : decode cX4_ahead 0 = .ok (.aload_n 0, 1) := by decide +kernel
theorem dX4_ahead_1 : decode cX4_ahead 1 = .ok (.aload_n 0, 1) := by decide +kernel
theorem dX4_ahead_2 : decode cX4_ahead 2 = .ok (.iload_n 1, 1) := by decide +kernel
theorem dX4_ahead_3 : decode cX4_ahead 3 = .ok (.invokevirtual 74, 3) := by decide +kernel
theorem dX4_ahead_6 : decode cX4_ahead 6 = .ok (.ifCond .eq 7, 3) := by decide +kernel
theorem dX4_ahead_9 : decode cX4_ahead 9 = .ok (.iconst 0, 1) := by decide +kernel
theorem dX4_ahead_10 : decode cX4_ahead 10 = .ok (.goto 4, 3) := by decide +kernel
theorem dX4_ahead_13 : decode cX4_ahead 13 = .ok (.iconst 1, 1) := by decide +kernel
theorem dX4_ahead_14 : decode cX4_ahead 14 = .ok (.invokevirtual 68, 3) := by decide +kernel
theorem dX4_ahead_17 : decode cX4_ahead 17 = .ok (.ifCond .eq 7, 3) := by decide +kernel
theorem dX4_ahead_20 : decode cX4_ahead 20 = .ok (.iconst 0, 1) := by decide +kernel
theorem dX4_ahead_21 : decode cX4_ahead 21 = .ok (.goto 8, 3) := by decide +kernel
theorem dX4_ahead_24 : decode cX4_ahead 24 = .ok (.aload_n 0, 1) := by decide +kernel
theorem dX4_ahead_25 : decode cX4_ahead 25 = .ok (.iload_n 1, 1) := by decide +kernel
theorem dX4_ahead_26 : decode cX4_ahead 26 = .ok (.invokevirtual 111, 3) := by decide +kernel
theorem dX4_ahead_29 : decode cX4_ahead 29 = .ok (.ireturn, 1) := by decide +kernel
set_option maxRecDepth 20000 in
theorem ggX4_markOf_X4_plays : GoodIn wsX4_markOf wsX4_plays := goodIn_r _ [6, 1, 7, 8, 9, 10, 11, 12, 13, 14, 15, 16, 17, 18, 5, 19, 20, 21, 22, 23, 24, 25, 26, 27, 28, 29, 30, 31, 32, 33, 34, 40, 41, 42, 43, 44, 45, 46, 47, 48, 49, 50, 51, 52, 53, 54, 55, 56, 57] (by decide +kernel) (by decide +kernel)
set_option maxRecDepth 20000 in
theorem gX4_markOf_X4_plays : GoodIn wsX4_markOf (wsV RX4 108 RX4 yX4_plays wsX4_plays) := goodIn_app (goodIn_of _ (by decide +kernel)) ggX4_markOf_X4_plays
set_option maxRecDepth 20000 in
theorem ggX4_markOf_X4_aheadOf : GoodIn wsX4_markOf wsX4_aheadOf := goodIn_r _ [38, 39, 40, 41, 42, 43, 44, 45, 46, 47, 48, 49, 50, 51, 52, 53, 54, 55, 56, 57] (by decide +kernel) (by decide +kernel)
set_option maxRecDepth 20000 in
theorem gX4_markOf_X4_aheadOf : GoodIn wsX4_markOf (wsV RX4 111 RX4 yX4_aheadOf wsX4_aheadOf) := goodIn_app (goodIn_of _ (by decide +kernel)) ggX4_markOf_X4_aheadOf
theorem dX4_markOf_0 : decode cX4_markOf 0 = .ok (.iload_n 1, 1) := by decide +kernel
theorem dX4_markOf_1 : decode cX4_markOf 1 = .ok (.ifCond .ne 6, 3) := by decide +kernel
theorem dX4_markOf_4 : decode cX4_markOf 4 = .ok (.bipush 50, 2) := by decide +kernel
theorem dX4_markOf_6 : decode cX4_markOf 6 = .ok (.ireturn, 1) := by decide +kernel
theorem dX4_markOf_7 : decode cX4_markOf 7 = .ok (.aload_n 0, 1) := by decide +kernel
theorem dX4_markOf_8 : decode cX4_markOf 8 = .ok (.iconst 0, 1) := by decide +kernel
theorem dX4_markOf_9 : decode cX4_markOf 9 = .ok (.bipush 29, 2) := by decide +kernel
theorem dX4_markOf_11 : decode cX4_markOf 11 = .ok (.invokevirtual 108, 3) := by decide +kernel
theorem dX4_markOf_14 : decode cX4_markOf 14 = .ok (.aload_n 0, 1) := by decide +kernel
theorem dX4_markOf_15 : decode cX4_markOf 15 = .ok (.getfield 98, 3) := by decide +kernel
theorem dX4_markOf_18 : decode cX4_markOf 18 = .ok (.istore_n 2, 1) := by decide +kernel
theorem dX4_markOf_19 : decode cX4_markOf 19 = .ok (.aload_n 0, 1) := by decide +kernel
theorem dX4_markOf_20 : decode cX4_markOf 20 = .ok (.iload_n 1, 1) := by decide +kernel
theorem dX4_markOf_21 : decode cX4_markOf 21 = .ok (.bipush 29, 2) := by decide +kernel
theorem dX4_markOf_23 : decode cX4_markOf 23 = .ok (.invokevirtual 108, 3) := by decide +kernel
theorem dX4_markOf_26 : decode cX4_markOf 26 = .ok (.bipush 50, 2) := by decide +kernel
theorem dX4_markOf_28 : decode cX4_markOf 28 = .ok (.aload_n 0, 1) := by decide +kernel
theorem dX4_markOf_29 : decode cX4_markOf 29 = .ok (.getfield 98, 3) := by decide +kernel
theorem dX4_markOf_32 : decode cX4_markOf 32 = .ok (.iadd, 1) := by decide +kernel
theorem dX4_markOf_33 : decode cX4_markOf 33 = .ok (.iload_n 2, 1) := by decide +kernel
theorem dX4_markOf_34 : decode cX4_markOf 34 = .ok (.isub, 1) := by decide +kernel
theorem dX4_markOf_35 : decode cX4_markOf 35 = .ok (.istore_n 3, 1) := by decide +kernel
theorem dX4_markOf_36 : decode cX4_markOf 36 = .ok (.aload_n 0, 1) := by decide +kernel
theorem dX4_markOf_37 : decode cX4_markOf 37 = .ok (.iload_n 1, 1) := by decide +kernel
theorem dX4_markOf_38 : decode cX4_markOf 38 = .ok (.invokevirtual 111, 3) := by decide +kernel
theorem dX4_markOf_41 : decode cX4_markOf 41 = .ok (.ifCond .ne 7, 3) := by decide +kernel
theorem dX4_markOf_44 : decode cX4_markOf 44 = .ok (.iload_n 3, 1) := by decide +kernel
theorem dX4_markOf_45 : decode cX4_markOf 45 = .ok (.ifCond .ge 7, 3) := by decide +kernel
theorem dX4_markOf_48 : decode cX4_markOf 48 = .ok (.iconst 0, 1) := by decide +kernel
theorem dX4_markOf_49 : decode cX4_markOf 49 = .ok (.goto 15, 3) := by decide +kernel
theorem dX4_markOf_52 : decode cX4_markOf 52 = .ok (.iload_n 3, 1) := by decide +kernel
theorem dX4_markOf_53 : decode cX4_markOf 53 = .ok (.bipush 100, 2) := by decide +kernel
theorem dX4_markOf_55 : decode cX4_markOf 55 = .ok (.if_icmp .le 8, 3) := by decide +kernel
theorem dX4_markOf_58 : decode cX4_markOf 58 = .ok (.bipush 100, 2) := by decide +kernel
theorem dX4_markOf_60 : decode cX4_markOf 60 = .ok (.goto 4, 3) := by decide +kernel
theorem dX4_markOf_63 : decode cX4_markOf 63 = .ok (.iload_n 3, 1) := by decide +kernel
theorem dX4_markOf_64 : decode cX4_markOf 64 = .ok (.ireturn, 1) := by decide +kernel
set_option maxRecDepth 20000 in
theorem ggX4_mark_X4_isLine : GoodIn wsX4_mark wsX4_isLine := goodIn_r _ [5, 6, 7, 8, 4, 9, 57, 58, 59, 60, 61, 62, 63, 64, 65, 66, 67, 68, 69, 70, 71, 72, 73, 74] (by decide +kernel) (by decide +kernel)
set_option maxRecDepth 20000 in
theorem gX4_mark_X4_isLine : GoodIn wsX4_mark (wsV RX4 74 RX4 yX4_isLine wsX4_isLine) := goodIn_app (goodIn_of _ (by decide +kernel)) ggX4_mark_X4_isLine
set_option maxRecDepth 20000 in
theorem ggX4_mark_X4_fails : GoodIn wsX4_mark wsX4_fails := goodIn_r _ [13, 14, 57, 58, 59, 60, 61, 62, 63, 64, 65, 66, 67, 68, 69, 70, 71, 72, 73, 74] (by decide +kernel) (by decide +kernel)
set_option maxRecDepth 20000 in
theorem gX4_mark_X4_fails : GoodIn wsX4_mark (wsV RX4 68 RX4 yX4_fails wsX4_fails) := goodIn_app (goodIn_of _ (by decide +kernel)) ggX4_mark_X4_fails
set_option maxRecDepth 20000 in
theorem ggX4_mark_X4_markOf : GoodIn wsX4_mark wsX4_markOf := goodIn_r _ [18, 19, 20, 21, 22, 4, 23, 24, 25, 26, 27, 28, 29, 30, 31, 32, 33, 34, 35, 36, 37, 38, 39, 40, 41, 42, 43, 44, 45, 46, 47, 48, 49, 50, 51, 52, 53, 54, 55, 56, 57, 58, 59, 60, 61, 62, 63, 64, 65, 66, 67, 68, 69, 70, 71, 72, 73, 74] (by decide +kernel) (by decide +kernel)
set_option maxRecDepth 20000 in
theorem gX4_mark_X4_markOf : GoodIn wsX4_mark (wsV RX4 115 RX4 yX4_markOf wsX4_markOf) := goodIn_app (goodIn_of _ (by decide +kernel)) ggX4_mark_X4_markOf
theorem dX4_mark_0 : decode cX4_mark 0 = .ok (.aload_n 0, 1) := by decide +kernel
theorem dX4_mark_1 : decode cX4_mark 1 = .ok (.aload_n 0, 1) := by decide +kernel
theorem dX4_mark_2 : decode cX4_mark 2 = .ok (.iload_n 1, 1) := by decide +kernel
theorem dX4_mark_3 : decode cX4_mark 3 = .ok (.invokevirtual 74, 3) := by decide +kernel
theorem dX4_mark_6 : decode cX4_mark 6 = .ok (.ifCond .eq 7, 3) := by decide +kernel
theorem dX4_mark_9 : decode cX4_mark 9 = .ok (.iconst 0, 1) := by decide +kernel
theorem dX4_mark_10 : decode cX4_mark 10 = .ok (.goto 4, 3) := by decide +kernel
theorem dX4_mark_13 : decode cX4_mark 13 = .ok (.iconst 1, 1) := by decide +kernel
theorem dX4_mark_14 : decode cX4_mark 14 = .ok (.invokevirtual 68, 3) := by decide +kernel
theorem dX4_mark_17 : decode cX4_mark 17 = .ok (.ifCond .eq 7, 3) := by decide +kernel
theorem dX4_mark_20 : decode cX4_mark 20 = .ok (.iconst 0, 1) := by decide +kernel
theorem dX4_mark_21 : decode cX4_mark 21 = .ok (.goto 8, 3) := by decide +kernel
theorem dX4_mark_24 : decode cX4_mark 24 = .ok (.aload_n 0, 1) := by decide +kernel
theorem dX4_mark_25 : decode cX4_mark 25 = .ok (.iload_n 1, 1) := by decide +kernel
theorem dX4_mark_26 : decode cX4_mark 26 = .ok (.invokevirtual 115, 3) := by decide +kernel
theorem dX4_mark_29 : decode cX4_mark 29 = .ok (.ireturn, 1) := by decide +kernel
set_option maxRecDepth 20000 in
theorem ggX4_best_X4_markOf : GoodIn wsX4_best wsX4_markOf := goodIn_r _ [7, 8, 9, 10, 11, 6, 12, 13, 14, 15, 16, 17, 18, 19, 20, 21, 22, 23, 24, 25, 26, 27, 28, 29, 30, 31, 32, 33, 34, 35, 36, 37, 38, 39, 40, 41, 42, 43, 44, 45, 46, 47, 48, 49, 50, 51, 52, 53, 54, 55, 56, 57, 58, 59, 60, 61, 62, 63] (by decide +kernel) (by decide +kernel)
set_option maxRecDepth 20000 in
theorem gX4_best_X4_markOf : GoodIn wsX4_best (wsV RX4 115 RX4 yX4_markOf wsX4_markOf) := goodIn_app (goodIn_of _ (by decide +kernel)) ggX4_best_X4_markOf
theorem dX4_best_0 : decode cX4_best 0 = .ok (.aload_n 0, 1) := by decide +kernel
theorem dX4_best_1 : decode cX4_best 1 = .ok (.iconst 0, 1) := by decide +kernel
theorem dX4_best_2 : decode cX4_best 2 = .ok (.putfield 54, 3) := by decide +kernel
theorem dX4_best_5 : decode cX4_best 5 = .ok (.iconst (-1), 1) := by decide +kernel
theorem dX4_best_6 : decode cX4_best 6 = .ok (.istore_n 1, 1) := by decide +kernel
theorem dX4_best_7 : decode cX4_best 7 = .ok (.iconst (-1), 1) := by decide +kernel
theorem dX4_best_8 : decode cX4_best 8 = .ok (.istore_n 2, 1) := by decide +kernel
theorem dX4_best_9 : decode cX4_best 9 = .ok (.iconst 1, 1) := by decide +kernel
theorem dX4_best_10 : decode cX4_best 10 = .ok (.istore_n 3, 1) := by decide +kernel
theorem dX4_best_11 : decode cX4_best 11 = .ok (.iload_n 3, 1) := by decide +kernel
theorem dX4_best_12 : decode cX4_best 12 = .ok (.aload_n 0, 1) := by decide +kernel
theorem dX4_best_13 : decode cX4_best 13 = .ok (.getfield 29, 3) := by decide +kernel
theorem dX4_best_16 : decode cX4_best 16 = .ok (.if_icmp .ge 41, 3) := by decide +kernel
theorem dX4_best_19 : decode cX4_best 19 = .ok (.aload_n 0, 1) := by decide +kernel
theorem dX4_best_20 : decode cX4_best 20 = .ok (.iload_n 3, 1) := by decide +kernel
theorem dX4_best_21 : decode cX4_best 21 = .ok (.invokevirtual 115, 3) := by decide +kernel
theorem dX4_best_24 : decode cX4_best 24 = .ok (.istore 4, 2) := by decide +kernel
theorem dX4_best_26 : decode cX4_best 26 = .ok (.iload 4, 2) := by decide +kernel
theorem dX4_best_28 : decode cX4_best 28 = .ok (.iload_n 2, 1) := by decide +kernel
theorem dX4_best_29 : decode cX4_best 29 = .ok (.if_icmp .le 7, 3) := by decide +kernel
theorem dX4_best_32 : decode cX4_best 32 = .ok (.iload_n 3, 1) := by decide +kernel
theorem dX4_best_33 : decode cX4_best 33 = .ok (.goto 4, 3) := by decide +kernel
theorem dX4_best_36 : decode cX4_best 36 = .ok (.iload_n 1, 1) := by decide +kernel
theorem dX4_best_37 : decode cX4_best 37 = .ok (.istore_n 1, 1) := by decide +kernel
theorem dX4_best_38 : decode cX4_best 38 = .ok (.iload 4, 2) := by decide +kernel
theorem dX4_best_40 : decode cX4_best 40 = .ok (.iload_n 2, 1) := by decide +kernel
theorem dX4_best_41 : decode cX4_best 41 = .ok (.if_icmp .le 8, 3) := by decide +kernel
theorem dX4_best_44 : decode cX4_best 44 = .ok (.iload 4, 2) := by decide +kernel
theorem dX4_best_46 : decode cX4_best 46 = .ok (.goto 4, 3) := by decide +kernel
theorem dX4_best_49 : decode cX4_best 49 = .ok (.iload_n 2, 1) := by decide +kernel
theorem dX4_best_50 : decode cX4_best 50 = .ok (.istore_n 2, 1) := by decide +kernel
theorem dX4_best_51 : decode cX4_best 51 = .ok (.iinc 3 1, 3) := by decide +kernel
theorem dX4_best_54 : decode cX4_best 54 = .ok (.goto (-43), 3) := by decide +kernel
theorem dX4_best_57 : decode cX4_best 57 = .ok (.iload_n 1, 1) := by decide +kernel
theorem dX4_best_58 : decode cX4_best 58 = .ok (.ireturn, 1) := by decide +kernel
theorem dJ9_max_7cf53_0 : decode cJ9_max_7cf53 0 = .ok (.iload_n 0, 1) := by decide +kernel
theorem dJ9_max_7cf53_1 : decode cJ9_max_7cf53 1 = .ok (.iload_n 1, 1) := by decide +kernel
theorem dJ9_max_7cf53_2 : decode cJ9_max_7cf53 2 = .ok (.if_icmp .lt 7, 3) := by decide +kernel
theorem dJ9_max_7cf53_5 : decode cJ9_max_7cf53 5 = .ok (.iload_n 0, 1) := by decide +kernel
theorem dJ9_max_7cf53_6 : decode cJ9_max_7cf53 6 = .ok (.goto 4, 3) := by decide +kernel
theorem dJ9_max_7cf53_9 : decode cJ9_max_7cf53 9 = .ok (.iload_n 1, 1) := by decide +kernel
theorem dJ9_max_7cf53_10 : decode cJ9_max_7cf53 10 = .ok (.ireturn, 1) := by decide +kernel
theorem dJ9_min_7cf53_0 : decode cJ9_min_7cf53 0 = .ok (.iload_n 0, 1) := by decide +kernel
theorem dJ9_min_7cf53_1 : decode cJ9_min_7cf53 1 = .ok (.iload_n 1, 1) := by decide +kernel
theorem dJ9_min_7cf53_2 : decode cJ9_min_7cf53 2 = .ok (.if_icmp .gt 7, 3) := by decide +kernel
theorem dJ9_min_7cf53_5 : decode cJ9_min_7cf53 5 = .ok (.iload_n 0, 1) := by decide +kernel
theorem dJ9_min_7cf53_6 : decode cJ9_min_7cf53 6 = .ok (.goto 4, 3) := by decide +kernel
theorem dJ9_min_7cf53_9 : decode cJ9_min_7cf53 9 = .ok (.iload_n 1, 1) := by decide +kernel
theorem dJ9_min_7cf53_10 : decode cJ9_min_7cf53 10 = .ok (.ireturn, 1) := by decide +kernel
set_option maxRecDepth 20000 in
theorem ggL_addShip_X3_addShip : GoodIn wsL_addShip wsX3_addShip := goodIn_ca (goodIn_ca (goodIn_r _ [7, 8, 9, 10, 11, 12, 13, 14, 15, 16, 17, 6, 18, 19, 20, 21, 22, 23, 24, 25, 26, 27, 28, 29, 30, 31, 32, 33, 34, 35, 36, 37, 38, 39, 40, 41, 42, 43, 44, 45, 46, 47, 48, 49, 50] (by decide +kernel) (by decide +kernel)) (goodIn_sub (fun _ h => List.mem_cons_of_mem _ (List.mem_append_left _ (List.mem_append_right _ h))) (by decide +kernel))) (goodIn_sub (fun _ h => List.mem_cons_of_mem _ (List.mem_append_right _ h)) (by decide +kernel))
set_option maxRecDepth 20000 in
theorem gL_addShip_X3_addShip : GoodIn wsL_addShip (wsV RL 7 RX3 yX3_addShip wsX3_addShip) := goodIn_app (goodIn_of _ (by decide +kernel)) ggL_addShip_X3_addShip
end
section
theorem dL_addShip_0 : decode cL_addShip 0 = .ok (.aload 4, 2) := by decide +kernel
theorem dL_addShip_2 : decode cL_addShip 2 = .ok (.iconst 0, 1) := by decide +kernel
theorem dL_addShip_3 : decode cL_addShip 3 = .ok (.aload_n 0, 1) := by decide +kernel
theorem dL_addShip_4 : decode cL_addShip 4 = .ok (.iload_n 1, 1) := by decide +kernel
theorem dL_addShip_5 : decode cL_addShip 5 = .ok (.iload_n 2, 1) := by decide +kernel
theorem dL_addShip_6 : decode cL_addShip 6 = .ok (.iload_n 3, 1) := by decide +kernel
theorem dL_addShip_7 : decode cL_addShip 7 = .ok (.invokevirtual 7, 3) := by decide +kernel
theorem dL_addShip_10 : decode cL_addShip 10 = .ok (.i2l, 1) := by decide +kernel
theorem dL_addShip_11 : decode cL_addShip 11 = .ok (.lastore, 1) := by decide +kernel
theorem dL_addShip_12 : decode cL_addShip 12 = .ok (.goto 11, 3) := by decide +kernel
theorem dL_addShip_15 : decode cL_addShip 15 = .ok (.astore 5, 2) := by decide +kernel
theorem dL_addShip_17 : decode cL_addShip 17 = .ok (.iconst 1, 1) := by decide +kernel
theorem dL_addShip_18 : decode cL_addShip 18 = .ok (.ireturn, 1) := by decide +kernel
theorem dL_addShip_19 : decode cL_addShip 19 = .ok (.astore 5, 2) := by decide +kernel
theorem dL_addShip_21 : decode cL_addShip 21 = .ok (.iconst 2, 1) := by decide +kernel
theorem dL_addShip_22 : decode cL_addShip 22 = .ok (.ireturn, 1) := by decide +kernel
theorem dL_addShip_23 : decode cL_addShip 23 = .ok (.iconst 0, 1) := by decide +kernel
theorem dL_addShip_24 : decode cL_addShip 24 = .ok (.ireturn, 1) := by decide +kernel
set_option maxRecDepth 20000 in
theorem ggL_setRate_X3_setRate : GoodIn wsL_setRate wsX3_setRate := goodIn_ca (goodIn_ca (goodIn_r _ [7, 8, 9, 10, 11, 12, 6, 13, 14, 15, 16, 17, 18, 19, 20, 21, 22, 23, 24, 25, 26, 27, 28, 29] (by decide +kernel) (by decide +kernel)) (goodIn_sub (fun _ h => List.mem_cons_of_mem _ (List.mem_append_left _ (List.mem_append_right _ h))) (by decide +kernel))) (goodIn_sub (fun _ h => List.mem_cons_of_mem _ (List.mem_append_right _ h)) (by decide +kernel))
set_option maxRecDepth 20000 in
theorem gL_setRate_X3_setRate : GoodIn wsL_setRate (wsV RL 17 RX3 yX3_setRate wsX3_setRate) := goodIn_app (goodIn_of _ (by decide +kernel)) ggL_setRate_X3_setRate
theorem dL_setRate_0 : decode cL_setRate 0 = .ok (.aload_n 3, 1) := by decide +kernel
theorem dL_setRate_1 : decode cL_setRate 1 = .ok (.iconst 0, 1) := by decide +kernel
theorem dL_setRate_2 : decode cL_setRate 2 = .ok (.aload_n 0, 1) := by decide +kernel
theorem dL_setRate_3 : decode cL_setRate 3 = .ok (.iload_n 1, 1) := by decide +kernel
theorem dL_setRate_4 : decode cL_setRate 4 = .ok (.iload_n 2, 1) := by decide +kernel
theorem dL_setRate_5 : decode cL_setRate 5 = .ok (.invokevirtual 17, 3) := by decide +kernel
theorem dL_setRate_8 : decode cL_setRate 8 = .ok (.i2l, 1) := by decide +kernel
theorem dL_setRate_9 : decode cL_setRate 9 = .ok (.lastore, 1) := by decide +kernel
theorem dL_setRate_10 : decode cL_setRate 10 = .ok (.goto 11, 3) := by decide +kernel
theorem dL_setRate_13 : decode cL_setRate 13 = .ok (.astore 4, 2) := by decide +kernel
theorem dL_setRate_15 : decode cL_setRate 15 = .ok (.iconst 1, 1) := by decide +kernel
theorem dL_setRate_16 : decode cL_setRate 16 = .ok (.ireturn, 1) := by decide +kernel
theorem dL_setRate_17 : decode cL_setRate 17 = .ok (.astore 4, 2) := by decide +kernel
theorem dL_setRate_19 : decode cL_setRate 19 = .ok (.iconst 2, 1) := by decide +kernel
theorem dL_setRate_20 : decode cL_setRate 20 = .ok (.ireturn, 1) := by decide +kernel
theorem dL_setRate_21 : decode cL_setRate 21 = .ok (.iconst 0, 1) := by decide +kernel
theorem dL_setRate_22 : decode cL_setRate 22 = .ok (.ireturn, 1) := by decide +kernel
set_option maxRecDepth 20000 in
theorem ggL_setRules_X3_setRules : GoodIn wsL_setRules wsX3_setRules := goodIn_ca (goodIn_r _ [6, 7, 8, 9, 10, 11, 12, 13, 14, 15, 16, 17, 18, 19, 20] (by decide +kernel) (by decide +kernel)) (goodIn_sub (fun _ h => List.mem_cons_of_mem _ (List.mem_append_right _ h)) (by decide +kernel))
set_option maxRecDepth 20000 in
theorem gL_setRules_X3_setRules : GoodIn wsL_setRules (wsV RL 23 RX3 yX3_setRules wsX3_setRules) := goodIn_app (goodIn_of _ (by decide +kernel)) ggL_setRules_X3_setRules
theorem dL_setRules_0 : decode cL_setRules 0 = .ok (.aload_n 0, 1) := by decide +kernel
theorem dL_setRules_1 : decode cL_setRules 1 = .ok (.iload_n 1, 1) := by decide +kernel
theorem dL_setRules_2 : decode cL_setRules 2 = .ok (.iload_n 2, 1) := by decide +kernel
theorem dL_setRules_3 : decode cL_setRules 3 = .ok (.invokevirtual 23, 3) := by decide +kernel
theorem dL_setRules_6 : decode cL_setRules 6 = .ok (.goto 6, 3) := by decide +kernel
theorem dL_setRules_9 : decode cL_setRules 9 = .ok (.astore_n 3, 1) := by decide +kernel
theorem dL_setRules_10 : decode cL_setRules 10 = .ok (.iconst 1, 1) := by decide +kernel
theorem dL_setRules_11 : decode cL_setRules 11 = .ok (.ireturn, 1) := by decide +kernel
theorem dL_setRules_12 : decode cL_setRules 12 = .ok (.iconst 0, 1) := by decide +kernel
theorem dL_setRules_13 : decode cL_setRules 13 = .ok (.ireturn, 1) := by decide +kernel
set_option maxRecDepth 20000 in
theorem ggL_fork_X3_fork : GoodIn wsL_fork wsX3_fork := goodIn_ca (goodIn_ca (goodIn_r _ [7, 8, 9, 10, 11, 12, 13, 14, 15, 16, 17, 6, 18, 19, 20, 21, 22, 23, 24, 25, 26, 27, 28, 29, 30, 31, 32, 33, 34, 35, 36, 37, 38, 39, 40, 41, 42, 43, 44, 45, 46, 47, 48] (by decide +kernel) (by decide +kernel)) (goodIn_sub (fun _ h => List.mem_cons_of_mem _ (List.mem_append_left _ (List.mem_append_right _ h))) (by decide +kernel))) (goodIn_sub (fun _ h => List.mem_cons_of_mem _ (List.mem_append_right _ h)) (by decide +kernel))
set_option maxRecDepth 20000 in
theorem gL_fork_X3_fork : GoodIn wsL_fork (wsV RL 27 RX3 yX3_fork wsX3_fork) := goodIn_app (goodIn_of _ (by decide +kernel)) ggL_fork_X3_fork
theorem dL_fork_0 : decode cL_fork 0 = .ok (.aload_n 3, 1) := by decide +kernel
theorem dL_fork_1 : decode cL_fork 1 = .ok (.iconst 0, 1) := by decide +kernel
theorem dL_fork_2 : decode cL_fork 2 = .ok (.aload_n 0, 1) := by decide +kernel
theorem dL_fork_3 : decode cL_fork 3 = .ok (.iload_n 1, 1) := by decide +kernel
theorem dL_fork_4 : decode cL_fork 4 = .ok (.iload_n 2, 1) := by decide +kernel
theorem dL_fork_5 : decode cL_fork 5 = .ok (.invokevirtual 27, 3) := by decide +kernel
theorem dL_fork_8 : decode cL_fork 8 = .ok (.i2l, 1) := by decide +kernel
theorem dL_fork_9 : decode cL_fork 9 = .ok (.lastore, 1) := by decide +kernel
theorem dL_fork_10 : decode cL_fork 10 = .ok (.goto 11, 3) := by decide +kernel
theorem dL_fork_13 : decode cL_fork 13 = .ok (.astore 4, 2) := by decide +kernel
theorem dL_fork_15 : decode cL_fork 15 = .ok (.iconst 1, 1) := by decide +kernel
theorem dL_fork_16 : decode cL_fork 16 = .ok (.ireturn, 1) := by decide +kernel
theorem dL_fork_17 : decode cL_fork 17 = .ok (.astore 4, 2) := by decide +kernel
theorem dL_fork_19 : decode cL_fork 19 = .ok (.iconst 2, 1) := by decide +kernel
theorem dL_fork_20 : decode cL_fork 20 = .ok (.ireturn, 1) := by decide +kernel
theorem dL_fork_21 : decode cL_fork 21 = .ok (.iconst 0, 1) := by decide +kernel
theorem dL_fork_22 : decode cL_fork 22 = .ok (.ireturn, 1) := by decide +kernel
set_option maxRecDepth 20000 in
theorem ggL_order_X3_order : GoodIn wsL_order wsX3_order := goodIn_ca (goodIn_ca (goodIn_ca (goodIn_r _ [8, 9, 10, 11, 12, 13, 14, 15, 7, 16, 17, 18, 19, 20, 21, 22, 23, 24, 25, 26, 27, 28, 29, 30, 31, 32, 33, 34, 35, 36, 37, 38, 39, 40, 41, 42, 43, 44, 45, 46, 47, 48, 49, 50, 51, 52, 53, 54, 55, 56, 57, 58, 59, 60, 61, 62, 63, 64, 65, 66, 67, 68, 69, 70] (by decide +kernel) (by decide +kernel)) (goodIn_sub (fun _ h => List.mem_cons_of_mem _ (List.mem_append_left _ (List.mem_append_left _ (List.mem_append_right _ h)))) (by decide +kernel))) (goodIn_sub (fun _ h => List.mem_cons_of_mem _ (List.mem_append_left _ (List.mem_append_right _ h))) (by decide +kernel))) (goodIn_sub (fun _ h => List.mem_cons_of_mem _ (List.mem_append_right _ h)) (by decide +kernel))
set_option maxRecDepth 20000 in
theorem gL_order_X3_order : GoodIn wsL_order (wsV RL 30 RX3 yX3_order wsX3_order) := goodIn_app (goodIn_of _ (by decide +kernel)) ggL_order_X3_order
theorem dL_order_0 : decode cL_order 0 = .ok (.aload 6, 2) := by decide +kernel
theorem dL_order_2 : decode cL_order 2 = .ok (.iconst 0, 1) := by decide +kernel
theorem dL_order_3 : decode cL_order 3 = .ok (.aload_n 0, 1) := by decide +kernel
theorem dL_order_4 : decode cL_order 4 = .ok (.iload_n 1, 1) := by decide +kernel
theorem dL_order_5 : decode cL_order 5 = .ok (.iload_n 2, 1) := by decide +kernel
theorem dL_order_6 : decode cL_order 6 = .ok (.iload_n 3, 1) := by decide +kernel
theorem dL_order_7 : decode cL_order 7 = .ok (.iload 4, 2) := by decide +kernel
theorem dL_order_9 : decode cL_order 9 = .ok (.iload 5, 2) := by decide +kernel
theorem dL_order_11 : decode cL_order 11 = .ok (.invokevirtual 30, 3) := by decide +kernel
theorem dL_order_14 : decode cL_order 14 = .ok (.ifCond .eq 7, 3) := by decide +kernel
theorem dL_order_17 : decode cL_order 17 = .ok (.lconst 1, 1) := by decide +kernel
theorem dL_order_18 : decode cL_order 18 = .ok (.goto 4, 3) := by decide +kernel
theorem dL_order_21 : decode cL_order 21 = .ok (.lconst 0, 1) := by decide +kernel
theorem dL_order_22 : decode cL_order 22 = .ok (.lastore, 1) := by decide +kernel
theorem dL_order_23 : decode cL_order 23 = .ok (.goto 15, 3) := by decide +kernel
theorem dL_order_26 : decode cL_order 26 = .ok (.astore 7, 2) := by decide +kernel
theorem dL_order_28 : decode cL_order 28 = .ok (.iconst 1, 1) := by decide +kernel
theorem dL_order_29 : decode cL_order 29 = .ok (.ireturn, 1) := by decide +kernel
theorem dL_order_30 : decode cL_order 30 = .ok (.astore 7, 2) := by decide +kernel
theorem dL_order_32 : decode cL_order 32 = .ok (.iconst 2, 1) := by decide +kernel
theorem dL_order_33 : decode cL_order 33 = .ok (.ireturn, 1) := by decide +kernel
theorem dL_order_34 : decode cL_order 34 = .ok (.astore 7, 2) := by decide +kernel
theorem dL_order_36 : decode cL_order 36 = .ok (.iconst 3, 1) := by decide +kernel
theorem dL_order_37 : decode cL_order 37 = .ok (.ireturn, 1) := by decide +kernel
theorem dL_order_38 : decode cL_order 38 = .ok (.iconst 0, 1) := by decide +kernel
theorem dL_order_39 : decode cL_order 39 = .ok (.ireturn, 1) := by decide +kernel
set_option maxRecDepth 20000 in
theorem ggL_takeAway_X3_takeAway : GoodIn wsL_takeAway wsX3_takeAway := goodIn_ca (goodIn_r _ [6, 7, 8, 9, 5, 10, 11, 12, 13, 14, 15, 16, 17, 18, 19, 20, 21, 22, 23, 24, 25, 26, 27, 28, 29, 30, 31, 32, 33, 34, 35, 36, 37, 38, 39] (by decide +kernel) (by decide +kernel)) (goodIn_sub (fun _ h => List.mem_cons_of_mem _ (List.mem_append_right _ h)) (by decide +kernel))
set_option maxRecDepth 20000 in
theorem gL_takeAway_X3_takeAway : GoodIn wsL_takeAway (wsV RL 34 RX3 yX3_takeAway wsX3_takeAway) := goodIn_app (goodIn_of _ (by decide +kernel)) ggL_takeAway_X3_takeAway
theorem dL_takeAway_0 : decode cL_takeAway 0 = .ok (.aload_n 3, 1) := by decide +kernel
theorem dL_takeAway_1 : decode cL_takeAway 1 = .ok (.iconst 0, 1) := by decide +kernel
theorem dL_takeAway_2 : decode cL_takeAway 2 = .ok (.aload_n 0, 1) := by decide +kernel
theorem dL_takeAway_3 : decode cL_takeAway 3 = .ok (.iload_n 1, 1) := by decide +kernel
theorem dL_takeAway_4 : decode cL_takeAway 4 = .ok (.iload_n 2, 1) := by decide +kernel
theorem dL_takeAway_5 : decode cL_takeAway 5 = .ok (.invokevirtual 34, 3) := by decide +kernel
theorem dL_takeAway_8 : decode cL_takeAway 8 = .ok (.ifCond .eq 7, 3) := by decide +kernel
theorem dL_takeAway_11 : decode cL_takeAway 11 = .ok (.lconst 1, 1) := by decide +kernel
theorem dL_takeAway_12 : decode cL_takeAway 12 = .ok (.goto 4, 3) := by decide +kernel
theorem dL_takeAway_15 : decode cL_takeAway 15 = .ok (.lconst 0, 1) := by decide +kernel
theorem dL_takeAway_16 : decode cL_takeAway 16 = .ok (.lastore, 1) := by decide +kernel
theorem dL_takeAway_17 : decode cL_takeAway 17 = .ok (.goto 7, 3) := by decide +kernel
theorem dL_takeAway_20 : decode cL_takeAway 20 = .ok (.astore 4, 2) := by decide +kernel
theorem dL_takeAway_22 : decode cL_takeAway 22 = .ok (.iconst 1, 1) := by decide +kernel
theorem dL_takeAway_23 : decode cL_takeAway 23 = .ok (.ireturn, 1) := by decide +kernel
theorem dL_takeAway_24 : decode cL_takeAway 24 = .ok (.iconst 0, 1) := by decide +kernel
theorem dL_takeAway_25 : decode cL_takeAway 25 = .ok (.ireturn, 1) := by decide +kernel
set_option maxRecDepth 20000 in
theorem ggL_orderOf_X3_orderOf : GoodIn wsL_orderOf wsX3_orderOf := goodIn_ca (goodIn_r _ [6, 7, 8, 9, 5, 10, 11, 12, 13, 14, 15, 16, 17, 18, 19, 20, 21, 22, 23, 24, 25, 26, 27, 28, 29, 30, 31, 32, 33, 34, 35, 36, 37, 38, 39, 40] (by decide +kernel) (by decide +kernel)) (goodIn_sub (fun _ h => List.mem_cons_of_mem _ (List.mem_append_right _ h)) (by decide +kernel))
set_option maxRecDepth 20000 in
theorem gL_orderOf_X3_orderOf : GoodIn wsL_orderOf (wsV RL 38 RX3 yX3_orderOf wsX3_orderOf) := goodIn_app (goodIn_of _ (by decide +kernel)) ggL_orderOf_X3_orderOf
theorem dL_orderOf_0 : decode cL_orderOf 0 = .ok (.aload_n 3, 1) := by decide +kernel
theorem dL_orderOf_1 : decode cL_orderOf 1 = .ok (.iconst 0, 1) := by decide +kernel
theorem dL_orderOf_2 : decode cL_orderOf 2 = .ok (.aload_n 0, 1) := by decide +kernel
theorem dL_orderOf_3 : decode cL_orderOf 3 = .ok (.iload_n 1, 1) := by decide +kernel
theorem dL_orderOf_4 : decode cL_orderOf 4 = .ok (.iload_n 2, 1) := by decide +kernel
theorem dL_orderOf_5 : decode cL_orderOf 5 = .ok (.invokevirtual 38, 3) := by decide +kernel
theorem dL_orderOf_8 : decode cL_orderOf 8 = .ok (.i2l, 1) := by decide +kernel
theorem dL_orderOf_9 : decode cL_orderOf 9 = .ok (.lastore, 1) := by decide +kernel
theorem dL_orderOf_10 : decode cL_orderOf 10 = .ok (.goto 7, 3) := by decide +kernel
theorem dL_orderOf_13 : decode cL_orderOf 13 = .ok (.astore 4, 2) := by decide +kernel
theorem dL_orderOf_15 : decode cL_orderOf 15 = .ok (.iconst 1, 1) := by decide +kernel
theorem dL_orderOf_16 : decode cL_orderOf 16 = .ok (.ireturn, 1) := by decide +kernel
theorem dL_orderOf_17 : decode cL_orderOf 17 = .ok (.iconst 0, 1) := by decide +kernel
theorem dL_orderOf_18 : decode cL_orderOf 18 = .ok (.ireturn, 1) := by decide +kernel
set_option maxRecDepth 20000 in
theorem ggL_differences_X3_differences : GoodIn wsL_differences wsX3_differences := goodIn_ca (goodIn_r _ [6, 7, 8, 9, 5, 10, 11, 12, 13, 14, 15, 16, 17, 18, 19, 20, 21, 22, 23, 24, 25, 26, 27, 28, 29, 30, 31, 32, 33, 34] (by decide +kernel) (by decide +kernel)) (goodIn_sub (fun _ h => List.mem_cons_of_mem _ (List.mem_append_right _ h)) (by decide +kernel))
set_option maxRecDepth 20000 in
theorem gL_differences_X3_differences : GoodIn wsL_differences (wsV RL 41 RX3 yX3_differences wsX3_differences) := goodIn_app (goodIn_of _ (by decide +kernel)) ggL_differences_X3_differences
theorem dL_differences_0 : decode cL_differences 0 = .ok (.aload_n 3, 1) := by decide +kernel
theorem dL_differences_1 : decode cL_differences 1 = .ok (.iconst 0, 1) := by decide +kernel
theorem dL_differences_2 : decode cL_differences 2 = .ok (.aload_n 0, 1) := by decide +kernel
theorem dL_differences_3 : decode cL_differences 3 = .ok (.iload_n 1, 1) := by decide +kernel
theorem dL_differences_4 : decode cL_differences 4 = .ok (.iload_n 2, 1) := by decide +kernel
theorem dL_differences_5 : decode cL_differences 5 = .ok (.invokevirtual 41, 3) := by decide +kernel
theorem dL_differences_8 : decode cL_differences 8 = .ok (.i2l, 1) := by decide +kernel
theorem dL_differences_9 : decode cL_differences 9 = .ok (.lastore, 1) := by decide +kernel
theorem dL_differences_10 : decode cL_differences 10 = .ok (.goto 7, 3) := by decide +kernel
theorem dL_differences_13 : decode cL_differences 13 = .ok (.astore 4, 2) := by decide +kernel
theorem dL_differences_15 : decode cL_differences 15 = .ok (.iconst 1, 1) := by decide +kernel
theorem dL_differences_16 : decode cL_differences 16 = .ok (.ireturn, 1) := by decide +kernel
theorem dL_differences_17 : decode cL_differences 17 = .ok (.iconst 0, 1) := by decide +kernel
theorem dL_differences_18 : decode cL_differences 18 = .ok (.ireturn, 1) := by decide +kernel
set_option maxRecDepth 20000 in
theorem ggL_where_X3_where : GoodIn wsL_where wsX3_where := goodIn_ca (goodIn_r _ [6, 7, 8, 9, 5, 10, 11, 12, 13, 14, 15, 16, 17, 18, 19, 20, 21, 22, 23, 24, 25, 26, 27, 28, 29, 30, 31, 32, 33, 34, 35, 36, 37, 38, 39, 40, 41, 42, 43, 44, 45, 46, 47, 48, 49, 50, 51, 52, 53, 54, 55, 56, 57, 58, 59, 60, 61, 62, 63, 64, 65, 66, 67, 68, 69, 70, 71, 72, 73, 74, 75, 76, 77, 78, 79, 80, 81, 82, 83, 84, 85, 86, 87, 88, 89, 90, 91, 92, 93, 94, 95, 96, 97, 98, 99, 100, 101, 102, 103, 104, 105, 106, 107, 108, 109, 110, 111, 112, 113, 114, 115, 116, 117, 118] (by decide +kernel) (by decide +kernel)) (goodIn_sub (fun _ h => List.mem_cons_of_mem _ (List.mem_append_right _ h)) (by decide +kernel))
set_option maxRecDepth 20000 in
theorem gL_where_X3_where : GoodIn wsL_where (wsV RL 44 RX3 yX3_where wsX3_where) := goodIn_app (goodIn_of _ (by decide +kernel)) ggL_where_X3_where
theorem dL_where_0 : decode cL_where 0 = .ok (.aload 4, 2) := by decide +kernel
theorem dL_where_2 : decode cL_where 2 = .ok (.iconst 0, 1) := by decide +kernel
theorem dL_where_3 : decode cL_where 3 = .ok (.aload_n 0, 1) := by decide +kernel
theorem dL_where_4 : decode cL_where 4 = .ok (.iload_n 1, 1) := by decide +kernel
theorem dL_where_5 : decode cL_where 5 = .ok (.iload_n 2, 1) := by decide +kernel
theorem dL_where_6 : decode cL_where 6 = .ok (.iload_n 3, 1) := by decide +kernel
theorem dL_where_7 : decode cL_where 7 = .ok (.invokevirtual 44, 3) := by decide +kernel
theorem dL_where_10 : decode cL_where 10 = .ok (.i2l, 1) := by decide +kernel
theorem dL_where_11 : decode cL_where 11 = .ok (.lastore, 1) := by decide +kernel
theorem dL_where_12 : decode cL_where 12 = .ok (.goto 7, 3) := by decide +kernel
theorem dL_where_15 : decode cL_where 15 = .ok (.astore 5, 2) := by decide +kernel
theorem dL_where_17 : decode cL_where 17 = .ok (.iconst 1, 1) := by decide +kernel
theorem dL_where_18 : decode cL_where 18 = .ok (.ireturn, 1) := by decide +kernel
theorem dL_where_19 : decode cL_where 19 = .ok (.iconst 0, 1) := by decide +kernel
theorem dL_where_20 : decode cL_where 20 = .ok (.ireturn, 1) := by decide +kernel
set_option maxRecDepth 20000 in
theorem ggL_cargo_X3_cargo : GoodIn wsL_cargo wsX3_cargo := goodIn_ca (goodIn_r _ [6, 7, 8, 9, 5, 10, 11, 12, 13, 14, 15, 16, 17, 18, 19, 20, 21, 22, 23, 24, 25, 26, 27, 28, 29, 30, 31, 32, 33, 34, 35, 36, 37, 38, 39, 40, 41, 42, 43, 44, 45, 46, 47, 48, 49, 50, 51, 52, 53, 54, 55, 56, 57, 58, 59, 60, 61, 62, 63, 64, 65, 66, 67, 68, 69, 70, 71, 72, 73, 74, 75, 76, 77, 78, 79, 80, 81, 82, 83, 84, 85, 86, 87, 88, 89, 90, 91, 92, 93, 94, 95, 96, 97, 98, 99, 100, 101, 102, 103, 104, 105, 106, 107, 108, 109, 110, 111, 112, 113, 114, 115, 116, 117, 118] (by decide +kernel) (by decide +kernel)) (goodIn_sub (fun _ h => List.mem_cons_of_mem _ (List.mem_append_right _ h)) (by decide +kernel))
set_option maxRecDepth 20000 in
theorem gL_cargo_X3_cargo : GoodIn wsL_cargo (wsV RL 47 RX3 yX3_cargo wsX3_cargo) := goodIn_app (goodIn_of _ (by decide +kernel)) ggL_cargo_X3_cargo
theorem dL_cargo_0 : decode cL_cargo 0 = .ok (.aload 4, 2) := by decide +kernel
theorem dL_cargo_2 : decode cL_cargo 2 = .ok (.iconst 0, 1) := by decide +kernel
theorem dL_cargo_3 : decode cL_cargo 3 = .ok (.aload_n 0, 1) := by decide +kernel
theorem dL_cargo_4 : decode cL_cargo 4 = .ok (.iload_n 1, 1) := by decide +kernel
theorem dL_cargo_5 : decode cL_cargo 5 = .ok (.iload_n 2, 1) := by decide +kernel
theorem dL_cargo_6 : decode cL_cargo 6 = .ok (.iload_n 3, 1) := by decide +kernel
theorem dL_cargo_7 : decode cL_cargo 7 = .ok (.invokevirtual 47, 3) := by decide +kernel
theorem dL_cargo_10 : decode cL_cargo 10 = .ok (.i2l, 1) := by decide +kernel
theorem dL_cargo_11 : decode cL_cargo 11 = .ok (.lastore, 1) := by decide +kernel
theorem dL_cargo_12 : decode cL_cargo 12 = .ok (.goto 7, 3) := by decide +kernel
theorem dL_cargo_15 : decode cL_cargo 15 = .ok (.astore 5, 2) := by decide +kernel
theorem dL_cargo_17 : decode cL_cargo 17 = .ok (.iconst 1, 1) := by decide +kernel
theorem dL_cargo_18 : decode cL_cargo 18 = .ok (.ireturn, 1) := by decide +kernel
theorem dL_cargo_19 : decode cL_cargo 19 = .ok (.iconst 0, 1) := by decide +kernel
theorem dL_cargo_20 : decode cL_cargo 20 = .ok (.ireturn, 1) := by decide +kernel
set_option maxRecDepth 20000 in
theorem ggL_failures_X3_failures : GoodIn wsL_failures wsX3_failures := goodIn_ca (goodIn_r _ [6, 7, 8, 9, 10, 5, 11, 12, 13, 14, 15, 16, 17, 18, 19, 20, 21, 22, 23, 24, 25, 26, 27, 28, 29, 30, 31, 32, 33, 34, 35, 36, 37, 38, 39, 40, 41, 42, 43, 44, 45, 46, 47, 48, 49, 50, 51, 52, 53, 54, 55, 56, 57, 58, 59, 60, 61, 62, 63, 64, 65, 66, 67, 68, 69, 70, 71, 72, 73, 74, 75, 76, 77, 78, 79, 80, 81, 82, 83, 84, 85, 86, 87, 88, 89, 90, 91, 92, 93, 94, 95, 96, 97, 98, 99, 100, 101, 102, 103, 104] (by decide +kernel) (by decide +kernel)) (goodIn_sub (fun _ h => List.mem_cons_of_mem _ (List.mem_append_right _ h)) (by decide +kernel))
set_option maxRecDepth 20000 in
theorem gL_failures_X3_failures : GoodIn wsL_failures (wsV RL 50 RX3 yX3_failures wsX3_failures) := goodIn_app (goodIn_of _ (by decide +kernel)) ggL_failures_X3_failures
theorem dL_failures_0 : decode cL_failures 0 = .ok (.aload_n 2, 1) := by decide +kernel
theorem dL_failures_1 : decode cL_failures 1 = .ok (.iconst 0, 1) := by decide +kernel
theorem dL_failures_2 : decode cL_failures 2 = .ok (.aload_n 0, 1) := by decide +kernel
theorem dL_failures_3 : decode cL_failures 3 = .ok (.iload_n 1, 1) := by decide +kernel
theorem dL_failures_4 : decode cL_failures 4 = .ok (.invokevirtual 50, 3) := by decide +kernel
theorem dL_failures_7 : decode cL_failures 7 = .ok (.i2l, 1) := by decide +kernel
theorem dL_failures_8 : decode cL_failures 8 = .ok (.lastore, 1) := by decide +kernel
theorem dL_failures_9 : decode cL_failures 9 = .ok (.goto 6, 3) := by decide +kernel
theorem dL_failures_12 : decode cL_failures 12 = .ok (.astore_n 3, 1) := by decide +kernel
theorem dL_failures_13 : decode cL_failures 13 = .ok (.iconst 1, 1) := by decide +kernel
theorem dL_failures_14 : decode cL_failures 14 = .ok (.ireturn, 1) := by decide +kernel
theorem dL_failures_15 : decode cL_failures 15 = .ok (.iconst 0, 1) := by decide +kernel
theorem dL_failures_16 : decode cL_failures 16 = .ok (.ireturn, 1) := by decide +kernel
set_option maxRecDepth 20000 in
theorem ggL_look_X3_look : GoodIn wsL_look wsX3_look := goodIn_ca (goodIn_r _ [6, 7, 8, 9, 10, 11, 12, 13, 5, 14, 15, 16, 17, 18, 19, 20, 21, 22, 23, 24, 25, 26, 27, 28, 29, 30, 31, 32, 33, 34, 35, 36, 37, 38, 39, 40, 41, 42, 43, 44, 45, 46, 47, 48, 49, 50, 51, 52, 53, 54, 55, 56, 57, 58, 59, 60, 61, 62, 63, 64, 65, 66, 67, 68, 69, 70, 71, 72, 73, 74, 75, 76, 77, 78, 79, 80, 81, 82, 83, 84, 85, 86, 87, 88, 89, 90, 91, 92, 93, 94, 95, 96, 97, 98, 99, 100, 101, 102, 103, 104, 105, 106, 107, 108, 109, 110, 111, 112, 113, 114, 115, 116, 117] (by decide +kernel) (by decide +kernel)) (goodIn_sub (fun _ h => List.mem_cons_of_mem _ (List.mem_append_right _ h)) (by decide +kernel))
set_option maxRecDepth 20000 in
theorem gL_look_X3_look : GoodIn wsL_look (wsV RL 54 RX3 yX3_look wsX3_look) := goodIn_app (goodIn_of _ (by decide +kernel)) ggL_look_X3_look
theorem dL_look_0 : decode cL_look 0 = .ok (.aload_n 3, 1) := by decide +kernel
theorem dL_look_1 : decode cL_look 1 = .ok (.iconst 0, 1) := by decide +kernel
theorem dL_look_2 : decode cL_look 2 = .ok (.aload_n 0, 1) := by decide +kernel
theorem dL_look_3 : decode cL_look 3 = .ok (.iload_n 1, 1) := by decide +kernel
theorem dL_look_4 : decode cL_look 4 = .ok (.iload_n 2, 1) := by decide +kernel
theorem dL_look_5 : decode cL_look 5 = .ok (.invokevirtual 54, 3) := by decide +kernel
theorem dL_look_8 : decode cL_look 8 = .ok (.i2l, 1) := by decide +kernel
theorem dL_look_9 : decode cL_look 9 = .ok (.lastore, 1) := by decide +kernel
theorem dL_look_10 : decode cL_look 10 = .ok (.goto 7, 3) := by decide +kernel
theorem dL_look_13 : decode cL_look 13 = .ok (.astore 4, 2) := by decide +kernel
theorem dL_look_15 : decode cL_look 15 = .ok (.iconst 1, 1) := by decide +kernel
theorem dL_look_16 : decode cL_look 16 = .ok (.ireturn, 1) := by decide +kernel
theorem dL_look_17 : decode cL_look 17 = .ok (.iconst 0, 1) := by decide +kernel
theorem dL_look_18 : decode cL_look 18 = .ok (.ireturn, 1) := by decide +kernel
set_option maxRecDepth 20000 in
theorem ggL_seen_X3_seen : GoodIn wsL_seen wsX3_seen := goodIn_ca (goodIn_r _ [6, 7, 8, 9, 5, 10, 11, 12, 13, 14, 15, 16, 17, 18, 19, 20, 21, 22, 23] (by decide +kernel) (by decide +kernel)) (goodIn_sub (fun _ h => List.mem_cons_of_mem _ (List.mem_append_right _ h)) (by decide +kernel))
set_option maxRecDepth 20000 in
theorem gL_seen_X3_seen : GoodIn wsL_seen (wsV RL 57 RX3 yX3_seen wsX3_seen) := goodIn_app (goodIn_of _ (by decide +kernel)) ggL_seen_X3_seen
theorem dL_seen_0 : decode cL_seen 0 = .ok (.aload_n 2, 1) := by decide +kernel
theorem dL_seen_1 : decode cL_seen 1 = .ok (.iconst 0, 1) := by decide +kernel
theorem dL_seen_2 : decode cL_seen 2 = .ok (.aload_n 0, 1) := by decide +kernel
theorem dL_seen_3 : decode cL_seen 3 = .ok (.iload_n 1, 1) := by decide +kernel
theorem dL_seen_4 : decode cL_seen 4 = .ok (.invokevirtual 57, 3) := by decide +kernel
theorem dL_seen_7 : decode cL_seen 7 = .ok (.i2l, 1) := by decide +kernel
theorem dL_seen_8 : decode cL_seen 8 = .ok (.lastore, 1) := by decide +kernel
theorem dL_seen_9 : decode cL_seen 9 = .ok (.goto 6, 3) := by decide +kernel
theorem dL_seen_12 : decode cL_seen 12 = .ok (.astore_n 3, 1) := by decide +kernel
theorem dL_seen_13 : decode cL_seen 13 = .ok (.iconst 1, 1) := by decide +kernel
theorem dL_seen_14 : decode cL_seen 14 = .ok (.ireturn, 1) := by decide +kernel
theorem dL_seen_15 : decode cL_seen 15 = .ok (.iconst 0, 1) := by decide +kernel
theorem dL_seen_16 : decode cL_seen 16 = .ok (.ireturn, 1) := by decide +kernel
set_option maxRecDepth 20000 in
theorem ggL_ahead_X3_ahead : GoodIn wsL_ahead wsX3_ahead := goodIn_ca (goodIn_r _ [6, 7, 8, 9, 5, 10, 11, 12, 13, 14, 15, 16, 17, 18, 19, 20, 21, 22, 23] (by decide +kernel) (by decide +kernel)) (goodIn_sub (fun _ h => List.mem_cons_of_mem _ (List.mem_append_right _ h)) (by decide +kernel))
set_option maxRecDepth 20000 in
theorem gL_ahead_X3_ahead : GoodIn wsL_ahead (wsV RL 60 RX3 yX3_ahead wsX3_ahead) := goodIn_app (goodIn_of _ (by decide +kernel)) ggL_ahead_X3_ahead
theorem dL_ahead_0 : decode cL_ahead 0 = .ok (.aload_n 2, 1) := by decide +kernel
theorem dL_ahead_1 : decode cL_ahead 1 = .ok (.iconst 0, 1) := by decide +kernel
theorem dL_ahead_2 : decode cL_ahead 2 = .ok (.aload_n 0, 1) := by decide +kernel
theorem dL_ahead_3 : decode cL_ahead 3 = .ok (.iload_n 1, 1) := by decide +kernel
theorem dL_ahead_4 : decode cL_ahead 4 = .ok (.invokevirtual 60, 3) := by decide +kernel
theorem dL_ahead_7 : decode cL_ahead 7 = .ok (.i2l, 1) := by decide +kernel
theorem dL_ahead_8 : decode cL_ahead 8 = .ok (.lastore, 1) := by decide +kernel
theorem dL_ahead_9 : decode cL_ahead 9 = .ok (.goto 6, 3) := by decide +kernel
theorem dL_ahead_12 : decode cL_ahead 12 = .ok (.astore_n 3, 1) := by decide +kernel
theorem dL_ahead_13 : decode cL_ahead 13 = .ok (.iconst 1, 1) := by decide +kernel
theorem dL_ahead_14 : decode cL_ahead 14 = .ok (.ireturn, 1) := by decide +kernel
theorem dL_ahead_15 : decode cL_ahead 15 = .ok (.iconst 0, 1) := by decide +kernel
theorem dL_ahead_16 : decode cL_ahead 16 = .ok (.ireturn, 1) := by decide +kernel
set_option maxRecDepth 20000 in
theorem ggL_mark_X3_mark : GoodIn wsL_mark wsX3_mark := goodIn_ca (goodIn_r _ [6, 7, 8, 9, 10, 5, 11, 12, 13, 14, 15, 16, 17, 18, 19, 20, 21, 22, 23, 24, 25, 26, 27, 28, 29, 30, 31, 32, 33, 34, 35, 36, 37, 38, 39, 40, 41, 42, 43, 44, 45, 46, 47, 48, 49, 50, 51, 52, 53, 54, 55, 56, 57, 58, 59, 60, 61, 62, 63, 64, 65, 66, 67, 68, 69, 70, 71, 72, 73, 74, 75, 76, 77, 78, 79, 80, 81, 82, 83, 84, 85, 86, 87, 88, 89, 90, 91, 92, 93, 94, 95, 96, 97, 98, 99, 100, 101, 102, 103, 104, 105, 106, 107, 108, 109, 110, 111, 112, 113, 114, 115, 116, 117] (by decide +kernel) (by decide +kernel)) (goodIn_sub (fun _ h => List.mem_cons_of_mem _ (List.mem_append_right _ h)) (by decide +kernel))
set_option maxRecDepth 20000 in
theorem gL_mark_X3_mark : GoodIn wsL_mark (wsV RL 63 RX3 yX3_mark wsX3_mark) := goodIn_app (goodIn_of _ (by decide +kernel)) ggL_mark_X3_mark
theorem dL_mark_0 : decode cL_mark 0 = .ok (.aload_n 2, 1) := by decide +kernel
theorem dL_mark_1 : decode cL_mark 1 = .ok (.iconst 0, 1) := by decide +kernel
theorem dL_mark_2 : decode cL_mark 2 = .ok (.aload_n 0, 1) := by decide +kernel
theorem dL_mark_3 : decode cL_mark 3 = .ok (.iload_n 1, 1) := by decide +kernel
theorem dL_mark_4 : decode cL_mark 4 = .ok (.invokevirtual 63, 3) := by decide +kernel
theorem dL_mark_7 : decode cL_mark 7 = .ok (.i2l, 1) := by decide +kernel
theorem dL_mark_8 : decode cL_mark 8 = .ok (.lastore, 1) := by decide +kernel
theorem dL_mark_9 : decode cL_mark 9 = .ok (.goto 6, 3) := by decide +kernel
theorem dL_mark_12 : decode cL_mark 12 = .ok (.astore_n 3, 1) := by decide +kernel
theorem dL_mark_13 : decode cL_mark 13 = .ok (.iconst 1, 1) := by decide +kernel
theorem dL_mark_14 : decode cL_mark 14 = .ok (.ireturn, 1) := by decide +kernel
theorem dL_mark_15 : decode cL_mark 15 = .ok (.iconst 0, 1) := by decide +kernel
theorem dL_mark_16 : decode cL_mark 16 = .ok (.ireturn, 1) := by decide +kernel
set_option maxRecDepth 20000 in
theorem ggL_law_X3_init : GoodIn wsL_law wsX3_init := goodIn_r _ [9, 10, 11, 12, 13, 14, 15, 16, 17, 18, 19, 20, 21, 22, 23, 24, 25, 26, 27, 28, 29, 30, 31, 32, 33, 34, 35, 36, 37, 38, 39, 40, 41, 42, 43, 443, 444, 445, 446, 447, 448, 449, 421, 422, 423, 424, 450, 451, 452, 453, 454, 455] (by decide +kernel) (by decide +kernel)
set_option maxRecDepth 20000 in
theorem gL_law_X3_init : GoodIn wsL_law (wsX3_init) := ggL_law_X3_init
set_option maxRecDepth 20000 in
theorem ggL_law_X4_init : GoodIn wsL_law wsX4_init := goodIn_r _ [46, 47, 11, 12, 29, 48, 49, 50, 51, 52, 53, 54, 55, 56, 57, 58, 59, 60, 61, 62, 425, 426, 427, 428, 429, 430, 431, 432, 433, 434, 435, 436, 437, 438, 439, 440, 441, 442] (by decide +kernel) (by decide +kernel)
set_option maxRecDepth 20000 in
theorem gL_law_X4_init : GoodIn wsL_law (wsX4_init) := ggL_law_X4_init
set_option maxRecDepth 20000 in
theorem ggL_law_L_addShip : GoodIn wsL_law wsL_addShip := goodIn_ca (goodIn_ca (goodIn_r _ [66, 67, 68, 69, 70, 71, 2, 72, 73, 74, 75, 76, 16, 77, 78, 79, 80, 81, 82, 83, 84, 85, 11, 12, 86, 87, 88, 89, 90, 91, 15, 92, 93, 28, 27, 421, 422, 423, 424, 443, 444, 445, 446, 447, 448, 449, 456, 457, 458, 459, 460] (by decide +kernel) (by decide +kernel)) (goodIn_sub (fun _ h => List.mem_append_left _ (List.mem_append_left _ (List.mem_append_right _ h))) (by decide +kernel))) (goodIn_sub (fun _ h => List.mem_append_left _ (List.mem_append_right _ h)) (by decide +kernel))
set_option maxRecDepth 20000 in
theorem gL_law_L_addShip : GoodIn wsL_law (va_wsS RL 70 yL_addShip wsL_addShip) := goodIn_app (goodIn_of _ (by decide +kernel)) ggL_law_L_addShip
set_option maxRecDepth 20000 in
theorem ggL_law_X4_addShip : GoodIn wsL_law wsX4_addShip := goodIn_r _ [97, 98, 48, 49, 50, 99, 100, 5, 101, 102, 103, 104, 105, 106, 107, 108, 109, 425, 426, 427, 428, 429, 430, 431, 432, 433, 434, 435, 436, 437, 438, 439, 440, 441, 442] (by decide +kernel) (by decide +kernel)
set_option maxRecDepth 20000 in
theorem gL_law_X4_addShip : GoodIn wsL_law (wsV RL 75 RX4 yX4_addShip wsX4_addShip) := goodIn_app (goodIn_of _ (by decide +kernel)) ggL_law_X4_addShip
set_option maxRecDepth 20000 in
theorem ggL_law_X4_thrown : GoodIn wsL_law wsX4_thrown := goodIn_r _ [113, 109, 425, 426, 427, 428, 429, 430, 431, 432, 433, 434, 435, 436, 437, 438, 439, 440, 441, 442] (by decide +kernel) (by decide +kernel)
set_option maxRecDepth 20000 in
theorem gL_law_X4_thrown : GoodIn wsL_law (wsV RL 76 RX4 yX4_thrown wsX4_thrown) := goodIn_app (goodIn_of _ (by decide +kernel)) ggL_law_X4_thrown
set_option maxRecDepth 20000 in
theorem ggL_law_L_setRate : GoodIn wsL_law wsL_setRate := goodIn_ca (goodIn_ca (goodIn_r _ [116, 117, 67, 118, 119, 120, 2, 121, 73, 74, 16, 122, 123, 124, 125, 126, 127, 128, 129, 421, 422, 423, 424, 443, 444, 445, 446, 447, 448, 449] (by decide +kernel) (by decide +kernel)) (goodIn_sub (fun _ h => List.mem_append_left _ (List.mem_append_left _ (List.mem_append_right _ h))) (by decide +kernel))) (goodIn_sub (fun _ h => List.mem_append_right _ h) (by decide +kernel))
set_option maxRecDepth 20000 in
theorem gL_law_L_setRate : GoodIn wsL_law (va_wsS RL 80 yL_setRate wsL_setRate) := goodIn_app (goodIn_of _ (by decide +kernel)) ggL_law_L_setRate
set_option maxRecDepth 20000 in
theorem ggL_law_X4_setRate : GoodIn wsL_law wsX4_setRate := goodIn_r _ [133, 51, 134, 135, 5, 136, 102, 103, 104, 105, 106, 107, 108, 109, 425, 426, 427, 428, 429, 430, 431, 432, 433, 434, 435, 436, 437, 438, 439, 440, 441, 442] (by decide +kernel) (by decide +kernel)
set_option maxRecDepth 20000 in
theorem gL_law_X4_setRate : GoodIn wsL_law (wsV RL 83 RX4 yX4_setRate wsX4_setRate) := goodIn_app (goodIn_of _ (by decide +kernel)) ggL_law_X4_setRate
set_option maxRecDepth 20000 in
theorem ggL_law_L_setRules : GoodIn wsL_law wsL_setRules := goodIn_ca (goodIn_r _ [139, 67, 140, 141, 142, 2, 143, 73, 74, 16, 421, 422, 423, 424, 443, 444, 445, 446, 447, 448, 449] (by decide +kernel) (by decide +kernel)) (goodIn_sub (fun _ h => List.mem_append_left _ (List.mem_append_left _ (List.mem_append_right _ h))) (by decide +kernel))
set_option maxRecDepth 20000 in
theorem gL_law_L_setRules : GoodIn wsL_law (va_wsS RL 84 yL_setRules wsL_setRules) := goodIn_app (goodIn_of _ (by decide +kernel)) ggL_law_L_setRules
set_option maxRecDepth 20000 in
theorem ggL_law_X4_setRules : GoodIn wsL_law wsX4_setRules := goodIn_r _ [147, 52, 53, 102, 103, 5, 104, 105, 106, 107, 108, 109, 425, 426, 427, 428, 429, 430, 431, 432, 433, 434, 435, 436, 437, 438, 439, 440, 441, 442] (by decide +kernel) (by decide +kernel)
set_option maxRecDepth 20000 in
theorem gL_law_X4_setRules : GoodIn wsL_law (wsV RL 87 RX4 yX4_setRules wsX4_setRules) := goodIn_app (goodIn_of _ (by decide +kernel)) ggL_law_X4_setRules
set_option maxRecDepth 20000 in
theorem ggL_law_L_fork : GoodIn wsL_law wsL_fork := goodIn_ca (goodIn_ca (goodIn_r _ [150, 117, 68, 151, 152, 153, 2, 154, 75, 76, 22, 21, 17, 18, 19, 155, 156, 157, 158, 125, 126, 159, 160, 161, 80, 81, 82, 35, 36, 37, 11, 12, 29, 38, 39, 40, 41, 42, 43, 421, 422, 423, 424, 450, 451, 452, 453, 454, 455] (by decide +kernel) (by decide +kernel)) (goodIn_sub (fun _ h => List.mem_append_left _ (List.mem_append_right _ h)) (by decide +kernel))) (goodIn_sub (fun _ h => List.mem_append_right _ h) (by decide +kernel))
set_option maxRecDepth 20000 in
theorem gL_law_L_fork : GoodIn wsL_law (va_wsS RL 88 yL_fork wsL_fork) := goodIn_app (goodIn_of _ (by decide +kernel)) ggL_law_L_fork
set_option maxRecDepth 20000 in
theorem ggL_law_X4_fork : GoodIn wsL_law wsX4_fork := goodIn_r _ [165, 54, 55, 56, 57, 166, 167, 168, 5, 169, 102, 103, 104, 99, 100, 101, 105, 106, 107, 108, 109, 425, 426, 427, 428, 429, 430, 431, 432, 433, 434, 435, 436, 437, 438, 439, 440, 441, 442] (by decide +kernel) (by decide +kernel)
set_option maxRecDepth 20000 in
theorem gL_law_X4_fork : GoodIn wsL_law (wsV RL 90 RX4 yX4_fork wsX4_fork) := goodIn_app (goodIn_of _ (by decide +kernel)) ggL_law_X4_fork
set_option maxRecDepth 20000 in
theorem ggL_law_L_order : GoodIn wsL_law wsL_order := goodIn_ca (goodIn_ca (goodIn_ca (goodIn_r _ [172, 117, 67, 68, 173, 174, 175, 2, 176, 73, 74, 75, 76, 155, 156, 157, 158, 125, 126, 21, 159, 160, 161, 80, 81, 82, 177, 178, 179, 180, 16, 181, 15, 182, 183, 27, 122, 123, 124, 127, 128, 129, 184, 185, 186, 187, 19, 188, 189, 41, 43, 40, 39, 38, 450, 451, 452, 453, 454, 455, 421, 422, 423, 424, 443, 444, 445, 446, 447, 448, 449] (by decide +kernel) (by decide +kernel)) (goodIn_sub (fun _ h => List.mem_append_left _ (List.mem_append_left _ (List.mem_append_right _ h))) (by decide +kernel))) (goodIn_sub (fun _ h => List.mem_append_left _ (List.mem_append_right _ h)) (by decide +kernel))) (goodIn_sub (fun _ h => List.mem_append_right _ h) (by decide +kernel))
set_option maxRecDepth 20000 in
theorem gL_law_L_order : GoodIn wsL_law (va_wsS RL 91 yL_order wsL_order) := goodIn_app (goodIn_of _ (by decide +kernel)) ggL_law_L_order
set_option maxRecDepth 20000 in
theorem ggL_law_X4_order : GoodIn wsL_law wsX4_order := goodIn_r _ [193, 56, 58, 60, 57, 166, 167, 168, 5, 169, 54, 102, 103, 104, 99, 100, 101, 194, 195, 196, 197, 98, 134, 135, 136, 105, 106, 107, 108, 109, 425, 426, 427, 428, 429, 430, 431, 432, 433, 434, 435, 436, 437, 438, 439, 440, 441, 442] (by decide +kernel) (by decide +kernel)
set_option maxRecDepth 20000 in
theorem gL_law_X4_order : GoodIn wsL_law (wsV RL 94 RX4 yX4_order wsX4_order) := goodIn_app (goodIn_of _ (by decide +kernel)) ggL_law_X4_order
set_option maxRecDepth 20000 in
theorem ggL_law_L_takeAway : GoodIn wsL_law wsL_takeAway := goodIn_ca (goodIn_r _ [200, 117, 201, 202, 203, 2, 204, 155, 156, 157, 158, 125, 126, 21, 159, 160, 161, 80, 81, 82, 205, 19, 206, 207, 39, 40, 208, 209, 210, 211, 421, 422, 423, 424, 450, 451, 452, 453, 454, 455] (by decide +kernel) (by decide +kernel)) (goodIn_sub (fun _ h => List.mem_append_right _ h) (by decide +kernel))
set_option maxRecDepth 20000 in
theorem gL_law_L_takeAway : GoodIn wsL_law (va_wsS RL 95 yL_takeAway wsL_takeAway) := goodIn_app (goodIn_of _ (by decide +kernel)) ggL_law_L_takeAway
set_option maxRecDepth 20000 in
theorem ggL_law_X4_takeAway : GoodIn wsL_law wsX4_takeAway := goodIn_r _ [215, 166, 167, 168, 5, 169, 54, 102, 103, 104, 99, 100, 101, 105, 106, 107, 108, 109, 216, 217, 218, 219, 58, 220, 221, 222, 223, 60, 425, 426, 427, 428, 429, 430, 431, 432, 433, 434, 435, 436, 437, 438, 439, 440, 441, 442] (by decide +kernel) (by decide +kernel)
set_option maxRecDepth 20000 in
theorem gL_law_X4_takeAway : GoodIn wsL_law (wsV RL 97 RX4 yX4_takeAway wsX4_takeAway) := goodIn_app (goodIn_of _ (by decide +kernel)) ggL_law_X4_takeAway
set_option maxRecDepth 20000 in
theorem ggL_law_L_orderOf : GoodIn wsL_law wsL_orderOf := goodIn_ca (goodIn_r _ [226, 117, 227, 228, 229, 2, 230, 155, 156, 157, 158, 125, 126, 21, 159, 160, 161, 80, 81, 82, 231, 19, 232, 233, 38, 41, 208, 209, 210, 211, 39, 421, 422, 423, 424, 450, 451, 452, 453, 454, 455] (by decide +kernel) (by decide +kernel)) (goodIn_sub (fun _ h => List.mem_append_right _ h) (by decide +kernel))
set_option maxRecDepth 20000 in
theorem gL_law_L_orderOf : GoodIn wsL_law (va_wsS RL 98 yL_orderOf wsL_orderOf) := goodIn_app (goodIn_of _ (by decide +kernel)) ggL_law_L_orderOf
set_option maxRecDepth 20000 in
theorem ggL_law_X4_orderOf : GoodIn wsL_law wsX4_orderOf := goodIn_r _ [237, 166, 167, 168, 5, 169, 54, 102, 103, 104, 99, 100, 101, 105, 106, 107, 108, 109, 238, 239, 240, 241, 55, 58, 216, 217, 218, 219, 425, 426, 427, 428, 429, 430, 431, 432, 433, 434, 435, 436, 437, 438, 439, 440, 441, 442] (by decide +kernel) (by decide +kernel)
set_option maxRecDepth 20000 in
theorem gL_law_X4_orderOf : GoodIn wsL_law (wsV RL 100 RX4 yX4_orderOf wsX4_orderOf) := goodIn_app (goodIn_of _ (by decide +kernel)) ggL_law_X4_orderOf
set_option maxRecDepth 20000 in
theorem ggL_law_L_differences : GoodIn wsL_law wsL_differences := goodIn_ca (goodIn_r _ [244, 117, 245, 246, 247, 2, 248, 155, 156, 157, 158, 125, 126, 21, 231, 19, 232, 233, 38, 41, 208, 209, 210, 211, 39, 421, 422, 423, 424, 450, 451, 452, 453, 454, 455] (by decide +kernel) (by decide +kernel)) (goodIn_sub (fun _ h => List.mem_append_right _ h) (by decide +kernel))
set_option maxRecDepth 20000 in
theorem gL_law_L_differences : GoodIn wsL_law (va_wsS RL 101 yL_differences wsL_differences) := goodIn_app (goodIn_of _ (by decide +kernel)) ggL_law_L_differences
set_option maxRecDepth 20000 in
theorem ggL_law_X4_differences : GoodIn wsL_law wsX4_differences := goodIn_r _ [252, 166, 167, 168, 5, 169, 54, 102, 103, 104, 105, 106, 107, 108, 109, 238, 239, 240, 241, 55, 58, 216, 217, 218, 219, 425, 426, 427, 428, 429, 430, 431, 432, 433, 434, 435, 436, 437, 438, 439, 440, 441, 442] (by decide +kernel) (by decide +kernel)
set_option maxRecDepth 20000 in
theorem gL_law_X4_differences : GoodIn wsL_law (wsV RL 103 RX4 yX4_differences wsX4_differences) := goodIn_app (goodIn_of _ (by decide +kernel)) ggL_law_X4_differences
set_option maxRecDepth 20000 in
theorem ggL_law_L_where : GoodIn wsL_law wsL_where := goodIn_ca (goodIn_r _ [255, 117, 256, 257, 258, 2, 259, 260, 261, 262, 263, 16, 155, 156, 157, 158, 125, 126, 21, 177, 178, 179, 180, 181, 15, 182, 183, 27, 159, 160, 161, 80, 81, 82, 264, 265, 266, 33, 34, 267, 79, 268, 269, 86, 89, 90, 231, 19, 232, 233, 38, 41, 208, 209, 210, 211, 39, 270, 271, 272, 273, 274, 275, 276, 277, 278, 279, 280, 281, 282, 283, 284, 285, 286, 287, 288, 289, 290, 291, 292, 293, 128, 129, 294, 295, 296, 297, 31, 30, 32, 298, 299, 300, 301, 302, 303, 304, 456, 457, 458, 459, 460, 421, 422, 423, 424, 443, 444, 445, 446, 447, 448, 449, 450, 451, 452, 453, 454, 455] (by decide +kernel) (by decide +kernel)) (goodIn_sub (fun _ h => List.mem_append_right _ h) (by decide +kernel))
set_option maxRecDepth 20000 in
theorem gL_law_L_where : GoodIn wsL_law (va_wsS RL 104 yL_where wsL_where) := goodIn_app (goodIn_of _ (by decide +kernel)) ggL_law_L_where
set_option maxRecDepth 20000 in
theorem ggL_law_X4_where : GoodIn wsL_law wsX4_where := goodIn_r _ [308, 61, 309, 310, 311, 5, 312, 166, 167, 168, 169, 54, 102, 103, 104, 194, 195, 196, 197, 98, 99, 100, 101, 105, 106, 107, 108, 109, 313, 314, 315, 316, 317, 318, 62, 50, 48, 51, 52, 53, 238, 239, 240, 241, 55, 58, 216, 217, 218, 219, 319, 320, 321, 322, 323, 324, 325, 326, 49, 425, 426, 427, 428, 429, 430, 431, 432, 433, 434, 435, 436, 437, 438, 439, 440, 441, 442] (by decide +kernel) (by decide +kernel)
set_option maxRecDepth 20000 in
theorem gL_law_X4_where : GoodIn wsL_law (wsV RL 106 RX4 yX4_where wsX4_where) := goodIn_app (goodIn_of _ (by decide +kernel)) ggL_law_X4_where
set_option maxRecDepth 20000 in
theorem ggL_law_L_cargo : GoodIn wsL_law wsL_cargo := goodIn_ca (goodIn_r _ [329, 117, 330, 331, 332, 2, 333, 260, 261, 262, 263, 16, 155, 156, 157, 158, 125, 126, 21, 177, 178, 179, 180, 181, 15, 182, 183, 27, 159, 160, 161, 80, 81, 82, 264, 265, 266, 33, 34, 267, 79, 268, 269, 86, 89, 90, 231, 19, 232, 233, 38, 41, 208, 209, 210, 211, 39, 270, 271, 272, 273, 274, 275, 276, 277, 278, 279, 280, 281, 282, 283, 284, 285, 286, 287, 288, 289, 290, 291, 292, 293, 128, 129, 294, 295, 296, 297, 31, 30, 32, 298, 299, 300, 301, 302, 303, 304, 456, 457, 458, 459, 460, 421, 422, 423, 424, 443, 444, 445, 446, 447, 448, 449, 450, 451, 452, 453, 454, 455] (by decide +kernel) (by decide +kernel)) (goodIn_sub (fun _ h => List.mem_append_right _ h) (by decide +kernel))
set_option maxRecDepth 20000 in
theorem gL_law_L_cargo : GoodIn wsL_law (va_wsS RL 107 yL_cargo wsL_cargo) := goodIn_app (goodIn_of _ (by decide +kernel)) ggL_law_L_cargo
set_option maxRecDepth 20000 in
theorem ggL_law_X4_cargo : GoodIn wsL_law wsX4_cargo := goodIn_r _ [337, 62, 309, 310, 311, 5, 312, 166, 167, 168, 169, 54, 102, 103, 104, 194, 195, 196, 197, 98, 99, 100, 101, 105, 106, 107, 108, 109, 313, 314, 315, 316, 317, 318, 61, 50, 48, 51, 52, 53, 238, 239, 240, 241, 55, 58, 216, 217, 218, 219, 319, 320, 321, 322, 323, 324, 325, 326, 49, 425, 426, 427, 428, 429, 430, 431, 432, 433, 434, 435, 436, 437, 438, 439, 440, 441, 442] (by decide +kernel) (by decide +kernel)
set_option maxRecDepth 20000 in
theorem gL_law_X4_cargo : GoodIn wsL_law (wsV RL 109 RX4 yX4_cargo wsX4_cargo) := goodIn_app (goodIn_of _ (by decide +kernel)) ggL_law_X4_cargo
set_option maxRecDepth 20000 in
theorem ggL_law_L_failures : GoodIn wsL_law wsL_failures := goodIn_ca (goodIn_r _ [340, 117, 341, 342, 343, 2, 344, 16, 155, 156, 157, 158, 125, 126, 21, 264, 15, 265, 266, 33, 34, 27, 267, 79, 268, 269, 86, 89, 90, 231, 19, 232, 233, 38, 41, 208, 209, 210, 211, 39, 270, 271, 272, 273, 274, 275, 276, 277, 278, 279, 280, 281, 181, 182, 183, 282, 283, 284, 285, 286, 287, 288, 289, 290, 291, 292, 293, 128, 129, 294, 295, 296, 297, 31, 30, 32, 298, 299, 300, 301, 302, 303, 304, 421, 422, 423, 424, 443, 444, 445, 446, 447, 448, 449, 456, 457, 458, 459, 460, 450, 451, 452, 453, 454, 455] (by decide +kernel) (by decide +kernel)) (goodIn_sub (fun _ h => List.mem_append_right _ h) (by decide +kernel))
set_option maxRecDepth 20000 in
theorem gL_law_L_failures : GoodIn wsL_law (va_wsS RL 110 yL_failures wsL_failures) := goodIn_app (goodIn_of _ (by decide +kernel)) ggL_law_L_failures
set_option maxRecDepth 20000 in
theorem ggL_law_X4_failures : GoodIn wsL_law wsX4_failures := goodIn_r _ [348, 318, 166, 167, 168, 5, 169, 54, 102, 103, 104, 105, 106, 107, 108, 109, 313, 314, 315, 316, 317, 98, 61, 62, 50, 48, 51, 52, 53, 238, 239, 240, 241, 55, 58, 216, 217, 218, 219, 319, 320, 321, 322, 323, 324, 325, 326, 49, 425, 426, 427, 428, 429, 430, 431, 432, 433, 434, 435, 436, 437, 438, 439, 440, 441, 442] (by decide +kernel) (by decide +kernel)
set_option maxRecDepth 20000 in
theorem gL_law_X4_failures : GoodIn wsL_law (wsV RL 113 RX4 yX4_failures wsX4_failures) := goodIn_app (goodIn_of _ (by decide +kernel)) ggL_law_X4_failures
set_option maxRecDepth 20000 in
theorem ggL_law_L_look : GoodIn wsL_law wsL_look := goodIn_ca (goodIn_r _ [351, 117, 352, 353, 354, 2, 355, 356, 357, 303, 358, 155, 156, 157, 158, 125, 126, 21, 159, 160, 161, 80, 81, 82, 359, 360, 361, 362, 16, 264, 15, 265, 266, 33, 34, 27, 267, 79, 268, 269, 86, 89, 90, 231, 19, 232, 233, 38, 41, 208, 209, 210, 211, 39, 270, 271, 272, 273, 274, 275, 276, 277, 278, 279, 280, 281, 181, 182, 183, 282, 283, 284, 285, 286, 287, 288, 289, 290, 291, 292, 293, 128, 129, 294, 295, 296, 297, 31, 30, 32, 298, 299, 300, 301, 302, 304, 450, 451, 452, 453, 454, 455, 421, 422, 423, 424, 443, 444, 445, 446, 447, 448, 449, 456, 457, 458, 459, 460] (by decide +kernel) (by decide +kernel)) (goodIn_sub (fun _ h => List.mem_append_right _ h) (by decide +kernel))
set_option maxRecDepth 20000 in
theorem gL_law_L_look : GoodIn wsL_law (va_wsS RL 114 yL_look wsL_look) := goodIn_app (goodIn_of _ (by decide +kernel)) ggL_law_L_look
set_option maxRecDepth 20000 in
theorem ggL_law_X4_look : GoodIn wsL_law wsX4_look := goodIn_r _ [366, 57, 317, 166, 167, 168, 5, 169, 54, 102, 103, 104, 99, 100, 101, 105, 106, 107, 108, 109, 313, 314, 315, 316, 318, 98, 61, 62, 50, 48, 51, 52, 53, 238, 239, 240, 241, 55, 58, 216, 217, 218, 219, 319, 320, 321, 322, 323, 324, 325, 326, 49, 425, 426, 427, 428, 429, 430, 431, 432, 433, 434, 435, 436, 437, 438, 439, 440, 441, 442] (by decide +kernel) (by decide +kernel)
set_option maxRecDepth 20000 in
theorem gL_law_X4_look : GoodIn wsL_law (wsV RL 116 RX4 yX4_look wsX4_look) := goodIn_app (goodIn_of _ (by decide +kernel)) ggL_law_X4_look
set_option maxRecDepth 20000 in
theorem ggL_law_L_seen : GoodIn wsL_law wsL_seen := goodIn_ca (goodIn_r _ [369, 117, 370, 371, 372, 2, 373, 155, 156, 157, 158, 125, 126, 21, 450, 451, 452, 453, 454, 455, 421, 422, 423, 424] (by decide +kernel) (by decide +kernel)) (goodIn_sub (fun _ h => List.mem_append_right _ h) (by decide +kernel))
set_option maxRecDepth 20000 in
theorem gL_law_L_seen : GoodIn wsL_law (va_wsS RL 117 yL_seen wsL_seen) := goodIn_app (goodIn_of _ (by decide +kernel)) ggL_law_L_seen
set_option maxRecDepth 20000 in
theorem ggL_law_X4_seen : GoodIn wsL_law wsX4_seen := goodIn_r _ [377, 57, 166, 167, 168, 5, 169, 54, 102, 103, 104, 105, 106, 107, 108, 109, 425, 426, 427, 428, 429, 430, 431, 432, 433, 434, 435, 436, 437, 438, 439, 440, 441, 442] (by decide +kernel) (by decide +kernel)
set_option maxRecDepth 20000 in
theorem gL_law_X4_seen : GoodIn wsL_law (wsV RL 119 RX4 yX4_seen wsX4_seen) := goodIn_app (goodIn_of _ (by decide +kernel)) ggL_law_X4_seen
set_option maxRecDepth 20000 in
theorem ggL_law_L_ahead : GoodIn wsL_law wsL_ahead := goodIn_ca (goodIn_r _ [380, 117, 381, 382, 383, 2, 384, 155, 156, 157, 158, 125, 126, 21, 450, 451, 452, 453, 454, 455, 421, 422, 423, 424] (by decide +kernel) (by decide +kernel)) (goodIn_sub (fun _ h => List.mem_append_right _ h) (by decide +kernel))
set_option maxRecDepth 20000 in
theorem gL_law_L_ahead : GoodIn wsL_law (va_wsS RL 120 yL_ahead wsL_ahead) := goodIn_app (goodIn_of _ (by decide +kernel)) ggL_law_L_ahead
set_option maxRecDepth 20000 in
theorem ggL_law_X4_ahead : GoodIn wsL_law wsX4_ahead := goodIn_r _ [388, 166, 167, 168, 5, 169, 54, 102, 103, 104, 105, 106, 107, 108, 109, 389, 390, 391, 392, 60, 425, 426, 427, 428, 429, 430, 431, 432, 433, 434, 435, 436, 437, 438, 439, 440, 441, 442] (by decide +kernel) (by decide +kernel)
set_option maxRecDepth 20000 in
theorem gL_law_X4_ahead : GoodIn wsL_law (wsV RL 122 RX4 yX4_ahead wsX4_ahead) := goodIn_app (goodIn_of _ (by decide +kernel)) ggL_law_X4_ahead
set_option maxRecDepth 20000 in
theorem ggL_law_L_mark : GoodIn wsL_law wsL_mark := goodIn_ca (goodIn_r _ [395, 117, 396, 397, 398, 2, 399, 20, 155, 156, 157, 158, 125, 126, 21, 359, 360, 361, 362, 16, 264, 15, 265, 266, 33, 34, 27, 267, 79, 268, 269, 86, 89, 90, 231, 19, 232, 233, 38, 41, 208, 209, 210, 211, 39, 270, 271, 272, 273, 274, 275, 276, 277, 278, 279, 280, 281, 181, 182, 183, 282, 283, 284, 285, 286, 287, 288, 289, 290, 291, 292, 293, 128, 129, 294, 295, 296, 297, 31, 30, 32, 298, 299, 300, 301, 302, 303, 304, 400, 401, 402, 403, 404, 356, 357, 358, 421, 422, 423, 424, 443, 444, 445, 446, 447, 448, 449, 456, 457, 458, 459, 460, 450, 451, 452, 453, 454, 455] (by decide +kernel) (by decide +kernel)) (goodIn_sub (fun _ h => List.mem_append_right _ h) (by decide +kernel))
set_option maxRecDepth 20000 in
theorem gL_law_L_mark : GoodIn wsL_law (va_wsS RL 123 yL_mark wsL_mark) := goodIn_app (goodIn_of _ (by decide +kernel)) ggL_law_L_mark
set_option maxRecDepth 20000 in
theorem ggL_law_X4_mark : GoodIn wsL_law wsX4_mark := goodIn_r _ [408, 166, 167, 168, 5, 169, 54, 102, 103, 104, 105, 106, 107, 108, 109, 409, 410, 411, 412, 317, 313, 314, 315, 316, 318, 98, 61, 62, 50, 48, 51, 52, 53, 238, 239, 240, 241, 55, 58, 216, 217, 218, 219, 319, 320, 321, 322, 323, 324, 325, 326, 49, 389, 390, 391, 392, 60, 425, 426, 427, 428, 429, 430, 431, 432, 433, 434, 435, 436, 437, 438, 439, 440, 441, 442] (by decide +kernel) (by decide +kernel)
set_option maxRecDepth 20000 in
theorem gL_law_X4_mark : GoodIn wsL_law (wsV RL 125 RX4 yX4_mark wsX4_mark) := goodIn_app (goodIn_of _ (by decide +kernel)) ggL_law_X4_mark
set_option maxRecDepth 20000 in
theorem ggL_law_X3_best : GoodIn wsL_law wsX3_best := goodIn_r _ [416, 20, 21, 359, 360, 361, 2, 362, 16, 264, 15, 265, 266, 33, 34, 27, 267, 79, 268, 269, 86, 89, 90, 231, 19, 232, 233, 38, 41, 208, 209, 210, 211, 39, 270, 271, 272, 273, 274, 275, 276, 277, 278, 279, 280, 281, 181, 182, 183, 282, 283, 284, 285, 286, 287, 288, 289, 290, 291, 292, 293, 128, 129, 294, 295, 296, 297, 31, 30, 32, 298, 299, 300, 301, 302, 303, 304, 400, 401, 402, 403, 404, 356, 357, 358, 421, 422, 423, 424, 443, 444, 445, 446, 447, 448, 449, 456, 457, 458, 459, 460, 450, 451, 452, 453, 454, 455] (by decide +kernel) (by decide +kernel)
set_option maxRecDepth 20000 in
theorem gL_law_X3_best : GoodIn wsL_law (wsV RL 126 RX3 yX3_best wsX3_best) := goodIn_app (goodIn_of _ (by decide +kernel)) ggL_law_X3_best
set_option maxRecDepth 20000 in
theorem ggL_law_X4_best : GoodIn wsL_law wsX4_best := goodIn_r _ [420, 109, 54, 409, 410, 411, 5, 412, 317, 313, 314, 315, 316, 318, 98, 61, 62, 50, 48, 51, 52, 53, 238, 239, 240, 241, 55, 58, 216, 217, 218, 219, 319, 320, 321, 322, 323, 324, 325, 326, 49, 389, 390, 391, 392, 60, 425, 426, 427, 428, 429, 430, 431, 432, 433, 434, 435, 436, 437, 438, 439, 440, 441, 442] (by decide +kernel) (by decide +kernel)
set_option maxRecDepth 20000 in
theorem gL_law_X4_best : GoodIn wsL_law (wsV RL 129 RX4 yX4_best wsX4_best) := goodIn_app (goodIn_of _ (by decide +kernel)) ggL_law_X4_best
end
section
theorem dL_law_0 : decode cL_law 0 = .ok (.new 8, 3) := by decide +kernel
theorem dL_law_3 : decode cL_law 3 = .ok (.dup, 1) := by decide +kernel
theorem dL_law_4 : decode cL_law 4 = .ok (.invokespecial 66, 3) := by decide +kernel
theorem dL_law_7 : decode cL_law 7 = .ok (.astore_n 1, 1) := by decide +kernel
theorem dL_law_8 : decode cL_law 8 = .ok (.new 67, 3) := by decide +kernel
theorem dL_law_11 : decode cL_law 11 = .ok (.dup, 1) := by decide +kernel
theorem dL_law_12 : decode cL_law 12 = .ok (.invokespecial 69, 3) := by decide +kernel
theorem dL_law_15 : decode cL_law 15 = .ok (.astore_n 2, 1) := by decide +kernel
theorem dL_law_16 : decode cL_law 16 = .ok (.iconst 1, 1) := by decide +kernel
theorem dL_law_17 : decode cL_law 17 = .ok (.newarray .long, 2) := by decide +kernel
theorem dL_law_19 : decode cL_law 19 = .ok (.astore_n 3, 1) := by decide +kernel
theorem dL_law_20 : decode cL_law 20 = .ok (.iconst 0, 1) := by decide +kernel
theorem dL_law_21 : decode cL_law 21 = .ok (.istore 4, 2) := by decide +kernel
theorem dL_law_23 : decode cL_law 23 = .ok (.iload 4, 2) := by decide +kernel
theorem dL_law_25 : decode cL_law 25 = .ok (.aload_n 0, 1) := by decide +kernel
theorem dL_law_26 : decode cL_law 26 = .ok (.arraylength, 1) := by decide +kernel
theorem dL_law_27 : decode cL_law 27 = .ok (.bipush 6, 2) := by decide +kernel
theorem dL_law_29 : decode cL_law 29 = .ok (.isub, 1) := by decide +kernel
theorem dL_law_30 : decode cL_law 30 = .ok (.if_icmp .gt 1147, 3) := by decide +kernel
theorem dL_law_33 : decode cL_law 33 = .ok (.aload_n 0, 1) := by decide +kernel
theorem dL_law_34 : decode cL_law 34 = .ok (.iload 4, 2) := by decide +kernel
theorem dL_law_36 : decode cL_law 36 = .ok (.iaload, 1) := by decide +kernel
theorem dL_law_37 : decode cL_law 37 = .ok (.bipush 15, 2) := by decide +kernel
theorem dL_law_39 : decode cL_law 39 = .ok (.iand, 1) := by decide +kernel
theorem dL_law_40 : decode cL_law 40 = .ok (.tableswitch 1131 0 15 #[80, 160, 228, 276, 344, 455, 530, 598, 666, 746, 826, 882, 950, 1006, 1062, 1118], 80) := by decide +kernel
theorem dL_law_120 : decode cL_law 120 = .ok (.aload_n 1, 1) := by decide +kernel
theorem dL_law_121 : decode cL_law 121 = .ok (.aload_n 0, 1) := by decide +kernel
theorem dL_law_122 : decode cL_law 122 = .ok (.iload 4, 2) := by decide +kernel
theorem dL_law_124 : decode cL_law 124 = .ok (.iconst 1, 1) := by decide +kernel
theorem dL_law_125 : decode cL_law 125 = .ok (.iadd, 1) := by decide +kernel
theorem dL_law_126 : decode cL_law 126 = .ok (.iaload, 1) := by decide +kernel
theorem dL_law_127 : decode cL_law 127 = .ok (.aload_n 0, 1) := by decide +kernel
theorem dL_law_128 : decode cL_law 128 = .ok (.iload 4, 2) := by decide +kernel
theorem dL_law_130 : decode cL_law 130 = .ok (.iconst 2, 1) := by decide +kernel
theorem dL_law_131 : decode cL_law 131 = .ok (.iadd, 1) := by decide +kernel
theorem dL_law_132 : decode cL_law 132 = .ok (.iaload, 1) := by decide +kernel
theorem dL_law_133 : decode cL_law 133 = .ok (.aload_n 0, 1) := by decide +kernel
theorem dL_law_134 : decode cL_law 134 = .ok (.iload 4, 2) := by decide +kernel
theorem dL_law_136 : decode cL_law 136 = .ok (.iconst 3, 1) := by decide +kernel
theorem dL_law_137 : decode cL_law 137 = .ok (.iadd, 1) := by decide +kernel
theorem dL_law_138 : decode cL_law 138 = .ok (.iaload, 1) := by decide +kernel
theorem dL_law_139 : decode cL_law 139 = .ok (.aload_n 3, 1) := by decide +kernel
theorem dL_law_140 : decode cL_law 140 = .ok (.invokestatic 70, 3) := by decide +kernel
theorem dL_law_143 : decode cL_law 143 = .ok (.istore 5, 2) := by decide +kernel
theorem dL_law_145 : decode cL_law 145 = .ok (.aload_n 2, 1) := by decide +kernel
theorem dL_law_146 : decode cL_law 146 = .ok (.aload_n 0, 1) := by decide +kernel
theorem dL_law_147 : decode cL_law 147 = .ok (.iload 4, 2) := by decide +kernel
theorem dL_law_149 : decode cL_law 149 = .ok (.iconst 1, 1) := by decide +kernel
theorem dL_law_150 : decode cL_law 150 = .ok (.iadd, 1) := by decide +kernel
theorem dL_law_151 : decode cL_law 151 = .ok (.iaload, 1) := by decide +kernel
theorem dL_law_152 : decode cL_law 152 = .ok (.aload_n 0, 1) := by decide +kernel
theorem dL_law_153 : decode cL_law 153 = .ok (.iload 4, 2) := by decide +kernel
theorem dL_law_155 : decode cL_law 155 = .ok (.iconst 2, 1) := by decide +kernel
theorem dL_law_156 : decode cL_law 156 = .ok (.iadd, 1) := by decide +kernel
theorem dL_law_157 : decode cL_law 157 = .ok (.iaload, 1) := by decide +kernel
theorem dL_law_158 : decode cL_law 158 = .ok (.aload_n 0, 1) := by decide +kernel
theorem dL_law_159 : decode cL_law 159 = .ok (.iload 4, 2) := by decide +kernel
theorem dL_law_161 : decode cL_law 161 = .ok (.iconst 3, 1) := by decide +kernel
theorem dL_law_162 : decode cL_law 162 = .ok (.iadd, 1) := by decide +kernel
theorem dL_law_163 : decode cL_law 163 = .ok (.iaload, 1) := by decide +kernel
theorem dL_law_164 : decode cL_law 164 = .ok (.invokevirtual 75, 3) := by decide +kernel
theorem dL_law_167 : decode cL_law 167 = .ok (.istore 6, 2) := by decide +kernel
theorem dL_law_169 : decode cL_law 169 = .ok (.aload_n 2, 1) := by decide +kernel
theorem dL_law_170 : decode cL_law 170 = .ok (.invokevirtual 76, 3) := by decide +kernel
theorem dL_law_173 : decode cL_law 173 = .ok (.iload 5, 2) := by decide +kernel
theorem dL_law_175 : decode cL_law 175 = .ok (.if_icmp .eq 5, 3) := by decide +kernel
theorem dL_law_178 : decode cL_law 178 = .ok (.iconst 0, 1) := by decide +kernel
theorem dL_law_179 : decode cL_law 179 = .ok (.ireturn, 1) := by decide +kernel
theorem dL_law_180 : decode cL_law 180 = .ok (.iload 5, 2) := by decide +kernel
theorem dL_law_182 : decode cL_law 182 = .ok (.ifCond .ne 15, 3) := by decide +kernel
theorem dL_law_185 : decode cL_law 185 = .ok (.aload_n 3, 1) := by decide +kernel
theorem dL_law_186 : decode cL_law 186 = .ok (.iconst 0, 1) := by decide +kernel
theorem dL_law_187 : decode cL_law 187 = .ok (.laload, 1) := by decide +kernel
theorem dL_law_188 : decode cL_law 188 = .ok (.iload 6, 2) := by decide +kernel
theorem dL_law_190 : decode cL_law 190 = .ok (.i2l, 1) := by decide +kernel
theorem dL_law_191 : decode cL_law 191 = .ok (.lcmp, 1) := by decide +kernel
theorem dL_law_192 : decode cL_law 192 = .ok (.ifCond .eq 5, 3) := by decide +kernel
theorem dL_law_195 : decode cL_law 195 = .ok (.iconst 0, 1) := by decide +kernel
theorem dL_law_196 : decode cL_law 196 = .ok (.ireturn, 1) := by decide +kernel
theorem dL_law_197 : decode cL_law 197 = .ok (.goto 974, 3) := by decide +kernel
theorem dL_law_200 : decode cL_law 200 = .ok (.aload_n 1, 1) := by decide +kernel
theorem dL_law_201 : decode cL_law 201 = .ok (.aload_n 0, 1) := by decide +kernel
theorem dL_law_202 : decode cL_law 202 = .ok (.iload 4, 2) := by decide +kernel
theorem dL_law_204 : decode cL_law 204 = .ok (.iconst 1, 1) := by decide +kernel
theorem dL_law_205 : decode cL_law 205 = .ok (.iadd, 1) := by decide +kernel
theorem dL_law_206 : decode cL_law 206 = .ok (.iaload, 1) := by decide +kernel
theorem dL_law_207 : decode cL_law 207 = .ok (.aload_n 0, 1) := by decide +kernel
theorem dL_law_208 : decode cL_law 208 = .ok (.iload 4, 2) := by decide +kernel
theorem dL_law_210 : decode cL_law 210 = .ok (.iconst 2, 1) := by decide +kernel
theorem dL_law_211 : decode cL_law 211 = .ok (.iadd, 1) := by decide +kernel
theorem dL_law_212 : decode cL_law 212 = .ok (.iaload, 1) := by decide +kernel
theorem dL_law_213 : decode cL_law 213 = .ok (.aload_n 3, 1) := by decide +kernel
theorem dL_law_214 : decode cL_law 214 = .ok (.invokestatic 80, 3) := by decide +kernel
theorem dL_law_217 : decode cL_law 217 = .ok (.istore 5, 2) := by decide +kernel
theorem dL_law_219 : decode cL_law 219 = .ok (.aload_n 2, 1) := by decide +kernel
theorem dL_law_220 : decode cL_law 220 = .ok (.aload_n 0, 1) := by decide +kernel
theorem dL_law_221 : decode cL_law 221 = .ok (.iload 4, 2) := by decide +kernel
theorem dL_law_223 : decode cL_law 223 = .ok (.iconst 1, 1) := by decide +kernel
theorem dL_law_224 : decode cL_law 224 = .ok (.iadd, 1) := by decide +kernel
theorem dL_law_225 : decode cL_law 225 = .ok (.iaload, 1) := by decide +kernel
theorem dL_law_226 : decode cL_law 226 = .ok (.aload_n 0, 1) := by decide +kernel
theorem dL_law_227 : decode cL_law 227 = .ok (.iload 4, 2) := by decide +kernel
theorem dL_law_229 : decode cL_law 229 = .ok (.iconst 2, 1) := by decide +kernel
theorem dL_law_230 : decode cL_law 230 = .ok (.iadd, 1) := by decide +kernel
theorem dL_law_231 : decode cL_law 231 = .ok (.iaload, 1) := by decide +kernel
theorem dL_law_232 : decode cL_law 232 = .ok (.invokevirtual 83, 3) := by decide +kernel
theorem dL_law_235 : decode cL_law 235 = .ok (.istore 6, 2) := by decide +kernel
theorem dL_law_237 : decode cL_law 237 = .ok (.aload_n 2, 1) := by decide +kernel
theorem dL_law_238 : decode cL_law 238 = .ok (.invokevirtual 76, 3) := by decide +kernel
theorem dL_law_241 : decode cL_law 241 = .ok (.iload 5, 2) := by decide +kernel
theorem dL_law_243 : decode cL_law 243 = .ok (.if_icmp .eq 5, 3) := by decide +kernel
theorem dL_law_246 : decode cL_law 246 = .ok (.iconst 0, 1) := by decide +kernel
theorem dL_law_247 : decode cL_law 247 = .ok (.ireturn, 1) := by decide +kernel
theorem dL_law_248 : decode cL_law 248 = .ok (.iload 5, 2) := by decide +kernel
theorem dL_law_250 : decode cL_law 250 = .ok (.ifCond .ne 15, 3) := by decide +kernel
theorem dL_law_253 : decode cL_law 253 = .ok (.aload_n 3, 1) := by decide +kernel
theorem dL_law_254 : decode cL_law 254 = .ok (.iconst 0, 1) := by decide +kernel
theorem dL_law_255 : decode cL_law 255 = .ok (.laload, 1) := by decide +kernel
theorem dL_law_256 : decode cL_law 256 = .ok (.iload 6, 2) := by decide +kernel
theorem dL_law_258 : decode cL_law 258 = .ok (.i2l, 1) := by decide +kernel
theorem dL_law_259 : decode cL_law 259 = .ok (.lcmp, 1) := by decide +kernel
theorem dL_law_260 : decode cL_law 260 = .ok (.ifCond .eq 5, 3) := by decide +kernel
theorem dL_law_263 : decode cL_law 263 = .ok (.iconst 0, 1) := by decide +kernel
theorem dL_law_264 : decode cL_law 264 = .ok (.ireturn, 1) := by decide +kernel
theorem dL_law_265 : decode cL_law 265 = .ok (.goto 906, 3) := by decide +kernel
theorem dL_law_268 : decode cL_law 268 = .ok (.aload_n 1, 1) := by decide +kernel
theorem dL_law_269 : decode cL_law 269 = .ok (.aload_n 0, 1) := by decide +kernel
theorem dL_law_270 : decode cL_law 270 = .ok (.iload 4, 2) := by decide +kernel
theorem dL_law_272 : decode cL_law 272 = .ok (.iconst 1, 1) := by decide +kernel
theorem dL_law_273 : decode cL_law 273 = .ok (.iadd, 1) := by decide +kernel
theorem dL_law_274 : decode cL_law 274 = .ok (.iaload, 1) := by decide +kernel
theorem dL_law_275 : decode cL_law 275 = .ok (.aload_n 0, 1) := by decide +kernel
theorem dL_law_276 : decode cL_law 276 = .ok (.iload 4, 2) := by decide +kernel
theorem dL_law_278 : decode cL_law 278 = .ok (.iconst 2, 1) := by decide +kernel
theorem dL_law_279 : decode cL_law 279 = .ok (.iadd, 1) := by decide +kernel
theorem dL_law_280 : decode cL_law 280 = .ok (.iaload, 1) := by decide +kernel
theorem dL_law_281 : decode cL_law 281 = .ok (.invokestatic 84, 3) := by decide +kernel
theorem dL_law_284 : decode cL_law 284 = .ok (.istore 5, 2) := by decide +kernel
theorem dL_law_286 : decode cL_law 286 = .ok (.aload_n 2, 1) := by decide +kernel
theorem dL_law_287 : decode cL_law 287 = .ok (.aload_n 0, 1) := by decide +kernel
theorem dL_law_288 : decode cL_law 288 = .ok (.iload 4, 2) := by decide +kernel
theorem dL_law_290 : decode cL_law 290 = .ok (.iconst 1, 1) := by decide +kernel
theorem dL_law_291 : decode cL_law 291 = .ok (.iadd, 1) := by decide +kernel
theorem dL_law_292 : decode cL_law 292 = .ok (.iaload, 1) := by decide +kernel
theorem dL_law_293 : decode cL_law 293 = .ok (.aload_n 0, 1) := by decide +kernel
theorem dL_law_294 : decode cL_law 294 = .ok (.iload 4, 2) := by decide +kernel
theorem dL_law_296 : decode cL_law 296 = .ok (.iconst 2, 1) := by decide +kernel
theorem dL_law_297 : decode cL_law 297 = .ok (.iadd, 1) := by decide +kernel
theorem dL_law_298 : decode cL_law 298 = .ok (.iaload, 1) := by decide +kernel
theorem dL_law_299 : decode cL_law 299 = .ok (.invokevirtual 87, 3) := by decide +kernel
theorem dL_law_302 : decode cL_law 302 = .ok (.aload_n 2, 1) := by decide +kernel
theorem dL_law_303 : decode cL_law 303 = .ok (.invokevirtual 76, 3) := by decide +kernel
theorem dL_law_306 : decode cL_law 306 = .ok (.iload 5, 2) := by decide +kernel
theorem dL_law_308 : decode cL_law 308 = .ok (.if_icmp .eq 5, 3) := by decide +kernel
theorem dL_law_311 : decode cL_law 311 = .ok (.iconst 0, 1) := by decide +kernel
theorem dL_law_312 : decode cL_law 312 = .ok (.ireturn, 1) := by decide +kernel
theorem dL_law_313 : decode cL_law 313 = .ok (.goto 858, 3) := by decide +kernel
theorem dL_law_316 : decode cL_law 316 = .ok (.aload_n 1, 1) := by decide +kernel
theorem dL_law_317 : decode cL_law 317 = .ok (.aload_n 0, 1) := by decide +kernel
theorem dL_law_318 : decode cL_law 318 = .ok (.iload 4, 2) := by decide +kernel
theorem dL_law_320 : decode cL_law 320 = .ok (.iconst 1, 1) := by decide +kernel
theorem dL_law_321 : decode cL_law 321 = .ok (.iadd, 1) := by decide +kernel
theorem dL_law_322 : decode cL_law 322 = .ok (.iaload, 1) := by decide +kernel
theorem dL_law_323 : decode cL_law 323 = .ok (.aload_n 0, 1) := by decide +kernel
theorem dL_law_324 : decode cL_law 324 = .ok (.iload 4, 2) := by decide +kernel
theorem dL_law_326 : decode cL_law 326 = .ok (.iconst 2, 1) := by decide +kernel
theorem dL_law_327 : decode cL_law 327 = .ok (.iadd, 1) := by decide +kernel
theorem dL_law_328 : decode cL_law 328 = .ok (.iaload, 1) := by decide +kernel
theorem dL_law_329 : decode cL_law 329 = .ok (.aload_n 3, 1) := by decide +kernel
theorem dL_law_330 : decode cL_law 330 = .ok (.invokestatic 88, 3) := by decide +kernel
theorem dL_law_333 : decode cL_law 333 = .ok (.istore 5, 2) := by decide +kernel
theorem dL_law_335 : decode cL_law 335 = .ok (.aload_n 2, 1) := by decide +kernel
theorem dL_law_336 : decode cL_law 336 = .ok (.aload_n 0, 1) := by decide +kernel
theorem dL_law_337 : decode cL_law 337 = .ok (.iload 4, 2) := by decide +kernel
theorem dL_law_339 : decode cL_law 339 = .ok (.iconst 1, 1) := by decide +kernel
theorem dL_law_340 : decode cL_law 340 = .ok (.iadd, 1) := by decide +kernel
theorem dL_law_341 : decode cL_law 341 = .ok (.iaload, 1) := by decide +kernel
theorem dL_law_342 : decode cL_law 342 = .ok (.aload_n 0, 1) := by decide +kernel
theorem dL_law_343 : decode cL_law 343 = .ok (.iload 4, 2) := by decide +kernel
theorem dL_law_345 : decode cL_law 345 = .ok (.iconst 2, 1) := by decide +kernel
theorem dL_law_346 : decode cL_law 346 = .ok (.iadd, 1) := by decide +kernel
theorem dL_law_347 : decode cL_law 347 = .ok (.iaload, 1) := by decide +kernel
theorem dL_law_348 : decode cL_law 348 = .ok (.invokevirtual 90, 3) := by decide +kernel
theorem dL_law_351 : decode cL_law 351 = .ok (.istore 6, 2) := by decide +kernel
theorem dL_law_353 : decode cL_law 353 = .ok (.aload_n 2, 1) := by decide +kernel
theorem dL_law_354 : decode cL_law 354 = .ok (.invokevirtual 76, 3) := by decide +kernel
theorem dL_law_357 : decode cL_law 357 = .ok (.iload 5, 2) := by decide +kernel
theorem dL_law_359 : decode cL_law 359 = .ok (.if_icmp .eq 5, 3) := by decide +kernel
theorem dL_law_362 : decode cL_law 362 = .ok (.iconst 0, 1) := by decide +kernel
theorem dL_law_363 : decode cL_law 363 = .ok (.ireturn, 1) := by decide +kernel
theorem dL_law_364 : decode cL_law 364 = .ok (.iload 5, 2) := by decide +kernel
theorem dL_law_366 : decode cL_law 366 = .ok (.ifCond .ne 15, 3) := by decide +kernel
theorem dL_law_369 : decode cL_law 369 = .ok (.aload_n 3, 1) := by decide +kernel
theorem dL_law_370 : decode cL_law 370 = .ok (.iconst 0, 1) := by decide +kernel
theorem dL_law_371 : decode cL_law 371 = .ok (.laload, 1) := by decide +kernel
theorem dL_law_372 : decode cL_law 372 = .ok (.iload 6, 2) := by decide +kernel
theorem dL_law_374 : decode cL_law 374 = .ok (.i2l, 1) := by decide +kernel
theorem dL_law_375 : decode cL_law 375 = .ok (.lcmp, 1) := by decide +kernel
theorem dL_law_376 : decode cL_law 376 = .ok (.ifCond .eq 5, 3) := by decide +kernel
theorem dL_law_379 : decode cL_law 379 = .ok (.iconst 0, 1) := by decide +kernel
theorem dL_law_380 : decode cL_law 380 = .ok (.ireturn, 1) := by decide +kernel
theorem dL_law_381 : decode cL_law 381 = .ok (.goto 790, 3) := by decide +kernel
theorem dL_law_384 : decode cL_law 384 = .ok (.aload_n 1, 1) := by decide +kernel
theorem dL_law_385 : decode cL_law 385 = .ok (.aload_n 0, 1) := by decide +kernel
theorem dL_law_386 : decode cL_law 386 = .ok (.iload 4, 2) := by decide +kernel
theorem dL_law_388 : decode cL_law 388 = .ok (.iconst 1, 1) := by decide +kernel
theorem dL_law_389 : decode cL_law 389 = .ok (.iadd, 1) := by decide +kernel
theorem dL_law_390 : decode cL_law 390 = .ok (.iaload, 1) := by decide +kernel
theorem dL_law_391 : decode cL_law 391 = .ok (.aload_n 0, 1) := by decide +kernel
theorem dL_law_392 : decode cL_law 392 = .ok (.iload 4, 2) := by decide +kernel
theorem dL_law_394 : decode cL_law 394 = .ok (.iconst 2, 1) := by decide +kernel
theorem dL_law_395 : decode cL_law 395 = .ok (.iadd, 1) := by decide +kernel
theorem dL_law_396 : decode cL_law 396 = .ok (.iaload, 1) := by decide +kernel
theorem dL_law_397 : decode cL_law 397 = .ok (.aload_n 0, 1) := by decide +kernel
theorem dL_law_398 : decode cL_law 398 = .ok (.iload 4, 2) := by decide +kernel
theorem dL_law_400 : decode cL_law 400 = .ok (.iconst 3, 1) := by decide +kernel
theorem dL_law_401 : decode cL_law 401 = .ok (.iadd, 1) := by decide +kernel
theorem dL_law_402 : decode cL_law 402 = .ok (.iaload, 1) := by decide +kernel
theorem dL_law_403 : decode cL_law 403 = .ok (.aload_n 0, 1) := by decide +kernel
theorem dL_law_404 : decode cL_law 404 = .ok (.iload 4, 2) := by decide +kernel
theorem dL_law_406 : decode cL_law 406 = .ok (.iconst 4, 1) := by decide +kernel
theorem dL_law_407 : decode cL_law 407 = .ok (.iadd, 1) := by decide +kernel
theorem dL_law_408 : decode cL_law 408 = .ok (.iaload, 1) := by decide +kernel
theorem dL_law_409 : decode cL_law 409 = .ok (.aload_n 0, 1) := by decide +kernel
theorem dL_law_410 : decode cL_law 410 = .ok (.iload 4, 2) := by decide +kernel
theorem dL_law_412 : decode cL_law 412 = .ok (.iconst 5, 1) := by decide +kernel
theorem dL_law_413 : decode cL_law 413 = .ok (.iadd, 1) := by decide +kernel
theorem dL_law_414 : decode cL_law 414 = .ok (.iaload, 1) := by decide +kernel
theorem dL_law_415 : decode cL_law 415 = .ok (.aload_n 3, 1) := by decide +kernel
theorem dL_law_416 : decode cL_law 416 = .ok (.invokestatic 91, 3) := by decide +kernel
theorem dL_law_419 : decode cL_law 419 = .ok (.istore 5, 2) := by decide +kernel
theorem dL_law_421 : decode cL_law 421 = .ok (.aload_n 2, 1) := by decide +kernel
theorem dL_law_422 : decode cL_law 422 = .ok (.aload_n 0, 1) := by decide +kernel
theorem dL_law_423 : decode cL_law 423 = .ok (.iload 4, 2) := by decide +kernel
theorem dL_law_425 : decode cL_law 425 = .ok (.iconst 1, 1) := by decide +kernel
theorem dL_law_426 : decode cL_law 426 = .ok (.iadd, 1) := by decide +kernel
theorem dL_law_427 : decode cL_law 427 = .ok (.iaload, 1) := by decide +kernel
theorem dL_law_428 : decode cL_law 428 = .ok (.aload_n 0, 1) := by decide +kernel
theorem dL_law_429 : decode cL_law 429 = .ok (.iload 4, 2) := by decide +kernel
theorem dL_law_431 : decode cL_law 431 = .ok (.iconst 2, 1) := by decide +kernel
theorem dL_law_432 : decode cL_law 432 = .ok (.iadd, 1) := by decide +kernel
theorem dL_law_433 : decode cL_law 433 = .ok (.iaload, 1) := by decide +kernel
theorem dL_law_434 : decode cL_law 434 = .ok (.aload_n 0, 1) := by decide +kernel
theorem dL_law_435 : decode cL_law 435 = .ok (.iload 4, 2) := by decide +kernel
theorem dL_law_437 : decode cL_law 437 = .ok (.iconst 3, 1) := by decide +kernel
theorem dL_law_438 : decode cL_law 438 = .ok (.iadd, 1) := by decide +kernel
theorem dL_law_439 : decode cL_law 439 = .ok (.iaload, 1) := by decide +kernel
theorem dL_law_440 : decode cL_law 440 = .ok (.aload_n 0, 1) := by decide +kernel
theorem dL_law_441 : decode cL_law 441 = .ok (.iload 4, 2) := by decide +kernel
theorem dL_law_443 : decode cL_law 443 = .ok (.iconst 4, 1) := by decide +kernel
theorem dL_law_444 : decode cL_law 444 = .ok (.iadd, 1) := by decide +kernel
theorem dL_law_445 : decode cL_law 445 = .ok (.iaload, 1) := by decide +kernel
theorem dL_law_446 : decode cL_law 446 = .ok (.aload_n 0, 1) := by decide +kernel
theorem dL_law_447 : decode cL_law 447 = .ok (.iload 4, 2) := by decide +kernel
theorem dL_law_449 : decode cL_law 449 = .ok (.iconst 5, 1) := by decide +kernel
theorem dL_law_450 : decode cL_law 450 = .ok (.iadd, 1) := by decide +kernel
theorem dL_law_451 : decode cL_law 451 = .ok (.iaload, 1) := by decide +kernel
theorem dL_law_452 : decode cL_law 452 = .ok (.invokevirtual 94, 3) := by decide +kernel
theorem dL_law_455 : decode cL_law 455 = .ok (.istore 6, 2) := by decide +kernel
theorem dL_law_457 : decode cL_law 457 = .ok (.aload_n 2, 1) := by decide +kernel
theorem dL_law_458 : decode cL_law 458 = .ok (.invokevirtual 76, 3) := by decide +kernel
theorem dL_law_461 : decode cL_law 461 = .ok (.iload 5, 2) := by decide +kernel
theorem dL_law_463 : decode cL_law 463 = .ok (.if_icmp .eq 5, 3) := by decide +kernel
theorem dL_law_466 : decode cL_law 466 = .ok (.iconst 0, 1) := by decide +kernel
theorem dL_law_467 : decode cL_law 467 = .ok (.ireturn, 1) := by decide +kernel
theorem dL_law_468 : decode cL_law 468 = .ok (.iload 5, 2) := by decide +kernel
theorem dL_law_470 : decode cL_law 470 = .ok (.ifCond .ne 22, 3) := by decide +kernel
theorem dL_law_473 : decode cL_law 473 = .ok (.aload_n 3, 1) := by decide +kernel
theorem dL_law_474 : decode cL_law 474 = .ok (.iconst 0, 1) := by decide +kernel
theorem dL_law_475 : decode cL_law 475 = .ok (.laload, 1) := by decide +kernel
theorem dL_law_476 : decode cL_law 476 = .ok (.iload 6, 2) := by decide +kernel
theorem dL_law_478 : decode cL_law 478 = .ok (.ifCond .eq 7, 3) := by decide +kernel
theorem dL_law_481 : decode cL_law 481 = .ok (.lconst 1, 1) := by decide +kernel
theorem dL_law_482 : decode cL_law 482 = .ok (.goto 4, 3) := by decide +kernel
theorem dL_law_485 : decode cL_law 485 = .ok (.lconst 0, 1) := by decide +kernel
theorem dL_law_486 : decode cL_law 486 = .ok (.lcmp, 1) := by decide +kernel
theorem dL_law_487 : decode cL_law 487 = .ok (.ifCond .eq 5, 3) := by decide +kernel
theorem dL_law_490 : decode cL_law 490 = .ok (.iconst 0, 1) := by decide +kernel
theorem dL_law_491 : decode cL_law 491 = .ok (.ireturn, 1) := by decide +kernel
theorem dL_law_492 : decode cL_law 492 = .ok (.goto 679, 3) := by decide +kernel
theorem dL_law_495 : decode cL_law 495 = .ok (.aload_n 1, 1) := by decide +kernel
theorem dL_law_496 : decode cL_law 496 = .ok (.aload_n 0, 1) := by decide +kernel
theorem dL_law_497 : decode cL_law 497 = .ok (.iload 4, 2) := by decide +kernel
theorem dL_law_499 : decode cL_law 499 = .ok (.iconst 1, 1) := by decide +kernel
theorem dL_law_500 : decode cL_law 500 = .ok (.iadd, 1) := by decide +kernel
theorem dL_law_501 : decode cL_law 501 = .ok (.iaload, 1) := by decide +kernel
theorem dL_law_502 : decode cL_law 502 = .ok (.aload_n 0, 1) := by decide +kernel
theorem dL_law_503 : decode cL_law 503 = .ok (.iload 4, 2) := by decide +kernel
theorem dL_law_505 : decode cL_law 505 = .ok (.iconst 2, 1) := by decide +kernel
theorem dL_law_506 : decode cL_law 506 = .ok (.iadd, 1) := by decide +kernel
theorem dL_law_507 : decode cL_law 507 = .ok (.iaload, 1) := by decide +kernel
theorem dL_law_508 : decode cL_law 508 = .ok (.aload_n 3, 1) := by decide +kernel
theorem dL_law_509 : decode cL_law 509 = .ok (.invokestatic 95, 3) := by decide +kernel
theorem dL_law_512 : decode cL_law 512 = .ok (.istore 5, 2) := by decide +kernel
theorem dL_law_514 : decode cL_law 514 = .ok (.aload_n 2, 1) := by decide +kernel
theorem dL_law_515 : decode cL_law 515 = .ok (.aload_n 0, 1) := by decide +kernel
theorem dL_law_516 : decode cL_law 516 = .ok (.iload 4, 2) := by decide +kernel
theorem dL_law_518 : decode cL_law 518 = .ok (.iconst 1, 1) := by decide +kernel
theorem dL_law_519 : decode cL_law 519 = .ok (.iadd, 1) := by decide +kernel
theorem dL_law_520 : decode cL_law 520 = .ok (.iaload, 1) := by decide +kernel
theorem dL_law_521 : decode cL_law 521 = .ok (.aload_n 0, 1) := by decide +kernel
theorem dL_law_522 : decode cL_law 522 = .ok (.iload 4, 2) := by decide +kernel
theorem dL_law_524 : decode cL_law 524 = .ok (.iconst 2, 1) := by decide +kernel
theorem dL_law_525 : decode cL_law 525 = .ok (.iadd, 1) := by decide +kernel
theorem dL_law_526 : decode cL_law 526 = .ok (.iaload, 1) := by decide +kernel
theorem dL_law_527 : decode cL_law 527 = .ok (.invokevirtual 97, 3) := by decide +kernel
theorem dL_law_530 : decode cL_law 530 = .ok (.istore 6, 2) := by decide +kernel
theorem dL_law_532 : decode cL_law 532 = .ok (.aload_n 2, 1) := by decide +kernel
theorem dL_law_533 : decode cL_law 533 = .ok (.invokevirtual 76, 3) := by decide +kernel
theorem dL_law_536 : decode cL_law 536 = .ok (.iload 5, 2) := by decide +kernel
theorem dL_law_538 : decode cL_law 538 = .ok (.if_icmp .eq 5, 3) := by decide +kernel
theorem dL_law_541 : decode cL_law 541 = .ok (.iconst 0, 1) := by decide +kernel
theorem dL_law_542 : decode cL_law 542 = .ok (.ireturn, 1) := by decide +kernel
theorem dL_law_543 : decode cL_law 543 = .ok (.iload 5, 2) := by decide +kernel
theorem dL_law_545 : decode cL_law 545 = .ok (.ifCond .ne 22, 3) := by decide +kernel
theorem dL_law_548 : decode cL_law 548 = .ok (.aload_n 3, 1) := by decide +kernel
theorem dL_law_549 : decode cL_law 549 = .ok (.iconst 0, 1) := by decide +kernel
theorem dL_law_550 : decode cL_law 550 = .ok (.laload, 1) := by decide +kernel
theorem dL_law_551 : decode cL_law 551 = .ok (.iload 6, 2) := by decide +kernel
theorem dL_law_553 : decode cL_law 553 = .ok (.ifCond .eq 7, 3) := by decide +kernel
theorem dL_law_556 : decode cL_law 556 = .ok (.lconst 1, 1) := by decide +kernel
theorem dL_law_557 : decode cL_law 557 = .ok (.goto 4, 3) := by decide +kernel
theorem dL_law_560 : decode cL_law 560 = .ok (.lconst 0, 1) := by decide +kernel
theorem dL_law_561 : decode cL_law 561 = .ok (.lcmp, 1) := by decide +kernel
theorem dL_law_562 : decode cL_law 562 = .ok (.ifCond .eq 5, 3) := by decide +kernel
theorem dL_law_565 : decode cL_law 565 = .ok (.iconst 0, 1) := by decide +kernel
theorem dL_law_566 : decode cL_law 566 = .ok (.ireturn, 1) := by decide +kernel
theorem dL_law_567 : decode cL_law 567 = .ok (.goto 604, 3) := by decide +kernel
theorem dL_law_570 : decode cL_law 570 = .ok (.aload_n 1, 1) := by decide +kernel
theorem dL_law_571 : decode cL_law 571 = .ok (.aload_n 0, 1) := by decide +kernel
theorem dL_law_572 : decode cL_law 572 = .ok (.iload 4, 2) := by decide +kernel
theorem dL_law_574 : decode cL_law 574 = .ok (.iconst 1, 1) := by decide +kernel
theorem dL_law_575 : decode cL_law 575 = .ok (.iadd, 1) := by decide +kernel
theorem dL_law_576 : decode cL_law 576 = .ok (.iaload, 1) := by decide +kernel
theorem dL_law_577 : decode cL_law 577 = .ok (.aload_n 0, 1) := by decide +kernel
theorem dL_law_578 : decode cL_law 578 = .ok (.iload 4, 2) := by decide +kernel
theorem dL_law_580 : decode cL_law 580 = .ok (.iconst 2, 1) := by decide +kernel
theorem dL_law_581 : decode cL_law 581 = .ok (.iadd, 1) := by decide +kernel
theorem dL_law_582 : decode cL_law 582 = .ok (.iaload, 1) := by decide +kernel
theorem dL_law_583 : decode cL_law 583 = .ok (.aload_n 3, 1) := by decide +kernel
theorem dL_law_584 : decode cL_law 584 = .ok (.invokestatic 98, 3) := by decide +kernel
theorem dL_law_587 : decode cL_law 587 = .ok (.istore 5, 2) := by decide +kernel
theorem dL_law_589 : decode cL_law 589 = .ok (.aload_n 2, 1) := by decide +kernel
theorem dL_law_590 : decode cL_law 590 = .ok (.aload_n 0, 1) := by decide +kernel
theorem dL_law_591 : decode cL_law 591 = .ok (.iload 4, 2) := by decide +kernel
theorem dL_law_593 : decode cL_law 593 = .ok (.iconst 1, 1) := by decide +kernel
theorem dL_law_594 : decode cL_law 594 = .ok (.iadd, 1) := by decide +kernel
theorem dL_law_595 : decode cL_law 595 = .ok (.iaload, 1) := by decide +kernel
theorem dL_law_596 : decode cL_law 596 = .ok (.aload_n 0, 1) := by decide +kernel
theorem dL_law_597 : decode cL_law 597 = .ok (.iload 4, 2) := by decide +kernel
theorem dL_law_599 : decode cL_law 599 = .ok (.iconst 2, 1) := by decide +kernel
end
section
theorem dL_law_600 : decode cL_law 600 = .ok (.iadd, 1) := by decide +kernel
theorem dL_law_601 : decode cL_law 601 = .ok (.iaload, 1) := by decide +kernel
theorem dL_law_602 : decode cL_law 602 = .ok (.invokevirtual 100, 3) := by decide +kernel
theorem dL_law_605 : decode cL_law 605 = .ok (.istore 6, 2) := by decide +kernel
theorem dL_law_607 : decode cL_law 607 = .ok (.aload_n 2, 1) := by decide +kernel
theorem dL_law_608 : decode cL_law 608 = .ok (.invokevirtual 76, 3) := by decide +kernel
theorem dL_law_611 : decode cL_law 611 = .ok (.iload 5, 2) := by decide +kernel
theorem dL_law_613 : decode cL_law 613 = .ok (.if_icmp .eq 5, 3) := by decide +kernel
theorem dL_law_616 : decode cL_law 616 = .ok (.iconst 0, 1) := by decide +kernel
theorem dL_law_617 : decode cL_law 617 = .ok (.ireturn, 1) := by decide +kernel
theorem dL_law_618 : decode cL_law 618 = .ok (.iload 5, 2) := by decide +kernel
theorem dL_law_620 : decode cL_law 620 = .ok (.ifCond .ne 15, 3) := by decide +kernel
theorem dL_law_623 : decode cL_law 623 = .ok (.aload_n 3, 1) := by decide +kernel
theorem dL_law_624 : decode cL_law 624 = .ok (.iconst 0, 1) := by decide +kernel
theorem dL_law_625 : decode cL_law 625 = .ok (.laload, 1) := by decide +kernel
theorem dL_law_626 : decode cL_law 626 = .ok (.iload 6, 2) := by decide +kernel
theorem dL_law_628 : decode cL_law 628 = .ok (.i2l, 1) := by decide +kernel
theorem dL_law_629 : decode cL_law 629 = .ok (.lcmp, 1) := by decide +kernel
theorem dL_law_630 : decode cL_law 630 = .ok (.ifCond .eq 5, 3) := by decide +kernel
theorem dL_law_633 : decode cL_law 633 = .ok (.iconst 0, 1) := by decide +kernel
theorem dL_law_634 : decode cL_law 634 = .ok (.ireturn, 1) := by decide +kernel
theorem dL_law_635 : decode cL_law 635 = .ok (.goto 536, 3) := by decide +kernel
theorem dL_law_638 : decode cL_law 638 = .ok (.aload_n 1, 1) := by decide +kernel
theorem dL_law_639 : decode cL_law 639 = .ok (.aload_n 0, 1) := by decide +kernel
theorem dL_law_640 : decode cL_law 640 = .ok (.iload 4, 2) := by decide +kernel
theorem dL_law_642 : decode cL_law 642 = .ok (.iconst 1, 1) := by decide +kernel
theorem dL_law_643 : decode cL_law 643 = .ok (.iadd, 1) := by decide +kernel
theorem dL_law_644 : decode cL_law 644 = .ok (.iaload, 1) := by decide +kernel
theorem dL_law_645 : decode cL_law 645 = .ok (.aload_n 0, 1) := by decide +kernel
theorem dL_law_646 : decode cL_law 646 = .ok (.iload 4, 2) := by decide +kernel
theorem dL_law_648 : decode cL_law 648 = .ok (.iconst 2, 1) := by decide +kernel
theorem dL_law_649 : decode cL_law 649 = .ok (.iadd, 1) := by decide +kernel
theorem dL_law_650 : decode cL_law 650 = .ok (.iaload, 1) := by decide +kernel
theorem dL_law_651 : decode cL_law 651 = .ok (.aload_n 3, 1) := by decide +kernel
theorem dL_law_652 : decode cL_law 652 = .ok (.invokestatic 101, 3) := by decide +kernel
theorem dL_law_655 : decode cL_law 655 = .ok (.istore 5, 2) := by decide +kernel
theorem dL_law_657 : decode cL_law 657 = .ok (.aload_n 2, 1) := by decide +kernel
theorem dL_law_658 : decode cL_law 658 = .ok (.aload_n 0, 1) := by decide +kernel
theorem dL_law_659 : decode cL_law 659 = .ok (.iload 4, 2) := by decide +kernel
theorem dL_law_661 : decode cL_law 661 = .ok (.iconst 1, 1) := by decide +kernel
theorem dL_law_662 : decode cL_law 662 = .ok (.iadd, 1) := by decide +kernel
theorem dL_law_663 : decode cL_law 663 = .ok (.iaload, 1) := by decide +kernel
theorem dL_law_664 : decode cL_law 664 = .ok (.aload_n 0, 1) := by decide +kernel
theorem dL_law_665 : decode cL_law 665 = .ok (.iload 4, 2) := by decide +kernel
theorem dL_law_667 : decode cL_law 667 = .ok (.iconst 2, 1) := by decide +kernel
theorem dL_law_668 : decode cL_law 668 = .ok (.iadd, 1) := by decide +kernel
theorem dL_law_669 : decode cL_law 669 = .ok (.iaload, 1) := by decide +kernel
theorem dL_law_670 : decode cL_law 670 = .ok (.invokevirtual 103, 3) := by decide +kernel
theorem dL_law_673 : decode cL_law 673 = .ok (.istore 6, 2) := by decide +kernel
theorem dL_law_675 : decode cL_law 675 = .ok (.aload_n 2, 1) := by decide +kernel
theorem dL_law_676 : decode cL_law 676 = .ok (.invokevirtual 76, 3) := by decide +kernel
theorem dL_law_679 : decode cL_law 679 = .ok (.iload 5, 2) := by decide +kernel
theorem dL_law_681 : decode cL_law 681 = .ok (.if_icmp .eq 5, 3) := by decide +kernel
theorem dL_law_684 : decode cL_law 684 = .ok (.iconst 0, 1) := by decide +kernel
theorem dL_law_685 : decode cL_law 685 = .ok (.ireturn, 1) := by decide +kernel
theorem dL_law_686 : decode cL_law 686 = .ok (.iload 5, 2) := by decide +kernel
theorem dL_law_688 : decode cL_law 688 = .ok (.ifCond .ne 15, 3) := by decide +kernel
theorem dL_law_691 : decode cL_law 691 = .ok (.aload_n 3, 1) := by decide +kernel
theorem dL_law_692 : decode cL_law 692 = .ok (.iconst 0, 1) := by decide +kernel
theorem dL_law_693 : decode cL_law 693 = .ok (.laload, 1) := by decide +kernel
theorem dL_law_694 : decode cL_law 694 = .ok (.iload 6, 2) := by decide +kernel
theorem dL_law_696 : decode cL_law 696 = .ok (.i2l, 1) := by decide +kernel
theorem dL_law_697 : decode cL_law 697 = .ok (.lcmp, 1) := by decide +kernel
theorem dL_law_698 : decode cL_law 698 = .ok (.ifCond .eq 5, 3) := by decide +kernel
theorem dL_law_701 : decode cL_law 701 = .ok (.iconst 0, 1) := by decide +kernel
theorem dL_law_702 : decode cL_law 702 = .ok (.ireturn, 1) := by decide +kernel
theorem dL_law_703 : decode cL_law 703 = .ok (.goto 468, 3) := by decide +kernel
theorem dL_law_706 : decode cL_law 706 = .ok (.aload_n 1, 1) := by decide +kernel
theorem dL_law_707 : decode cL_law 707 = .ok (.aload_n 0, 1) := by decide +kernel
theorem dL_law_708 : decode cL_law 708 = .ok (.iload 4, 2) := by decide +kernel
theorem dL_law_710 : decode cL_law 710 = .ok (.iconst 1, 1) := by decide +kernel
theorem dL_law_711 : decode cL_law 711 = .ok (.iadd, 1) := by decide +kernel
theorem dL_law_712 : decode cL_law 712 = .ok (.iaload, 1) := by decide +kernel
theorem dL_law_713 : decode cL_law 713 = .ok (.aload_n 0, 1) := by decide +kernel
theorem dL_law_714 : decode cL_law 714 = .ok (.iload 4, 2) := by decide +kernel
theorem dL_law_716 : decode cL_law 716 = .ok (.iconst 2, 1) := by decide +kernel
theorem dL_law_717 : decode cL_law 717 = .ok (.iadd, 1) := by decide +kernel
theorem dL_law_718 : decode cL_law 718 = .ok (.iaload, 1) := by decide +kernel
theorem dL_law_719 : decode cL_law 719 = .ok (.aload_n 0, 1) := by decide +kernel
theorem dL_law_720 : decode cL_law 720 = .ok (.iload 4, 2) := by decide +kernel
theorem dL_law_722 : decode cL_law 722 = .ok (.iconst 3, 1) := by decide +kernel
theorem dL_law_723 : decode cL_law 723 = .ok (.iadd, 1) := by decide +kernel
theorem dL_law_724 : decode cL_law 724 = .ok (.iaload, 1) := by decide +kernel
theorem dL_law_725 : decode cL_law 725 = .ok (.aload_n 3, 1) := by decide +kernel
theorem dL_law_726 : decode cL_law 726 = .ok (.invokestatic 104, 3) := by decide +kernel
theorem dL_law_729 : decode cL_law 729 = .ok (.istore 5, 2) := by decide +kernel
theorem dL_law_731 : decode cL_law 731 = .ok (.aload_n 2, 1) := by decide +kernel
theorem dL_law_732 : decode cL_law 732 = .ok (.aload_n 0, 1) := by decide +kernel
theorem dL_law_733 : decode cL_law 733 = .ok (.iload 4, 2) := by decide +kernel
theorem dL_law_735 : decode cL_law 735 = .ok (.iconst 1, 1) := by decide +kernel
theorem dL_law_736 : decode cL_law 736 = .ok (.iadd, 1) := by decide +kernel
theorem dL_law_737 : decode cL_law 737 = .ok (.iaload, 1) := by decide +kernel
theorem dL_law_738 : decode cL_law 738 = .ok (.aload_n 0, 1) := by decide +kernel
theorem dL_law_739 : decode cL_law 739 = .ok (.iload 4, 2) := by decide +kernel
theorem dL_law_741 : decode cL_law 741 = .ok (.iconst 2, 1) := by decide +kernel
theorem dL_law_742 : decode cL_law 742 = .ok (.iadd, 1) := by decide +kernel
theorem dL_law_743 : decode cL_law 743 = .ok (.iaload, 1) := by decide +kernel
theorem dL_law_744 : decode cL_law 744 = .ok (.aload_n 0, 1) := by decide +kernel
theorem dL_law_745 : decode cL_law 745 = .ok (.iload 4, 2) := by decide +kernel
theorem dL_law_747 : decode cL_law 747 = .ok (.iconst 3, 1) := by decide +kernel
theorem dL_law_748 : decode cL_law 748 = .ok (.iadd, 1) := by decide +kernel
theorem dL_law_749 : decode cL_law 749 = .ok (.iaload, 1) := by decide +kernel
theorem dL_law_750 : decode cL_law 750 = .ok (.invokevirtual 106, 3) := by decide +kernel
theorem dL_law_753 : decode cL_law 753 = .ok (.istore 6, 2) := by decide +kernel
theorem dL_law_755 : decode cL_law 755 = .ok (.aload_n 2, 1) := by decide +kernel
theorem dL_law_756 : decode cL_law 756 = .ok (.invokevirtual 76, 3) := by decide +kernel
theorem dL_law_759 : decode cL_law 759 = .ok (.iload 5, 2) := by decide +kernel
theorem dL_law_761 : decode cL_law 761 = .ok (.if_icmp .eq 5, 3) := by decide +kernel
theorem dL_law_764 : decode cL_law 764 = .ok (.iconst 0, 1) := by decide +kernel
theorem dL_law_765 : decode cL_law 765 = .ok (.ireturn, 1) := by decide +kernel
theorem dL_law_766 : decode cL_law 766 = .ok (.iload 5, 2) := by decide +kernel
theorem dL_law_768 : decode cL_law 768 = .ok (.ifCond .ne 15, 3) := by decide +kernel
theorem dL_law_771 : decode cL_law 771 = .ok (.aload_n 3, 1) := by decide +kernel
theorem dL_law_772 : decode cL_law 772 = .ok (.iconst 0, 1) := by decide +kernel
theorem dL_law_773 : decode cL_law 773 = .ok (.laload, 1) := by decide +kernel
theorem dL_law_774 : decode cL_law 774 = .ok (.iload 6, 2) := by decide +kernel
theorem dL_law_776 : decode cL_law 776 = .ok (.i2l, 1) := by decide +kernel
theorem dL_law_777 : decode cL_law 777 = .ok (.lcmp, 1) := by decide +kernel
theorem dL_law_778 : decode cL_law 778 = .ok (.ifCond .eq 5, 3) := by decide +kernel
theorem dL_law_781 : decode cL_law 781 = .ok (.iconst 0, 1) := by decide +kernel
theorem dL_law_782 : decode cL_law 782 = .ok (.ireturn, 1) := by decide +kernel
theorem dL_law_783 : decode cL_law 783 = .ok (.goto 388, 3) := by decide +kernel
theorem dL_law_786 : decode cL_law 786 = .ok (.aload_n 1, 1) := by decide +kernel
theorem dL_law_787 : decode cL_law 787 = .ok (.aload_n 0, 1) := by decide +kernel
theorem dL_law_788 : decode cL_law 788 = .ok (.iload 4, 2) := by decide +kernel
theorem dL_law_790 : decode cL_law 790 = .ok (.iconst 1, 1) := by decide +kernel
theorem dL_law_791 : decode cL_law 791 = .ok (.iadd, 1) := by decide +kernel
theorem dL_law_792 : decode cL_law 792 = .ok (.iaload, 1) := by decide +kernel
theorem dL_law_793 : decode cL_law 793 = .ok (.aload_n 0, 1) := by decide +kernel
theorem dL_law_794 : decode cL_law 794 = .ok (.iload 4, 2) := by decide +kernel
theorem dL_law_796 : decode cL_law 796 = .ok (.iconst 2, 1) := by decide +kernel
theorem dL_law_797 : decode cL_law 797 = .ok (.iadd, 1) := by decide +kernel
theorem dL_law_798 : decode cL_law 798 = .ok (.iaload, 1) := by decide +kernel
theorem dL_law_799 : decode cL_law 799 = .ok (.aload_n 0, 1) := by decide +kernel
theorem dL_law_800 : decode cL_law 800 = .ok (.iload 4, 2) := by decide +kernel
theorem dL_law_802 : decode cL_law 802 = .ok (.iconst 3, 1) := by decide +kernel
theorem dL_law_803 : decode cL_law 803 = .ok (.iadd, 1) := by decide +kernel
theorem dL_law_804 : decode cL_law 804 = .ok (.iaload, 1) := by decide +kernel
theorem dL_law_805 : decode cL_law 805 = .ok (.aload_n 3, 1) := by decide +kernel
theorem dL_law_806 : decode cL_law 806 = .ok (.invokestatic 107, 3) := by decide +kernel
theorem dL_law_809 : decode cL_law 809 = .ok (.istore 5, 2) := by decide +kernel
theorem dL_law_811 : decode cL_law 811 = .ok (.aload_n 2, 1) := by decide +kernel
theorem dL_law_812 : decode cL_law 812 = .ok (.aload_n 0, 1) := by decide +kernel
theorem dL_law_813 : decode cL_law 813 = .ok (.iload 4, 2) := by decide +kernel
theorem dL_law_815 : decode cL_law 815 = .ok (.iconst 1, 1) := by decide +kernel
theorem dL_law_816 : decode cL_law 816 = .ok (.iadd, 1) := by decide +kernel
theorem dL_law_817 : decode cL_law 817 = .ok (.iaload, 1) := by decide +kernel
theorem dL_law_818 : decode cL_law 818 = .ok (.aload_n 0, 1) := by decide +kernel
theorem dL_law_819 : decode cL_law 819 = .ok (.iload 4, 2) := by decide +kernel
theorem dL_law_821 : decode cL_law 821 = .ok (.iconst 2, 1) := by decide +kernel
theorem dL_law_822 : decode cL_law 822 = .ok (.iadd, 1) := by decide +kernel
theorem dL_law_823 : decode cL_law 823 = .ok (.iaload, 1) := by decide +kernel
theorem dL_law_824 : decode cL_law 824 = .ok (.aload_n 0, 1) := by decide +kernel
theorem dL_law_825 : decode cL_law 825 = .ok (.iload 4, 2) := by decide +kernel
theorem dL_law_827 : decode cL_law 827 = .ok (.iconst 3, 1) := by decide +kernel
theorem dL_law_828 : decode cL_law 828 = .ok (.iadd, 1) := by decide +kernel
theorem dL_law_829 : decode cL_law 829 = .ok (.iaload, 1) := by decide +kernel
theorem dL_law_830 : decode cL_law 830 = .ok (.invokevirtual 109, 3) := by decide +kernel
theorem dL_law_833 : decode cL_law 833 = .ok (.istore 6, 2) := by decide +kernel
theorem dL_law_835 : decode cL_law 835 = .ok (.aload_n 2, 1) := by decide +kernel
theorem dL_law_836 : decode cL_law 836 = .ok (.invokevirtual 76, 3) := by decide +kernel
theorem dL_law_839 : decode cL_law 839 = .ok (.iload 5, 2) := by decide +kernel
theorem dL_law_841 : decode cL_law 841 = .ok (.if_icmp .eq 5, 3) := by decide +kernel
theorem dL_law_844 : decode cL_law 844 = .ok (.iconst 0, 1) := by decide +kernel
theorem dL_law_845 : decode cL_law 845 = .ok (.ireturn, 1) := by decide +kernel
theorem dL_law_846 : decode cL_law 846 = .ok (.iload 5, 2) := by decide +kernel
theorem dL_law_848 : decode cL_law 848 = .ok (.ifCond .ne 15, 3) := by decide +kernel
theorem dL_law_851 : decode cL_law 851 = .ok (.aload_n 3, 1) := by decide +kernel
theorem dL_law_852 : decode cL_law 852 = .ok (.iconst 0, 1) := by decide +kernel
theorem dL_law_853 : decode cL_law 853 = .ok (.laload, 1) := by decide +kernel
theorem dL_law_854 : decode cL_law 854 = .ok (.iload 6, 2) := by decide +kernel
theorem dL_law_856 : decode cL_law 856 = .ok (.i2l, 1) := by decide +kernel
theorem dL_law_857 : decode cL_law 857 = .ok (.lcmp, 1) := by decide +kernel
theorem dL_law_858 : decode cL_law 858 = .ok (.ifCond .eq 5, 3) := by decide +kernel
theorem dL_law_861 : decode cL_law 861 = .ok (.iconst 0, 1) := by decide +kernel
theorem dL_law_862 : decode cL_law 862 = .ok (.ireturn, 1) := by decide +kernel
theorem dL_law_863 : decode cL_law 863 = .ok (.goto 308, 3) := by decide +kernel
theorem dL_law_866 : decode cL_law 866 = .ok (.aload_n 1, 1) := by decide +kernel
theorem dL_law_867 : decode cL_law 867 = .ok (.aload_n 0, 1) := by decide +kernel
theorem dL_law_868 : decode cL_law 868 = .ok (.iload 4, 2) := by decide +kernel
theorem dL_law_870 : decode cL_law 870 = .ok (.iconst 1, 1) := by decide +kernel
theorem dL_law_871 : decode cL_law 871 = .ok (.iadd, 1) := by decide +kernel
theorem dL_law_872 : decode cL_law 872 = .ok (.iaload, 1) := by decide +kernel
theorem dL_law_873 : decode cL_law 873 = .ok (.aload_n 3, 1) := by decide +kernel
theorem dL_law_874 : decode cL_law 874 = .ok (.invokestatic 110, 3) := by decide +kernel
theorem dL_law_877 : decode cL_law 877 = .ok (.istore 5, 2) := by decide +kernel
theorem dL_law_879 : decode cL_law 879 = .ok (.aload_n 2, 1) := by decide +kernel
theorem dL_law_880 : decode cL_law 880 = .ok (.aload_n 0, 1) := by decide +kernel
theorem dL_law_881 : decode cL_law 881 = .ok (.iload 4, 2) := by decide +kernel
theorem dL_law_883 : decode cL_law 883 = .ok (.iconst 1, 1) := by decide +kernel
theorem dL_law_884 : decode cL_law 884 = .ok (.iadd, 1) := by decide +kernel
theorem dL_law_885 : decode cL_law 885 = .ok (.iaload, 1) := by decide +kernel
theorem dL_law_886 : decode cL_law 886 = .ok (.invokevirtual 113, 3) := by decide +kernel
theorem dL_law_889 : decode cL_law 889 = .ok (.istore 6, 2) := by decide +kernel
theorem dL_law_891 : decode cL_law 891 = .ok (.aload_n 2, 1) := by decide +kernel
theorem dL_law_892 : decode cL_law 892 = .ok (.invokevirtual 76, 3) := by decide +kernel
theorem dL_law_895 : decode cL_law 895 = .ok (.iload 5, 2) := by decide +kernel
theorem dL_law_897 : decode cL_law 897 = .ok (.if_icmp .eq 5, 3) := by decide +kernel
theorem dL_law_900 : decode cL_law 900 = .ok (.iconst 0, 1) := by decide +kernel
theorem dL_law_901 : decode cL_law 901 = .ok (.ireturn, 1) := by decide +kernel
theorem dL_law_902 : decode cL_law 902 = .ok (.iload 5, 2) := by decide +kernel
theorem dL_law_904 : decode cL_law 904 = .ok (.ifCond .ne 15, 3) := by decide +kernel
theorem dL_law_907 : decode cL_law 907 = .ok (.aload_n 3, 1) := by decide +kernel
theorem dL_law_908 : decode cL_law 908 = .ok (.iconst 0, 1) := by decide +kernel
theorem dL_law_909 : decode cL_law 909 = .ok (.laload, 1) := by decide +kernel
theorem dL_law_910 : decode cL_law 910 = .ok (.iload 6, 2) := by decide +kernel
theorem dL_law_912 : decode cL_law 912 = .ok (.i2l, 1) := by decide +kernel
theorem dL_law_913 : decode cL_law 913 = .ok (.lcmp, 1) := by decide +kernel
theorem dL_law_914 : decode cL_law 914 = .ok (.ifCond .eq 5, 3) := by decide +kernel
theorem dL_law_917 : decode cL_law 917 = .ok (.iconst 0, 1) := by decide +kernel
theorem dL_law_918 : decode cL_law 918 = .ok (.ireturn, 1) := by decide +kernel
theorem dL_law_919 : decode cL_law 919 = .ok (.goto 252, 3) := by decide +kernel
theorem dL_law_922 : decode cL_law 922 = .ok (.aload_n 1, 1) := by decide +kernel
theorem dL_law_923 : decode cL_law 923 = .ok (.aload_n 0, 1) := by decide +kernel
theorem dL_law_924 : decode cL_law 924 = .ok (.iload 4, 2) := by decide +kernel
theorem dL_law_926 : decode cL_law 926 = .ok (.iconst 1, 1) := by decide +kernel
theorem dL_law_927 : decode cL_law 927 = .ok (.iadd, 1) := by decide +kernel
theorem dL_law_928 : decode cL_law 928 = .ok (.iaload, 1) := by decide +kernel
theorem dL_law_929 : decode cL_law 929 = .ok (.aload_n 0, 1) := by decide +kernel
theorem dL_law_930 : decode cL_law 930 = .ok (.iload 4, 2) := by decide +kernel
theorem dL_law_932 : decode cL_law 932 = .ok (.iconst 2, 1) := by decide +kernel
theorem dL_law_933 : decode cL_law 933 = .ok (.iadd, 1) := by decide +kernel
theorem dL_law_934 : decode cL_law 934 = .ok (.iaload, 1) := by decide +kernel
theorem dL_law_935 : decode cL_law 935 = .ok (.aload_n 3, 1) := by decide +kernel
theorem dL_law_936 : decode cL_law 936 = .ok (.invokestatic 114, 3) := by decide +kernel
theorem dL_law_939 : decode cL_law 939 = .ok (.istore 5, 2) := by decide +kernel
theorem dL_law_941 : decode cL_law 941 = .ok (.aload_n 2, 1) := by decide +kernel
theorem dL_law_942 : decode cL_law 942 = .ok (.aload_n 0, 1) := by decide +kernel
theorem dL_law_943 : decode cL_law 943 = .ok (.iload 4, 2) := by decide +kernel
theorem dL_law_945 : decode cL_law 945 = .ok (.iconst 1, 1) := by decide +kernel
theorem dL_law_946 : decode cL_law 946 = .ok (.iadd, 1) := by decide +kernel
theorem dL_law_947 : decode cL_law 947 = .ok (.iaload, 1) := by decide +kernel
theorem dL_law_948 : decode cL_law 948 = .ok (.aload_n 0, 1) := by decide +kernel
theorem dL_law_949 : decode cL_law 949 = .ok (.iload 4, 2) := by decide +kernel
theorem dL_law_951 : decode cL_law 951 = .ok (.iconst 2, 1) := by decide +kernel
theorem dL_law_952 : decode cL_law 952 = .ok (.iadd, 1) := by decide +kernel
theorem dL_law_953 : decode cL_law 953 = .ok (.iaload, 1) := by decide +kernel
theorem dL_law_954 : decode cL_law 954 = .ok (.invokevirtual 116, 3) := by decide +kernel
theorem dL_law_957 : decode cL_law 957 = .ok (.istore 6, 2) := by decide +kernel
theorem dL_law_959 : decode cL_law 959 = .ok (.aload_n 2, 1) := by decide +kernel
theorem dL_law_960 : decode cL_law 960 = .ok (.invokevirtual 76, 3) := by decide +kernel
theorem dL_law_963 : decode cL_law 963 = .ok (.iload 5, 2) := by decide +kernel
theorem dL_law_965 : decode cL_law 965 = .ok (.if_icmp .eq 5, 3) := by decide +kernel
theorem dL_law_968 : decode cL_law 968 = .ok (.iconst 0, 1) := by decide +kernel
theorem dL_law_969 : decode cL_law 969 = .ok (.ireturn, 1) := by decide +kernel
theorem dL_law_970 : decode cL_law 970 = .ok (.iload 5, 2) := by decide +kernel
theorem dL_law_972 : decode cL_law 972 = .ok (.ifCond .ne 15, 3) := by decide +kernel
theorem dL_law_975 : decode cL_law 975 = .ok (.aload_n 3, 1) := by decide +kernel
theorem dL_law_976 : decode cL_law 976 = .ok (.iconst 0, 1) := by decide +kernel
theorem dL_law_977 : decode cL_law 977 = .ok (.laload, 1) := by decide +kernel
theorem dL_law_978 : decode cL_law 978 = .ok (.iload 6, 2) := by decide +kernel
theorem dL_law_980 : decode cL_law 980 = .ok (.i2l, 1) := by decide +kernel
theorem dL_law_981 : decode cL_law 981 = .ok (.lcmp, 1) := by decide +kernel
theorem dL_law_982 : decode cL_law 982 = .ok (.ifCond .eq 5, 3) := by decide +kernel
theorem dL_law_985 : decode cL_law 985 = .ok (.iconst 0, 1) := by decide +kernel
theorem dL_law_986 : decode cL_law 986 = .ok (.ireturn, 1) := by decide +kernel
theorem dL_law_987 : decode cL_law 987 = .ok (.goto 184, 3) := by decide +kernel
theorem dL_law_990 : decode cL_law 990 = .ok (.aload_n 1, 1) := by decide +kernel
theorem dL_law_991 : decode cL_law 991 = .ok (.aload_n 0, 1) := by decide +kernel
theorem dL_law_992 : decode cL_law 992 = .ok (.iload 4, 2) := by decide +kernel
theorem dL_law_994 : decode cL_law 994 = .ok (.iconst 1, 1) := by decide +kernel
theorem dL_law_995 : decode cL_law 995 = .ok (.iadd, 1) := by decide +kernel
theorem dL_law_996 : decode cL_law 996 = .ok (.iaload, 1) := by decide +kernel
theorem dL_law_997 : decode cL_law 997 = .ok (.aload_n 3, 1) := by decide +kernel
theorem dL_law_998 : decode cL_law 998 = .ok (.invokestatic 117, 3) := by decide +kernel
theorem dL_law_1001 : decode cL_law 1001 = .ok (.istore 5, 2) := by decide +kernel
theorem dL_law_1003 : decode cL_law 1003 = .ok (.aload_n 2, 1) := by decide +kernel
theorem dL_law_1004 : decode cL_law 1004 = .ok (.aload_n 0, 1) := by decide +kernel
theorem dL_law_1005 : decode cL_law 1005 = .ok (.iload 4, 2) := by decide +kernel
theorem dL_law_1007 : decode cL_law 1007 = .ok (.iconst 1, 1) := by decide +kernel
theorem dL_law_1008 : decode cL_law 1008 = .ok (.iadd, 1) := by decide +kernel
theorem dL_law_1009 : decode cL_law 1009 = .ok (.iaload, 1) := by decide +kernel
theorem dL_law_1010 : decode cL_law 1010 = .ok (.invokevirtual 119, 3) := by decide +kernel
theorem dL_law_1013 : decode cL_law 1013 = .ok (.istore 6, 2) := by decide +kernel
theorem dL_law_1015 : decode cL_law 1015 = .ok (.aload_n 2, 1) := by decide +kernel
theorem dL_law_1016 : decode cL_law 1016 = .ok (.invokevirtual 76, 3) := by decide +kernel
theorem dL_law_1019 : decode cL_law 1019 = .ok (.iload 5, 2) := by decide +kernel
theorem dL_law_1021 : decode cL_law 1021 = .ok (.if_icmp .eq 5, 3) := by decide +kernel
theorem dL_law_1024 : decode cL_law 1024 = .ok (.iconst 0, 1) := by decide +kernel
theorem dL_law_1025 : decode cL_law 1025 = .ok (.ireturn, 1) := by decide +kernel
theorem dL_law_1026 : decode cL_law 1026 = .ok (.iload 5, 2) := by decide +kernel
theorem dL_law_1028 : decode cL_law 1028 = .ok (.ifCond .ne 15, 3) := by decide +kernel
theorem dL_law_1031 : decode cL_law 1031 = .ok (.aload_n 3, 1) := by decide +kernel
theorem dL_law_1032 : decode cL_law 1032 = .ok (.iconst 0, 1) := by decide +kernel
theorem dL_law_1033 : decode cL_law 1033 = .ok (.laload, 1) := by decide +kernel
theorem dL_law_1034 : decode cL_law 1034 = .ok (.iload 6, 2) := by decide +kernel
theorem dL_law_1036 : decode cL_law 1036 = .ok (.i2l, 1) := by decide +kernel
theorem dL_law_1037 : decode cL_law 1037 = .ok (.lcmp, 1) := by decide +kernel
theorem dL_law_1038 : decode cL_law 1038 = .ok (.ifCond .eq 5, 3) := by decide +kernel
theorem dL_law_1041 : decode cL_law 1041 = .ok (.iconst 0, 1) := by decide +kernel
theorem dL_law_1042 : decode cL_law 1042 = .ok (.ireturn, 1) := by decide +kernel
theorem dL_law_1043 : decode cL_law 1043 = .ok (.goto 128, 3) := by decide +kernel
theorem dL_law_1046 : decode cL_law 1046 = .ok (.aload_n 1, 1) := by decide +kernel
theorem dL_law_1047 : decode cL_law 1047 = .ok (.aload_n 0, 1) := by decide +kernel
theorem dL_law_1048 : decode cL_law 1048 = .ok (.iload 4, 2) := by decide +kernel
theorem dL_law_1050 : decode cL_law 1050 = .ok (.iconst 1, 1) := by decide +kernel
theorem dL_law_1051 : decode cL_law 1051 = .ok (.iadd, 1) := by decide +kernel
theorem dL_law_1052 : decode cL_law 1052 = .ok (.iaload, 1) := by decide +kernel
theorem dL_law_1053 : decode cL_law 1053 = .ok (.aload_n 3, 1) := by decide +kernel
theorem dL_law_1054 : decode cL_law 1054 = .ok (.invokestatic 120, 3) := by decide +kernel
theorem dL_law_1057 : decode cL_law 1057 = .ok (.istore 5, 2) := by decide +kernel
theorem dL_law_1059 : decode cL_law 1059 = .ok (.aload_n 2, 1) := by decide +kernel
theorem dL_law_1060 : decode cL_law 1060 = .ok (.aload_n 0, 1) := by decide +kernel
theorem dL_law_1061 : decode cL_law 1061 = .ok (.iload 4, 2) := by decide +kernel
theorem dL_law_1063 : decode cL_law 1063 = .ok (.iconst 1, 1) := by decide +kernel
theorem dL_law_1064 : decode cL_law 1064 = .ok (.iadd, 1) := by decide +kernel
theorem dL_law_1065 : decode cL_law 1065 = .ok (.iaload, 1) := by decide +kernel
theorem dL_law_1066 : decode cL_law 1066 = .ok (.invokevirtual 122, 3) := by decide +kernel
theorem dL_law_1069 : decode cL_law 1069 = .ok (.istore 6, 2) := by decide +kernel
theorem dL_law_1071 : decode cL_law 1071 = .ok (.aload_n 2, 1) := by decide +kernel
theorem dL_law_1072 : decode cL_law 1072 = .ok (.invokevirtual 76, 3) := by decide +kernel
theorem dL_law_1075 : decode cL_law 1075 = .ok (.iload 5, 2) := by decide +kernel
theorem dL_law_1077 : decode cL_law 1077 = .ok (.if_icmp .eq 5, 3) := by decide +kernel
theorem dL_law_1080 : decode cL_law 1080 = .ok (.iconst 0, 1) := by decide +kernel
theorem dL_law_1081 : decode cL_law 1081 = .ok (.ireturn, 1) := by decide +kernel
theorem dL_law_1082 : decode cL_law 1082 = .ok (.iload 5, 2) := by decide +kernel
theorem dL_law_1084 : decode cL_law 1084 = .ok (.ifCond .ne 15, 3) := by decide +kernel
theorem dL_law_1087 : decode cL_law 1087 = .ok (.aload_n 3, 1) := by decide +kernel
theorem dL_law_1088 : decode cL_law 1088 = .ok (.iconst 0, 1) := by decide +kernel
theorem dL_law_1089 : decode cL_law 1089 = .ok (.laload, 1) := by decide +kernel
theorem dL_law_1090 : decode cL_law 1090 = .ok (.iload 6, 2) := by decide +kernel
theorem dL_law_1092 : decode cL_law 1092 = .ok (.i2l, 1) := by decide +kernel
theorem dL_law_1093 : decode cL_law 1093 = .ok (.lcmp, 1) := by decide +kernel
theorem dL_law_1094 : decode cL_law 1094 = .ok (.ifCond .eq 5, 3) := by decide +kernel
theorem dL_law_1097 : decode cL_law 1097 = .ok (.iconst 0, 1) := by decide +kernel
theorem dL_law_1098 : decode cL_law 1098 = .ok (.ireturn, 1) := by decide +kernel
theorem dL_law_1099 : decode cL_law 1099 = .ok (.goto 72, 3) := by decide +kernel
theorem dL_law_1102 : decode cL_law 1102 = .ok (.aload_n 1, 1) := by decide +kernel
theorem dL_law_1103 : decode cL_law 1103 = .ok (.aload_n 0, 1) := by decide +kernel
theorem dL_law_1104 : decode cL_law 1104 = .ok (.iload 4, 2) := by decide +kernel
theorem dL_law_1106 : decode cL_law 1106 = .ok (.iconst 1, 1) := by decide +kernel
theorem dL_law_1107 : decode cL_law 1107 = .ok (.iadd, 1) := by decide +kernel
theorem dL_law_1108 : decode cL_law 1108 = .ok (.iaload, 1) := by decide +kernel
theorem dL_law_1109 : decode cL_law 1109 = .ok (.aload_n 3, 1) := by decide +kernel
theorem dL_law_1110 : decode cL_law 1110 = .ok (.invokestatic 123, 3) := by decide +kernel
theorem dL_law_1113 : decode cL_law 1113 = .ok (.istore 5, 2) := by decide +kernel
theorem dL_law_1115 : decode cL_law 1115 = .ok (.aload_n 2, 1) := by decide +kernel
theorem dL_law_1116 : decode cL_law 1116 = .ok (.aload_n 0, 1) := by decide +kernel
theorem dL_law_1117 : decode cL_law 1117 = .ok (.iload 4, 2) := by decide +kernel
theorem dL_law_1119 : decode cL_law 1119 = .ok (.iconst 1, 1) := by decide +kernel
theorem dL_law_1120 : decode cL_law 1120 = .ok (.iadd, 1) := by decide +kernel
theorem dL_law_1121 : decode cL_law 1121 = .ok (.iaload, 1) := by decide +kernel
theorem dL_law_1122 : decode cL_law 1122 = .ok (.invokevirtual 125, 3) := by decide +kernel
theorem dL_law_1125 : decode cL_law 1125 = .ok (.istore 6, 2) := by decide +kernel
theorem dL_law_1127 : decode cL_law 1127 = .ok (.aload_n 2, 1) := by decide +kernel
theorem dL_law_1128 : decode cL_law 1128 = .ok (.invokevirtual 76, 3) := by decide +kernel
theorem dL_law_1131 : decode cL_law 1131 = .ok (.iload 5, 2) := by decide +kernel
theorem dL_law_1133 : decode cL_law 1133 = .ok (.if_icmp .eq 5, 3) := by decide +kernel
theorem dL_law_1136 : decode cL_law 1136 = .ok (.iconst 0, 1) := by decide +kernel
theorem dL_law_1137 : decode cL_law 1137 = .ok (.ireturn, 1) := by decide +kernel
theorem dL_law_1138 : decode cL_law 1138 = .ok (.iload 5, 2) := by decide +kernel
theorem dL_law_1140 : decode cL_law 1140 = .ok (.ifCond .ne 15, 3) := by decide +kernel
theorem dL_law_1143 : decode cL_law 1143 = .ok (.aload_n 3, 1) := by decide +kernel
theorem dL_law_1144 : decode cL_law 1144 = .ok (.iconst 0, 1) := by decide +kernel
theorem dL_law_1145 : decode cL_law 1145 = .ok (.laload, 1) := by decide +kernel
theorem dL_law_1146 : decode cL_law 1146 = .ok (.iload 6, 2) := by decide +kernel
theorem dL_law_1148 : decode cL_law 1148 = .ok (.i2l, 1) := by decide +kernel
theorem dL_law_1149 : decode cL_law 1149 = .ok (.lcmp, 1) := by decide +kernel
theorem dL_law_1150 : decode cL_law 1150 = .ok (.ifCond .eq 5, 3) := by decide +kernel
theorem dL_law_1153 : decode cL_law 1153 = .ok (.iconst 0, 1) := by decide +kernel
theorem dL_law_1154 : decode cL_law 1154 = .ok (.ireturn, 1) := by decide +kernel
theorem dL_law_1155 : decode cL_law 1155 = .ok (.goto 16, 3) := by decide +kernel
theorem dL_law_1158 : decode cL_law 1158 = .ok (.aload_n 1, 1) := by decide +kernel
theorem dL_law_1159 : decode cL_law 1159 = .ok (.invokevirtual 126, 3) := by decide +kernel
theorem dL_law_1162 : decode cL_law 1162 = .ok (.aload_n 2, 1) := by decide +kernel
theorem dL_law_1163 : decode cL_law 1163 = .ok (.invokevirtual 129, 3) := by decide +kernel
theorem dL_law_1166 : decode cL_law 1166 = .ok (.if_icmp .eq 5, 3) := by decide +kernel
theorem dL_law_1169 : decode cL_law 1169 = .ok (.iconst 0, 1) := by decide +kernel
theorem dL_law_1170 : decode cL_law 1170 = .ok (.ireturn, 1) := by decide +kernel
theorem dL_law_1171 : decode cL_law 1171 = .ok (.iinc 4 6, 3) := by decide +kernel
theorem dL_law_1174 : decode cL_law 1174 = .ok (.goto (-1151), 3) := by decide +kernel
theorem dL_law_1177 : decode cL_law 1177 = .ok (.iconst 1, 1) := by decide +kernel
theorem dL_law_1178 : decode cL_law 1178 = .ok (.ireturn, 1) := by decide +kernel
end
section
/-! THE V LAYER: the machine at a frame, over a world of cells; the heap, the store's locations and the array of locals are inside the judgement -/
section VL0
abbrev vl_T (cy : Nat → ClassId) : List (ClassId × FieldType) := [(cy 0, .int), (cy 1, .boolean), (cy 2, .object RX1), (cy 3, .object RX2), (cy 4, .long)]
/-- nest mates' fields that are linked: own, index, class, name, type -/
def vl_nf : List (String × Nat × String × String × String) := [("MooringTree", 100, "MooringTree$Line", "firstTurn", "I"), ("MooringTree", 124, "MooringTree$Ship", "place", "I"), ("MooringTree", 127, "MooringTree$Ship", "left", "I"), ("MooringTree", 133, "MooringTree$Harbour", "failedTurns", "I"), ("MooringTree", 136, "MooringTree$Line", "seen", "I"), ("MooringTree", 149, "MooringTree$Line", "aheadTurns", "I"), ("MooringTree", 155, "MooringTree$Harbour", "earned", "I"), ("MooringTree", 48, "MooringTree$Harbour", "shipCount", "I"), ("MooringTree", 71, "MooringTree$Harbour", "rates", "[I"), ("MooringTree", 79, "MooringTree$Harbour", "price", "I"), ("MooringTree", 82, "MooringTree$Harbour", "fee", "I"), ("MooringTree$Harbour", 50, "MooringTree$Ship", "comes", "I"), ("MooringTree$Harbour", 53, "MooringTree$Ship", "place", "I"), ("MooringTree$Harbour", 71, "MooringTree$Ship", "draught", "I"), ("MooringTree$Harbour", 89, "MooringTree$Ship", "left", "I")]
/-- nest mates' methods that are linked -/
def vl_nm : List (String × Nat × MethodName) := [("MooringTree", 109, yX1_give), ("MooringTree", 11, yX0_init), ("MooringTree", 113, yX1_drop), ("MooringTree", 116, yX1_orderFor), ("MooringTree", 130, yX0_play), ("MooringTree", 166, yX0_shipOrNull), ("MooringTree", 18, yX1_init), ("MooringTree", 58, yX2_init), ("MooringTree", 61, yX0_admit), ("MooringTree$Harbour", 37, yX2_startAfresh), ("MooringTree$Harbour", 40, yX1_orderFor), ("MooringTree$Harbour", 86, yX3_isBerth), ("MooringTree$Harbour", 92, yX2_unload)]
/-- the texts of the exceptions -/
def vl_strs : List (Nat × String) := [(103, "the turn is earlier than that of the fork"), (163, "there is no such line"), (169, "there is no such ship"), (171, "there is no such turn"), (176, "there is no such berth"), (39, "comes is out of range"), (44, "draught is out of range"), (46, "cargo is out of range"), (53, "there are 8 ships"), (69, "rate is out of range"), (75, "price is out of range"), (77, "fee is out of range"), (92, "there are 8 forks"), (98, "kind is out of range")]
/-- what the tables say beside the good words -/
def vl_N (U : State) : Prop := (∀ q ∈ vl_nf, va_Nw (.fieldLinkNest q.1 q.2.1 q.2.2.1 q.2.2.2.1 q.2.2.2.2 "MooringTree") U) ∧ (∀ q ∈ vl_nm, va_Nw (.methodLinkNest q.1 q.2.1 q.2.2 "MooringTree") U) ∧ (∀ q ∈ vl_strs, ∃ a, vk_R "MooringTree" q.1 q.2 a U) ∧ va_AO RX1 U ∧ va_AO RX2 U
theorem vl_N.warm {s U : State} (hW : s.WarmedH U.vm) (h : vl_N s) : vl_N U := ⟨fun q hq => va_Nw.warmF hW (h.1 q hq), fun q hq => va_Nw.warmM hW (h.2.1 q hq), fun q hq => (h.2.2.1 q hq).imp fun _ k => vk_R.warm hW k, va_AO.moved hW.alike h.2.2.2.1, va_AO.moved hW.alike h.2.2.2.2⟩
theorem vl_N.same {u U : State} (hv : U.vm = u.vm) (h : vl_N u) : vl_N U := ⟨fun q hq => va_Nw.same rfl hv.symm (h.1 q hq), fun q hq => va_Nw.same rfl hv.symm (h.2.1 q hq), fun q hq => (h.2.2.1 q hq).imp fun _ k => vk_R.same hv k, va_AO.moved (by rw [← hv]; exact Vm.Alike.refl _) h.2.2.2.1, va_AO.moved (by rw [← hv]; exact Vm.Alike.refl _) h.2.2.2.2⟩
/-- where the two statics of Throwable lie -/
def vl_Z (A : Nat → Prop) (U : State) (H : Heap) : Prop := vx_Zq Bundle.tN "UNASSIGNED_STACK" Bundle.steD A U H ∧ vx_Zq Bundle.tN "SUPPRESSED_SENTINEL" Bundle.listD A U H
/-- what a method may take as given of the state in which it is called, with the world w -/
def vl_U (D : va_G) (cy : Nat → ClassId) (sz : Nat) (w : va_W) (U : State) : Prop := U.heap.size = sz ∧ va_P D vwCl w U.heap ∧ va_K D vwCl (vl_T cy) U ∧ va_D (fun _ => True) w ∧ vl_N U ∧ vl_Z (va_A w sz) U U.heap
theorem vl_blind {D : va_G} {cy : Nat → ClassId} {sz : Nat} {w : va_W} {av : List Value} : FrameBlind (va_Pc av (vl_U D cy sz w)) := fun a U g mk q => ⟨q.1, q.2.1, q.2.2.1, va_K.moved (u := U) (U := U.calling g mk a) (Vm.Alike.refl U.vm) q.2.2.2.1, q.2.2.2.2.1, vl_N.same (u := U) (U := U.calling g mk a) rfl q.2.2.2.2.2.1, vx_Zq.moved (u := U) (U := U.calling g mk a) (Vm.Alike.refl U.vm) q.2.2.2.2.2.2.1, vx_Zq.moved (u := U) (U := U.calling g mk a) (Vm.Alike.refl U.vm) q.2.2.2.2.2.2.2⟩
/-- a method's fixed facts, in its body -/
def vl_C (l : Launch) (p : Program) (m : MethodId) (meth : Method) (c : Code) (cc : ByteArray) (nL : Nat) (s : State) (args : Array Value) (Ts : List Cond) (own : String) (D : va_G) (cy : Nat → ClassId) (A : Nat → Prop) : Prop := CallFix p m c cc nL s args Ts own ∧ va_K D vwCl (vl_T cy) s ∧ (∀ q, s.heap.size ≤ q → A q) ∧ vl_N s ∧ vl_Z A s s.heap ∧ meth.locks = false ∧ l.stackTraces = false
def vl_V (p : Program) (l : Launch) (e : Env) (R : Room) (s : State) (m : MethodId) (args : Array Value) (below : List Frame) (meth : Method) (c : Code) (Q : State → Prop) (D : va_G) (A : Nat → Prop) (nL : Nat) (w : va_W) (k n : Nat) (lv : List (Nat × Value)) (pc : Nat) (st : List Value) : Prop :=
  ∀ (H : Heap) (locs : List Loc) (ls : Array Slot), va_P D vwCl w H → va_D A w → va_S A s.heap H locs → lv_has ls nL lv → W p l e R s m args below meth c H locs k n Q (F0 m pc ls st)
def vl_B (D : va_G) (w : va_W) (sz : Nat) (w' : va_W) (t : State) : Prop := va_P D vwCl w' t.heap ∧ va_D (va_A w sz) w'
/-- contracts: what a method answers, and the world behind it -/
def vl_Ki (l : Launch) (D : va_G) (cy : Nat → ClassId) (y : MethodName) (ws : List Cond) (rm : Room) (mc ms : Nat) (w : va_W) (av : List Value) (post : Int32 → va_W → Prop) : Prop := ∀ sz : Nat, Met l y ws rm (va_Pc av (vl_U D cy sz w)) (va_Qi post (vl_B D w sz) (va_A w sz)) mc ms (va_A w sz)
def vl_Kv (l : Launch) (D : va_G) (cy : Nat → ClassId) (y : MethodName) (ws : List Cond) (rm : Room) (mc ms : Nat) (w : va_W) (av : List Value) (post : va_W → Prop) : Prop := ∀ sz : Nat, Met l y ws rm (va_Pc av (vl_U D cy sz w)) (va_Qv post (vl_B D w sz) (va_A w sz)) mc ms (va_A w sz)
def vl_Kq (l : Launch) (D : va_G) (cy : Nat → ClassId) (y : MethodName) (ws : List Cond) (rm : Room) (mc ms : Nat) (w : va_W) (av : List Value) (post : Option Nat → va_W → Prop) : Prop := ∀ sz : Nat, Met l y ws rm (va_Pc av (vl_U D cy sz w)) (va_Qq post (vl_B D w sz) (va_A w sz)) mc ms (va_A w sz)
/-- a throw changes nothing -/
def vl_BX (D : va_G) (w : va_W) (px : String → Prop) (E : String) (_ : Unit) (t : State) : Prop := px E ∧ va_P D vwCl w t.heap
abbrev vl_XC (D : va_G) (w : va_W) (px : String → Prop) (sz : Nat) : String → State → State → Prop := vx_X (fun _ : Unit => True) (vl_BX D w px) (va_A w sz)
def vl_Xi (l : Launch) (D : va_G) (cy : Nat → ClassId) (y : MethodName) (ws : List Cond) (rm : Room) (mc ms : Nat) (w : va_W) (av : List Value) (post : Int32 → va_W → Prop) (px : String → Prop) : Prop := ∀ sz : Nat, vx_Met l y ws rm (va_Pc av (vl_U D cy sz w)) (va_Qi post (vl_B D w sz) (va_A w sz)) (vl_XC D w px sz) mc ms (va_A w sz)
def vl_Xv (l : Launch) (D : va_G) (cy : Nat → ClassId) (y : MethodName) (ws : List Cond) (rm : Room) (mc ms : Nat) (w : va_W) (av : List Value) (post : va_W → Prop) (px : String → Prop) : Prop := ∀ sz : Nat, vx_Met l y ws rm (va_Pc av (vl_U D cy sz w)) (va_Qv post (vl_B D w sz) (va_A w sz)) (vl_XC D w px sz) mc ms (va_A w sz)
def vl_Xq (l : Launch) (D : va_G) (cy : Nat → ClassId) (y : MethodName) (ws : List Cond) (rm : Room) (mc ms : Nat) (w : va_W) (av : List Value) (post : Option Nat → va_W → Prop) (px : String → Prop) : Prop := ∀ sz : Nat, vx_Met l y ws rm (va_Pc av (vl_U D cy sz w)) (va_Qq post (vl_B D w sz) (va_A w sz)) (vl_XC D w px sz) mc ms (va_A w sz)
/-- the world at a call, seen by the callee -/
theorem vl_pre {D : va_G} {cy : Nat → ClassId} {A : Nat → Prop} {s U : State} {w : va_W} {H : Heap} {locs : List Loc} (hK : va_K D vwCl (vl_T cy) s) (hA : ∀ q, s.heap.size ≤ q → A q) (hN : vl_N s) (hZ : vl_Z A s s.heap) (hP : va_P D vwCl w H) (hD : va_D A w) (hS : va_S A s.heap H locs) (hU : U.heap = H) (hW : s.WarmedH U.vm) : vl_U D cy H.size w U := by
  subst hU
  have hAB : ∀ q, va_A w U.heap.size q → A q := by
    rintro q (⟨k, e, hk⟩ | h)
    · exact hD.2 k _ hk
    · exact hA q (Nat.le_trans hS.1 h)
  exact ⟨rfl, hP, va_K.moved hW.alike hK, hD.weaken (fun _ _ _ _ => trivial), vl_N.warm hW hN, (vx_Zq.moved hW.alike (vx_Zq.kept hZ.1 (fun a h1 h2 => hS.2.1 a h1 h2))).narrow hAB, (vx_Zq.moved hW.alike (vx_Zq.kept hZ.2 (fun a h1 h2 => hS.2.1 a h1 h2))).narrow hAB⟩
theorem vl_AA {A : Nat → Prop} {w : va_W} {s : State} {H : Heap} {locs : List Loc} (hA : ∀ q, s.heap.size ≤ q → A q) (hD : va_D A w) (hS : va_S A s.heap H locs) : ∀ q, va_A w H.size q → A q := by
  rintro q (⟨k, e, hk⟩ | h)
  · exact hD.2 k _ hk
  · exact hA q (Nat.le_trans hS.1 h)
end VL0

section VL1
variable {p : Program} {l : Launch} {e : Env} {R : Room} {s : State} {m : MethodId} {args : Array Value} {below : List Frame} {meth : Method} {c : Code} {Q : State → Prop} {D : va_G} {A : Nat → Prop} {nL : Nat} {w : va_W} {k n : Nat} {lv : List (Nat × Value)} {pc : Nat} {st : List Value}
variable {cc : ByteArray} {Ts : List Cond} {own : String} {cy : Nat → ClassId}
theorem vl_iconst (C0 : vl_C l p m meth c cc nL s args Ts own D cy A) {i : Int} {v : Int32} (hdg : decode cc pc = .ok (.iconst i, 1)) (hv : Int32.ofInt i = v) (kk : vl_V p l e R s m args below meth c Q D A nL w k n lv (pc + 1) (.int v :: st)) : vl_V p l e R s m args below meth c Q D A nL w k n lv pc (st) := fun H locs ls hP hD hS hl => lv_iconst C0.1.1 C0.1.2.1 hdg hv (kk H locs ls hP hD hS hl)
theorem vl_bipush (C0 : vl_C l p m meth c cc nL s args Ts own D cy A) {i : Int} {v : Int32} (hdg : decode cc pc = .ok (.bipush i, 2)) (hv : (Int8.ofInt i).toInt32 = v) (kk : vl_V p l e R s m args below meth c Q D A nL w k n lv (pc + 2) (.int v :: st)) : vl_V p l e R s m args below meth c Q D A nL w k n lv pc (st) := fun H locs ls hP hD hS hl => lv_bipush C0.1.1 C0.1.2.1 hdg hv (kk H locs ls hP hD hS hl)
theorem vl_sipush (C0 : vl_C l p m meth c cc nL s args Ts own D cy A) {i : Int} {v : Int32} (hdg : decode cc pc = .ok (.sipush i, 3)) (hv : (Int16.ofInt i).toInt32 = v) (kk : vl_V p l e R s m args below meth c Q D A nL w k n lv (pc + 3) (.int v :: st)) : vl_V p l e R s m args below meth c Q D A nL w k n lv pc (st) := fun H locs ls hP hD hS hl => lv_sipush C0.1.1 C0.1.2.1 hdg hv (kk H locs ls hP hD hS hl)
theorem vl_lconst (C0 : vl_C l p m meth c cc nL s args Ts own D cy A) {i : Fin 2} {v : Int64} (hdg : decode cc pc = .ok (.lconst i, 1)) (hv : Int64.ofNat i = v) (kk : vl_V p l e R s m args below meth c Q D A nL w k n lv (pc + 1) (.long v :: st)) : vl_V p l e R s m args below meth c Q D A nL w k n lv pc (st) := fun H locs ls hP hD hS hl => lv_lconst C0.1.1 C0.1.2.1 hdg hv (kk H locs ls hP hD hS hl)
theorem vl_null (C0 : vl_C l p m meth c cc nL s args Ts own D cy A) (hdg : decode cc pc = .ok (.aconst_null, 1)) (kk : vl_V p l e R s m args below meth c Q D A nL w k n lv (pc + 1) (.null :: st)) : vl_V p l e R s m args below meth c Q D A nL w k n lv pc (st) := fun H locs ls hP hD hS hl => lv_null C0.1.1 C0.1.2.1 hdg (kk H locs ls hP hD hS hl)
theorem vl_iload_n (C0 : vl_C l p m meth c cc nL s args Ts own D cy A) {i : Fin 4} {x : Int32} (hdg : decode cc pc = .ok (.iload_n i, 1)) (j : Nat) (hk : lv[j]? = some ((i : Nat), .int x)) (kk : vl_V p l e R s m args below meth c Q D A nL w k n lv (pc + 1) (.int x :: st)) : vl_V p l e R s m args below meth c Q D A nL w k n lv pc (st) := fun H locs ls hP hD hS hl => lv_iload_n C0.1.1 C0.1.2.1 hdg rfl (lv_at hl j hk) (kk H locs ls hP hD hS hl)
theorem vl_iload (C0 : vl_C l p m meth c cc nL s args Ts own D cy A) {i : Nat} {x : Int32} (hdg : decode cc pc = .ok (.iload i, 2)) (j : Nat) (hk : lv[j]? = some (i, .int x)) (kk : vl_V p l e R s m args below meth c Q D A nL w k n lv (pc + 2) (.int x :: st)) : vl_V p l e R s m args below meth c Q D A nL w k n lv pc (st) := fun H locs ls hP hD hS hl => lv_iload C0.1.1 C0.1.2.1 hdg (lv_at hl j hk) (kk H locs ls hP hD hS hl)
theorem vl_aload_n (C0 : vl_C l p m meth c cc nL s args Ts own D cy A) {i : Fin 4} {x : Nat} (hdg : decode cc pc = .ok (.aload_n i, 1)) (j : Nat) (hk : lv[j]? = some ((i : Nat), .ref x)) (kk : vl_V p l e R s m args below meth c Q D A nL w k n lv (pc + 1) (.ref x :: st)) : vl_V p l e R s m args below meth c Q D A nL w k n lv pc (st) := fun H locs ls hP hD hS hl => lv_aload_n C0.1.1 C0.1.2.1 hdg rfl (lv_at hl j hk) (kk H locs ls hP hD hS hl)
theorem vl_aload (C0 : vl_C l p m meth c cc nL s args Ts own D cy A) {i : Nat} {x : Nat} (hdg : decode cc pc = .ok (.aload i, 2)) (j : Nat) (hk : lv[j]? = some (i, .ref x)) (kk : vl_V p l e R s m args below meth c Q D A nL w k n lv (pc + 2) (.ref x :: st)) : vl_V p l e R s m args below meth c Q D A nL w k n lv pc (st) := fun H locs ls hP hD hS hl => lv_aload C0.1.1 C0.1.2.1 hdg (lv_at hl j hk) (kk H locs ls hP hD hS hl)
theorem vl_aload_nN (C0 : vl_C l p m meth c cc nL s args Ts own D cy A) {i : Fin 4} (hdg : decode cc pc = .ok (.aload_n i, 1)) (j : Nat) (hk : lv[j]? = some ((i : Nat), .null)) (kk : vl_V p l e R s m args below meth c Q D A nL w k n lv (pc + 1) (.null :: st)) : vl_V p l e R s m args below meth c Q D A nL w k n lv pc (st) := fun H locs ls hP hD hS hl => lv_aload_nN C0.1.1 C0.1.2.1 hdg rfl (lv_at hl j hk) (kk H locs ls hP hD hS hl)
theorem vl_aloadN (C0 : vl_C l p m meth c cc nL s args Ts own D cy A) {i : Nat} (hdg : decode cc pc = .ok (.aload i, 2)) (j : Nat) (hk : lv[j]? = some (i, .null)) (kk : vl_V p l e R s m args below meth c Q D A nL w k n lv (pc + 2) (.null :: st)) : vl_V p l e R s m args below meth c Q D A nL w k n lv pc (st) := fun H locs ls hP hD hS hl => lv_aloadN C0.1.1 C0.1.2.1 hdg (lv_at hl j hk) (kk H locs ls hP hD hS hl)
theorem vl_istore_n (C0 : vl_C l p m meth c cc nL s args Ts own D cy A) {i : Fin 4} {x : Int32} {lv' : List (Nat × Value)} (hdg : decode cc pc = .ok (.istore_n i, 1)) (ks : List Nat) (hn : (i : Nat) < nL) (hk : lv_pick (((i : Nat), Value.int x) :: lv.filter (fun q => !(q.1 == (i : Nat)) && !(q.1 + 1 == (i : Nat) && q.2.category == 2))) ks = lv') (kk : vl_V p l e R s m args below meth c Q D A nL w k n lv' (pc + 1) (st)) : vl_V p l e R s m args below meth c Q D A nL w k n lv pc (Value.int x :: st) := fun H locs ls hP hD hS hl => lv_istore_n C0.1.1 C0.1.2.1 hdg rfl hl hn rfl (fun ls9 h9 => kk H locs ls9 hP hD hS (lv_sub h9 ks hk))
theorem vl_istore (C0 : vl_C l p m meth c cc nL s args Ts own D cy A) {i : Nat} {x : Int32} {lv' : List (Nat × Value)} (hdg : decode cc pc = .ok (.istore i, 2)) (ks : List Nat) (hn : i < nL) (hk : lv_pick ((i, Value.int x) :: lv.filter (fun q => !(q.1 == i) && !(q.1 + 1 == i && q.2.category == 2))) ks = lv') (kk : vl_V p l e R s m args below meth c Q D A nL w k n lv' (pc + 2) (st)) : vl_V p l e R s m args below meth c Q D A nL w k n lv pc (Value.int x :: st) := fun H locs ls hP hD hS hl => lv_istore C0.1.1 C0.1.2.1 hdg hl hn rfl (fun ls9 h9 => kk H locs ls9 hP hD hS (lv_sub h9 ks hk))
theorem vl_astore_n (C0 : vl_C l p m meth c cc nL s args Ts own D cy A) {i : Fin 4} {x : Nat} {lv' : List (Nat × Value)} (hdg : decode cc pc = .ok (.astore_n i, 1)) (ks : List Nat) (hn : (i : Nat) < nL) (hk : lv_pick (((i : Nat), Value.ref x) :: lv.filter (fun q => !(q.1 == (i : Nat)) && !(q.1 + 1 == (i : Nat) && q.2.category == 2))) ks = lv') (kk : vl_V p l e R s m args below meth c Q D A nL w k n lv' (pc + 1) (st)) : vl_V p l e R s m args below meth c Q D A nL w k n lv pc (Value.ref x :: st) := fun H locs ls hP hD hS hl => lv_astore_n C0.1.1 C0.1.2.1 hdg rfl hl hn rfl (fun ls9 h9 => kk H locs ls9 hP hD hS (lv_sub h9 ks hk))
theorem vl_astore (C0 : vl_C l p m meth c cc nL s args Ts own D cy A) {i : Nat} {x : Nat} {lv' : List (Nat × Value)} (hdg : decode cc pc = .ok (.astore i, 2)) (ks : List Nat) (hn : i < nL) (hk : lv_pick ((i, Value.ref x) :: lv.filter (fun q => !(q.1 == i) && !(q.1 + 1 == i && q.2.category == 2))) ks = lv') (kk : vl_V p l e R s m args below meth c Q D A nL w k n lv' (pc + 2) (st)) : vl_V p l e R s m args below meth c Q D A nL w k n lv pc (Value.ref x :: st) := fun H locs ls hP hD hS hl => lv_astore C0.1.1 C0.1.2.1 hdg hl hn rfl (fun ls9 h9 => kk H locs ls9 hP hD hS (lv_sub h9 ks hk))
theorem vl_astore_nN (C0 : vl_C l p m meth c cc nL s args Ts own D cy A) {i : Fin 4}  {lv' : List (Nat × Value)} (hdg : decode cc pc = .ok (.astore_n i, 1)) (ks : List Nat) (hn : (i : Nat) < nL) (hk : lv_pick (((i : Nat), Value.null) :: lv.filter (fun q => !(q.1 == (i : Nat)) && !(q.1 + 1 == (i : Nat) && q.2.category == 2))) ks = lv') (kk : vl_V p l e R s m args below meth c Q D A nL w k n lv' (pc + 1) (st)) : vl_V p l e R s m args below meth c Q D A nL w k n lv pc (Value.null :: st) := fun H locs ls hP hD hS hl => lv_astore_nN C0.1.1 C0.1.2.1 hdg rfl hl hn rfl (fun ls9 h9 => kk H locs ls9 hP hD hS (lv_sub h9 ks hk))
theorem vl_astoreN (C0 : vl_C l p m meth c cc nL s args Ts own D cy A) {i : Nat}  {lv' : List (Nat × Value)} (hdg : decode cc pc = .ok (.astore i, 2)) (ks : List Nat) (hn : i < nL) (hk : lv_pick ((i, Value.null) :: lv.filter (fun q => !(q.1 == i) && !(q.1 + 1 == i && q.2.category == 2))) ks = lv') (kk : vl_V p l e R s m args below meth c Q D A nL w k n lv' (pc + 2) (st)) : vl_V p l e R s m args below meth c Q D A nL w k n lv pc (Value.null :: st) := fun H locs ls hP hD hS hl => lv_astoreN C0.1.1 C0.1.2.1 hdg hl hn rfl (fun ls9 h9 => kk H locs ls9 hP hD hS (lv_sub h9 ks hk))
theorem vl_iinc (C0 : vl_C l p m meth c cc nL s args Ts own D cy A) {i : Nat} {d : Int} {x v : Int32} {lv' : List (Nat × Value)} (hdg : decode cc pc = .ok (.iinc i d, 3)) (j : Nat) (hj : lv[j]? = some (i, .int x)) (hv : x + Int32.ofInt d = v) (ks : List Nat) (hn : i < nL) (hk : lv_pick ((i, Value.int v) :: lv.filter (fun q => !(q.1 == i) && !(q.1 + 1 == i && q.2.category == 2))) ks = lv') (kk : vl_V p l e R s m args below meth c Q D A nL w k n lv' (pc + 3) (st)) : vl_V p l e R s m args below meth c Q D A nL w k n lv pc (st) := fun H locs ls hP hD hS hl => lv_iinc C0.1.1 C0.1.2.1 hdg hl hj hv hn rfl (fun ls9 h9 => kk H locs ls9 hP hD hS (lv_sub h9 ks hk))
theorem vl_iadd (C0 : vl_C l p m meth c cc nL s args Ts own D cy A) {x y : Int32} (hdg : decode cc pc = .ok (.iadd, 1)) (kk : vl_V p l e R s m args below meth c Q D A nL w k n lv (pc + 1) (.int (x + y) :: st)) : vl_V p l e R s m args below meth c Q D A nL w k n lv pc (.int y :: .int x :: st) := fun H locs ls hP hD hS hl => lv_iadd C0.1.1 C0.1.2.1 hdg (kk H locs ls hP hD hS hl)
theorem vl_isub (C0 : vl_C l p m meth c cc nL s args Ts own D cy A) {x y : Int32} (hdg : decode cc pc = .ok (.isub, 1)) (kk : vl_V p l e R s m args below meth c Q D A nL w k n lv (pc + 1) (.int (x - y) :: st)) : vl_V p l e R s m args below meth c Q D A nL w k n lv pc (.int y :: .int x :: st) := fun H locs ls hP hD hS hl => lv_isub C0.1.1 C0.1.2.1 hdg (kk H locs ls hP hD hS hl)
theorem vl_imul (C0 : vl_C l p m meth c cc nL s args Ts own D cy A) {x y : Int32} (hdg : decode cc pc = .ok (.imul, 1)) (kk : vl_V p l e R s m args below meth c Q D A nL w k n lv (pc + 1) (.int (x * y) :: st)) : vl_V p l e R s m args below meth c Q D A nL w k n lv pc (.int y :: .int x :: st) := fun H locs ls hP hD hS hl => lv_imul C0.1.1 C0.1.2.1 hdg (kk H locs ls hP hD hS hl)
theorem vl_iand (C0 : vl_C l p m meth c cc nL s args Ts own D cy A) {x y : Int32} (hdg : decode cc pc = .ok (.iand, 1)) (kk : vl_V p l e R s m args below meth c Q D A nL w k n lv (pc + 1) (.int (x &&& y) :: st)) : vl_V p l e R s m args below meth c Q D A nL w k n lv pc (.int y :: .int x :: st) := fun H locs ls hP hD hS hl => lv_iand C0.1.1 C0.1.2.1 hdg (kk H locs ls hP hD hS hl)
theorem vl_ior (C0 : vl_C l p m meth c cc nL s args Ts own D cy A) {x y : Int32} (hdg : decode cc pc = .ok (.ior, 1)) (kk : vl_V p l e R s m args below meth c Q D A nL w k n lv (pc + 1) (.int (x ||| y) :: st)) : vl_V p l e R s m args below meth c Q D A nL w k n lv pc (.int y :: .int x :: st) := fun H locs ls hP hD hS hl => lv_ior C0.1.1 C0.1.2.1 hdg (kk H locs ls hP hD hS hl)
theorem vl_ixor (C0 : vl_C l p m meth c cc nL s args Ts own D cy A) {x y : Int32} (hdg : decode cc pc = .ok (.ixor, 1)) (kk : vl_V p l e R s m args below meth c Q D A nL w k n lv (pc + 1) (.int (x ^^^ y) :: st)) : vl_V p l e R s m args below meth c Q D A nL w k n lv pc (.int y :: .int x :: st) := fun H locs ls hP hD hS hl => lv_ixor C0.1.1 C0.1.2.1 hdg (kk H locs ls hP hD hS hl)
theorem vl_ishl (C0 : vl_C l p m meth c cc nL s args Ts own D cy A) {x y : Int32} (hdg : decode cc pc = .ok (.ishl, 1)) (kk : vl_V p l e R s m args below meth c Q D A nL w k n lv (pc + 1) (.int (x <<< (y &&& 31)) :: st)) : vl_V p l e R s m args below meth c Q D A nL w k n lv pc (.int y :: .int x :: st) := fun H locs ls hP hD hS hl => lv_ishl C0.1.1 C0.1.2.1 hdg (kk H locs ls hP hD hS hl)
theorem vl_idiv (C0 : vl_C l p m meth c cc nL s args Ts own D cy A) {x y : Int32} (hdg : decode cc pc = .ok (.idiv, 1)) (hne : ¬ y = 0) (kk : vl_V p l e R s m args below meth c Q D A nL w k n lv (pc + 1) (.int (x / y) :: st)) : vl_V p l e R s m args below meth c Q D A nL w k n lv pc (.int y :: .int x :: st) := fun H locs ls hP hD hS hl => lv_idiv C0.1.1 C0.1.2.1 hdg hne (kk H locs ls hP hD hS hl)
theorem vl_irem (C0 : vl_C l p m meth c cc nL s args Ts own D cy A) {x y : Int32} (hdg : decode cc pc = .ok (.irem, 1)) (hne : ¬ y = 0) (kk : vl_V p l e R s m args below meth c Q D A nL w k n lv (pc + 1) (.int (x - x / y * y) :: st)) : vl_V p l e R s m args below meth c Q D A nL w k n lv pc (.int y :: .int x :: st) := fun H locs ls hP hD hS hl => lv_irem C0.1.1 C0.1.2.1 hdg hne (kk H locs ls hP hD hS hl)
theorem vl_ineg (C0 : vl_C l p m meth c cc nL s args Ts own D cy A) {x : Int32} (hdg : decode cc pc = .ok (.ineg, 1)) (kk : vl_V p l e R s m args below meth c Q D A nL w k n lv (pc + 1) (.int (-x) :: st)) : vl_V p l e R s m args below meth c Q D A nL w k n lv pc (.int x :: st) := fun H locs ls hP hD hS hl => lv_ineg C0.1.1 C0.1.2.1 hdg (kk H locs ls hP hD hS hl)
theorem vl_i2l (C0 : vl_C l p m meth c cc nL s args Ts own D cy A) {x : Int32} {v : Int64} (hdg : decode cc pc = .ok (.i2l, 1)) (hv : x.toInt64 = v) (kk : vl_V p l e R s m args below meth c Q D A nL w k n lv (pc + 1) (.long v :: st)) : vl_V p l e R s m args below meth c Q D A nL w k n lv pc (.int x :: st) := fun H locs ls hP hD hS hl => lv_i2l C0.1.1 C0.1.2.1 hdg hv (kk H locs ls hP hD hS hl)
theorem vl_lcmp (C0 : vl_C l p m meth c cc nL s args Ts own D cy A) {x y : Int64} (hdg : decode cc pc = .ok (.lcmp, 1)) (kk : vl_V p l e R s m args below meth c Q D A nL w k n lv (pc + 1) (.int (lg_cmp x y) :: st)) : vl_V p l e R s m args below meth c Q D A nL w k n lv pc (.long y :: .long x :: st) := fun H locs ls hP hD hS hl => W.lcmp C0.1.1 C0.1.2.1 hdg (kk H locs ls hP hD hS hl)
theorem vl_dup (C0 : vl_C l p m meth c cc nL s args Ts own D cy A) {v : Value} (hdg : decode cc pc = .ok (.dup, 1)) (hv : v.category = 1) (kk : vl_V p l e R s m args below meth c Q D A nL w k n lv (pc + 1) (v :: v :: st)) : vl_V p l e R s m args below meth c Q D A nL w k n lv pc (v :: st) := fun H locs ls hP hD hS hl => lv_dup C0.1.1 C0.1.2.1 hdg hv (kk H locs ls hP hD hS hl)
theorem vl_dup2 (C0 : vl_C l p m meth c cc nL s args Ts own D cy A) {v u : Value} (hdg : decode cc pc = .ok (.dup2, 1)) (hv : v.category = 1) (hu : u.category = 1) (kk : vl_V p l e R s m args below meth c Q D A nL w k n lv (pc + 1) (v :: u :: v :: u :: st)) : vl_V p l e R s m args below meth c Q D A nL w k n lv pc (v :: u :: st) := fun H locs ls hP hD hS hl => lv_dup2_11 C0.1.1 C0.1.2.1 hdg hv hu (kk H locs ls hP hD hS hl)
theorem vl_pop (C0 : vl_C l p m meth c cc nL s args Ts own D cy A) {v : Value} (hdg : decode cc pc = .ok (.pop, 1)) (hv : v.category = 1) (kk : vl_V p l e R s m args below meth c Q D A nL w k n lv (pc + 1) (st)) : vl_V p l e R s m args below meth c Q D A nL w k n lv pc (v :: st) := fun H locs ls hP hD hS hl => lv_pop C0.1.1 C0.1.2.1 hdg hv (kk H locs ls hP hD hS hl)
theorem vl_if_eq (C0 : vl_C l p m meth c cc nL s args Ts own D cy A) {x : Int32} {off : Int} {tgt : Nat} (hdg : decode cc pc = .ok (.ifCond .eq off, 3)) (ht : (pc : Int) + off = (tgt : Int)) (kt : x = 0 → vl_V p l e R s m args below meth c Q D A nL w k n lv tgt (st)) (kf : ¬ x = 0 → vl_V p l e R s m args below meth c Q D A nL w k n lv (pc + 3) (st)) : vl_V p l e R s m args below meth c Q D A nL w k n lv pc (.int x :: st) := fun H locs ls hP hD hS hl => lv_if_eq C0.1.1 C0.1.2.1 hdg ht (fun z => kt z H locs ls hP hD hS hl) (fun z => kf z H locs ls hP hD hS hl)
theorem vl_icmp_eq (C0 : vl_C l p m meth c cc nL s args Ts own D cy A) {x y : Int32} {off : Int} {tgt : Nat} (hdg : decode cc pc = .ok (.if_icmp .eq off, 3)) (ht : (pc : Int) + off = (tgt : Int)) (kt : x = y → vl_V p l e R s m args below meth c Q D A nL w k n lv tgt (st)) (kf : ¬ x = y → vl_V p l e R s m args below meth c Q D A nL w k n lv (pc + 3) (st)) : vl_V p l e R s m args below meth c Q D A nL w k n lv pc (.int y :: .int x :: st) := fun H locs ls hP hD hS hl => lv_icmp_eq C0.1.1 C0.1.2.1 hdg ht (fun z => kt z H locs ls hP hD hS hl) (fun z => kf z H locs ls hP hD hS hl)
theorem vl_if_ne (C0 : vl_C l p m meth c cc nL s args Ts own D cy A) {x : Int32} {off : Int} {tgt : Nat} (hdg : decode cc pc = .ok (.ifCond .ne off, 3)) (ht : (pc : Int) + off = (tgt : Int)) (kt : ¬ x = 0 → vl_V p l e R s m args below meth c Q D A nL w k n lv tgt (st)) (kf : x = 0 → vl_V p l e R s m args below meth c Q D A nL w k n lv (pc + 3) (st)) : vl_V p l e R s m args below meth c Q D A nL w k n lv pc (.int x :: st) := fun H locs ls hP hD hS hl => lv_if_ne C0.1.1 C0.1.2.1 hdg ht (fun z => kt z H locs ls hP hD hS hl) (fun z => kf z H locs ls hP hD hS hl)
theorem vl_icmp_ne (C0 : vl_C l p m meth c cc nL s args Ts own D cy A) {x y : Int32} {off : Int} {tgt : Nat} (hdg : decode cc pc = .ok (.if_icmp .ne off, 3)) (ht : (pc : Int) + off = (tgt : Int)) (kt : ¬ x = y → vl_V p l e R s m args below meth c Q D A nL w k n lv tgt (st)) (kf : x = y → vl_V p l e R s m args below meth c Q D A nL w k n lv (pc + 3) (st)) : vl_V p l e R s m args below meth c Q D A nL w k n lv pc (.int y :: .int x :: st) := fun H locs ls hP hD hS hl => lv_icmp_ne C0.1.1 C0.1.2.1 hdg ht (fun z => kt z H locs ls hP hD hS hl) (fun z => kf z H locs ls hP hD hS hl)
theorem vl_if_lt (C0 : vl_C l p m meth c cc nL s args Ts own D cy A) {x : Int32} {off : Int} {tgt : Nat} (hdg : decode cc pc = .ok (.ifCond .lt off, 3)) (ht : (pc : Int) + off = (tgt : Int)) (kt : x < 0 → vl_V p l e R s m args below meth c Q D A nL w k n lv tgt (st)) (kf : ¬ x < 0 → vl_V p l e R s m args below meth c Q D A nL w k n lv (pc + 3) (st)) : vl_V p l e R s m args below meth c Q D A nL w k n lv pc (.int x :: st) := fun H locs ls hP hD hS hl => lv_if_lt C0.1.1 C0.1.2.1 hdg ht (fun z => kt z H locs ls hP hD hS hl) (fun z => kf z H locs ls hP hD hS hl)
theorem vl_icmp_lt (C0 : vl_C l p m meth c cc nL s args Ts own D cy A) {x y : Int32} {off : Int} {tgt : Nat} (hdg : decode cc pc = .ok (.if_icmp .lt off, 3)) (ht : (pc : Int) + off = (tgt : Int)) (kt : x < y → vl_V p l e R s m args below meth c Q D A nL w k n lv tgt (st)) (kf : ¬ x < y → vl_V p l e R s m args below meth c Q D A nL w k n lv (pc + 3) (st)) : vl_V p l e R s m args below meth c Q D A nL w k n lv pc (.int y :: .int x :: st) := fun H locs ls hP hD hS hl => lv_icmp_lt C0.1.1 C0.1.2.1 hdg ht (fun z => kt z H locs ls hP hD hS hl) (fun z => kf z H locs ls hP hD hS hl)
theorem vl_if_ge (C0 : vl_C l p m meth c cc nL s args Ts own D cy A) {x : Int32} {off : Int} {tgt : Nat} (hdg : decode cc pc = .ok (.ifCond .ge off, 3)) (ht : (pc : Int) + off = (tgt : Int)) (kt : 0 ≤ x → vl_V p l e R s m args below meth c Q D A nL w k n lv tgt (st)) (kf : ¬ 0 ≤ x → vl_V p l e R s m args below meth c Q D A nL w k n lv (pc + 3) (st)) : vl_V p l e R s m args below meth c Q D A nL w k n lv pc (.int x :: st) := fun H locs ls hP hD hS hl => lv_if_ge C0.1.1 C0.1.2.1 hdg ht (fun z => kt z H locs ls hP hD hS hl) (fun z => kf z H locs ls hP hD hS hl)
theorem vl_icmp_ge (C0 : vl_C l p m meth c cc nL s args Ts own D cy A) {x y : Int32} {off : Int} {tgt : Nat} (hdg : decode cc pc = .ok (.if_icmp .ge off, 3)) (ht : (pc : Int) + off = (tgt : Int)) (kt : y ≤ x → vl_V p l e R s m args below meth c Q D A nL w k n lv tgt (st)) (kf : ¬ y ≤ x → vl_V p l e R s m args below meth c Q D A nL w k n lv (pc + 3) (st)) : vl_V p l e R s m args below meth c Q D A nL w k n lv pc (.int y :: .int x :: st) := fun H locs ls hP hD hS hl => lv_icmp_ge C0.1.1 C0.1.2.1 hdg ht (fun z => kt z H locs ls hP hD hS hl) (fun z => kf z H locs ls hP hD hS hl)
theorem vl_if_gt (C0 : vl_C l p m meth c cc nL s args Ts own D cy A) {x : Int32} {off : Int} {tgt : Nat} (hdg : decode cc pc = .ok (.ifCond .gt off, 3)) (ht : (pc : Int) + off = (tgt : Int)) (kt : 0 < x → vl_V p l e R s m args below meth c Q D A nL w k n lv tgt (st)) (kf : ¬ 0 < x → vl_V p l e R s m args below meth c Q D A nL w k n lv (pc + 3) (st)) : vl_V p l e R s m args below meth c Q D A nL w k n lv pc (.int x :: st) := fun H locs ls hP hD hS hl => lv_if_gt C0.1.1 C0.1.2.1 hdg ht (fun z => kt z H locs ls hP hD hS hl) (fun z => kf z H locs ls hP hD hS hl)
theorem vl_icmp_gt (C0 : vl_C l p m meth c cc nL s args Ts own D cy A) {x y : Int32} {off : Int} {tgt : Nat} (hdg : decode cc pc = .ok (.if_icmp .gt off, 3)) (ht : (pc : Int) + off = (tgt : Int)) (kt : y < x → vl_V p l e R s m args below meth c Q D A nL w k n lv tgt (st)) (kf : ¬ y < x → vl_V p l e R s m args below meth c Q D A nL w k n lv (pc + 3) (st)) : vl_V p l e R s m args below meth c Q D A nL w k n lv pc (.int y :: .int x :: st) := fun H locs ls hP hD hS hl => lv_icmp_gt C0.1.1 C0.1.2.1 hdg ht (fun z => kt z H locs ls hP hD hS hl) (fun z => kf z H locs ls hP hD hS hl)
theorem vl_if_le (C0 : vl_C l p m meth c cc nL s args Ts own D cy A) {x : Int32} {off : Int} {tgt : Nat} (hdg : decode cc pc = .ok (.ifCond .le off, 3)) (ht : (pc : Int) + off = (tgt : Int)) (kt : x ≤ 0 → vl_V p l e R s m args below meth c Q D A nL w k n lv tgt (st)) (kf : ¬ x ≤ 0 → vl_V p l e R s m args below meth c Q D A nL w k n lv (pc + 3) (st)) : vl_V p l e R s m args below meth c Q D A nL w k n lv pc (.int x :: st) := fun H locs ls hP hD hS hl => lv_if_le C0.1.1 C0.1.2.1 hdg ht (fun z => kt z H locs ls hP hD hS hl) (fun z => kf z H locs ls hP hD hS hl)
theorem vl_icmp_le (C0 : vl_C l p m meth c cc nL s args Ts own D cy A) {x y : Int32} {off : Int} {tgt : Nat} (hdg : decode cc pc = .ok (.if_icmp .le off, 3)) (ht : (pc : Int) + off = (tgt : Int)) (kt : x ≤ y → vl_V p l e R s m args below meth c Q D A nL w k n lv tgt (st)) (kf : ¬ x ≤ y → vl_V p l e R s m args below meth c Q D A nL w k n lv (pc + 3) (st)) : vl_V p l e R s m args below meth c Q D A nL w k n lv pc (.int y :: .int x :: st) := fun H locs ls hP hD hS hl => lv_icmp_le C0.1.1 C0.1.2.1 hdg ht (fun z => kt z H locs ls hP hD hS hl) (fun z => kf z H locs ls hP hD hS hl)
theorem vl_goto (C0 : vl_C l p m meth c cc nL s args Ts own D cy A) {off : Int} {tgt : Nat} (hdg : decode cc pc = .ok (.goto off, 3)) (ht : (pc : Int) + off = (tgt : Int)) (kk : vl_V p l e R s m args below meth c Q D A nL w k n lv tgt (st)) : vl_V p l e R s m args below meth c Q D A nL w k n lv pc (st) := fun H locs ls hP hD hS hl => lv_goto C0.1.1 C0.1.2.1 hdg ht (kk H locs ls hP hD hS hl)
theorem vl_ifnull (C0 : vl_C l p m meth c cc nL s args Ts own D cy A) {x : Nat} {off : Int} (hdg : decode cc pc = .ok (.ifnull off, 3)) (kk : vl_V p l e R s m args below meth c Q D A nL w k n lv (pc + 3) (st)) : vl_V p l e R s m args below meth c Q D A nL w k n lv pc (.ref x :: st) := fun H locs ls hP hD hS hl => lv_ifnull C0.1.1 C0.1.2.1 hdg (kk H locs ls hP hD hS hl)
theorem vl_ifnullN (C0 : vl_C l p m meth c cc nL s args Ts own D cy A) {off : Int} {tgt : Nat} (hdg : decode cc pc = .ok (.ifnull off, 3)) (ht : (pc : Int) + off = (tgt : Int)) (kk : vl_V p l e R s m args below meth c Q D A nL w k n lv tgt (st)) : vl_V p l e R s m args below meth c Q D A nL w k n lv pc (.null :: st) := fun H locs ls hP hD hS hl => lv_ifnullN C0.1.1 C0.1.2.1 hdg ht (kk H locs ls hP hD hS hl)
theorem vl_ifnonnull (C0 : vl_C l p m meth c cc nL s args Ts own D cy A) {x : Nat} {off : Int} {tgt : Nat} (hdg : decode cc pc = .ok (.ifnonnull off, 3)) (ht : (pc : Int) + off = (tgt : Int)) (kk : vl_V p l e R s m args below meth c Q D A nL w k n lv tgt (st)) : vl_V p l e R s m args below meth c Q D A nL w k n lv pc (.ref x :: st) := fun H locs ls hP hD hS hl => lv_ifnonnull C0.1.1 C0.1.2.1 hdg ht (kk H locs ls hP hD hS hl)
theorem vl_ifnonnullN (C0 : vl_C l p m meth c cc nL s args Ts own D cy A) {off : Int} (hdg : decode cc pc = .ok (.ifnonnull off, 3)) (kk : vl_V p l e R s m args below meth c Q D A nL w k n lv (pc + 3) (st)) : vl_V p l e R s m args below meth c Q D A nL w k n lv pc (.null :: st) := fun H locs ls hP hD hS hl => lv_ifnonnullN C0.1.1 C0.1.2.1 hdg (kk H locs ls hP hD hS hl)
theorem vl_tableIn (C0 : vl_C l p m meth c cc nL s args Ts own D cy A) {dflt lo hi : Int} {offs : Array Int} {len : Nat} {x : Int32} {off : Int} {tgt : Nat} (hdg : decode cc pc = .ok (.tableswitch dflt lo hi offs, len)) (h1 : ¬ x.toInt < lo) (h2 : ¬ hi < x.toInt) (ho : offs[(x.toInt - lo).toNat]? = some off) (ht : (pc : Int) + off = (tgt : Int)) (kk : vl_V p l e R s m args below meth c Q D A nL w k n lv tgt (st)) : vl_V p l e R s m args below meth c Q D A nL w k n lv pc (.int x :: st) := fun H locs ls hP hD hS hl => lv_tableIn C0.1.1 C0.1.2.1 hdg h1 h2 ho ht (kk H locs ls hP hD hS hl)
theorem vl_topi {x : Int32} (kk : ∀ y : Int32, y = x → vl_V p l e R s m args below meth c Q D A nL w k n lv pc (.int y :: st)) : vl_V p l e R s m args below meth c Q D A nL w k n lv pc (.int x :: st) := kk x rfl
theorem vl_st {st2 : List Value} (h : st = st2) (kk : vl_V p l e R s m args below meth c Q D A nL w k n lv pc (st2)) : vl_V p l e R s m args below meth c Q D A nL w k n lv pc (st) := by subst h; exact kk
theorem vl_lv {lv2 : List (Nat × Value)} (ks : List Nat) (h : lv_pick lv ks = lv2) (kk : vl_V p l e R s m args below meth c Q D A nL w k n lv2 pc (st)) : vl_V p l e R s m args below meth c Q D A nL w k n lv pc (st) := fun H locs ls hP hD hS hl => kk H locs ls hP hD hS (lv_sub hl ks h)
theorem vl_w {w2 : va_W} (h : w = w2) (kk : vl_V p l e R s m args below meth c Q D A nL w2 k n lv pc (st)) : vl_V p l e R s m args below meth c Q D A nL w k n lv pc (st) := by subst h; exact kk
theorem vl_wid {k2 n2 : Nat} (h1 : k ≤ k2) (h2 : n ≤ n2) (kk : vl_V p l e R s m args below meth c Q D A nL w k2 n2 lv pc (st)) : vl_V p l e R s m args below meth c Q D A nL w k n lv pc (st) := fun H locs ls hP hD hS hl => W.widen h1 h2 (kk H locs ls hP hD hS hl)
end VL1
end
section
section VL2
variable {p : Program} {l : Launch} {e : Env} {R : Room} {s : State} {m : MethodId} {args : Array Value} {below : List Frame} {meth : Method} {c : Code} {Q : State → Prop} {D : va_G} {A : Nat → Prop} {nL : Nat} {w : va_W} {k n : Nat} {lv : List (Nat × Value)} {pc : Nat} {st : List Value}
variable {cc : ByteArray} {Ts : List Cond} {own : String} {cy : Nat → ClassId}
theorem vl_get (C0 : vl_C l p m meth c cc nL s args Ts own D cy A) {C : String} {T : u_T} {N ci index a : Nat} {fs : List Value} (hin : ∀ x ∈ u_ws C T N, x ∈ Ts) (he : ∃ q0 : Nat, w[q0]? = some (a, .inr (ci, fs))) (hc : vwCl[ci]? = some (C, T, N)) (f : Nat) (hf : f < N) (hlink : Cond.fieldLink own index (T f).1 (T f).2.1 (T f).2.2.1 ∈ Ts) {v : Value} (hv : fs[f]? = some v) (hdg : decode cc pc = .ok (.getfield index, 3)) (kk : vl_V p l e R s m args below meth c Q D A nL w k n lv (pc + 3) (v :: st)) : vl_V p l e R s m args below meth c Q D A nL w k n lv pc (.ref a :: st) := fun H locs ls hP hD hS hl => by
  obtain ⟨q0, he⟩ := he
  exact va_get C0.1.1 C0.1.2.1 C0.1.2.2.2.2 hin C0.1.2.2.2.1 C0.2.1 hP q0 he hc f hf (C0.1.2.2.2.2 _ hlink) (fun _ h => h) hv hdg (kk H locs ls hP hD hS hl)
theorem vl_getN (C0 : vl_C l p m meth c cc nL s args Ts own D cy A) {C : String} {T : u_T} {N ci index a : Nat} {fs : List Value} (hin : ∀ x ∈ u_ws C T N, x ∈ Ts) (he : ∃ q0 : Nat, w[q0]? = some (a, .inr (ci, fs))) (hc : vwCl[ci]? = some (C, T, N)) (f : Nat) (hf : f < N) (hlink : (own, index, (T f).1, (T f).2.1, (T f).2.2.1) ∈ vl_nf) {v : Value} (hv : fs[f]? = some v) (hdg : decode cc pc = .ok (.getfield index, 3)) (kk : vl_V p l e R s m args below meth c Q D A nL w k n lv (pc + 3) (v :: st)) : vl_V p l e R s m args below meth c Q D A nL w k n lv pc (.ref a :: st) := fun H locs ls hP hD hS hl => by
  obtain ⟨q0, he⟩ := he
  exact va_getN (host := "MooringTree") C0.1.1 C0.1.2.1 C0.1.2.2.2.2 hin C0.1.2.2.2.1 C0.2.1 hP q0 he hc f hf (va_Nw.use rfl (C0.2.2.2.1.1 _ hlink)) (fun _ h => h) hv hdg (kk H locs ls hP hD hS hl)
theorem vl_put (C0 : vl_C l p m meth c cc nL s args Ts own D cy A) {C : String} {T : u_T} {N ci index a q0 : Nat} {fs : List Value} {w2 : va_W} (hin : ∀ x ∈ u_ws C T N, x ∈ Ts) (ty0 : Nat → FieldType) (hty : ∀ k, k < N → parseFieldDescriptor (T k).2.2.1 = some (ty0 k)) (hnm : ∀ a, a < N → ∀ b, b < N → a ≠ b → (T a).2.1 ≠ (T b).2.1) (he : w[q0]? = some (a, .inr (ci, fs))) (hc : vwCl[ci]? = some (C, T, N)) (f : Nat) (hf : f < N) (hlink : Cond.fieldLink own index (T f).1 (T f).2.1 (T f).2.2.1 ∈ Ts) (hfin : (T f).2.2.2 = false) {ty : FieldType} {v : Value} (hd : ty0 f = ty) (hn : narrow ty v = v) (hfit : fits ty v = true) (hl0 : f < fs.length) (hw : w.set q0 (a, .inr (ci, fs.set f v)) = w2) (hdg : decode cc pc = .ok (.putfield index, 3)) (kk : vl_V p l e R s m args below meth c Q D A nL w2 k n lv (pc + 3) (st)) : vl_V p l e R s m args below meth c Q D A nL w k n lv pc (v :: .ref a :: st) := fun H locs ls hP hD hS hl => by
  subst hw; subst hd
  exact va_put C0.1.1 C0.1.2.1 C0.1.2.2.2.2 hin ty0 hty hnm C0.1.2.2.2.1 C0.2.1 hP hD hS q0 he hc f hf (C0.1.2.2.2.2 _ hlink) (fun _ h => h) hfin (hty f hf) hn hfit hl0 hdg (fun H1 locs1 h1 h2 h3 => kk H1 locs1 ls h1 h2 h3 hl)
theorem vl_putN (C0 : vl_C l p m meth c cc nL s args Ts own D cy A) {C : String} {T : u_T} {N ci index a q0 : Nat} {fs : List Value} {w2 : va_W} (hin : ∀ x ∈ u_ws C T N, x ∈ Ts) (ty0 : Nat → FieldType) (hty : ∀ k, k < N → parseFieldDescriptor (T k).2.2.1 = some (ty0 k)) (hnm : ∀ a, a < N → ∀ b, b < N → a ≠ b → (T a).2.1 ≠ (T b).2.1) (he : w[q0]? = some (a, .inr (ci, fs))) (hc : vwCl[ci]? = some (C, T, N)) (f : Nat) (hf : f < N) (hlink : (own, index, (T f).1, (T f).2.1, (T f).2.2.1) ∈ vl_nf) (hfin : (T f).2.2.2 = false) {ty : FieldType} {v : Value} (hd : ty0 f = ty) (hn : narrow ty v = v) (hfit : fits ty v = true) (hl0 : f < fs.length) (hw : w.set q0 (a, .inr (ci, fs.set f v)) = w2) (hdg : decode cc pc = .ok (.putfield index, 3)) (kk : vl_V p l e R s m args below meth c Q D A nL w2 k n lv (pc + 3) (st)) : vl_V p l e R s m args below meth c Q D A nL w k n lv pc (v :: .ref a :: st) := fun H locs ls hP hD hS hl => by
  subst hw; subst hd
  exact va_putN (host := "MooringTree") C0.1.1 C0.1.2.1 C0.1.2.2.2.2 hin ty0 hty hnm C0.1.2.2.2.1 C0.2.1 hP hD hS q0 he hc f hf (va_Nw.use rfl (C0.2.2.2.1.1 _ hlink)) (fun _ h => h) hfin (hty f hf) hn hfit hl0 hdg (fun H1 locs1 h1 h2 h3 => kk H1 locs1 ls h1 h2 h3 hl)
theorem vl_putF (C0 : vl_C l p m meth c cc nL s args Ts own D cy A) {C : String} {T : u_T} {N ci index a q0 : Nat} {fs : List Value} {w2 : va_W} (hin : ∀ x ∈ u_ws C T N, x ∈ Ts) (ty0 : Nat → FieldType) (hty : ∀ k, k < N → parseFieldDescriptor (T k).2.2.1 = some (ty0 k)) (hnm : ∀ a, a < N → ∀ b, b < N → a ≠ b → (T a).2.1 ≠ (T b).2.1) (he : w[q0]? = some (a, .inr (ci, fs))) (hc : vwCl[ci]? = some (C, T, N)) (f : Nat) (hf : f < N) (hlink : Cond.fieldLink own index (T f).1 (T f).2.1 (T f).2.2.1 ∈ Ts) (hfin : (T f).2.2.2 = true) (hi2 : meth.name = "<init>") (hdecl : (T f).1 = own) {ty : FieldType} {v : Value} (hd : ty0 f = ty) (hn : narrow ty v = v) (hfit : fits ty v = true) (hl0 : f < fs.length) (hw : w.set q0 (a, .inr (ci, fs.set f v)) = w2) (hdg : decode cc pc = .ok (.putfield index, 3)) (kk : vl_V p l e R s m args below meth c Q D A nL w2 k n lv (pc + 3) (st)) : vl_V p l e R s m args below meth c Q D A nL w k n lv pc (v :: .ref a :: st) := fun H locs ls hP hD hS hl => by
  subst hw; subst hd
  exact va_putF C0.1.1 C0.1.2.1 C0.1.2.2.2.2 hin ty0 hty hnm C0.1.2.2.2.1 C0.2.1 hP hD hS q0 he hc f hf (C0.1.2.2.2.2 _ hlink) (fun _ h => h) hfin hi2 hdecl (hty f hf) hn hfit hl0 hdg (fun H1 locs1 h1 h2 h3 => kk H1 locs1 ls h1 h2 h3 hl)
theorem vl_iald (C0 : vl_C l p m meth c cc nL s args Ts own D cy A) {a N : Nat} {f : Nat → Int32} {i : Int32} (ha : ∃ q0 : Nat, w[q0]? = some (a, .inl (cy 0, N, .inl f))) (hin : vp_in i N) (hdg : decode cc pc = .ok (.iaload, 1)) (kk : vl_V p l e R s m args below meth c Q D A nL w k n lv (pc + 1) (.int (f i.toNatClampNeg) :: st)) : vl_V p l e R s m args below meth c Q D A nL w k n lv pc (.int i :: .ref a :: st) := fun H locs ls hP hD hS hl => by
  obtain ⟨q0, ha⟩ := ha
  exact va_iald C0.1.1 C0.1.2.1 C0.2.1 hP q0 0 ha rfl hin hdg (kk H locs ls hP hD hS hl)
theorem vl_zald (C0 : vl_C l p m meth c cc nL s args Ts own D cy A) {a N : Nat} {f : Nat → Int32} {i : Int32} (ha : ∃ q0 : Nat, w[q0]? = some (a, .inl (cy 1, N, .inl f))) (hin : vp_in i N) (hdg : decode cc pc = .ok (.baload, 1)) (kk : vl_V p l e R s m args below meth c Q D A nL w k n lv (pc + 1) (.int (f i.toNatClampNeg) :: st)) : vl_V p l e R s m args below meth c Q D A nL w k n lv pc (.int i :: .ref a :: st) := fun H locs ls hP hD hS hl => by
  obtain ⟨q0, ha⟩ := ha
  exact va_zald C0.1.1 C0.1.2.1 C0.2.1 hP q0 1 ha rfl hin hdg (kk H locs ls hP hD hS hl)
theorem vl_lald (C0 : vl_C l p m meth c cc nL s args Ts own D cy A) {a N : Nat} {f : Nat → Int64} {i : Int32} (ha : ∃ q0 : Nat, w[q0]? = some (a, .inl (cy 4, N, .inr (.inl f)))) (hin : vp_in i N) (hdg : decode cc pc = .ok (.laload, 1)) (kk : vl_V p l e R s m args below meth c Q D A nL w k n lv (pc + 1) (.long (f i.toNatClampNeg) :: st)) : vl_V p l e R s m args below meth c Q D A nL w k n lv pc (.int i :: .ref a :: st) := fun H locs ls hP hD hS hl => by
  obtain ⟨q0, ha⟩ := ha
  exact va_lald C0.1.1 C0.1.2.1 C0.2.1 hP q0 4 ha rfl hin hdg (kk H locs ls hP hD hS hl)
theorem vl_aldL (C0 : vl_C l p m meth c cc nL s args Ts own D cy A) {a N : Nat} {f : Nat → Option Nat} {i : Int32} {v : Value} (ha : ∃ q0 : Nat, w[q0]? = some (a, .inl (cy 2, N, .inr (.inr (.inr (.inr f)))))) (hin : vp_in i N) (hv : va_rf (f i.toNatClampNeg) = v) (hdg : decode cc pc = .ok (.aaload, 1)) (kk : vl_V p l e R s m args below meth c Q D A nL w k n lv (pc + 1) (v :: st)) : vl_V p l e R s m args below meth c Q D A nL w k n lv pc (.int i :: .ref a :: st) := fun H locs ls hP hD hS hl => by
  obtain ⟨q0, ha⟩ := ha
  subst hv
  exact va_aldq C0.1.1 C0.1.2.1 C0.2.1 hP q0 2 ha rfl hin hdg (kk H locs ls hP hD hS hl)
theorem vl_aldS (C0 : vl_C l p m meth c cc nL s args Ts own D cy A) {a N : Nat} {f : Nat → Option Nat} {i : Int32} {v : Value} (ha : ∃ q0 : Nat, w[q0]? = some (a, .inl (cy 3, N, .inr (.inr (.inr (.inr f)))))) (hin : vp_in i N) (hv : va_rf (f i.toNatClampNeg) = v) (hdg : decode cc pc = .ok (.aaload, 1)) (kk : vl_V p l e R s m args below meth c Q D A nL w k n lv (pc + 1) (v :: st)) : vl_V p l e R s m args below meth c Q D A nL w k n lv pc (.int i :: .ref a :: st) := fun H locs ls hP hD hS hl => by
  obtain ⟨q0, ha⟩ := ha
  subst hv
  exact va_aldq C0.1.1 C0.1.2.1 C0.2.1 hP q0 3 ha rfl hin hdg (kk H locs ls hP hD hS hl)
theorem vl_iast (C0 : vl_C l p m meth c cc nL s args Ts own D cy A) {a N q0 : Nat} {f : Nat → Int32} {i : Int32} {x : Int32} {w2 : va_W} (ha : w[q0]? = some (a, .inl (cy 0, N, .inl f))) (hin : vp_in i N) (hw : w.set q0 (a, .inl (cy 0, N, .inl (upd f i.toNatClampNeg x))) = w2) (hdg : decode cc pc = .ok (.iastore, 1)) (kk : vl_V p l e R s m args below meth c Q D A nL w2 k n lv (pc + 1) (st)) : vl_V p l e R s m args below meth c Q D A nL w k n lv pc (.int x :: .int i :: .ref a :: st) := fun H locs ls hP hD hS hl => by
  subst hw
  exact va_iast C0.1.1 C0.1.2.1 C0.2.1 hP hD hS q0 0 ha rfl hin hdg (fun H1 locs1 h1 h2 h3 => kk H1 locs1 ls h1 h2 h3 hl)
theorem vl_zast (C0 : vl_C l p m meth c cc nL s args Ts own D cy A) {a N q0 : Nat} {f : Nat → Int32} {i : Int32} {x : Int32} {w2 : va_W} (ha : w[q0]? = some (a, .inl (cy 1, N, .inl f))) (hin : vp_in i N) (hw : w.set q0 (a, .inl (cy 1, N, .inl (upd f i.toNatClampNeg (vp_nar .boolean x)))) = w2) (hdg : decode cc pc = .ok (.bastore, 1)) (kk : vl_V p l e R s m args below meth c Q D A nL w2 k n lv (pc + 1) (st)) : vl_V p l e R s m args below meth c Q D A nL w k n lv pc (.int x :: .int i :: .ref a :: st) := fun H locs ls hP hD hS hl => by
  subst hw
  exact va_zast C0.1.1 C0.1.2.1 C0.2.1 hP hD hS q0 1 ha rfl hin hdg (fun H1 locs1 h1 h2 h3 => kk H1 locs1 ls h1 h2 h3 hl)
theorem vl_last (C0 : vl_C l p m meth c cc nL s args Ts own D cy A) {a N q0 : Nat} {f : Nat → Int64} {i : Int32} {x : Int64} {w2 : va_W} (ha : w[q0]? = some (a, .inl (cy 4, N, .inr (.inl f)))) (hin : vp_in i N) (hw : w.set q0 (a, .inl (cy 4, N, .inr (.inl (vp_updL f i.toNatClampNeg x)))) = w2) (hdg : decode cc pc = .ok (.lastore, 1)) (kk : vl_V p l e R s m args below meth c Q D A nL w2 k n lv (pc + 1) (st)) : vl_V p l e R s m args below meth c Q D A nL w k n lv pc (.long x :: .int i :: .ref a :: st) := fun H locs ls hP hD hS hl => by
  subst hw
  exact va_last C0.1.1 C0.1.2.1 C0.2.1 hP hD hS q0 4 ha rfl hin hdg (fun H1 locs1 h1 h2 h3 => kk H1 locs1 ls h1 h2 h3 hl)
theorem vl_astL (C0 : vl_C l p m meth c cc nL s args Ts own D cy A) {a N q0 qk v : Nat} {f : Nat → Option Nat} {vs : List Value} {i : Int32} {w2 : va_W} (ha : w[q0]? = some (a, .inl (cy 2, N, .inr (.inr (.inr (.inr f)))))) (hv : w[qk]? = some (v, .inr (1, vs))) (hin : vp_in i N) (hw : w.set q0 (a, .inl (cy 2, N, .inr (.inr (.inr (.inr (va_up f i.toNatClampNeg (some v))))))) = w2) (hdg : decode cc pc = .ok (.aastore, 1)) (kk : vl_V p l e R s m args below meth c Q D A nL w2 k n lv (pc + 1) (st)) : vl_V p l e R s m args below meth c Q D A nL w k n lv pc (.ref v :: .int i :: .ref a :: st) := fun H locs ls hP hD hS hl => by
  subst hw
  exact va_astq (r := (RX1, TX1, 6)) C0.1.1 C0.1.2.1 C0.2.1 hP hD hS q0 2 qk 1 ha rfl hv rfl hin hdg (fun H1 locs1 h1 h2 h3 => kk H1 locs1 ls h1 h2 h3 hl)
theorem vl_astS (C0 : vl_C l p m meth c cc nL s args Ts own D cy A) {a N q0 qk v : Nat} {f : Nat → Option Nat} {vs : List Value} {i : Int32} {w2 : va_W} (ha : w[q0]? = some (a, .inl (cy 3, N, .inr (.inr (.inr (.inr f)))))) (hv : w[qk]? = some (v, .inr (2, vs))) (hin : vp_in i N) (hw : w.set q0 (a, .inl (cy 3, N, .inr (.inr (.inr (.inr (va_up f i.toNatClampNeg (some v))))))) = w2) (hdg : decode cc pc = .ok (.aastore, 1)) (kk : vl_V p l e R s m args below meth c Q D A nL w2 k n lv (pc + 1) (st)) : vl_V p l e R s m args below meth c Q D A nL w k n lv pc (.ref v :: .int i :: .ref a :: st) := fun H locs ls hP hD hS hl => by
  subst hw
  exact va_astq (r := (RX2, TX2, 5)) C0.1.1 C0.1.2.1 C0.2.1 hP hD hS q0 3 qk 2 ha rfl hv rfl hin hdg (fun H1 locs1 h1 h2 h3 => kk H1 locs1 ls h1 h2 h3 hl)
theorem vl_alen (C0 : vl_C l p m meth c cc nL s args Ts own D cy A) {a : Nat} (t0 : Nat) {cA : ClassId} {x : vp_A} {ty : FieldType} {v : Int32} (ha : ∃ q0 : Nat, w[q0]? = some (a, .inl (cA, x))) (ht : (vl_T cy)[t0]? = some (cA, ty)) (hv : Int32.ofNat x.1 = v) (hdg : decode cc pc = .ok (.arraylength, 1)) (kk : vl_V p l e R s m args below meth c Q D A nL w k n lv (pc + 1) (.int v :: st)) : vl_V p l e R s m args below meth c Q D A nL w k n lv pc (.ref a :: st) := fun H locs ls hP hD hS hl => by
  obtain ⟨q0, ha⟩ := ha
  exact va_alen C0.1.1 C0.1.2.1 C0.2.1 hP q0 t0 ha ht hv hdg (kk H locs ls hP hD hS hl)
theorem vl_new (C0 : vl_C l p m meth c cc nL s args Ts own D cy A) {C : String} {T : u_T} {N ci index : Nat} {fs : List Value} (hin : ∀ x ∈ u_ws C T N, x ∈ Ts) (ty : Nat → FieldType) (hty : ∀ k, k < N → parseFieldDescriptor (T k).2.2.1 = some (ty k)) (hcl : Cond.classLink own index C ∈ Ts) (hinst : Cond.instantiable C N ∈ Ts) (hini : Cond.initialized C ∈ Ts) (hc : vwCl[ci]? = some (C, T, N)) (hfs : ∀ j, j < N → defaultValue (ty j) = vp_V fs j) (hk : k + 1 ≤ R.cells) (hn : n + N ≤ R.slots) (hdg : decode cc pc = .ok (.new index, 3)) (kk : ∀ q : Nat, vl_V p l e R s m args below meth c Q D A nL (w ++ [(q, .inr (ci, fs))]) (k + 1) (n + N) lv (pc + 3) (.ref q :: st)) : vl_V p l e R s m args below meth c Q D A nL w k n lv pc (st) := fun H locs ls hP hD hS hl => va_new C0.1.1 C0.1.2.1 C0.1.2.2.2.2 hin ty hty C0.1.2.2.2.1 (C0.1.2.2.2.2 _ hcl) (C0.1.2.2.2.2 _ hinst) (C0.1.2.2.2.2 _ hini) C0.2.1 hP hD hS C0.2.2.1 hc hfs hk hn hdg (fun q H1 h1 h2 h3 => kk q H1 locs ls h1 h2 h3 hl)
theorem vl_newI (C0 : vl_C l p m meth c cc nL s args Ts own D cy A) {i : Int32} {N : Nat} (hac : Cond.arrayClass .int ∈ Ts) (h0 : ¬ i < 0) (hN : i.toNatClampNeg = N) (hby : N * componentBytes .int ≤ 536870912) (hk : k + 1 ≤ R.cells) (hn : n + N ≤ R.slots) (hdg : decode cc pc = .ok (.newarray .int, 2)) (kk : ∀ q : Nat, vl_V p l e R s m args below meth c Q D A nL (w ++ [(q, .inl (cy 0, N, .inl (fun _ => 0)))]) (k + 1) (n + N) lv (pc + 2) (.ref q :: st)) : vl_V p l e R s m args below meth c Q D A nL w k n lv pc (.int i :: st) := fun H locs ls hP hD hS hl => va_newa (atype := .int) (a0 := (N, .inl (fun _ => 0))) C0.1.1 C0.1.2.1 (C0.1.2.2.2.2 _ hac) rfl C0.2.1 hP hD hS C0.2.2.1 (fun _ => rfl) h0 hN hby hk hn hdg (fun q cA H1 hK1 h1 h2 h3 => by
  have e1 : s.vm.findClass _ = some cA := (hK1.2 5 (cA, .int) rfl).2
  have e2 : s.vm.findClass _ = some (cy 0) := (C0.2.1.2 0 (cy 0, .int) rfl).2
  have e3 : cA = cy 0 := Option.some.inj (e1.symm.trans e2)
  subst e3
  exact kk q H1 locs ls h1 h2 h3 hl)
theorem vl_newZ (C0 : vl_C l p m meth c cc nL s args Ts own D cy A) {i : Int32} {N : Nat} (hac : Cond.arrayClass .boolean ∈ Ts) (h0 : ¬ i < 0) (hN : i.toNatClampNeg = N) (hby : N * componentBytes .boolean ≤ 536870912) (hk : k + 1 ≤ R.cells) (hn : n + N ≤ R.slots) (hdg : decode cc pc = .ok (.newarray .boolean, 2)) (kk : ∀ q : Nat, vl_V p l e R s m args below meth c Q D A nL (w ++ [(q, .inl (cy 1, N, .inl (fun _ => 0)))]) (k + 1) (n + N) lv (pc + 2) (.ref q :: st)) : vl_V p l e R s m args below meth c Q D A nL w k n lv pc (.int i :: st) := fun H locs ls hP hD hS hl => va_newa (atype := .boolean) (a0 := (N, .inl (fun _ => 0))) C0.1.1 C0.1.2.1 (C0.1.2.2.2.2 _ hac) rfl C0.2.1 hP hD hS C0.2.2.1 (fun _ => rfl) h0 hN hby hk hn hdg (fun q cA H1 hK1 h1 h2 h3 => by
  have e1 : s.vm.findClass _ = some cA := (hK1.2 5 (cA, .boolean) rfl).2
  have e2 : s.vm.findClass _ = some (cy 1) := (C0.2.1.2 1 (cy 1, .boolean) rfl).2
  have e3 : cA = cy 1 := Option.some.inj (e1.symm.trans e2)
  subst e3
  exact kk q H1 locs ls h1 h2 h3 hl)
theorem vl_newJ (C0 : vl_C l p m meth c cc nL s args Ts own D cy A) {i : Int32} {N : Nat} (hac : Cond.arrayClass .long ∈ Ts) (h0 : ¬ i < 0) (hN : i.toNatClampNeg = N) (hby : N * componentBytes .long ≤ 536870912) (hk : k + 1 ≤ R.cells) (hn : n + N ≤ R.slots) (hdg : decode cc pc = .ok (.newarray .long, 2)) (kk : ∀ q : Nat, vl_V p l e R s m args below meth c Q D A nL (w ++ [(q, .inl (cy 4, N, .inr (.inl (fun _ => 0))))]) (k + 1) (n + N) lv (pc + 2) (.ref q :: st)) : vl_V p l e R s m args below meth c Q D A nL w k n lv pc (.int i :: st) := fun H locs ls hP hD hS hl => va_newa (atype := .long) (a0 := (N, .inr (.inl (fun _ => 0)))) C0.1.1 C0.1.2.1 (C0.1.2.2.2.2 _ hac) rfl C0.2.1 hP hD hS C0.2.2.1 (fun _ => rfl) h0 hN hby hk hn hdg (fun q cA H1 hK1 h1 h2 h3 => by
  have e1 : s.vm.findClass _ = some cA := (hK1.2 5 (cA, .long) rfl).2
  have e2 : s.vm.findClass _ = some (cy 4) := (C0.2.1.2 4 (cy 4, .long) rfl).2
  have e3 : cA = cy 4 := Option.some.inj (e1.symm.trans e2)
  subst e3
  exact kk q H1 locs ls h1 h2 h3 hl)
theorem vl_newL (C0 : vl_C l p m meth c cc nL s args Ts own D cy A) {i : Int32} {N index : Nat} (hcl : Cond.classLink own index RX1 ∈ Ts) (h0 : ¬ i < 0) (hN : i.toNatClampNeg = N) (hby : N * 4 ≤ 536870912) (hk : k + 1 ≤ R.cells) (hn : n + N ≤ R.slots) (hdg : decode cc pc = .ok (.anewarray index, 3)) (kk : ∀ q : Nat, vl_V p l e R s m args below meth c Q D A nL (w ++ [(q, .inl (cy 2, N, .inr (.inr (.inr (.inr (fun _ => none))))))]) (k + 1) (n + N) lv (pc + 3) (.ref q :: st)) : vl_V p l e R s m args below meth c Q D A nL w k n lv pc (.int i :: st) := fun H locs ls hP hD hS hl => va_newq (C := RX1) C0.1.1 C0.1.2.1 C0.1.2.2.2.1 (C0.1.2.2.2.2 _ hcl) C0.2.2.2.1.2.2.2.1 C0.2.1 hP hD hS C0.2.2.1 h0 hN hby hk hn hdg (fun q cA H1 hK1 h1 h2 h3 => by
  obtain ⟨kA1, c1, -, -, -, e1⟩ := (hK1.2 5 (cA, .object RX1) rfl).2
  obtain ⟨kA2, c2, -, -, -, e2⟩ := (C0.2.1.2 2 (cy 2, .object RX1) rfl).2
  have e3 : cA = cy 2 := Option.some.inj (e1.symm.trans e2)
  subst e3
  exact kk q H1 locs ls h1 h2 h3 hl)
theorem vl_newS (C0 : vl_C l p m meth c cc nL s args Ts own D cy A) {i : Int32} {N index : Nat} (hcl : Cond.classLink own index RX2 ∈ Ts) (h0 : ¬ i < 0) (hN : i.toNatClampNeg = N) (hby : N * 4 ≤ 536870912) (hk : k + 1 ≤ R.cells) (hn : n + N ≤ R.slots) (hdg : decode cc pc = .ok (.anewarray index, 3)) (kk : ∀ q : Nat, vl_V p l e R s m args below meth c Q D A nL (w ++ [(q, .inl (cy 3, N, .inr (.inr (.inr (.inr (fun _ => none))))))]) (k + 1) (n + N) lv (pc + 3) (.ref q :: st)) : vl_V p l e R s m args below meth c Q D A nL w k n lv pc (.int i :: st) := fun H locs ls hP hD hS hl => va_newq (C := RX2) C0.1.1 C0.1.2.1 C0.1.2.2.2.1 (C0.1.2.2.2.2 _ hcl) C0.2.2.2.1.2.2.2.2 C0.2.1 hP hD hS C0.2.2.1 h0 hN hby hk hn hdg (fun q cA H1 hK1 h1 h2 h3 => by
  obtain ⟨kA1, c1, -, -, -, e1⟩ := (hK1.2 5 (cA, .object RX2) rfl).2
  obtain ⟨kA2, c2, -, -, -, e2⟩ := (C0.2.1.2 3 (cy 3, .object RX2) rfl).2
  have e3 : cA = cy 3 := Option.some.inj (e1.symm.trans e2)
  subst e3
  exact kk q H1 locs ls h1 h2 h3 hl)
theorem vl_objInit (C0 : vl_C l p m meth c cc nL s args Ts own D cy A) {idx x : Nat} (h1 : Cond.methodLink own idx Lib.objectInit ∈ Ts) (h2 : Cond.instanceMethod Lib.objectInit ∈ Ts) (h3 : Cond.code Lib.objectInit ⟨#[0xb1]⟩ 1 none ∈ Ts) (hF : 1 ≤ R.frames) (hL : (st.map fun v => v.category).sum + 12 ≤ R.locals) (hdg : decode cc pc = .ok (.invokespecial idx, 3)) (kk : vl_V p l e R s m args below meth c Q D A nL w k n lv (pc + 3) (st)) : vl_V p l e R s m args below meth c Q D A nL w k n lv pc (.ref x :: st) := fun H locs ls hP hD hS hl => W.objInit C0.1.1 C0.1.2.1 C0.1.2.2.2.1 (C0.1.2.2.2.2 _ h1) (C0.1.2.2.2.2 _ h2) (C0.1.2.2.2.2 _ h3) rfl (by rw [C0.1.2.2.1]; exact hl.1) rfl hdg hF (by show 2 * 0 + _ + 12 ≤ _; omega) (kk H locs ls hP hD hS hl)
end VL2
end
section
section VL3
variable {p : Program} {l : Launch} {e : Env} {R : Room} {s : State} {m : MethodId} {args : Array Value} {below : List Frame} {meth : Method} {c : Code} {Q : State → Prop} {D : va_G} {A : Nat → Prop} {nL : Nat} {w : va_W} {k n : Nat} {lv : List (Nat × Value)} {pc : Nat} {st : List Value}
variable {cc : ByteArray} {Ts : List Cond} {own : String} {cy : Nat → ClassId}
variable {y : MethodName} {bytes : ByteArray} {maxL mc ms index : Nat} {ret : Option FieldType} {ws ws' : List Cond} {rm : Room} {As st0 : List Value} {b na : Nat} {w0 : va_W}
/-- a call is done: by its contract the machine comes behind it -/
def vl_Rn (p : Program) (l : Launch) (e : Env) (R : Room) (s : State) (m : MethodId) (args : Array Value) (below : List Frame) (meth : Method) (c : Code) (D : va_G) (A : Nat → Prop) (nL : Nat) (cy : Nat → ClassId) (y : MethodName) (ws : List Cond) (rm : Room) (mc ms : Nat) (av : List Value) (w : va_W) (k n : Nat) (pc : Nat) (st0 st : List Value) : Prop :=
  ∀ (Qc : Array Value → State → Outcome → State → Prop) (H : Heap) (locs : List Loc) (ls : Array Slot) (lv : List (Nat × Value)), Met l y ws rm (va_Pc av (vl_U D cy H.size w)) Qc mc ms (va_A w H.size) → va_P D vwCl w H → va_D A w → va_S A s.heap H locs → lv_has ls nL lv → va_Run p l e R s m args below meth c H locs k n mc ms (F0 m pc ls st0) st (Qc av.toArray) (va_A w H.size)
def vl_RnX (p : Program) (l : Launch) (e : Env) (R : Room) (s : State) (m : MethodId) (args : Array Value) (below : List Frame) (meth : Method) (c : Code) (D : va_G) (A : Nat → Prop) (nL : Nat) (cy : Nat → ClassId) (y : MethodName) (ws : List Cond) (rm : Room) (mc ms : Nat) (av : List Value) (w : va_W) (k n : Nat) (pc : Nat) (st0 st : List Value) : Prop :=
  ∀ (Qc : Array Value → State → Outcome → State → Prop) (XC : String → State → State → Prop) (H : Heap) (locs : List Loc) (ls : Array Slot) (lv : List (Nat × Value)), vx_Met l y ws rm (va_Pc av (vl_U D cy H.size w)) Qc XC mc ms (va_A w H.size) → va_P D vwCl w H → va_D A w → va_S A s.heap H locs → lv_has ls nL lv → vx_Run p l e R s m args below meth c H locs k n mc ms (F0 m pc ls st0) st (Qc av.toArray) XC (va_A w H.size)
theorem vl_goV (C0 : vl_C l p m meth c cc nL s args Ts own D cy A) {C : String} {T : u_T} {N ci : Nat} (hG : GoodIn Ts (wsV own index C y ws)) (hw : ws = Cond.code y bytes maxL ret :: ws') (hrc : rm.cells = mc) (hrs : rm.slots = ms) (hd : y.cls = C ∧ y.cls ≠ "java/lang/invoke/MethodHandle" ∧ y.cls ≠ "java/lang/invoke/VarHandle" ∧ (parseMethodDescriptor y.desc).map (fun d => d.parameters.length) = some na) (hR : rm.frames + 1 ≤ R.frames ∧ 8 + (maxL + 11) + rm.locals ≤ R.locals) (hc : vwCl[ci]? = some (C, T, N)) (hrec : ∃ (q0 : Nat) (fs : List Value), w[q0]? = some (b, .inr (ci, fs))) (hdg : decode cc pc = .ok (.invokevirtual index, 3)) (hrest : (st.map fun v => v.category).sum ≤ 8) (hf : k + mc ≤ R.cells ∧ n + ms ≤ R.slots) (h0 : st0 = As.reverse ++ .ref b :: st) (hna : As.length = na) : vl_Rn p l e R s m args below meth c D A nL cy y ws rm mc ms (.ref b :: As) w k n pc (st0) st := fun Qc H locs ls lv hM hP hD hS hl => by
  subst h0
  obtain ⟨q0, fs, he⟩ := hrec
  exact va_runV (As := As) (rest := st) C0.1 hM (cwV na C0.1.2.2.2.2 hG hw hrc hrs hd hR) ⟨vl_blind, va_recv C0.2.1 hP hc he, fun U hU hW => ⟨rfl, vl_pre C0.2.1 C0.2.2.1 C0.2.2.2.1 C0.2.2.2.2.1 hP hD hS hU hW⟩⟩ rfl hna hl.1 rfl (lv_room hrest) hdg hf
theorem vl_goS (C0 : vl_C l p m meth c cc nL s args Ts own D cy A) (hG : GoodIn Ts (wsS own index y ws)) (hw : ws = Cond.code y bytes maxL ret :: ws') (hrc : rm.cells = mc) (hrs : rm.slots = ms) (hd : y.cls = own ∧ y.cls ≠ "java/lang/invoke/MethodHandle" ∧ y.cls ≠ "java/lang/invoke/VarHandle" ∧ (parseMethodDescriptor y.desc).map (fun d => d.parameters.length) = some na) (hR : rm.frames + 1 ≤ R.frames ∧ 8 + (maxL + 11) + rm.locals ≤ R.locals) (hdg : decode cc pc = .ok (.invokestatic index, 3)) (hrest : (st.map fun v => v.category).sum ≤ 8) (hf : k + mc ≤ R.cells ∧ n + ms ≤ R.slots) (h0 : st0 = As.reverse ++ st) (hna : As.length = na) : vl_Rn p l e R s m args below meth c D A nL cy y ws rm mc ms As w k n pc (st0) st := fun Qc H locs ls lv hM hP hD hS hl => by
  subst h0
  exact va_runS (As := As) (rest := st) C0.1 hM (cwS na C0.1.2.2.2.2 hG hw hrc hrs hd hR) ⟨vl_blind, fun U hU hW => ⟨rfl, vl_pre C0.2.1 C0.2.2.1 C0.2.2.2.1 C0.2.2.2.2.1 hP hD hS hU hW⟩⟩ rfl hna hl.1 rfl (lv_room hrest) hdg hf
theorem vl_goVX (C0 : vl_C l p m meth c cc nL s args Ts own D cy A) {C : String} {T : u_T} {N ci : Nat} (hG : GoodIn Ts (wsV own index C y ws)) (hw : ws = Cond.code y bytes maxL ret :: ws') (hrc : rm.cells = mc) (hrs : rm.slots = ms) (hd : y.cls = C ∧ y.cls ≠ "java/lang/invoke/MethodHandle" ∧ y.cls ≠ "java/lang/invoke/VarHandle" ∧ (parseMethodDescriptor y.desc).map (fun d => d.parameters.length) = some na) (hR : rm.frames + 1 ≤ R.frames ∧ 8 + (maxL + 11) + rm.locals ≤ R.locals) (hc : vwCl[ci]? = some (C, T, N)) (hrec : ∃ (q0 : Nat) (fs : List Value), w[q0]? = some (b, .inr (ci, fs))) (hdg : decode cc pc = .ok (.invokevirtual index, 3)) (hrest : (st.map fun v => v.category).sum ≤ 8) (hf : k + mc ≤ R.cells ∧ n + ms ≤ R.slots) (h0 : st0 = As.reverse ++ .ref b :: st) (hna : As.length = na) : vl_RnX p l e R s m args below meth c D A nL cy y ws rm mc ms (.ref b :: As) w k n pc (st0) st := fun Qc XC H locs ls lv hM hP hD hS hl => by
  subst h0
  obtain ⟨q0, fs, he⟩ := hrec
  exact vx_runV (As := As) (rest := st) C0.1 hM (cwV na C0.1.2.2.2.2 hG hw hrc hrs hd hR) ⟨vl_blind, va_recv C0.2.1 hP hc he, fun U hU hW => ⟨rfl, vl_pre C0.2.1 C0.2.2.1 C0.2.2.2.1 C0.2.2.2.2.1 hP hD hS hU hW⟩⟩ rfl hna hl.1 rfl (lv_room hrest) hdg hf
theorem vl_goSX (C0 : vl_C l p m meth c cc nL s args Ts own D cy A) (hG : GoodIn Ts (wsS own index y ws)) (hw : ws = Cond.code y bytes maxL ret :: ws') (hrc : rm.cells = mc) (hrs : rm.slots = ms) (hd : y.cls = own ∧ y.cls ≠ "java/lang/invoke/MethodHandle" ∧ y.cls ≠ "java/lang/invoke/VarHandle" ∧ (parseMethodDescriptor y.desc).map (fun d => d.parameters.length) = some na) (hR : rm.frames + 1 ≤ R.frames ∧ 8 + (maxL + 11) + rm.locals ≤ R.locals) (hdg : decode cc pc = .ok (.invokestatic index, 3)) (hrest : (st.map fun v => v.category).sum ≤ 8) (hf : k + mc ≤ R.cells ∧ n + ms ≤ R.slots) (h0 : st0 = As.reverse ++ st) (hna : As.length = na) : vl_RnX p l e R s m args below meth c D A nL cy y ws rm mc ms As w k n pc (st0) st := fun Qc XC H locs ls lv hM hP hD hS hl => by
  subst h0
  exact vx_runS (As := As) (rest := st) C0.1 hM (cwS na C0.1.2.2.2.2 hG hw hrc hrs hd hR) ⟨vl_blind, fun U hU hW => ⟨rfl, vl_pre C0.2.1 C0.2.2.1 C0.2.2.2.1 C0.2.2.2.2.1 hP hD hS hU hW⟩⟩ rfl hna hl.1 rfl (lv_room hrest) hdg hf
theorem vl_goI (C0 : vl_C l p m meth c cc nL s args Ts own D cy A) (hG : GoodIn Ts ws) (hw : ws = Cond.code y bytes maxL none :: ws') (hrc : rm.cells = mc) (hrs : rm.slots = ms) (hini : Cond.initialized y.cls ∈ Ts) (hlk : Cond.methodLink own index y ∈ Ts) (hins : Cond.instanceMethod y ∈ Ts) (hy : y.name = "<init>") (hd : y.cls ≠ "java/lang/invoke/MethodHandle" ∧ y.cls ≠ "java/lang/invoke/VarHandle" ∧ (parseMethodDescriptor y.desc).map (fun d => d.parameters.length) = some na) (hR : rm.frames + 1 ≤ R.frames ∧ 8 + (maxL + 11) + rm.locals ≤ R.locals) (hdg : decode cc pc = .ok (.invokespecial index, 3)) (hrest : (st.map fun v => v.category).sum ≤ 8) (hf : k + mc ≤ R.cells ∧ n + ms ≤ R.slots) (h0 : st0 = As.reverse ++ .ref b :: st) (hna : As.length = na) : vl_Rn p l e R s m args below meth c D A nL cy y ws rm mc ms (.ref b :: As) w k n pc (st0) st := fun Qc H locs ls lv hM hP hD hS hl => by
  subst h0
  exact va_runI (As := As) (rest := st) C0.1 hM (cwI na C0.1.2.2.2.2 hG hw hrc hrs (C0.1.2.2.2.2 _ hini) (C0.1.2.2.2.2 _ hlk) (C0.1.2.2.2.2 _ hins) hy hd hR) ⟨vl_blind, fun U hU hW => ⟨rfl, vl_pre C0.2.1 C0.2.2.1 C0.2.2.2.1 C0.2.2.2.2.1 hP hD hS hU hW⟩⟩ rfl hna hl.1 rfl (lv_room hrest) hdg hf
theorem vl_goVN (C0 : vl_C l p m meth c cc nL s args Ts own D cy A) {C : String} {T : u_T} {N ci : Nat} (hG : GoodIn Ts ws) (hw : ws = Cond.code y bytes maxL ret :: ws') (hrc : rm.cells = mc) (hrs : rm.slots = ms) (hlk : (own, index, y) ∈ vl_nm) (hini : Cond.initialized y.cls ∈ Ts) (hins : Cond.instanceMethod y ∈ Ts) (hsel : Cond.selects C y y ∈ Ts) (hd : y.cls ≠ "java/lang/invoke/MethodHandle" ∧ y.cls ≠ "java/lang/invoke/VarHandle" ∧ (parseMethodDescriptor y.desc).map (fun d => d.parameters.length) = some na) (hR : rm.frames + 1 ≤ R.frames ∧ 8 + (maxL + 11) + rm.locals ≤ R.locals) (hc : vwCl[ci]? = some (C, T, N)) (hrec : ∃ (q0 : Nat) (fs : List Value), w[q0]? = some (b, .inr (ci, fs))) (hdg : decode cc pc = .ok (.invokevirtual index, 3)) (hrest : (st.map fun v => v.category).sum ≤ 8) (hf : k + mc ≤ R.cells ∧ n + ms ≤ R.slots) (h0 : st0 = As.reverse ++ .ref b :: st) (hna : As.length = na) : vl_Rn p l e R s m args below meth c D A nL cy y ws rm mc ms (.ref b :: As) w k n pc (st0) st := fun Qc H locs ls lv hM hP hD hS hl => by
  subst h0
  obtain ⟨q0, fs, he⟩ := hrec
  exact va_runVN (host := "MooringTree") (As := As) (rest := st) C0.1 hM ⟨va_cnB na C0.1.2.2.2.2 hG hw hrc hrs (C0.2.2.2.1.2.1 _ hlk) (C0.1.2.2.2.2 _ hini) hd hR, C0.1.2.2.2.2 _ hins, C0.1.2.2.2.2 _ hsel⟩ ⟨vl_blind, va_recv C0.2.1 hP hc he, fun U hU hW => ⟨rfl, vl_pre C0.2.1 C0.2.2.1 C0.2.2.2.1 C0.2.2.2.2.1 hP hD hS hU hW⟩⟩ rfl hna hl.1 rfl (lv_room hrest) hdg hf
theorem vl_goSN (C0 : vl_C l p m meth c cc nL s args Ts own D cy A) (hG : GoodIn Ts ws) (hw : ws = Cond.code y bytes maxL ret :: ws') (hrc : rm.cells = mc) (hrs : rm.slots = ms) (hlk : (own, index, y) ∈ vl_nm) (hini : Cond.initialized y.cls ∈ Ts) (hst : Cond.static y ∈ Ts) (hd : y.cls ≠ "java/lang/invoke/MethodHandle" ∧ y.cls ≠ "java/lang/invoke/VarHandle" ∧ (parseMethodDescriptor y.desc).map (fun d => d.parameters.length) = some na) (hR : rm.frames + 1 ≤ R.frames ∧ 8 + (maxL + 11) + rm.locals ≤ R.locals) (hdg : decode cc pc = .ok (.invokestatic index, 3)) (hrest : (st.map fun v => v.category).sum ≤ 8) (hf : k + mc ≤ R.cells ∧ n + ms ≤ R.slots) (h0 : st0 = As.reverse ++ st) (hna : As.length = na) : vl_Rn p l e R s m args below meth c D A nL cy y ws rm mc ms As w k n pc (st0) st := fun Qc H locs ls lv hM hP hD hS hl => by
  subst h0
  exact va_runSN (host := "MooringTree") (As := As) (rest := st) C0.1 hM ⟨va_cnB na C0.1.2.2.2.2 hG hw hrc hrs (C0.2.2.2.1.2.1 _ hlk) (C0.1.2.2.2.2 _ hini) hd hR, C0.1.2.2.2.2 _ hst, trivial⟩ ⟨vl_blind, fun U hU hW => ⟨rfl, vl_pre C0.2.1 C0.2.2.1 C0.2.2.2.1 C0.2.2.2.2.1 hP hD hS hU hW⟩⟩ rfl hna hl.1 rfl (lv_room hrest) hdg hf
theorem vl_goIN (C0 : vl_C l p m meth c cc nL s args Ts own D cy A) (hG : GoodIn Ts ws) (hw : ws = Cond.code y bytes maxL none :: ws') (hrc : rm.cells = mc) (hrs : rm.slots = ms) (hlk : (own, index, y) ∈ vl_nm) (hini : Cond.initialized y.cls ∈ Ts) (hins : Cond.instanceMethod y ∈ Ts) (hy : y.name = "<init>") (hd : y.cls ≠ "java/lang/invoke/MethodHandle" ∧ y.cls ≠ "java/lang/invoke/VarHandle" ∧ (parseMethodDescriptor y.desc).map (fun d => d.parameters.length) = some na) (hR : rm.frames + 1 ≤ R.frames ∧ 8 + (maxL + 11) + rm.locals ≤ R.locals) (hdg : decode cc pc = .ok (.invokespecial index, 3)) (hrest : (st.map fun v => v.category).sum ≤ 8) (hf : k + mc ≤ R.cells ∧ n + ms ≤ R.slots) (h0 : st0 = As.reverse ++ .ref b :: st) (hna : As.length = na) : vl_Rn p l e R s m args below meth c D A nL cy y ws rm mc ms (.ref b :: As) w k n pc (st0) st := fun Qc H locs ls lv hM hP hD hS hl => by
  subst h0
  exact va_runIN (host := "MooringTree") (As := As) (rest := st) C0.1 hM ⟨va_cnB na C0.1.2.2.2.2 hG hw hrc hrs (C0.2.2.2.1.2.1 _ hlk) (C0.1.2.2.2.2 _ hini) hd hR, hy, C0.1.2.2.2.2 _ hins⟩ ⟨vl_blind, fun U hU hW => ⟨rfl, vl_pre C0.2.1 C0.2.2.1 C0.2.2.2.1 C0.2.2.2.2.1 hP hD hS hU hW⟩⟩ rfl hna hl.1 rfl (lv_room hrest) hdg hf
theorem vl_calli (C0 : vl_C l p m meth c cc nL s args Ts own D cy A) {av : List Value} {post : Int32 → va_W → Prop} (hr : vl_Rn p l e R s m args below meth c D A nL cy y ws rm mc ms av w k n pc (st0) st) (hK : vl_Ki l D cy y ws rm mc ms w av post) {k2 n2 : Nat} (hk2 : k + mc ≤ k2) (hn2 : n + ms ≤ n2) (kk : ∀ (r : Int32) (w' : va_W), post r w' → vl_V p l e R s m args below meth c Q D A nL w' k2 n2 lv (pc + 3) (.int r :: st)) : vl_V p l e R s m args below meth c Q D A nL w k n lv pc (st0) := fun H locs ls hP hD hS hl => by
  refine va_calli (hr _ H locs ls lv (hK H.size) hP hD hS hl) hS (fun q _ h => vl_AA C0.2.2.1 hD hS q h) (fun q h => vl_AA C0.2.2.1 hD hS q h) (fun r u t H1 locs1 ht hvm hw hB hz1 hk1 hS1 => ?_)
  have hP1 := hB.1
  rw [ht] at hP1
  exact W.widen hk2 hn2 (kk r u hw H1 locs1 ls hP1 (va_D.weaken hB.2 (fun _ _ _ h => vl_AA C0.2.2.1 hD hS _ h)) hS1 hl)
theorem vl_callv (C0 : vl_C l p m meth c cc nL s args Ts own D cy A) {av : List Value} {post : va_W → Prop} (hr : vl_Rn p l e R s m args below meth c D A nL cy y ws rm mc ms av w k n pc (st0) st) (hK : vl_Kv l D cy y ws rm mc ms w av post) {k2 n2 : Nat} (hk2 : k + mc ≤ k2) (hn2 : n + ms ≤ n2) (kk : ∀ (w' : va_W), post w' → vl_V p l e R s m args below meth c Q D A nL w' k2 n2 lv (pc + 3) (st)) : vl_V p l e R s m args below meth c Q D A nL w k n lv pc (st0) := fun H locs ls hP hD hS hl => by
  refine va_callv (hr _ H locs ls lv (hK H.size) hP hD hS hl) hS (fun q _ h => vl_AA C0.2.2.1 hD hS q h) (fun q h => vl_AA C0.2.2.1 hD hS q h) (fun u t H1 locs1 ht hvm hw hB hz1 hk1 hS1 => ?_)
  have hP1 := hB.1
  rw [ht] at hP1
  exact W.widen hk2 hn2 (kk u hw H1 locs1 ls hP1 (va_D.weaken hB.2 (fun _ _ _ h => vl_AA C0.2.2.1 hD hS _ h)) hS1 hl)
theorem vl_callq (C0 : vl_C l p m meth c cc nL s args Ts own D cy A) {av : List Value} {post : Option Nat → va_W → Prop} (hr : vl_Rn p l e R s m args below meth c D A nL cy y ws rm mc ms av w k n pc (st0) st) (hK : vl_Kq l D cy y ws rm mc ms w av post) {k2 n2 : Nat} (hk2 : k + mc ≤ k2) (hn2 : n + ms ≤ n2) (kk : ∀ (r : Option Nat) (w' : va_W), post r w' → vl_V p l e R s m args below meth c Q D A nL w' k2 n2 lv (pc + 3) (va_rf r :: st)) : vl_V p l e R s m args below meth c Q D A nL w k n lv pc (st0) := fun H locs ls hP hD hS hl => by
  refine va_callq (hr _ H locs ls lv (hK H.size) hP hD hS hl) hS (fun q _ h => vl_AA C0.2.2.1 hD hS q h) (fun q h => vl_AA C0.2.2.1 hD hS q h) (fun r u t H1 locs1 ht hvm hw hB hz1 hk1 hS1 => ?_)
  have hP1 := hB.1
  rw [ht] at hP1
  exact W.widen hk2 hn2 (kk r u hw H1 locs1 ls hP1 (va_D.weaken hB.2 (fun _ _ _ h => vl_AA C0.2.2.1 hD hS _ h)) hS1 hl)
/-- the method's frame, with q thrown over it, in the world w -/
def vl_VX (p : Program) (l : Launch) (e : Env) (R : Room) (s : State) (m : MethodId) (args : Array Value) (below : List Frame) (meth : Method) (c : Code) (Q : State → Prop) (D : va_G) (A : Nat → Prop) (nL : Nat) (w : va_W) (k n : Nat) (lv : List (Nat × Value)) (pc : Nat) (st : List Value) (E : String) : Prop :=
  ∀ (H : Heap) (locs : List Loc) (ls : Array Slot) (q : Addr) (ce : Cell), va_P D vwCl w H → va_D A w → va_S A s.heap H locs → lv_has ls nL lv → H[q]? = some ce → ce.vm = .none → s.vm.findClass E = some ce.cls → vx_W p l e R s m args below meth c H locs k n Q (F0 m pc ls st) q
theorem vl_vxcallq {H : Heap} {locs : List Loc} {cells slots : Nat} {free : Addr → Prop} {A0 A1 : Nat → Prop} {H0 : Heap} {a : Array Value} {ls : Array Slot} {rest : List Value} {S SX : Type} {post : Option Nat → S → Prop} {px : SX → Prop} {B : S → State → Prop} {BX : String → SX → State → Prop} {AX : Nat → Prop} (hr : vx_Run p l e R s m args below meth c H locs cells slots mc ms (F0 m pc ls st0) rest (va_Qq post B A1 a) (vx_X px BX AX) free) (hS : va_S A0 H0 H locs) (hA : ∀ q, q < H.size → A1 q → A0 q) (hf : ∀ q, free q → A0 q) (hAX : ∀ q, q < H.size → AX q → A0 q)
    (kx : ∀ (E : String) (ce : Cell) (q9 : Addr) (u : SX) (t : State) (H1 : Heap) (locs1 : List Loc), t.heap = H1 → s.vm.Alike t.vm → px u → BX E u t → H.size ≤ H1.size → (∀ q : Nat, q < H.size → ¬ AX q → H1[q]? = H[q]?) → va_S A0 H0 H1 locs1 → H1[q9]? = some ce → ce.vm = .none → s.vm.findClass E = some ce.cls → vx_W p l e R s m args below meth c H1 locs1 (cells + mc) (slots + ms) Q (F0 m pc ls rest) q9)
    (kk : ∀ (r : Option Nat) (u : S) (t : State) (H1 : Heap) (locs1 : List Loc), t.heap = H1 → s.vm.Alike t.vm → post r u → B u t → H.size ≤ H1.size → (∀ q : Nat, q < H.size → ¬ A1 q → H1[q]? = H[q]?) → va_S A0 H0 H1 locs1 → W p l e R s m args below meth c H1 locs1 (cells + mc) (slots + ms) Q (F0 m (pc + 3) ls (va_rf r :: rest))) : W p l e R s m args below meth c H locs cells slots Q (F0 m pc ls st0) := by
  intro T hT X
  rcases hr T hT X with ⟨v, st₀, t, T', L, h0, X', hL, e1, e2, ⟨⟨r, u, hv, hp, hb⟩, hF⟩, st⟩ | ⟨q, st₀, t, T', L, E, ce, h0, X', hL, e1, e2, ⟨u, hp, hb, hF⟩, hce, hcv, hcl, st⟩
  · cases hv
    obtain ⟨k1, k2, k3⟩ := vx_keep h0 e1 hS hA hf hL hF
    obtain ⟨t2, a1, b1⟩ := kk r u t T'.heap (locs ++ L) e1.symm (by rw [← e2]; exact X'.warmed.alike) hp hb k1 k2 k3 T' rfl X'
    exact ⟨t2, st t2 a1, b1⟩
  · obtain ⟨k1, k2, k3⟩ := vx_keep h0 e1 hS hAX hf hL hF
    obtain ⟨t2, a1, b1⟩ := kx E ce q u t T'.heap (locs ++ L) e1.symm (by rw [← e2]; exact X'.warmed.alike) hp hb k1 k2 k3 (by rw [e1]; exact hce) hcv hcl T' rfl X'
    exact ⟨t2, st.trans a1, b1⟩
theorem vl_xcalli (C0 : vl_C l p m meth c cc nL s args Ts own D cy A) {av : List Value} {post : Int32 → va_W → Prop} {px : String → Prop} (hr : vl_RnX p l e R s m args below meth c D A nL cy y ws rm mc ms av w k n pc (st0) st) (hK : vl_Xi l D cy y ws rm mc ms w av post px) {k2 n2 : Nat} (hk2 : k + mc ≤ k2) (hn2 : n + ms ≤ n2) (kx : ∀ E : String, px E → vl_VX p l e R s m args below meth c Q D A nL w (k + mc) (n + ms) lv pc st E) (kk : ∀ (r : Int32) (w' : va_W), post r w' → vl_V p l e R s m args below meth c Q D A nL w' k2 n2 lv (pc + 3) (.int r :: st)) : vl_V p l e R s m args below meth c Q D A nL w k n lv pc (st0) := fun H locs ls hP hD hS hl => by
  refine vx_calli (hr _ _ H locs ls lv (hK H.size) hP hD hS hl) hS (fun q _ h => vl_AA C0.2.2.1 hD hS q h) (fun q h => vl_AA C0.2.2.1 hD hS q h) (fun q _ h => vl_AA C0.2.2.1 hD hS q h) (fun E ce q9 u t H1 locs1 ht hvm _ hB hz1 hk1 hS1 h1 h2 h3 => ?_) (fun r u t H1 locs1 ht hvm hw hB hz1 hk1 hS1 => ?_)
  · have hP1 := hB.2
    rw [ht] at hP1
    exact kx E hB.1 H1 locs1 ls q9 ce hP1 hD hS1 hl h1 h2 h3
  · have hP1 := hB.1
    rw [ht] at hP1
    exact W.widen hk2 hn2 (kk r u hw H1 locs1 ls hP1 (va_D.weaken hB.2 (fun _ _ _ h => vl_AA C0.2.2.1 hD hS _ h)) hS1 hl)
theorem vl_xcallv (C0 : vl_C l p m meth c cc nL s args Ts own D cy A) {av : List Value} {post : va_W → Prop} {px : String → Prop} (hr : vl_RnX p l e R s m args below meth c D A nL cy y ws rm mc ms av w k n pc (st0) st) (hK : vl_Xv l D cy y ws rm mc ms w av post px) {k2 n2 : Nat} (hk2 : k + mc ≤ k2) (hn2 : n + ms ≤ n2) (kx : ∀ E : String, px E → vl_VX p l e R s m args below meth c Q D A nL w (k + mc) (n + ms) lv pc st E) (kk : ∀ (w' : va_W), post w' → vl_V p l e R s m args below meth c Q D A nL w' k2 n2 lv (pc + 3) (st)) : vl_V p l e R s m args below meth c Q D A nL w k n lv pc (st0) := fun H locs ls hP hD hS hl => by
  refine vx_callv (hr _ _ H locs ls lv (hK H.size) hP hD hS hl) hS (fun q _ h => vl_AA C0.2.2.1 hD hS q h) (fun q h => vl_AA C0.2.2.1 hD hS q h) (fun q _ h => vl_AA C0.2.2.1 hD hS q h) (fun E ce q9 u t H1 locs1 ht hvm _ hB hz1 hk1 hS1 h1 h2 h3 => ?_) (fun u t H1 locs1 ht hvm hw hB hz1 hk1 hS1 => ?_)
  · have hP1 := hB.2
    rw [ht] at hP1
    exact kx E hB.1 H1 locs1 ls q9 ce hP1 hD hS1 hl h1 h2 h3
  · have hP1 := hB.1
    rw [ht] at hP1
    exact W.widen hk2 hn2 (kk u hw H1 locs1 ls hP1 (va_D.weaken hB.2 (fun _ _ _ h => vl_AA C0.2.2.1 hD hS _ h)) hS1 hl)
theorem vl_xcallq (C0 : vl_C l p m meth c cc nL s args Ts own D cy A) {av : List Value} {post : Option Nat → va_W → Prop} {px : String → Prop} (hr : vl_RnX p l e R s m args below meth c D A nL cy y ws rm mc ms av w k n pc (st0) st) (hK : vl_Xq l D cy y ws rm mc ms w av post px) {k2 n2 : Nat} (hk2 : k + mc ≤ k2) (hn2 : n + ms ≤ n2) (kx : ∀ E : String, px E → vl_VX p l e R s m args below meth c Q D A nL w (k + mc) (n + ms) lv pc st E) (kk : ∀ (r : Option Nat) (w' : va_W), post r w' → vl_V p l e R s m args below meth c Q D A nL w' k2 n2 lv (pc + 3) (va_rf r :: st)) : vl_V p l e R s m args below meth c Q D A nL w k n lv pc (st0) := fun H locs ls hP hD hS hl => by
  refine vl_vxcallq (hr _ _ H locs ls lv (hK H.size) hP hD hS hl) hS (fun q _ h => vl_AA C0.2.2.1 hD hS q h) (fun q h => vl_AA C0.2.2.1 hD hS q h) (fun q _ h => vl_AA C0.2.2.1 hD hS q h) (fun E ce q9 u t H1 locs1 ht hvm _ hB hz1 hk1 hS1 h1 h2 h3 => ?_) (fun r u t H1 locs1 ht hvm hw hB hz1 hk1 hS1 => ?_)
  · have hP1 := hB.2
    rw [ht] at hP1
    exact kx E hB.1 H1 locs1 ls q9 ce hP1 hD hS1 hl h1 h2 h3
  · have hP1 := hB.1
    rw [ht] at hP1
    exact W.widen hk2 hn2 (kk r u hw H1 locs1 ls hP1 (va_D.weaken hB.2 (fun _ _ _ h => vl_AA C0.2.2.1 hD hS _ h)) hS1 hl)
theorem vl_iret (C0 : vl_C l p m meth c cc nL s args Ts own D cy A) (hA : A = va_A w0 s.heap.size) {v : Int32} {post : Int32 → va_W → Prop} (hr : meth.sig.returnType = some .int) (hp : post v w) (hk : k ≤ mc) (hs : n ≤ ms) (hdg : decode cc pc = .ok (.ireturn, 1)) : vl_V p l e R s m args below meth c (MQ below (va_Qi post (vl_B D w0 s.heap.size) A) args s mc ms A) D A nL w k n lv pc ([.int v]) := fun H locs ls hP hD hS hl => W.widen hk hs (W.iret C0.1.1 C0.1.2.1 hr (fun t ht hW => ⟨⟨v, w, rfl, hp, by rw [ht]; exact hP, hA ▸ hD⟩, hS.F ht⟩) hS.2.2 hdg C0.2.2.2.2.2.1)
theorem vl_zret (C0 : vl_C l p m meth c cc nL s args Ts own D cy A) (hA : A = va_A w0 s.heap.size) {v : Int32} {post : Int32 → va_W → Prop} (hr : meth.sig.returnType = some .boolean) (hn : narrow .boolean (.int v) = .int v) (hp : post v w) (hk : k ≤ mc) (hs : n ≤ ms) (hdg : decode cc pc = .ok (.ireturn, 1)) : vl_V p l e R s m args below meth c (MQ below (va_Qi post (vl_B D w0 s.heap.size) A) args s mc ms A) D A nL w k n lv pc ([.int v]) := fun H locs ls hP hD hS hl => W.widen hk hs (W.zret C0.1.1 C0.1.2.1 hr hn (fun t ht hW => ⟨⟨v, w, rfl, hp, by rw [ht]; exact hP, hA ▸ hD⟩, hS.F ht⟩) hS.2.2 hdg C0.2.2.2.2.2.1)
theorem vl_vret (C0 : vl_C l p m meth c cc nL s args Ts own D cy A) (hA : A = va_A w0 s.heap.size) {post : va_W → Prop} (hr : meth.sig.returnType = none) (hp : post w) (hk : k ≤ mc) (hs : n ≤ ms) (hdg : decode cc pc = .ok (.return_, 1)) : vl_V p l e R s m args below meth c (MQ below (va_Qv post (vl_B D w0 s.heap.size) A) args s mc ms A) D A nL w k n lv pc ([]) := fun H locs ls hP hD hS hl => W.widen hk hs (W.vret C0.1.1 C0.1.2.1 hr (fun t ht hW => ⟨⟨w, rfl, hp, by rw [ht]; exact hP, hA ▸ hD⟩, hS.F ht⟩) hS.2.2 hdg C0.2.2.2.2.2.1)
theorem vl_aret (C0 : vl_C l p m meth c cc nL s args Ts own D cy A) (hA : A = va_A w0 s.heap.size) {r : Option Nat} {o : String} {post : Option Nat → va_W → Prop} (hr : meth.sig.returnType = some (.object o)) (hp : post r w) (hk : k ≤ mc) (hs : n ≤ ms) (hdg : decode cc pc = .ok (.areturn, 1)) : vl_V p l e R s m args below meth c (MQ below (va_Qq post (vl_B D w0 s.heap.size) A) args s mc ms A) D A nL w k n lv pc ([va_rf r]) := fun H locs ls hP hD hS hl => W.widen hk hs (W.aret C0.1.1 C0.1.2.1 hr (Or.inl ⟨_, rfl⟩) (by cases r with | none => exact Or.inl rfl | some a => exact Or.inr ⟨a, rfl⟩) (fun t ht hW => ⟨⟨r, w, rfl, hp, by rw [ht]; exact hP, hA ▸ hD⟩, hS.F ht⟩) hS.2.2 hdg C0.2.2.2.2.2.1)
theorem vl_iretX (C0 : vl_C l p m meth c cc nL s args Ts own D cy A) (hA : A = va_A w0 s.heap.size) {v : Int32} {px : String → Prop} {post : Int32 → va_W → Prop} (hr : meth.sig.returnType = some .int) (hp : post v w) (hk : k ≤ mc) (hs : n ≤ ms) (hdg : decode cc pc = .ok (.ireturn, 1)) : vl_V p l e R s m args below meth c (vx_MQ below (va_Qi post (vl_B D w0 s.heap.size) A) (vl_XC D w0 px s.heap.size) args s mc ms A) D A nL w k n lv pc ([.int v]) := fun H locs ls hP hD hS hl => vx_ret <| W.widen hk hs (W.iret C0.1.1 C0.1.2.1 hr (fun t ht hW => ⟨⟨v, w, rfl, hp, by rw [ht]; exact hP, hA ▸ hD⟩, hS.F ht⟩) hS.2.2 hdg C0.2.2.2.2.2.1)
theorem vl_zretX (C0 : vl_C l p m meth c cc nL s args Ts own D cy A) (hA : A = va_A w0 s.heap.size) {v : Int32} {px : String → Prop} {post : Int32 → va_W → Prop} (hr : meth.sig.returnType = some .boolean) (hn : narrow .boolean (.int v) = .int v) (hp : post v w) (hk : k ≤ mc) (hs : n ≤ ms) (hdg : decode cc pc = .ok (.ireturn, 1)) : vl_V p l e R s m args below meth c (vx_MQ below (va_Qi post (vl_B D w0 s.heap.size) A) (vl_XC D w0 px s.heap.size) args s mc ms A) D A nL w k n lv pc ([.int v]) := fun H locs ls hP hD hS hl => vx_ret <| W.widen hk hs (W.zret C0.1.1 C0.1.2.1 hr hn (fun t ht hW => ⟨⟨v, w, rfl, hp, by rw [ht]; exact hP, hA ▸ hD⟩, hS.F ht⟩) hS.2.2 hdg C0.2.2.2.2.2.1)
theorem vl_vretX (C0 : vl_C l p m meth c cc nL s args Ts own D cy A) (hA : A = va_A w0 s.heap.size) {px : String → Prop} {post : va_W → Prop} (hr : meth.sig.returnType = none) (hp : post w) (hk : k ≤ mc) (hs : n ≤ ms) (hdg : decode cc pc = .ok (.return_, 1)) : vl_V p l e R s m args below meth c (vx_MQ below (va_Qv post (vl_B D w0 s.heap.size) A) (vl_XC D w0 px s.heap.size) args s mc ms A) D A nL w k n lv pc ([]) := fun H locs ls hP hD hS hl => vx_ret <| W.widen hk hs (W.vret C0.1.1 C0.1.2.1 hr (fun t ht hW => ⟨⟨w, rfl, hp, by rw [ht]; exact hP, hA ▸ hD⟩, hS.F ht⟩) hS.2.2 hdg C0.2.2.2.2.2.1)
theorem vl_aretX (C0 : vl_C l p m meth c cc nL s args Ts own D cy A) (hA : A = va_A w0 s.heap.size) {r : Option Nat} {px : String → Prop} {o : String} {post : Option Nat → va_W → Prop} (hr : meth.sig.returnType = some (.object o)) (hp : post r w) (hk : k ≤ mc) (hs : n ≤ ms) (hdg : decode cc pc = .ok (.areturn, 1)) : vl_V p l e R s m args below meth c (vx_MQ below (va_Qq post (vl_B D w0 s.heap.size) A) (vl_XC D w0 px s.heap.size) args s mc ms A) D A nL w k n lv pc ([va_rf r]) := fun H locs ls hP hD hS hl => vx_ret <| W.widen hk hs (W.aret C0.1.1 C0.1.2.1 hr (Or.inl ⟨_, rfl⟩) (by cases r with | none => exact Or.inl rfl | some a => exact Or.inr ⟨a, rfl⟩) (fun t ht hW => ⟨⟨r, w, rfl, hp, by rw [ht]; exact hP, hA ▸ hD⟩, hS.F ht⟩) hS.2.2 hdg C0.2.2.2.2.2.1)
theorem vl_xc {px : String → Prop} {E : String} {H : Heap} {locs : List Loc} {t : State} (hA : A = va_A w0 s.heap.size) (hpx : px E) (hP : va_P D vwCl w0 H) (hS : va_S A s.heap H locs) (h1 : H.size ≤ t.heap.size) (h2 : ∀ q : Nat, q < H.size → t.heap[q]? = H[q]?) : vl_XC D w0 px s.heap.size E s t := by
  subst hA
  exact ⟨(), trivial, ⟨hpx, hP.kept (fun k q hk => h2 q.1 (hP k q hk).lt)⟩, Nat.le_trans hS.1 h1, fun q q1 q2 => (h2 q (Nat.lt_of_lt_of_le q1 hS.1)).trans (hS.2.1 q q1 q2)⟩
theorem vl_throw (C0 : vl_C l p m meth c cc nL s args Ts own D cy A) (hA : A = va_A w0 s.heap.size) {cls text : String} {names : List String} {ik is ic : Nat} {px : String → Prop} {Qc : Array Value → State → Outcome → State → Prop} (ho : own = "MooringTree") (hcls : Bundle.fit cls = true) (hnames : ∀ x ∈ names, Bundle.fit x = true) (hk : Cond.classLink own ik cls ∈ Ts) (hini : Cond.initialized cls ∈ Ts) (hstr : (is, text) ∈ vl_strs) (hat : ∀ x ∈ vx_atS own ic cls names, x.before args s = true) (hgood : ∀ x ∈ Cond.classLink own ik cls :: Cond.initialized cls :: vx_atS own ic cls names, vx_ot x = true) (hex : ∀ x ∈ c.exceptionTable.toList, False)
    (d0 : decode cc pc = .ok (.new ik, 3)) (d3 : decode cc (pc + 3) = .ok (.dup, 1)) (d4 : decode cc (pc + 4) = .ok (.ldc is, 2)) (d6 : decode cc (pc + 6) = .ok (.invokespecial ic, 3)) (d9 : decode cc (pc + 9) = .ok (.athrow, 1)) (hRf : names.length + 3 < R.frames) (hRl : (st.map fun v => v.category).sum + (13 * (names.length + 1) + 43) ≤ R.locals) (hRc : k + 1 ≤ R.cells) (hRs : n + 6 ≤ R.slots) (hc : k + 1 ≤ mc) (hs : n + 6 ≤ ms) (hpx : px cls) : vl_V p l e R s m args below meth c (vx_MQ below Qc (vl_XC D w0 px s.heap.size) args s mc ms A) D A nL w0 k n lv pc (st) := fun H locs ls hP hD hS hl => by
  obtain ⟨sa, hsa⟩ := C0.2.2.2.1.2.2.1 _ hstr
  subst ho
  exact vx_throwS C0.1.1 C0.1.2.1 C0.2.2.2.2.2.2 C0.1.2.2.2.1 hcls hnames (C0.1.2.2.2.2 _ hk) (C0.1.2.2.2.2 _ hini) hsa hat hgood C0.2.2.2.2.1.1 C0.2.2.2.2.1.2 hS (hl.1.trans C0.1.2.2.1.symm) d0 d3 d4 d6 d9 (fun x hx => absurd (hex x hx) id) hRf hRl hRc hRs C0.2.2.2.2.2.1 (fun t _ h1 h2 => vl_xc hA hpx hP hS h1 h2) hS.2.2 hc hs
theorem vl_out (C0 : vl_C l p m meth c cc nL s args Ts own D cy A) (hA : A = va_A w0 s.heap.size) {E : String} {px : String → Prop} {Qc : Array Value → State → Outcome → State → Prop} (hex : ∀ x ∈ c.exceptionTable.toList, False) (hc : k ≤ mc) (hs : n ≤ ms) (hpx : px E) : vl_VX p l e R s m args below meth c (vx_MQ below Qc (vl_XC D w0 px s.heap.size) args s mc ms A) D A nL w0 k n lv pc st E := fun H locs ls q ce hP hD hS hl h1 h2 h3 =>
  vx_out (fun x hx => absurd (hex x hx) id) C0.2.2.2.2.2.1 h1 h2 h3 (fun t ht _ => vl_xc hA hpx hP hS (by rw [ht]; exact Nat.le_refl _) (fun q _ => by rw [ht])) hS.2.2 hc hs
theorem vl_openi {av : List Value} {post : Int32 → va_W → Prop} (hl0 : l.stackTraces = false) (hy : plainName y.cls = true) (hw : ws = Cond.code y bytes maxL ret :: ws') (hlen : (lg_sl av).length ≤ maxL) (hrm : rm.cells = rm.cells) (body : ∀ (p : Program) (e : Env) (s : State) (m : MethodId) (args : Array Value) (below : List Frame) (meth : Method) (c : Code), vl_C l p m meth c bytes maxL s args ws y.cls D cy (va_A w0 s.heap.size) → meth.sig.returnType = ret → meth.name = y.name → vl_V p l e rm s m args below meth c (MQ below (va_Qi post (vl_B D w0 s.heap.size) (va_A w0 s.heap.size)) args s mc ms (va_A w0 s.heap.size)) D (va_A w0 s.heap.size) maxL w0 0 0 (lv_args 0 av) 0 []) : vl_Ki l D cy y ws rm mc ms w0 av post := fun sz => by
  refine Met.ofW (cc := bytes) (maxL := maxL) (ret := ret) hy hw ?_
  intro p e s m args below meth c s₁ B hml hv
  obtain ⟨rfl, rfl, hP, hK, hD0, hN, hZ⟩ := hv
  have hl := lv_entry av (n := maxL) hlen
  rw [lg_entry_eq]
  exact body p e s m _ below meth c ⟨⟨B.exec, B.bytes, hml, findClass_of_methodNamed B.named, atoms_spec (ws := ws) B.pre⟩, hK, fun q h => Or.inr h, hN, hZ, B.notSynchronized, hl0⟩ B.returns (name_of_methodNamed B.named B.method).1 s.heap [] _ hP (hD0.self (sz := s.heap.size)) va_S.rf hl
theorem vl_openv {av : List Value} {post : va_W → Prop} (hl0 : l.stackTraces = false) (hy : plainName y.cls = true) (hw : ws = Cond.code y bytes maxL ret :: ws') (hlen : (lg_sl av).length ≤ maxL) (hrm : rm.cells = rm.cells) (body : ∀ (p : Program) (e : Env) (s : State) (m : MethodId) (args : Array Value) (below : List Frame) (meth : Method) (c : Code), vl_C l p m meth c bytes maxL s args ws y.cls D cy (va_A w0 s.heap.size) → meth.sig.returnType = ret → meth.name = y.name → vl_V p l e rm s m args below meth c (MQ below (va_Qv post (vl_B D w0 s.heap.size) (va_A w0 s.heap.size)) args s mc ms (va_A w0 s.heap.size)) D (va_A w0 s.heap.size) maxL w0 0 0 (lv_args 0 av) 0 []) : vl_Kv l D cy y ws rm mc ms w0 av post := fun sz => by
  refine Met.ofW (cc := bytes) (maxL := maxL) (ret := ret) hy hw ?_
  intro p e s m args below meth c s₁ B hml hv
  obtain ⟨rfl, rfl, hP, hK, hD0, hN, hZ⟩ := hv
  have hl := lv_entry av (n := maxL) hlen
  rw [lg_entry_eq]
  exact body p e s m _ below meth c ⟨⟨B.exec, B.bytes, hml, findClass_of_methodNamed B.named, atoms_spec (ws := ws) B.pre⟩, hK, fun q h => Or.inr h, hN, hZ, B.notSynchronized, hl0⟩ B.returns (name_of_methodNamed B.named B.method).1 s.heap [] _ hP (hD0.self (sz := s.heap.size)) va_S.rf hl
theorem vl_openq {av : List Value} {post : Option Nat → va_W → Prop} (hl0 : l.stackTraces = false) (hy : plainName y.cls = true) (hw : ws = Cond.code y bytes maxL ret :: ws') (hlen : (lg_sl av).length ≤ maxL) (hrm : rm.cells = rm.cells) (body : ∀ (p : Program) (e : Env) (s : State) (m : MethodId) (args : Array Value) (below : List Frame) (meth : Method) (c : Code), vl_C l p m meth c bytes maxL s args ws y.cls D cy (va_A w0 s.heap.size) → meth.sig.returnType = ret → meth.name = y.name → vl_V p l e rm s m args below meth c (MQ below (va_Qq post (vl_B D w0 s.heap.size) (va_A w0 s.heap.size)) args s mc ms (va_A w0 s.heap.size)) D (va_A w0 s.heap.size) maxL w0 0 0 (lv_args 0 av) 0 []) : vl_Kq l D cy y ws rm mc ms w0 av post := fun sz => by
  refine Met.ofW (cc := bytes) (maxL := maxL) (ret := ret) hy hw ?_
  intro p e s m args below meth c s₁ B hml hv
  obtain ⟨rfl, rfl, hP, hK, hD0, hN, hZ⟩ := hv
  have hl := lv_entry av (n := maxL) hlen
  rw [lg_entry_eq]
  exact body p e s m _ below meth c ⟨⟨B.exec, B.bytes, hml, findClass_of_methodNamed B.named, atoms_spec (ws := ws) B.pre⟩, hK, fun q h => Or.inr h, hN, hZ, B.notSynchronized, hl0⟩ B.returns (name_of_methodNamed B.named B.method).1 s.heap [] _ hP (hD0.self (sz := s.heap.size)) va_S.rf hl
theorem vl_openXi {av : List Value} {px : String → Prop} {post : Int32 → va_W → Prop} (hl0 : l.stackTraces = false) (hy : plainName y.cls = true) (hw : ws = Cond.code y bytes maxL ret :: ws') (hlen : (lg_sl av).length ≤ maxL) (hrm : rm.cells = rm.cells) (body : ∀ (p : Program) (e : Env) (s : State) (m : MethodId) (args : Array Value) (below : List Frame) (meth : Method) (c : Code), vl_C l p m meth c bytes maxL s args ws y.cls D cy (va_A w0 s.heap.size) → meth.sig.returnType = ret → meth.name = y.name → (∀ x ∈ c.exceptionTable.toList, False) → vl_V p l e rm s m args below meth c (vx_MQ below (va_Qi post (vl_B D w0 s.heap.size) (va_A w0 s.heap.size)) (vl_XC D w0 px s.heap.size) args s mc ms (va_A w0 s.heap.size)) D (va_A w0 s.heap.size) maxL w0 0 0 (lv_args 0 av) 0 []) : vl_Xi l D cy y ws rm mc ms w0 av post px := fun sz => by
  refine vx_ofW (cc := bytes) (maxL := maxL) (ret := ret) hy hw ?_
  intro p e s m args below meth c s₁ B hml hex hv
  obtain ⟨rfl, rfl, hP, hK, hD0, hN, hZ⟩ := hv
  have hl := lv_entry av (n := maxL) hlen
  rw [lg_entry_eq]
  exact body p e s m _ below meth c ⟨⟨B.exec, B.bytes, hml, findClass_of_methodNamed B.named, atoms_spec (ws := ws) B.pre⟩, hK, fun q h => Or.inr h, hN, hZ, B.notSynchronized, hl0⟩ B.returns (name_of_methodNamed B.named B.method).1 hex s.heap [] _ hP (hD0.self (sz := s.heap.size)) va_S.rf hl
theorem vl_openXv {av : List Value} {px : String → Prop} {post : va_W → Prop} (hl0 : l.stackTraces = false) (hy : plainName y.cls = true) (hw : ws = Cond.code y bytes maxL ret :: ws') (hlen : (lg_sl av).length ≤ maxL) (hrm : rm.cells = rm.cells) (body : ∀ (p : Program) (e : Env) (s : State) (m : MethodId) (args : Array Value) (below : List Frame) (meth : Method) (c : Code), vl_C l p m meth c bytes maxL s args ws y.cls D cy (va_A w0 s.heap.size) → meth.sig.returnType = ret → meth.name = y.name → (∀ x ∈ c.exceptionTable.toList, False) → vl_V p l e rm s m args below meth c (vx_MQ below (va_Qv post (vl_B D w0 s.heap.size) (va_A w0 s.heap.size)) (vl_XC D w0 px s.heap.size) args s mc ms (va_A w0 s.heap.size)) D (va_A w0 s.heap.size) maxL w0 0 0 (lv_args 0 av) 0 []) : vl_Xv l D cy y ws rm mc ms w0 av post px := fun sz => by
  refine vx_ofW (cc := bytes) (maxL := maxL) (ret := ret) hy hw ?_
  intro p e s m args below meth c s₁ B hml hex hv
  obtain ⟨rfl, rfl, hP, hK, hD0, hN, hZ⟩ := hv
  have hl := lv_entry av (n := maxL) hlen
  rw [lg_entry_eq]
  exact body p e s m _ below meth c ⟨⟨B.exec, B.bytes, hml, findClass_of_methodNamed B.named, atoms_spec (ws := ws) B.pre⟩, hK, fun q h => Or.inr h, hN, hZ, B.notSynchronized, hl0⟩ B.returns (name_of_methodNamed B.named B.method).1 hex s.heap [] _ hP (hD0.self (sz := s.heap.size)) va_S.rf hl
theorem vl_openXq {av : List Value} {px : String → Prop} {post : Option Nat → va_W → Prop} (hl0 : l.stackTraces = false) (hy : plainName y.cls = true) (hw : ws = Cond.code y bytes maxL ret :: ws') (hlen : (lg_sl av).length ≤ maxL) (hrm : rm.cells = rm.cells) (body : ∀ (p : Program) (e : Env) (s : State) (m : MethodId) (args : Array Value) (below : List Frame) (meth : Method) (c : Code), vl_C l p m meth c bytes maxL s args ws y.cls D cy (va_A w0 s.heap.size) → meth.sig.returnType = ret → meth.name = y.name → (∀ x ∈ c.exceptionTable.toList, False) → vl_V p l e rm s m args below meth c (vx_MQ below (va_Qq post (vl_B D w0 s.heap.size) (va_A w0 s.heap.size)) (vl_XC D w0 px s.heap.size) args s mc ms (va_A w0 s.heap.size)) D (va_A w0 s.heap.size) maxL w0 0 0 (lv_args 0 av) 0 []) : vl_Xq l D cy y ws rm mc ms w0 av post px := fun sz => by
  refine vx_ofW (cc := bytes) (maxL := maxL) (ret := ret) hy hw ?_
  intro p e s m args below meth c s₁ B hml hex hv
  obtain ⟨rfl, rfl, hP, hK, hD0, hN, hZ⟩ := hv
  have hl := lv_entry av (n := maxL) hlen
  rw [lg_entry_eq]
  exact body p e s m _ below meth c ⟨⟨B.exec, B.bytes, hml, findClass_of_methodNamed B.named, atoms_spec (ws := ws) B.pre⟩, hK, fun q h => Or.inr h, hN, hZ, B.notSynchronized, hl0⟩ B.returns (name_of_methodNamed B.named B.method).1 hex s.heap [] _ hP (hD0.self (sz := s.heap.size)) va_S.rf hl
end VL3
end
section
/-! THE TWO WORLDS: the reference's object and arrays (mw), the class's objects by roles (cw) -/
section VW
def up2 (m : Nat → Nat → Int32) (j i : Nat) (v : Int32) : Nat → Nat → Int32 := fun a => if a = j then upd (m j) i v else m a
def mw_o (ad : Nat → Nat) (m : Nat → Nat → Int32) : List Value := [.int (m 0 0), .ref (ad 1), .ref (ad 2), .ref (ad 3), .ref (ad 4), .int (m 0 5), .int (m 0 6), .int (m 0 7), .ref (ad 8), .ref (ad 9), .ref (ad 10), .ref (ad 11), .ref (ad 12), .ref (ad 13), .ref (ad 14), .int (m 0 15), .int (m 0 16), .int (m 0 17)]
def mw (cy : Nat → ClassId) (ad : Nat → Nat) (m : Nat → Nat → Int32) : va_W := [(ad 0, .inr (4, mw_o ad m)), (ad 1, .inl (cy 0, 8, .inl (m 1))), (ad 2, .inl (cy 0, 8, .inl (m 2))), (ad 3, .inl (cy 0, 8, .inl (m 3))), (ad 4, .inl (cy 0, 3, .inl (m 4))), (ad 8, .inl (cy 0, 9, .inl (m 8))), (ad 9, .inl (cy 0, 9, .inl (m 9))), (ad 10, .inl (cy 0, 9, .inl (m 10))), (ad 11, .inl (cy 0, 270, .inl (m 11))), (ad 12, .inl (cy 1, 270, .inl (m 12))), (ad 13, .inl (cy 0, 8, .inl (m 13))), (ad 14, .inl (cy 0, 8, .inl (m 14)))]
theorem mw_put0 {cy : Nat → ClassId} {ad : Nat → Nat} {m : Nat → Nat → Int32} {X : va_W} (v : Int32) : (mw cy ad m ++ X).set 0 (ad 0, .inr (4, (mw_o ad m).set 0 (.int v))) = mw cy ad (up2 m 0 0 v) ++ X := rfl
theorem mw_put5 {cy : Nat → ClassId} {ad : Nat → Nat} {m : Nat → Nat → Int32} {X : va_W} (v : Int32) : (mw cy ad m ++ X).set 0 (ad 0, .inr (4, (mw_o ad m).set 5 (.int v))) = mw cy ad (up2 m 0 5 v) ++ X := rfl
theorem mw_put6 {cy : Nat → ClassId} {ad : Nat → Nat} {m : Nat → Nat → Int32} {X : va_W} (v : Int32) : (mw cy ad m ++ X).set 0 (ad 0, .inr (4, (mw_o ad m).set 6 (.int v))) = mw cy ad (up2 m 0 6 v) ++ X := rfl
theorem mw_put7 {cy : Nat → ClassId} {ad : Nat → Nat} {m : Nat → Nat → Int32} {X : va_W} (v : Int32) : (mw cy ad m ++ X).set 0 (ad 0, .inr (4, (mw_o ad m).set 7 (.int v))) = mw cy ad (up2 m 0 7 v) ++ X := rfl
theorem mw_put15 {cy : Nat → ClassId} {ad : Nat → Nat} {m : Nat → Nat → Int32} {X : va_W} (v : Int32) : (mw cy ad m ++ X).set 0 (ad 0, .inr (4, (mw_o ad m).set 15 (.int v))) = mw cy ad (up2 m 0 15 v) ++ X := rfl
theorem mw_put16 {cy : Nat → ClassId} {ad : Nat → Nat} {m : Nat → Nat → Int32} {X : va_W} (v : Int32) : (mw cy ad m ++ X).set 0 (ad 0, .inr (4, (mw_o ad m).set 16 (.int v))) = mw cy ad (up2 m 0 16 v) ++ X := rfl
theorem mw_put17 {cy : Nat → ClassId} {ad : Nat → Nat} {m : Nat → Nat → Int32} {X : va_W} (v : Int32) : (mw cy ad m ++ X).set 0 (ad 0, .inr (4, (mw_o ad m).set 17 (.int v))) = mw cy ad (up2 m 0 17 v) ++ X := rfl
theorem mw_st1 {cy : Nat → ClassId} {ad : Nat → Nat} {m : Nat → Nat → Int32} {X : va_W} (i : Nat) (v : Int32) : (mw cy ad m ++ X).set 1 (ad 1, .inl (cy 0, 8, .inl (upd (m 1) i v))) = mw cy ad (up2 m 1 i v) ++ X := rfl
theorem mw_st2 {cy : Nat → ClassId} {ad : Nat → Nat} {m : Nat → Nat → Int32} {X : va_W} (i : Nat) (v : Int32) : (mw cy ad m ++ X).set 2 (ad 2, .inl (cy 0, 8, .inl (upd (m 2) i v))) = mw cy ad (up2 m 2 i v) ++ X := rfl
theorem mw_st3 {cy : Nat → ClassId} {ad : Nat → Nat} {m : Nat → Nat → Int32} {X : va_W} (i : Nat) (v : Int32) : (mw cy ad m ++ X).set 3 (ad 3, .inl (cy 0, 8, .inl (upd (m 3) i v))) = mw cy ad (up2 m 3 i v) ++ X := rfl
theorem mw_st4 {cy : Nat → ClassId} {ad : Nat → Nat} {m : Nat → Nat → Int32} {X : va_W} (i : Nat) (v : Int32) : (mw cy ad m ++ X).set 4 (ad 4, .inl (cy 0, 3, .inl (upd (m 4) i v))) = mw cy ad (up2 m 4 i v) ++ X := rfl
theorem mw_st8 {cy : Nat → ClassId} {ad : Nat → Nat} {m : Nat → Nat → Int32} {X : va_W} (i : Nat) (v : Int32) : (mw cy ad m ++ X).set 5 (ad 8, .inl (cy 0, 9, .inl (upd (m 8) i v))) = mw cy ad (up2 m 8 i v) ++ X := rfl
theorem mw_st9 {cy : Nat → ClassId} {ad : Nat → Nat} {m : Nat → Nat → Int32} {X : va_W} (i : Nat) (v : Int32) : (mw cy ad m ++ X).set 6 (ad 9, .inl (cy 0, 9, .inl (upd (m 9) i v))) = mw cy ad (up2 m 9 i v) ++ X := rfl
theorem mw_st10 {cy : Nat → ClassId} {ad : Nat → Nat} {m : Nat → Nat → Int32} {X : va_W} (i : Nat) (v : Int32) : (mw cy ad m ++ X).set 7 (ad 10, .inl (cy 0, 9, .inl (upd (m 10) i v))) = mw cy ad (up2 m 10 i v) ++ X := rfl
theorem mw_st11 {cy : Nat → ClassId} {ad : Nat → Nat} {m : Nat → Nat → Int32} {X : va_W} (i : Nat) (v : Int32) : (mw cy ad m ++ X).set 8 (ad 11, .inl (cy 0, 270, .inl (upd (m 11) i v))) = mw cy ad (up2 m 11 i v) ++ X := rfl
theorem mw_st12 {cy : Nat → ClassId} {ad : Nat → Nat} {m : Nat → Nat → Int32} {X : va_W} (i : Nat) (v : Int32) : (mw cy ad m ++ X).set 9 (ad 12, .inl (cy 1, 270, .inl (upd (m 12) i v))) = mw cy ad (up2 m 12 i v) ++ X := rfl
theorem mw_st13 {cy : Nat → ClassId} {ad : Nat → Nat} {m : Nat → Nat → Int32} {X : va_W} (i : Nat) (v : Int32) : (mw cy ad m ++ X).set 10 (ad 13, .inl (cy 0, 8, .inl (upd (m 13) i v))) = mw cy ad (up2 m 13 i v) ++ X := rfl
theorem mw_st14 {cy : Nat → ClassId} {ad : Nat → Nat} {m : Nat → Nat → Int32} {X : va_W} (i : Nat) (v : Int32) : (mw cy ad m ++ X).set 11 (ad 14, .inl (cy 0, 8, .inl (upd (m 14) i v))) = mw cy ad (up2 m 14 i v) ++ X := rfl
variable {p : Program} {l : Launch} {e : Env} {R : Room} {s : State} {m : MethodId} {args : Array Value} {below : List Frame} {meth : Method} {c : Code} {Q : State → Prop} {D : va_G} {A : Nat → Prop} {nL : Nat} {w : va_W} {k n : Nat} {lv : List (Nat × Value)} {pc : Nat} {st : List Value}
variable {ad : Nat → Nat} {mm : Nat → Nat → Int32}
variable {cc : ByteArray} {Ts : List Cond} {own : String} {cy : Nat → ClassId} {X : va_W}
theorem rm_get (C0 : vl_C l p m meth c cc nL s args Ts own D cy A) (hin : ∀ x ∈ u_ws RX4 TX4 18, x ∈ Ts) {index : Nat} (f : Nat) (hf : f < 18) (hlink : Cond.fieldLink own index (TX4 f).1 (TX4 f).2.1 (TX4 f).2.2.1 ∈ Ts) {v : Value} (hv : (mw_o ad mm)[f]? = some v) (hdg : decode cc pc = .ok (.getfield index, 3)) (kk : vl_V p l e R s m args below meth c Q D A nL (mw cy ad mm ++ X) k n lv (pc + 3) (v :: st)) : vl_V p l e R s m args below meth c Q D A nL (mw cy ad mm ++ X) k n lv pc (.ref (ad 0) :: st) := vl_get C0 hin ⟨0, rfl⟩ rfl f hf hlink hv hdg kk
theorem rm_put (C0 : vl_C l p m meth c cc nL s args Ts own D cy A) (hin : ∀ x ∈ u_ws RX4 TX4 18, x ∈ Ts) {index : Nat} (f : Nat) (hf : f < 18) (hlink : Cond.fieldLink own index (TX4 f).1 (TX4 f).2.1 (TX4 f).2.2.1 ∈ Ts) {v : Int32} (hfin : (TX4 f).2.2.2 = false) (hd : tyX4 f = .int) (hw : (mw cy ad mm ++ X).set 0 (ad 0, .inr (4, (mw_o ad mm).set f (.int v))) = mw cy ad (up2 mm 0 f v) ++ X) (hdg : decode cc pc = .ok (.putfield index, 3)) (kk : vl_V p l e R s m args below meth c Q D A nL (mw cy ad (up2 mm 0 f v) ++ X) k n lv (pc + 3) (st)) : vl_V p l e R s m args below meth c Q D A nL (mw cy ad mm ++ X) k n lv pc (.int v :: .ref (ad 0) :: st) := vl_put C0 hin tyX4 tyX4_ok nmX4 (q0 := 0) (fs := mw_o ad mm) rfl rfl f hf hlink hfin hd rfl rfl (show f < (mw_o ad mm).length from hf) hw hdg kk
theorem rm_iald (C0 : vl_C l p m meth c cc nL s args Ts own D cy A) (j ps N : Nat) {i : Int32} (ha : (mw cy ad mm ++ X)[ps]? = some (ad j, .inl (cy 0, N, .inl (mm j)))) (hin : vp_in i N) {kn : Nat} (hkn : i.toNatClampNeg = kn) {v : Int32} (hv : mm j kn = v) (hdg : decode cc pc = .ok (.iaload, 1)) (kk : vl_V p l e R s m args below meth c Q D A nL (mw cy ad mm ++ X) k n lv (pc + 1) (.int v :: st)) : vl_V p l e R s m args below meth c Q D A nL (mw cy ad mm ++ X) k n lv pc (.int i :: .ref (ad j) :: st) := by subst hkn; subst hv; exact vl_iald C0 ⟨ps, ha⟩ hin hdg kk
theorem rm_zald (C0 : vl_C l p m meth c cc nL s args Ts own D cy A) {i : Int32} (hin : vp_in i 270) {kn : Nat} (hkn : i.toNatClampNeg = kn) (hdg : decode cc pc = .ok (.baload, 1)) (kk : vl_V p l e R s m args below meth c Q D A nL (mw cy ad mm ++ X) k n lv (pc + 1) (.int (mm 12 kn) :: st)) : vl_V p l e R s m args below meth c Q D A nL (mw cy ad mm ++ X) k n lv pc (.int i :: .ref (ad 12) :: st) := by subst hkn; exact vl_zald C0 ⟨9, rfl⟩ hin hdg kk
theorem rm_iast (C0 : vl_C l p m meth c cc nL s args Ts own D cy A) (j ps N : Nat) {i x : Int32} (ha : (mw cy ad mm ++ X)[ps]? = some (ad j, .inl (cy 0, N, .inl (mm j)))) {kn : Nat} (hw : (mw cy ad mm ++ X).set ps (ad j, .inl (cy 0, N, .inl (upd (mm j) kn x))) = mw cy ad (up2 mm j kn x) ++ X) (hin : vp_in i N) (hkn : i.toNatClampNeg = kn) (hdg : decode cc pc = .ok (.iastore, 1)) (kk : vl_V p l e R s m args below meth c Q D A nL (mw cy ad (up2 mm j kn x) ++ X) k n lv (pc + 1) (st)) : vl_V p l e R s m args below meth c Q D A nL (mw cy ad mm ++ X) k n lv pc (.int x :: .int i :: .ref (ad j) :: st) := by subst hkn; exact vl_iast C0 ha hin hw hdg kk
theorem rm_zast (C0 : vl_C l p m meth c cc nL s args Ts own D cy A) {i x : Int32} {kn : Nat} (hin : vp_in i 270) (hkn : i.toNatClampNeg = kn) (hdg : decode cc pc = .ok (.bastore, 1)) (kk : vl_V p l e R s m args below meth c Q D A nL (mw cy ad (up2 mm 12 kn (vp_nar .boolean x)) ++ X) k n lv (pc + 1) (st)) : vl_V p l e R s m args below meth c Q D A nL (mw cy ad mm ++ X) k n lv pc (.int x :: .int i :: .ref (ad 12) :: st) := by subst hkn; exact vl_zast C0 (q0 := 9) rfl hin (mw_st12 _ _) hdg kk
end VW
section VB
def bI (b : Bool) : Int32 := if b then 1 else 0
theorem nb_bI (b : Bool) : narrow .boolean (.int (bI b)) = .int (bI b) := by cases b <;> rfl
theorem bI_0 {b : Bool} : bI b = 0 ↔ b = false := by cases b <;> decide
theorem bI_n {b : Bool} : ¬ bI b = 0 ↔ b = true := by cases b <;> decide
def inB (v lo hi : Int32) : Bool := decide (lo ≤ v) && decide (v ≤ hi)
end VB
section VX
/-- a cell of the class's world, by its role (a, i): 0 the object, 1 its harbour, 2 the row of lines, 3 the row of ships, 4 the rates, 5 line i, 6 its orders, 7 ship i -/
def cw_e (cy : Nat → ClassId) (ad : Nat → Nat → Nat) (nl ns : Nat) (par : Nat → Option Nat) (f : Nat → Int32) (a i : Nat) : va_E := match a with
  | 0 => .inr (3, [.ref (ad 1 0), .ref (ad 5 0), .ref (ad 2 0), .int (f 3)])
  | 1 => .inr (0, [.ref (ad 3 0), .int (f 1), .ref (ad 4 0), .int (f 3), .int (f 4), .int (f 5), .int (f 6)])
  | 2 => .inl (cy 2, 9, .inr (.inr (.inr (.inr (fun j => if j < nl then some (ad 5 j) else none)))))
  | 3 => .inl (cy 3, 8, .inr (.inr (.inr (.inr (fun j => if j < ns then some (ad 7 j) else none)))))
  | 4 => .inl (cy 0, 3, .inl f)
  | 5 => .inr (1, [va_rf ((par i).map (ad 5)), .int (f 1), .ref (ad 6 i), .int (f 3), .int (f 4), .int (f 5)])
  | 6 => .inl (cy 0, 30, .inl f)
  | _ => .inr (2, [.int (f 0), .int (f 1), .int (f 2), .int (f 3), .int (f 4)])
def cw (cy : Nat → ClassId) (ad : Nat → Nat → Nat) (nl ns : Nat) (par : Nat → Option Nat) (Rl : List (Nat × Nat)) (d : Nat → Nat → Nat → Int32) : va_W := Rl.map (fun r => (ad r.1 r.2, cw_e cy ad nl ns par (d r.1 r.2) r.1 r.2))
def cw_ok (nl ns : Nat) (Rl : List (Nat × Nat)) : Prop := Rl.Nodup ∧ ∀ a i : Nat, (a, i) ∈ Rl ↔ ((a ≤ 4 ∧ i = 0) ∨ (a = 5 ∧ i < nl) ∨ (a = 6 ∧ i < nl) ∨ (a = 7 ∧ i < ns))
def up3 (d : Nat → Nat → Nat → Int32) (a i k : Nat) (v : Int32) : Nat → Nat → Nat → Int32 := fun a' i' => if a' = a ∧ i' = i then upd (d a i) k v else d a' i'
theorem cw_at {cy : Nat → ClassId} {ad : Nat → Nat → Nat} {nl ns : Nat} {par : Nat → Option Nat} {Rl : List (Nat × Nat)} {d : Nat → Nat → Nat → Int32} {X : va_W} {a i : Nat} (h : (a, i) ∈ Rl) : ∃ q0 : Nat, (cw cy ad nl ns par Rl d ++ X)[q0]? = some (ad a i, cw_e cy ad nl ns par (d a i) a i) := by
  obtain ⟨q, hq, he⟩ := List.getElem_of_mem h
  refine ⟨q, ?_⟩
  rw [List.getElem?_append_left (by simpa [cw] using hq)]
  simp [cw, hq, he]
theorem cw_upd {cy : Nat → ClassId} {ad : Nat → Nat → Nat} {nl ns : Nat} {par : Nat → Option Nat} {Rl : List (Nat × Nat)} {d : Nat → Nat → Nat → Int32} {X : va_W} {a i : Nat} (hn : Rl.Nodup) (h : (a, i) ∈ Rl) (k : Nat) (v : Int32) {en : va_E} (he : cw_e cy ad nl ns par (upd (d a i) k v) a i = en) : ∃ q0 : Nat, (cw cy ad nl ns par Rl d ++ X)[q0]? = some (ad a i, cw_e cy ad nl ns par (d a i) a i) ∧ (cw cy ad nl ns par Rl d ++ X).set q0 (ad a i, en) = cw cy ad nl ns par Rl (up3 d a i k v) ++ X := by
  obtain ⟨q, hq, hqe⟩ := List.getElem_of_mem h
  have hlen : q < (cw cy ad nl ns par Rl d).length := by simpa [cw] using hq
  refine ⟨q, ?_, ?_⟩
  · rw [List.getElem?_append_left hlen]
    simp [cw, hq, hqe]
  · rw [List.set_append_left _ _ hlen]
    congr 1
    apply List.ext_getElem
    · simp [cw]
    · intro j h1 h2
      rw [List.getElem_set]
      have hj : j < Rl.length := by simpa [cw] using h2
      by_cases hqj : q = j
      · subst hqj
        simp [cw, hqe, up3, ← he]
      · have hne : Rl[j] ≠ (a, i) := fun hx => by
          rcases Nat.lt_or_gt_of_ne hqj with z | z
          · exact (List.pairwise_iff_getElem.mp hn) q j hq hj z (hqe.trans hx.symm)
          · exact (List.pairwise_iff_getElem.mp hn) j q hj hq z (hx.trans hqe.symm)
        have h3 : ¬ ((Rl[j]).1 = a ∧ (Rl[j]).2 = i) := fun hx => hne (Prod.ext hx.1 hx.2)
        simp [cw, hqj, up3, h3]
variable {p : Program} {l : Launch} {e : Env} {R : Room} {s : State} {m : MethodId} {args : Array Value} {below : List Frame} {meth : Method} {c : Code} {Q : State → Prop} {D : va_G} {A : Nat → Prop} {nL : Nat} {w : va_W} {k n : Nat} {lv : List (Nat × Value)} {pc : Nat} {st : List Value}
variable {ad : Nat → Nat → Nat} {nl ns : Nat} {par : Nat → Option Nat} {Rl : List (Nat × Nat)} {d : Nat → Nat → Nat → Int32}
variable {cc : ByteArray} {Ts : List Cond} {own : String} {cy : Nat → ClassId} {X : va_W}
theorem rc_get (C0 : vl_C l p m meth c cc nL s args Ts own D cy A) {C : String} {T : u_T} {N ci index a i : Nat} {fs : List Value} (hin : ∀ x ∈ u_ws C T N, x ∈ Ts) (hr : (a, i) ∈ Rl) (hce : cw_e cy ad nl ns par (d a i) a i = .inr (ci, fs)) (hc : vwCl[ci]? = some (C, T, N)) (f : Nat) (hf : f < N) (hlink : Cond.fieldLink own index (T f).1 (T f).2.1 (T f).2.2.1 ∈ Ts) {v : Value} (hv : fs[f]? = some v) (hdg : decode cc pc = .ok (.getfield index, 3)) (kk : vl_V p l e R s m args below meth c Q D A nL (cw cy ad nl ns par Rl d ++ X) k n lv (pc + 3) (v :: st)) : vl_V p l e R s m args below meth c Q D A nL (cw cy ad nl ns par Rl d ++ X) k n lv pc (.ref (ad a i) :: st) := vl_get C0 hin (hce ▸ cw_at hr) hc f hf hlink hv hdg kk
theorem rc_put (C0 : vl_C l p m meth c cc nL s args Ts own D cy A) {C : String} {T : u_T} {N ci index a i : Nat} {fs : List Value} (hin : ∀ x ∈ u_ws C T N, x ∈ Ts) (ty0 : Nat → FieldType) (hty : ∀ k, k < N → parseFieldDescriptor (T k).2.2.1 = some (ty0 k)) (hnm : ∀ a, a < N → ∀ b, b < N → a ≠ b → (T a).2.1 ≠ (T b).2.1) (hn : Rl.Nodup) (hr : (a, i) ∈ Rl) (hce : cw_e cy ad nl ns par (d a i) a i = .inr (ci, fs)) (hc : vwCl[ci]? = some (C, T, N)) (f : Nat) (hf : f < N) (hlink : Cond.fieldLink own index (T f).1 (T f).2.1 (T f).2.2.1 ∈ Ts) (hfin : (T f).2.2.2 = false) {v : Int32} (hd : ty0 f = .int) (hl0 : f < fs.length) (he : cw_e cy ad nl ns par (upd (d a i) f v) a i = .inr (ci, fs.set f (.int v))) (hdg : decode cc pc = .ok (.putfield index, 3)) (kk : vl_V p l e R s m args below meth c Q D A nL (cw cy ad nl ns par Rl (up3 d a i f v) ++ X) k n lv (pc + 3) (st)) : vl_V p l e R s m args below meth c Q D A nL (cw cy ad nl ns par Rl d ++ X) k n lv pc (.int v :: .ref (ad a i) :: st) := by
  obtain ⟨q0, h1, h2⟩ := cw_upd (X := X) (cy := cy) (ad := ad) (nl := nl) (ns := ns) (par := par) (d := d) hn hr f v he
  rw [hce] at h1
  exact vl_put C0 hin ty0 hty hnm h1 hc f hf hlink hfin hd rfl rfl hl0 h2 hdg kk
theorem rc_getN (C0 : vl_C l p m meth c cc nL s args Ts own D cy A) {C : String} {T : u_T} {N ci index a i : Nat} {fs : List Value} (hin : ∀ x ∈ u_ws C T N, x ∈ Ts) (hr : (a, i) ∈ Rl) (hce : cw_e cy ad nl ns par (d a i) a i = .inr (ci, fs)) (hc : vwCl[ci]? = some (C, T, N)) (f : Nat) (hf : f < N) (hlink : (own, index, (T f).1, (T f).2.1, (T f).2.2.1) ∈ vl_nf) {v : Value} (hv : fs[f]? = some v) (hdg : decode cc pc = .ok (.getfield index, 3)) (kk : vl_V p l e R s m args below meth c Q D A nL (cw cy ad nl ns par Rl d ++ X) k n lv (pc + 3) (v :: st)) : vl_V p l e R s m args below meth c Q D A nL (cw cy ad nl ns par Rl d ++ X) k n lv pc (.ref (ad a i) :: st) := vl_getN C0 hin (hce ▸ cw_at hr) hc f hf hlink hv hdg kk
theorem rc_putN (C0 : vl_C l p m meth c cc nL s args Ts own D cy A) {C : String} {T : u_T} {N ci index a i : Nat} {fs : List Value} (hin : ∀ x ∈ u_ws C T N, x ∈ Ts) (ty0 : Nat → FieldType) (hty : ∀ k, k < N → parseFieldDescriptor (T k).2.2.1 = some (ty0 k)) (hnm : ∀ a, a < N → ∀ b, b < N → a ≠ b → (T a).2.1 ≠ (T b).2.1) (hn : Rl.Nodup) (hr : (a, i) ∈ Rl) (hce : cw_e cy ad nl ns par (d a i) a i = .inr (ci, fs)) (hc : vwCl[ci]? = some (C, T, N)) (f : Nat) (hf : f < N) (hlink : (own, index, (T f).1, (T f).2.1, (T f).2.2.1) ∈ vl_nf) (hfin : (T f).2.2.2 = false) {v : Int32} (hd : ty0 f = .int) (hl0 : f < fs.length) (he : cw_e cy ad nl ns par (upd (d a i) f v) a i = .inr (ci, fs.set f (.int v))) (hdg : decode cc pc = .ok (.putfield index, 3)) (kk : vl_V p l e R s m args below meth c Q D A nL (cw cy ad nl ns par Rl (up3 d a i f v) ++ X) k n lv (pc + 3) (st)) : vl_V p l e R s m args below meth c Q D A nL (cw cy ad nl ns par Rl d ++ X) k n lv pc (.int v :: .ref (ad a i) :: st) := by
  obtain ⟨q0, h1, h2⟩ := cw_upd (X := X) (cy := cy) (ad := ad) (nl := nl) (ns := ns) (par := par) (d := d) hn hr f v he
  rw [hce] at h1
  exact vl_putN C0 hin ty0 hty hnm h1 hc f hf hlink hfin hd rfl rfl hl0 h2 hdg kk
theorem rc_iald (C0 : vl_C l p m meth c cc nL s args Ts own D cy A) {a b N : Nat} {i : Int32} (hr : (a, b) ∈ Rl) (hce : cw_e cy ad nl ns par (d a b) a b = .inl (cy 0, N, .inl (d a b))) (hin : vp_in i N) {kn : Nat} (hkn : i.toNatClampNeg = kn) {v : Int32} (hv : d a b kn = v) (hdg : decode cc pc = .ok (.iaload, 1)) (kk : vl_V p l e R s m args below meth c Q D A nL (cw cy ad nl ns par Rl d ++ X) k n lv (pc + 1) (.int v :: st)) : vl_V p l e R s m args below meth c Q D A nL (cw cy ad nl ns par Rl d ++ X) k n lv pc (.int i :: .ref (ad a b) :: st) := by subst hkn; subst hv; exact vl_iald C0 (hce ▸ cw_at hr) hin hdg kk
theorem rc_iast (C0 : vl_C l p m meth c cc nL s args Ts own D cy A) {a b N : Nat} {i x : Int32} (hn : Rl.Nodup) (hr : (a, b) ∈ Rl) (hce : ∀ f : Nat → Int32, cw_e cy ad nl ns par f a b = .inl (cy 0, N, .inl f)) (hin : vp_in i N) {kn : Nat} (hkn : i.toNatClampNeg = kn) (hdg : decode cc pc = .ok (.iastore, 1)) (kk : vl_V p l e R s m args below meth c Q D A nL (cw cy ad nl ns par Rl (up3 d a b kn x) ++ X) k n lv (pc + 1) (st)) : vl_V p l e R s m args below meth c Q D A nL (cw cy ad nl ns par Rl d ++ X) k n lv pc (.int x :: .int i :: .ref (ad a b) :: st) := by
  subst hkn
  obtain ⟨q0, h1, h2⟩ := cw_upd (X := X) (cy := cy) (ad := ad) (nl := nl) (ns := ns) (par := par) (d := d) hn hr i.toNatClampNeg x (hce _)
  rw [hce] at h1
  exact vl_iast C0 h1 hin h2 hdg kk
theorem rc_aldL (C0 : vl_C l p m meth c cc nL s args Ts own D cy A) {i : Int32} {v : Value} (hr : (2, 0) ∈ Rl) (hin : vp_in i 9) {kn : Nat} (hkn : i.toNatClampNeg = kn) (hv : va_rf (if kn < nl then some (ad 5 kn) else none) = v) (hdg : decode cc pc = .ok (.aaload, 1)) (kk : vl_V p l e R s m args below meth c Q D A nL (cw cy ad nl ns par Rl d ++ X) k n lv (pc + 1) (v :: st)) : vl_V p l e R s m args below meth c Q D A nL (cw cy ad nl ns par Rl d ++ X) k n lv pc (.int i :: .ref (ad 2 0) :: st) := by subst hkn; exact vl_aldL C0 (cw_at hr) hin hv hdg kk
theorem rc_aldS (C0 : vl_C l p m meth c cc nL s args Ts own D cy A) {i : Int32} {v : Value} (hr : (3, 0) ∈ Rl) (hin : vp_in i 8) {kn : Nat} (hkn : i.toNatClampNeg = kn) (hv : va_rf (if kn < ns then some (ad 7 kn) else none) = v) (hdg : decode cc pc = .ok (.aaload, 1)) (kk : vl_V p l e R s m args below meth c Q D A nL (cw cy ad nl ns par Rl d ++ X) k n lv (pc + 1) (v :: st)) : vl_V p l e R s m args below meth c Q D A nL (cw cy ad nl ns par Rl d ++ X) k n lv pc (.int i :: .ref (ad 3 0) :: st) := by subst hkn; exact vl_aldS C0 (cw_at hr) hin hv hdg kk
theorem rc_alen (C0 : vl_C l p m meth c cc nL s args Ts own D cy A) {a b : Nat} (t0 : Nat) {cA : ClassId} {x : vp_A} {ty : FieldType} {v : Int32} (hr : (a, b) ∈ Rl) (hce : cw_e cy ad nl ns par (d a b) a b = .inl (cA, x)) (ht : (vl_T cy)[t0]? = some (cA, ty)) (hv : Int32.ofNat x.1 = v) (hdg : decode cc pc = .ok (.arraylength, 1)) (kk : vl_V p l e R s m args below meth c Q D A nL (cw cy ad nl ns par Rl d ++ X) k n lv (pc + 1) (.int v :: st)) : vl_V p l e R s m args below meth c Q D A nL (cw cy ad nl ns par Rl d ++ X) k n lv pc (.ref (ad a b) :: st) := vl_alen C0 t0 (hce ▸ cw_at hr) ht hv hdg kk
theorem rc_rec {a b ci : Nat} {fs : List Value} (hr : (a, b) ∈ Rl) (hce : cw_e cy ad nl ns par (d a b) a b = .inr (ci, fs)) : ∃ (q0 : Nat) (fs : List Value), (cw cy ad nl ns par Rl d ++ X)[q0]? = some (ad a b, .inr (ci, fs)) := (hce ▸ cw_at hr : ∃ q0 : Nat, (cw cy ad nl ns par Rl d ++ X)[q0]? = some (ad a b, .inr (ci, fs))).imp fun q h => ⟨fs, h⟩
end VX
end
section
section VM1
set_option maxHeartbeats 4000000 in
set_option maxRecDepth 100000 in
theorem c_X4_isIn {l : Launch} {D : va_G} {cy : Nat → ClassId} {w0 : va_W} (hl0 : l.stackTraces = false) (a b c0 : Int32) : vl_Ki l D cy yX4_isIn wsX4_isIn { frames := 0, cells := 0, slots := 0, locals := 0 } 0 0 (w0) [.int a, .int b, .int c0] (fun r w' => r = bI (inB a b c0) ∧ w' = w0) := by
  refine vl_openi hl0 (by decide) rfl (Nat.le_of_ble_eq_true rfl) rfl ?_
  intro p e s m args below meth c C0 hr hnm
  generalize hA : va_A (w0) s.heap.size = A at C0 ⊢
  refine vl_lv (lv2 := [(0, .int a), (1, .int b), (2, .int c0)]) [0, 1, 2] rfl ?_
  refine vl_iload_n C0 dX4_isIn_0 0 rfl ?_
  refine vl_iload_n C0 dX4_isIn_1 1 rfl ?_
  refine vl_icmp_lt (tgt := 14) C0 dX4_isIn_2 (by decide) (fun (h2 : (a : Int32) < (b : Int32)) => ?_) (fun (h2 : ¬ (a : Int32) < (b : Int32)) => ?_)
  · refine vl_iconst (v := 0) C0 dX4_isIn_14 (by decide) ?_
    exact vl_zret C0 hA.symm hr rfl ⟨by simp [bI, inB, ← Int32.not_lt, h2], rfl⟩ (Nat.le_of_ble_eq_true rfl) (Nat.le_of_ble_eq_true rfl) dX4_isIn_15
  · refine vl_iload_n C0 dX4_isIn_5 0 rfl ?_
    refine vl_iload_n C0 dX4_isIn_6 2 rfl ?_
    refine vl_icmp_gt (tgt := 14) C0 dX4_isIn_7 (by decide) (fun (h7 : (c0 : Int32) < (a : Int32)) => ?_) (fun (h7 : ¬ (c0 : Int32) < (a : Int32)) => ?_)
    · refine vl_iconst (v := 0) C0 dX4_isIn_14 (by decide) ?_
      exact vl_zret C0 hA.symm hr rfl ⟨by simp [bI, inB, ← Int32.not_lt, h2, h7], rfl⟩ (Nat.le_of_ble_eq_true rfl) (Nat.le_of_ble_eq_true rfl) dX4_isIn_15
    · refine vl_iconst (v := 1) C0 dX4_isIn_10 (by decide) ?_
      refine vl_goto (tgt := 15) C0 dX4_isIn_11 (by decide) ?_
      exact vl_zret C0 hA.symm hr rfl ⟨by simp [bI, inB, ← Int32.not_lt, h2, h7], rfl⟩ (Nat.le_of_ble_eq_true rfl) (Nat.le_of_ble_eq_true rfl) dX4_isIn_15
set_option maxHeartbeats 4000000 in
set_option maxRecDepth 100000 in
theorem c_X4_isTurn {l : Launch} {D : va_G} {cy : Nat → ClassId} {w0 : va_W} (hl0 : l.stackTraces = false) (a : Int32) : vl_Ki l D cy yX4_isTurn wsX4_isTurn { frames := 1, cells := 0, slots := 0, locals := 22 } 0 0 (w0) [.int a] (fun r w' => r = bI (inB a 0 29) ∧ w' = w0) := by
  refine vl_openi hl0 (by decide) rfl (Nat.le_of_ble_eq_true rfl) rfl ?_
  intro p e s m args below meth c C0 hr hnm
  generalize hA : va_A (w0) s.heap.size = A at C0 ⊢
  refine vl_lv (lv2 := [(0, .int a)]) [0] rfl ?_
  refine vl_iload_n C0 dX4_isTurn_0 0 rfl ?_
  refine vl_iconst (v := 0) C0 dX4_isTurn_1 (by decide) ?_
  refine vl_bipush (v := 29) C0 dX4_isTurn_2 (by decide) ?_
  refine vl_calli C0 (vl_goS C0 (As := [.int a, .int 0, .int 29]) (na := 3) (st := []) gX4_isTurn_X4_isIn rfl rfl rfl (by decide +kernel) ⟨Nat.le_of_ble_eq_true rfl, Nat.le_of_ble_eq_true rfl⟩ dX4_isTurn_4 (Nat.le_of_ble_eq_true rfl) ⟨Nat.le_of_ble_eq_true rfl, Nat.le_of_ble_eq_true rfl⟩ rfl rfl) (c_X4_isIn hl0 a 0 29) (k2 := 0) (n2 := 0) (Nat.le_of_ble_eq_true rfl) (Nat.le_of_ble_eq_true rfl) (fun r9 w9 hp9 => ?_)
  obtain ⟨rfl, rfl⟩ := hp9
  exact vl_zret C0 hA.symm hr (nb_bI _) ⟨rfl, rfl⟩ (Nat.le_of_ble_eq_true rfl) (Nat.le_of_ble_eq_true rfl) dX4_isTurn_7
set_option maxHeartbeats 4000000 in
set_option maxRecDepth 100000 in
theorem c_X4_isBerth {l : Launch} {D : va_G} {cy : Nat → ClassId} {w0 : va_W} (hl0 : l.stackTraces = false) (a : Int32) : vl_Ki l D cy yX4_isBerth wsX4_isBerth { frames := 1, cells := 0, slots := 0, locals := 22 } 0 0 (w0) [.int a] (fun r w' => r = bI (inB a 0 2) ∧ w' = w0) := by
  refine vl_openi hl0 (by decide) rfl (Nat.le_of_ble_eq_true rfl) rfl ?_
  intro p e s m args below meth c C0 hr hnm
  generalize hA : va_A (w0) s.heap.size = A at C0 ⊢
  refine vl_lv (lv2 := [(0, .int a)]) [0] rfl ?_
  refine vl_iload_n C0 dX4_isBerth_0 0 rfl ?_
  refine vl_iconst (v := 0) C0 dX4_isBerth_1 (by decide) ?_
  refine vl_iconst (v := 2) C0 dX4_isBerth_2 (by decide) ?_
  refine vl_calli C0 (vl_goS C0 (As := [.int a, .int 0, .int 2]) (na := 3) (st := []) gX4_isBerth_X4_isIn rfl rfl rfl (by decide +kernel) ⟨Nat.le_of_ble_eq_true rfl, Nat.le_of_ble_eq_true rfl⟩ dX4_isBerth_3 (Nat.le_of_ble_eq_true rfl) ⟨Nat.le_of_ble_eq_true rfl, Nat.le_of_ble_eq_true rfl⟩ rfl rfl) (c_X4_isIn hl0 a 0 2) (k2 := 0) (n2 := 0) (Nat.le_of_ble_eq_true rfl) (Nat.le_of_ble_eq_true rfl) (fun r9 w9 hp9 => ?_)
  obtain ⟨rfl, rfl⟩ := hp9
  exact vl_zret C0 hA.symm hr (nb_bI _) ⟨rfl, rfl⟩ (Nat.le_of_ble_eq_true rfl) (Nat.le_of_ble_eq_true rfl) dX4_isBerth_6
set_option maxHeartbeats 4000000 in
set_option maxRecDepth 100000 in
theorem c_X4_isShip {l : Launch} {D : va_G} {cy : Nat → ClassId} {ad : Nat → Nat} {mm : Nat → Nat → Int32} {X : va_W} (hl0 : l.stackTraces = false) (a : Int32) : vl_Ki l D cy yX4_isShip wsX4_isShip { frames := 1, cells := 0, slots := 0, locals := 22 } 0 0 (mw cy ad mm ++ X) [.ref (ad 0), .int a] (fun r w' => r = bI (inB a 0 (mm 0 0 - 1)) ∧ w' = mw cy ad mm ++ X) := by
  refine vl_openi hl0 (by decide) rfl (Nat.le_of_ble_eq_true rfl) rfl ?_
  intro p e s m args below meth c C0 hr hnm
  generalize hA : va_A (mw cy ad mm ++ X) s.heap.size = A at C0 ⊢
  refine vl_lv (lv2 := [(0, .ref (ad 0)), (1, .int a)]) [0, 1] rfl ?_
  have hin : ∀ x ∈ u_ws RX4 TX4 18, x ∈ wsX4_isShip := by decide +kernel
  refine vl_iload_n C0 dX4_isShip_0 1 rfl ?_
  refine vl_iconst (v := 0) C0 dX4_isShip_1 (by decide) ?_
  refine vl_aload_n C0 dX4_isShip_2 0 rfl ?_
  refine rm_get C0 hin 0 (by decide) (by decide +kernel) (v := .int (mm 0 0)) (rfl) dX4_isShip_3 ?_
  refine vl_iconst (v := 1) C0 dX4_isShip_6 (by decide) ?_
  refine vl_isub C0 dX4_isShip_7 ?_
  refine vl_calli C0 (vl_goS C0 (As := [.int a, .int 0, .int ((mm 0 0) - (1))]) (na := 3) (st := []) gX4_isShip_X4_isIn rfl rfl rfl (by decide +kernel) ⟨Nat.le_of_ble_eq_true rfl, Nat.le_of_ble_eq_true rfl⟩ dX4_isShip_8 (Nat.le_of_ble_eq_true rfl) ⟨Nat.le_of_ble_eq_true rfl, Nat.le_of_ble_eq_true rfl⟩ rfl rfl) (c_X4_isIn hl0 a 0 ((mm 0 0) - (1))) (k2 := 0) (n2 := 0) (Nat.le_of_ble_eq_true rfl) (Nat.le_of_ble_eq_true rfl) (fun r9 w9 hp9 => ?_)
  obtain ⟨rfl, rfl⟩ := hp9
  exact vl_zret C0 hA.symm hr (nb_bI _) ⟨rfl, rfl⟩ (Nat.le_of_ble_eq_true rfl) (Nat.le_of_ble_eq_true rfl) dX4_isShip_11
set_option maxHeartbeats 4000000 in
set_option maxRecDepth 100000 in
theorem c_X4_isLine {l : Launch} {D : va_G} {cy : Nat → ClassId} {ad : Nat → Nat} {mm : Nat → Nat → Int32} {X : va_W} (hl0 : l.stackTraces = false) (a : Int32) : vl_Ki l D cy yX4_isLine wsX4_isLine { frames := 1, cells := 0, slots := 0, locals := 22 } 0 0 (mw cy ad mm ++ X) [.ref (ad 0), .int a] (fun r w' => r = bI (inB a 0 (mm 0 7 - 1)) ∧ w' = mw cy ad mm ++ X) := by
  refine vl_openi hl0 (by decide) rfl (Nat.le_of_ble_eq_true rfl) rfl ?_
  intro p e s m args below meth c C0 hr hnm
  generalize hA : va_A (mw cy ad mm ++ X) s.heap.size = A at C0 ⊢
  refine vl_lv (lv2 := [(0, .ref (ad 0)), (1, .int a)]) [0, 1] rfl ?_
  have hin : ∀ x ∈ u_ws RX4 TX4 18, x ∈ wsX4_isLine := by decide +kernel
  refine vl_iload_n C0 dX4_isLine_0 1 rfl ?_
  refine vl_iconst (v := 0) C0 dX4_isLine_1 (by decide) ?_
  refine vl_aload_n C0 dX4_isLine_2 0 rfl ?_
  refine rm_get C0 hin 7 (by decide) (by decide +kernel) (v := .int (mm 0 7)) (rfl) dX4_isLine_3 ?_
  refine vl_iconst (v := 1) C0 dX4_isLine_6 (by decide) ?_
  refine vl_isub C0 dX4_isLine_7 ?_
  refine vl_calli C0 (vl_goS C0 (As := [.int a, .int 0, .int ((mm 0 7) - (1))]) (na := 3) (st := []) gX4_isLine_X4_isIn rfl rfl rfl (by decide +kernel) ⟨Nat.le_of_ble_eq_true rfl, Nat.le_of_ble_eq_true rfl⟩ dX4_isLine_8 (Nat.le_of_ble_eq_true rfl) ⟨Nat.le_of_ble_eq_true rfl, Nat.le_of_ble_eq_true rfl⟩ rfl rfl) (c_X4_isIn hl0 a 0 ((mm 0 7) - (1))) (k2 := 0) (n2 := 0) (Nat.le_of_ble_eq_true rfl) (Nat.le_of_ble_eq_true rfl) (fun r9 w9 hp9 => ?_)
  obtain ⟨rfl, rfl⟩ := hp9
  exact vl_zret C0 hA.symm hr (nb_bI _) ⟨rfl, rfl⟩ (Nat.le_of_ble_eq_true rfl) (Nat.le_of_ble_eq_true rfl) dX4_isLine_11
set_option maxHeartbeats 4000000 in
set_option maxRecDepth 100000 in
theorem c_X4_fails {l : Launch} {D : va_G} {cy : Nat → ClassId} {ad : Nat → Nat} {mm : Nat → Nat → Int32} {X : va_W} (hl0 : l.stackTraces = false) (a : Int32) : vl_Ki l D cy yX4_fails wsX4_fails { frames := 0, cells := 0, slots := 0, locals := 0 } 0 0 (mw cy ad mm ++ X) [.ref (ad 0), .int a] (fun r w' => r = bI (decide (0 < a)) ∧ w' = mw cy ad (up2 mm 0 17 a) ++ X) := by
  refine vl_openi hl0 (by decide) rfl (Nat.le_of_ble_eq_true rfl) rfl ?_
  intro p e s m args below meth c C0 hr hnm
  generalize hA : va_A (mw cy ad mm ++ X) s.heap.size = A at C0 ⊢
  refine vl_lv (lv2 := [(0, .ref (ad 0)), (1, .int a)]) [0, 1] rfl ?_
  have hin : ∀ x ∈ u_ws RX4 TX4 18, x ∈ wsX4_fails := by decide +kernel
  refine vl_aload_n C0 dX4_fails_0 0 rfl ?_
  refine vl_iload_n C0 dX4_fails_1 1 rfl ?_
  refine rm_put C0 hin 17 (by decide) (by decide +kernel) rfl rfl (mw_put17 _) dX4_fails_2 ?_
  refine vl_iload_n C0 dX4_fails_5 1 rfl ?_
  refine vl_if_le (tgt := 13) C0 dX4_fails_6 (by decide) (fun (h6 : (a : Int32) ≤ (0 : Int32)) => ?_) (fun (h6 : ¬ (a : Int32) ≤ (0 : Int32)) => ?_)
  · refine vl_iconst (v := 0) C0 dX4_fails_13 (by decide) ?_
    exact vl_zret C0 hA.symm hr rfl ⟨by simp [bI, ← Int32.not_le, h6], rfl⟩ (Nat.le_of_ble_eq_true rfl) (Nat.le_of_ble_eq_true rfl) dX4_fails_14
  · refine vl_iconst (v := 1) C0 dX4_fails_9 (by decide) ?_
    refine vl_goto (tgt := 14) C0 dX4_fails_10 (by decide) ?_
    exact vl_zret C0 hA.symm hr rfl ⟨by simp [bI, ← Int32.not_le, h6], rfl⟩ (Nat.le_of_ble_eq_true rfl) (Nat.le_of_ble_eq_true rfl) dX4_fails_14
set_option maxHeartbeats 4000000 in
set_option maxRecDepth 100000 in
theorem c_X4_thrown {l : Launch} {D : va_G} {cy : Nat → ClassId} {ad : Nat → Nat} {mm : Nat → Nat → Int32} {X : va_W} (hl0 : l.stackTraces = false)  : vl_Ki l D cy yX4_thrown wsX4_thrown { frames := 0, cells := 0, slots := 0, locals := 0 } 0 0 (mw cy ad mm ++ X) [.ref (ad 0)] (fun r w' => r = mm 0 17 ∧ w' = mw cy ad mm ++ X) := by
  refine vl_openi hl0 (by decide) rfl (Nat.le_of_ble_eq_true rfl) rfl ?_
  intro p e s m args below meth c C0 hr hnm
  generalize hA : va_A (mw cy ad mm ++ X) s.heap.size = A at C0 ⊢
  refine vl_lv (lv2 := [(0, .ref (ad 0))]) [0] rfl ?_
  have hin : ∀ x ∈ u_ws RX4 TX4 18, x ∈ wsX4_thrown := by decide +kernel
  refine vl_aload_n C0 dX4_thrown_0 0 rfl ?_
  refine rm_get C0 hin 17 (by decide) (by decide +kernel) (v := .int (mm 0 17)) (rfl) dX4_thrown_1 ?_
  exact vl_iret C0 hA.symm hr ⟨rfl, rfl⟩ (Nat.le_of_ble_eq_true rfl) (Nat.le_of_ble_eq_true rfl) dX4_thrown_4
end VM1
end
section
/-! THE REFERENCE'S CALLS, as functions of its state -/
section SP
theorem inB_t {v lo hi : Int32} (h : inB v lo hi = true) : lo ≤ v ∧ v ≤ hi := by simpa [inB] using h
theorem inB_f {v lo hi : Int32} (h : inB v lo hi = false) : ¬ (lo ≤ v ∧ v ≤ hi) := fun q => by simp [inB, q.1, q.2] at h
theorem inB_vp {v hi : Int32} {n : Nat} (h : inB v 0 hi = true) (hn : hi.toInt + 1 = n) : vp_in v n := by
  obtain ⟨h1, h2⟩ := inB_t h
  rw [Int32.le_iff_toInt_le] at h1 h2
  refine vp_in_iff.mpr ⟨by simpa using h1, by omega⟩
theorem inB_nI {n : Nat} {v : Int32} (h1 : 1 ≤ n) (hn : n < 2 ^ 31) (h : inB v 0 (nI n - 1) = true) : ∃ j : Nat, j < n ∧ v = nI j := by
  obtain ⟨k, rfl⟩ : ∃ k, n = k + 1 := ⟨n - 1, by omega⟩
  rw [nI_pred] at h
  exact vp_in_of (inB_vp h (by rw [nI_toInt (by omega)]; simp)) hn
theorem inB_nI0 {v : Int32} (h : inB v 0 (nI 0 - 1) = true) : False := by
  obtain ⟨h1, h2⟩ := inB_t h
  have h3 : (nI 0 - 1 : Int32) = -1 := by decide
  rw [h3] at h2
  rw [Int32.le_iff_toInt_le] at h1 h2
  have e : (-1 : Int32).toInt = -1 := by decide
  have e0 : (0 : Int32).toInt = 0 := by decide
  omega
theorem inB_of {n j : Nat} (hj : j < n) (hn : n < 2 ^ 31) : inB (nI j) 0 (nI n - 1) = true := by
  obtain ⟨k, rfl⟩ : ∃ k, n = k + 1 := ⟨n - 1, by omega⟩
  rw [nI_pred]
  simp only [inB, Bool.and_eq_true, decide_eq_true_eq]
  exact ⟨nI_pos' (by omega), nI_le (by omega) (by omega)⟩
theorem inB_k {v hi : Int32} {n : Nat} (h : inB v 0 hi = true) (hn : hi.toInt + 1 = n) (hN : n < 2 ^ 31) : ∃ j : Nat, j < n ∧ v = nI j := vp_in_of (inB_vp h hn) hN
theorem vnb0 : vp_nar .boolean 0 = 0 := by decide
theorem vnb1 : vp_nar .boolean 1 = 1 := by decide
theorem nI_pl (j t : Nat) : (30 : Int32) * nI j + nI t = nI (30 * j + t) := by
  have h : (30 : Int32) = nI 30 := rfl
  rw [h, ← nI_add]
  congr 1
  exact (Int32.ofNat_mul 30 j).symm
theorem up2_same (m : Nat → Nat → Int32) (j i : Nat) (v : Int32) : up2 m j i v j i = v := by simp [up2, upd]
theorem up2_o (m : Nat → Nat → Int32) {j a : Nat} (i b : Nat) (v : Int32) (h : a ≠ j) : up2 m j i v a b = m a b := by simp [up2, h]
theorem up2_i (m : Nat → Nat → Int32) (j : Nat) {i b : Nat} (v : Int32) (h : b ≠ i) : up2 m j i v j b = m j b := by simp [up2, upd, h]
/-- an order's number -/
def codeI (k s b : Int32) : Int32 := if k = 0 then 0 else 100 * k + 10 * s + (if k = 1 then b else 0)
def sp_addShip (ns : Nat) (m : Nat → Nat → Int32) (a b c : Int32) : Int32 × (Nat → Nat → Int32) := if (inB a 0 29 && inB b 0 2 && inB c 1 100) = false then (0, up2 m 0 17 1) else if ns = 8 then (0, up2 m 0 17 2) else (nI ns, up2 (up2 (up2 (up2 (up2 m 0 17 0) 1 ns a) 2 ns b) 3 ns c) 0 0 (nI ns + 1))
def sp_setRate (m : Nat → Nat → Int32) (b t : Int32) : Int32 × (Nat → Nat → Int32) := if inB b 0 2 = false then (0, up2 m 0 17 1) else if inB t 0 20 = false then (0, up2 m 0 17 2) else (m 4 b.toNatClampNeg, up2 (up2 m 0 17 0) 4 b.toNatClampNeg t)
def sp_setRules (m : Nat → Nat → Int32) (a b : Int32) : Nat → Nat → Int32 := if (inB a 0 100 && inB b 0 100) = true then up2 (up2 (up2 m 0 17 0) 0 5 a) 0 6 b else up2 m 0 17 1
def sp_fork (nl : Nat) (m : Nat → Nat → Int32) (a t : Int32) : Int32 × (Nat → Nat → Int32) := if (inB a 0 (nI nl - 1) && inB t 0 29) = false then (0, up2 m 0 17 1) else if nl = 9 then (0, up2 m 0 17 2) else (nI nl, up2 (up2 (up2 (up2 (up2 m 0 17 0) 8 nl a) 9 nl t) 10 nl (m 10 a.toNatClampNeg)) 0 7 (nI nl + 1))
def aheadB (m : Nat → Nat → Int32) (a t : Int32) : Bool := decide (0 < a) && decide (t < m 10 a.toNatClampNeg)
def sp_order (nl ns : Nat) (m : Nat → Nat → Int32) (a t k s b : Int32) : Int32 × (Nat → Nat → Int32) := if (inB a 0 (nI nl - 1) && inB t 0 29 && inB s 0 (nI ns - 1) && inB b 0 2) = false then (0, up2 m 0 17 1) else if inB k 0 2 = false then (0, up2 m 0 17 2) else if t < m 9 a.toNatClampNeg then (0, up2 m 0 17 3) else (bI (aheadB m a t), up2 (up2 (up2 m 0 17 0) 11 (30 * a + t).toNatClampNeg (codeI k s b)) 12 (30 * a + t).toNatClampNeg (bI (aheadB m a t)))
def ownB (m : Nat → Nat → Int32) (a t : Int32) : Bool := decide (m 11 (30 * a + t).toNatClampNeg ≠ -1)
def sp_takeAway (nl : Nat) (m : Nat → Nat → Int32) (a t : Int32) : Int32 × (Nat → Nat → Int32) := if (inB a 0 (nI nl - 1) && inB t 0 29) = false then (0, up2 m 0 17 1) else if ownB m a t = false then (0, up2 m 0 17 0) else (1, up2 (up2 (up2 m 0 17 0) 11 (30 * a + t).toNatClampNeg (-1)) 12 (30 * a + t).toNatClampNeg 0)
/-- the order of a line for a turn: its own, or that of the line of which it was made -/
def ordA (o : Nat → Int32) (par : Nat → Option Nat) (t : Nat) : Nat → Option Nat → Int32
  | 0, _ => 0
  | _ + 1, none => 0
  | f + 1, some j => if o (30 * j + t) = -1 then ordA o par t f (par j) else o (30 * j + t)
/-- a set of turns, as the loops build it -/
def bset (P : Nat → Bool) : Nat → Int32
  | 0 => 0
  | k + 1 => bset P k ||| (if P k then 1 <<< (nI k &&& 31) else 0)
end SP
end
section
section VM2
set_option maxHeartbeats 4000000 in
set_option maxRecDepth 100000 in
theorem c_X4_addShip {l : Launch} {D : va_G} {cy : Nat → ClassId} {ad : Nat → Nat} {mm : Nat → Nat → Int32} {X : va_W} {ns : Nat} (hl0 : l.stackTraces = false) (a b c0 : Int32) (e0 : mm 0 0 = nI ns) (h8 : ns ≤ 8) : vl_Ki l D cy yX4_addShip wsX4_addShip { frames := 2, cells := 0, slots := 0, locals := 42 } 0 0 (mw cy ad mm ++ X) [.ref (ad 0), .int a, .int b, .int c0] (fun r w' => r = (sp_addShip ns mm a b c0).1 ∧ w' = mw cy ad (sp_addShip ns mm a b c0).2 ++ X) := by
  refine vl_openi hl0 (by decide) rfl (Nat.le_of_ble_eq_true rfl) rfl ?_
  intro p e s m args below meth c C0 hr hnm
  generalize hA : va_A (mw cy ad mm ++ X) s.heap.size = A at C0 ⊢
  refine vl_lv (lv2 := [(0, .ref (ad 0)), (1, .int a), (2, .int b), (3, .int c0)]) [0, 1, 2, 3] rfl ?_
  have hin : ∀ x ∈ u_ws RX4 TX4 18, x ∈ wsX4_addShip := by decide +kernel
  refine vl_iload_n C0 dX4_addShip_0 1 rfl ?_
  refine vl_calli C0 (vl_goS C0 (As := [.int a]) (na := 1) (st := []) gX4_addShip_X4_isTurn rfl rfl rfl (by decide +kernel) ⟨Nat.le_of_ble_eq_true rfl, Nat.le_of_ble_eq_true rfl⟩ dX4_addShip_1 (Nat.le_of_ble_eq_true rfl) ⟨Nat.le_of_ble_eq_true rfl, Nat.le_of_ble_eq_true rfl⟩ rfl rfl) (c_X4_isTurn hl0 a) (k2 := 0) (n2 := 0) (Nat.le_of_ble_eq_true rfl) (Nat.le_of_ble_eq_true rfl) (fun r9 w9 hp9 => ?_)
  obtain ⟨rfl, rfl⟩ := hp9
  refine vl_if_eq (tgt := 30) C0 dX4_addShip_4 (by decide) (fun (h4 : (bI (inB a 0 29) : Int32) = (0 : Int32)) => ?_) (fun (h4 : ¬ (bI (inB a 0 29) : Int32) = (0 : Int32)) => ?_)
  · have g4 := bI_0.mp h4
    refine vl_iconst (v := 0) C0 dX4_addShip_30 (by decide) ?_
    refine vl_istore (lv' := [(0, .ref (ad 0)), (1, .int a), (2, .int b), (3, .int c0), (4, .int 0)]) C0 dX4_addShip_31 [1, 2, 3, 4, 0] (by decide) rfl ?_
    refine vl_aload_n C0 dX4_addShip_33 0 rfl ?_
    refine vl_iload C0 dX4_addShip_34 4 rfl ?_
    refine vl_if_ne (tgt := 43) C0 dX4_addShip_36 (by decide) (fun (h36 : ¬ (0 : Int32) = (0 : Int32)) => absurd h36 (by decide)) (fun (h36 : (0 : Int32) = (0 : Int32)) => ?_)
    refine vl_iconst (v := 1) C0 dX4_addShip_39 (by decide) ?_
    refine vl_goto (tgt := 57) C0 dX4_addShip_40 (by decide) ?_
    refine vl_calli C0 (vl_goV C0 (As := [.int 1]) (na := 1) (b := ad 0) (st := []) (ci := 4) gX4_addShip_X4_fails rfl rfl rfl (by decide +kernel) ⟨Nat.le_of_ble_eq_true rfl, Nat.le_of_ble_eq_true rfl⟩ rfl ⟨0, _, rfl⟩ dX4_addShip_57 (Nat.le_of_ble_eq_true rfl) ⟨Nat.le_of_ble_eq_true rfl, Nat.le_of_ble_eq_true rfl⟩ rfl rfl) (c_X4_fails hl0 1) (k2 := 0) (n2 := 0) (Nat.le_of_ble_eq_true rfl) (Nat.le_of_ble_eq_true rfl) (fun r9 w9 hp9 => ?_)
    obtain ⟨hr9, rfl⟩ := hp9
    have hr9 : r9 = 1 := hr9.trans (by decide)
    subst hr9
    refine vl_if_eq (tgt := 65) C0 dX4_addShip_60 (by decide) (fun (h60 : (1 : Int32) = (0 : Int32)) => absurd h60 (by decide)) (fun (h60 : ¬ (1 : Int32) = (0 : Int32)) => ?_)
    refine vl_iconst (v := 0) C0 dX4_addShip_63 (by decide) ?_
    exact vl_iret C0 hA.symm hr ⟨by (first | (have z9 : ns = 8 := (nI_eq (by omega) (by decide)).mp h49; simp [sp_addShip, g4, z9]) | (have z9 : ¬ ns = 8 := fun q => h49 (by rw [q]; rfl); simp [sp_addShip, g4, z9, Int32.add_sub_cancel]) | simp [sp_addShip, g4]), by (first | (have z9 : ns = 8 := (nI_eq (by omega) (by decide)).mp h49; simp [sp_addShip, g4, z9]) | (have z9 : ¬ ns = 8 := fun q => h49 (by rw [q]; rfl); simp [sp_addShip, g4, z9, Int32.add_sub_cancel]) | simp [sp_addShip, g4])⟩ (Nat.le_of_ble_eq_true rfl) (Nat.le_of_ble_eq_true rfl) dX4_addShip_64
  · have g4 := bI_n.mp h4
    refine vl_iload_n C0 dX4_addShip_7 2 rfl ?_
    refine vl_iconst (v := 0) C0 dX4_addShip_8 (by decide) ?_
    refine vl_iconst (v := 2) C0 dX4_addShip_9 (by decide) ?_
    refine vl_calli C0 (vl_goS C0 (As := [.int b, .int 0, .int 2]) (na := 3) (st := []) gX4_addShip_X4_isIn rfl rfl rfl (by decide +kernel) ⟨Nat.le_of_ble_eq_true rfl, Nat.le_of_ble_eq_true rfl⟩ dX4_addShip_10 (Nat.le_of_ble_eq_true rfl) ⟨Nat.le_of_ble_eq_true rfl, Nat.le_of_ble_eq_true rfl⟩ rfl rfl) (c_X4_isIn hl0 b 0 2) (k2 := 0) (n2 := 0) (Nat.le_of_ble_eq_true rfl) (Nat.le_of_ble_eq_true rfl) (fun r9 w9 hp9 => ?_)
    obtain ⟨rfl, rfl⟩ := hp9
    refine vl_if_eq (tgt := 30) C0 dX4_addShip_13 (by decide) (fun (h13 : (bI (inB b 0 2) : Int32) = (0 : Int32)) => ?_) (fun (h13 : ¬ (bI (inB b 0 2) : Int32) = (0 : Int32)) => ?_)
    · have g13 := bI_0.mp h13
      refine vl_iconst (v := 0) C0 dX4_addShip_30 (by decide) ?_
      refine vl_istore (lv' := [(0, .ref (ad 0)), (1, .int a), (2, .int b), (3, .int c0), (4, .int 0)]) C0 dX4_addShip_31 [1, 2, 3, 4, 0] (by decide) rfl ?_
      refine vl_aload_n C0 dX4_addShip_33 0 rfl ?_
      refine vl_iload C0 dX4_addShip_34 4 rfl ?_
      refine vl_if_ne (tgt := 43) C0 dX4_addShip_36 (by decide) (fun (h36 : ¬ (0 : Int32) = (0 : Int32)) => absurd h36 (by decide)) (fun (h36 : (0 : Int32) = (0 : Int32)) => ?_)
      refine vl_iconst (v := 1) C0 dX4_addShip_39 (by decide) ?_
      refine vl_goto (tgt := 57) C0 dX4_addShip_40 (by decide) ?_
      refine vl_calli C0 (vl_goV C0 (As := [.int 1]) (na := 1) (b := ad 0) (st := []) (ci := 4) gX4_addShip_X4_fails rfl rfl rfl (by decide +kernel) ⟨Nat.le_of_ble_eq_true rfl, Nat.le_of_ble_eq_true rfl⟩ rfl ⟨0, _, rfl⟩ dX4_addShip_57 (Nat.le_of_ble_eq_true rfl) ⟨Nat.le_of_ble_eq_true rfl, Nat.le_of_ble_eq_true rfl⟩ rfl rfl) (c_X4_fails hl0 1) (k2 := 0) (n2 := 0) (Nat.le_of_ble_eq_true rfl) (Nat.le_of_ble_eq_true rfl) (fun r9 w9 hp9 => ?_)
      obtain ⟨hr9, rfl⟩ := hp9
      have hr9 : r9 = 1 := hr9.trans (by decide)
      subst hr9
      refine vl_if_eq (tgt := 65) C0 dX4_addShip_60 (by decide) (fun (h60 : (1 : Int32) = (0 : Int32)) => absurd h60 (by decide)) (fun (h60 : ¬ (1 : Int32) = (0 : Int32)) => ?_)
      refine vl_iconst (v := 0) C0 dX4_addShip_63 (by decide) ?_
      exact vl_iret C0 hA.symm hr ⟨by (first | (have z9 : ns = 8 := (nI_eq (by omega) (by decide)).mp h49; simp [sp_addShip, g4, g13, z9]) | (have z9 : ¬ ns = 8 := fun q => h49 (by rw [q]; rfl); simp [sp_addShip, g4, g13, z9, Int32.add_sub_cancel]) | simp [sp_addShip, g4, g13]), by (first | (have z9 : ns = 8 := (nI_eq (by omega) (by decide)).mp h49; simp [sp_addShip, g4, g13, z9]) | (have z9 : ¬ ns = 8 := fun q => h49 (by rw [q]; rfl); simp [sp_addShip, g4, g13, z9, Int32.add_sub_cancel]) | simp [sp_addShip, g4, g13])⟩ (Nat.le_of_ble_eq_true rfl) (Nat.le_of_ble_eq_true rfl) dX4_addShip_64
    · have g13 := bI_n.mp h13
      refine vl_iload_n C0 dX4_addShip_16 3 rfl ?_
      refine vl_iconst (v := 1) C0 dX4_addShip_17 (by decide) ?_
      refine vl_bipush (v := 100) C0 dX4_addShip_18 (by decide) ?_
      refine vl_calli C0 (vl_goS C0 (As := [.int c0, .int 1, .int 100]) (na := 3) (st := []) gX4_addShip_X4_isIn rfl rfl rfl (by decide +kernel) ⟨Nat.le_of_ble_eq_true rfl, Nat.le_of_ble_eq_true rfl⟩ dX4_addShip_20 (Nat.le_of_ble_eq_true rfl) ⟨Nat.le_of_ble_eq_true rfl, Nat.le_of_ble_eq_true rfl⟩ rfl rfl) (c_X4_isIn hl0 c0 1 100) (k2 := 0) (n2 := 0) (Nat.le_of_ble_eq_true rfl) (Nat.le_of_ble_eq_true rfl) (fun r9 w9 hp9 => ?_)
      obtain ⟨rfl, rfl⟩ := hp9
      refine vl_if_eq (tgt := 30) C0 dX4_addShip_23 (by decide) (fun (h23 : (bI (inB c0 1 100) : Int32) = (0 : Int32)) => ?_) (fun (h23 : ¬ (bI (inB c0 1 100) : Int32) = (0 : Int32)) => ?_)
      · have g23 := bI_0.mp h23
        refine vl_iconst (v := 0) C0 dX4_addShip_30 (by decide) ?_
        refine vl_istore (lv' := [(0, .ref (ad 0)), (1, .int a), (2, .int b), (3, .int c0), (4, .int 0)]) C0 dX4_addShip_31 [1, 2, 3, 4, 0] (by decide) rfl ?_
        refine vl_aload_n C0 dX4_addShip_33 0 rfl ?_
        refine vl_iload C0 dX4_addShip_34 4 rfl ?_
        refine vl_if_ne (tgt := 43) C0 dX4_addShip_36 (by decide) (fun (h36 : ¬ (0 : Int32) = (0 : Int32)) => absurd h36 (by decide)) (fun (h36 : (0 : Int32) = (0 : Int32)) => ?_)
        refine vl_iconst (v := 1) C0 dX4_addShip_39 (by decide) ?_
        refine vl_goto (tgt := 57) C0 dX4_addShip_40 (by decide) ?_
        refine vl_calli C0 (vl_goV C0 (As := [.int 1]) (na := 1) (b := ad 0) (st := []) (ci := 4) gX4_addShip_X4_fails rfl rfl rfl (by decide +kernel) ⟨Nat.le_of_ble_eq_true rfl, Nat.le_of_ble_eq_true rfl⟩ rfl ⟨0, _, rfl⟩ dX4_addShip_57 (Nat.le_of_ble_eq_true rfl) ⟨Nat.le_of_ble_eq_true rfl, Nat.le_of_ble_eq_true rfl⟩ rfl rfl) (c_X4_fails hl0 1) (k2 := 0) (n2 := 0) (Nat.le_of_ble_eq_true rfl) (Nat.le_of_ble_eq_true rfl) (fun r9 w9 hp9 => ?_)
        obtain ⟨hr9, rfl⟩ := hp9
        have hr9 : r9 = 1 := hr9.trans (by decide)
        subst hr9
        refine vl_if_eq (tgt := 65) C0 dX4_addShip_60 (by decide) (fun (h60 : (1 : Int32) = (0 : Int32)) => absurd h60 (by decide)) (fun (h60 : ¬ (1 : Int32) = (0 : Int32)) => ?_)
        refine vl_iconst (v := 0) C0 dX4_addShip_63 (by decide) ?_
        exact vl_iret C0 hA.symm hr ⟨by (first | (have z9 : ns = 8 := (nI_eq (by omega) (by decide)).mp h49; simp [sp_addShip, g4, g13, g23, z9]) | (have z9 : ¬ ns = 8 := fun q => h49 (by rw [q]; rfl); simp [sp_addShip, g4, g13, g23, z9, Int32.add_sub_cancel]) | simp [sp_addShip, g4, g13, g23]), by (first | (have z9 : ns = 8 := (nI_eq (by omega) (by decide)).mp h49; simp [sp_addShip, g4, g13, g23, z9]) | (have z9 : ¬ ns = 8 := fun q => h49 (by rw [q]; rfl); simp [sp_addShip, g4, g13, g23, z9, Int32.add_sub_cancel]) | simp [sp_addShip, g4, g13, g23])⟩ (Nat.le_of_ble_eq_true rfl) (Nat.le_of_ble_eq_true rfl) dX4_addShip_64
      · have g23 := bI_n.mp h23
        refine vl_iconst (v := 1) C0 dX4_addShip_26 (by decide) ?_
        refine vl_goto (tgt := 31) C0 dX4_addShip_27 (by decide) ?_
        refine vl_istore (lv' := [(0, .ref (ad 0)), (1, .int a), (2, .int b), (3, .int c0), (4, .int 1)]) C0 dX4_addShip_31 [1, 2, 3, 4, 0] (by decide) rfl ?_
        refine vl_aload_n C0 dX4_addShip_33 0 rfl ?_
        refine vl_iload C0 dX4_addShip_34 4 rfl ?_
        refine vl_if_ne (tgt := 43) C0 dX4_addShip_36 (by decide) (fun (h36 : ¬ (1 : Int32) = (0 : Int32)) => ?_) (fun (h36 : (1 : Int32) = (0 : Int32)) => absurd h36 (by decide))
        refine vl_aload_n C0 dX4_addShip_43 0 rfl ?_
        refine rm_get C0 hin 0 (by decide) (by decide +kernel) (v := .int (nI ns)) (congrArg (fun z => some (Value.int z)) e0) dX4_addShip_44 ?_
        refine vl_bipush (v := 8) C0 dX4_addShip_47 (by decide) ?_
        refine vl_icmp_ne (tgt := 56) C0 dX4_addShip_49 (by decide) (fun (h49 : ¬ (nI ns : Int32) = (8 : Int32)) => ?_) (fun (h49 : (nI ns : Int32) = (8 : Int32)) => ?_)
        · refine vl_iconst (v := 0) C0 dX4_addShip_56 (by decide) ?_
          refine vl_calli C0 (vl_goV C0 (As := [.int 0]) (na := 1) (b := ad 0) (st := []) (ci := 4) gX4_addShip_X4_fails rfl rfl rfl (by decide +kernel) ⟨Nat.le_of_ble_eq_true rfl, Nat.le_of_ble_eq_true rfl⟩ rfl ⟨0, _, rfl⟩ dX4_addShip_57 (Nat.le_of_ble_eq_true rfl) ⟨Nat.le_of_ble_eq_true rfl, Nat.le_of_ble_eq_true rfl⟩ rfl rfl) (c_X4_fails hl0 0) (k2 := 0) (n2 := 0) (Nat.le_of_ble_eq_true rfl) (Nat.le_of_ble_eq_true rfl) (fun r9 w9 hp9 => ?_)
          obtain ⟨hr9, rfl⟩ := hp9
          have hr9 : r9 = 0 := hr9.trans (by decide)
          subst hr9
          refine vl_if_eq (tgt := 65) C0 dX4_addShip_60 (by decide) (fun (h60 : (0 : Int32) = (0 : Int32)) => ?_) (fun (h60 : ¬ (0 : Int32) = (0 : Int32)) => absurd h60 (by decide))
          refine vl_aload_n C0 dX4_addShip_65 0 rfl ?_
          refine rm_get C0 hin 1 (by decide) (by decide +kernel) rfl dX4_addShip_66 ?_
          refine vl_aload_n C0 dX4_addShip_69 0 rfl ?_
          refine rm_get C0 hin 0 (by decide) (by decide +kernel) (v := .int (nI ns)) (congrArg (fun z => some (Value.int z)) e0) dX4_addShip_70 ?_
          refine vl_iload_n C0 dX4_addShip_73 1 rfl ?_
          refine rm_iast C0 1 1 8 rfl (mw_st1 _ _) (vp_in_nI (show ns < 8 by have z : ¬ ns = 8 := fun q => h49 (by rw [q]; rfl); omega) (by decide)) (kn := ns) (nI_clamp (by omega)) dX4_addShip_74 ?_
          refine vl_aload_n C0 dX4_addShip_75 0 rfl ?_
          refine rm_get C0 hin 2 (by decide) (by decide +kernel) rfl dX4_addShip_76 ?_
          refine vl_aload_n C0 dX4_addShip_79 0 rfl ?_
          refine rm_get C0 hin 0 (by decide) (by decide +kernel) (v := .int (nI ns)) (congrArg (fun z => some (Value.int z)) e0) dX4_addShip_80 ?_
          refine vl_iload_n C0 dX4_addShip_83 2 rfl ?_
          refine rm_iast C0 2 2 8 rfl (mw_st2 _ _) (vp_in_nI (show ns < 8 by have z : ¬ ns = 8 := fun q => h49 (by rw [q]; rfl); omega) (by decide)) (kn := ns) (nI_clamp (by omega)) dX4_addShip_84 ?_
          refine vl_aload_n C0 dX4_addShip_85 0 rfl ?_
          refine rm_get C0 hin 3 (by decide) (by decide +kernel) rfl dX4_addShip_86 ?_
          refine vl_aload_n C0 dX4_addShip_89 0 rfl ?_
          refine rm_get C0 hin 0 (by decide) (by decide +kernel) (v := .int (nI ns)) (congrArg (fun z => some (Value.int z)) e0) dX4_addShip_90 ?_
          refine vl_iload_n C0 dX4_addShip_93 3 rfl ?_
          refine rm_iast C0 3 3 8 rfl (mw_st3 _ _) (vp_in_nI (show ns < 8 by have z : ¬ ns = 8 := fun q => h49 (by rw [q]; rfl); omega) (by decide)) (kn := ns) (nI_clamp (by omega)) dX4_addShip_94 ?_
          refine vl_aload_n C0 dX4_addShip_95 0 rfl ?_
          refine vl_dup C0 dX4_addShip_96 rfl ?_
          refine rm_get C0 hin 0 (by decide) (by decide +kernel) (v := .int (nI ns)) (congrArg (fun z => some (Value.int z)) e0) dX4_addShip_97 ?_
          refine vl_iconst (v := 1) C0 dX4_addShip_100 (by decide) ?_
          refine vl_iadd C0 dX4_addShip_101 ?_
          refine rm_put C0 hin 0 (by decide) (by decide +kernel) rfl rfl (mw_put0 _) dX4_addShip_102 ?_
          refine vl_aload_n C0 dX4_addShip_105 0 rfl ?_
          refine rm_get C0 hin 0 (by decide) (by decide +kernel) (v := .int ((nI ns) + (1))) (rfl) dX4_addShip_106 ?_
          refine vl_iconst (v := 1) C0 dX4_addShip_109 (by decide) ?_
          refine vl_isub C0 dX4_addShip_110 ?_
          exact vl_iret C0 hA.symm hr ⟨by (first | (have z9 : ns = 8 := (nI_eq (by omega) (by decide)).mp h49; simp [sp_addShip, g4, g13, g23, z9]) | (have z9 : ¬ ns = 8 := fun q => h49 (by rw [q]; rfl); simp [sp_addShip, g4, g13, g23, z9, Int32.add_sub_cancel]) | simp [sp_addShip, g4, g13, g23]), by (first | (have z9 : ns = 8 := (nI_eq (by omega) (by decide)).mp h49; simp [sp_addShip, g4, g13, g23, z9]) | (have z9 : ¬ ns = 8 := fun q => h49 (by rw [q]; rfl); simp [sp_addShip, g4, g13, g23, z9, Int32.add_sub_cancel]) | simp [sp_addShip, g4, g13, g23])⟩ (Nat.le_of_ble_eq_true rfl) (Nat.le_of_ble_eq_true rfl) dX4_addShip_111
        · refine vl_iconst (v := 2) C0 dX4_addShip_52 (by decide) ?_
          refine vl_goto (tgt := 57) C0 dX4_addShip_53 (by decide) ?_
          refine vl_calli C0 (vl_goV C0 (As := [.int 2]) (na := 1) (b := ad 0) (st := []) (ci := 4) gX4_addShip_X4_fails rfl rfl rfl (by decide +kernel) ⟨Nat.le_of_ble_eq_true rfl, Nat.le_of_ble_eq_true rfl⟩ rfl ⟨0, _, rfl⟩ dX4_addShip_57 (Nat.le_of_ble_eq_true rfl) ⟨Nat.le_of_ble_eq_true rfl, Nat.le_of_ble_eq_true rfl⟩ rfl rfl) (c_X4_fails hl0 2) (k2 := 0) (n2 := 0) (Nat.le_of_ble_eq_true rfl) (Nat.le_of_ble_eq_true rfl) (fun r9 w9 hp9 => ?_)
          obtain ⟨hr9, rfl⟩ := hp9
          have hr9 : r9 = 1 := hr9.trans (by decide)
          subst hr9
          refine vl_if_eq (tgt := 65) C0 dX4_addShip_60 (by decide) (fun (h60 : (1 : Int32) = (0 : Int32)) => absurd h60 (by decide)) (fun (h60 : ¬ (1 : Int32) = (0 : Int32)) => ?_)
          refine vl_iconst (v := 0) C0 dX4_addShip_63 (by decide) ?_
          exact vl_iret C0 hA.symm hr ⟨by (first | (have z9 : ns = 8 := (nI_eq (by omega) (by decide)).mp h49; simp [sp_addShip, g4, g13, g23, z9]) | (have z9 : ¬ ns = 8 := fun q => h49 (by rw [q]; rfl); simp [sp_addShip, g4, g13, g23, z9, Int32.add_sub_cancel]) | simp [sp_addShip, g4, g13, g23]), by (first | (have z9 : ns = 8 := (nI_eq (by omega) (by decide)).mp h49; simp [sp_addShip, g4, g13, g23, z9]) | (have z9 : ¬ ns = 8 := fun q => h49 (by rw [q]; rfl); simp [sp_addShip, g4, g13, g23, z9, Int32.add_sub_cancel]) | simp [sp_addShip, g4, g13, g23])⟩ (Nat.le_of_ble_eq_true rfl) (Nat.le_of_ble_eq_true rfl) dX4_addShip_64
set_option maxHeartbeats 4000000 in
set_option maxRecDepth 100000 in
theorem c_X4_setRate {l : Launch} {D : va_G} {cy : Nat → ClassId} {ad : Nat → Nat} {mm : Nat → Nat → Int32} {X : va_W} (hl0 : l.stackTraces = false) (b t : Int32)  : vl_Ki l D cy yX4_setRate wsX4_setRate { frames := 2, cells := 0, slots := 0, locals := 42 } 0 0 (mw cy ad mm ++ X) [.ref (ad 0), .int b, .int t] (fun r w' => r = (sp_setRate mm b t).1 ∧ w' = mw cy ad (sp_setRate mm b t).2 ++ X) := by
  refine vl_openi hl0 (by decide) rfl (Nat.le_of_ble_eq_true rfl) rfl ?_
  intro p e s m args below meth c C0 hr hnm
  generalize hA : va_A (mw cy ad mm ++ X) s.heap.size = A at C0 ⊢
  refine vl_lv (lv2 := [(0, .ref (ad 0)), (1, .int b), (2, .int t)]) [0, 1, 2] rfl ?_
  have hin : ∀ x ∈ u_ws RX4 TX4 18, x ∈ wsX4_setRate := by decide +kernel
  refine vl_iload_n C0 dX4_setRate_0 1 rfl ?_
  refine vl_calli C0 (vl_goS C0 (As := [.int b]) (na := 1) (st := []) gX4_setRate_X4_isBerth rfl rfl rfl (by decide +kernel) ⟨Nat.le_of_ble_eq_true rfl, Nat.le_of_ble_eq_true rfl⟩ dX4_setRate_1 (Nat.le_of_ble_eq_true rfl) ⟨Nat.le_of_ble_eq_true rfl, Nat.le_of_ble_eq_true rfl⟩ rfl rfl) (c_X4_isBerth hl0 b) (k2 := 0) (n2 := 0) (Nat.le_of_ble_eq_true rfl) (Nat.le_of_ble_eq_true rfl) (fun r9 w9 hp9 => ?_)
  obtain ⟨rfl, rfl⟩ := hp9
  refine vl_istore_n (lv' := [(0, .ref (ad 0)), (1, .int b), (2, .int t), (3, .int (bI (inB b 0 2)))]) C0 dX4_setRate_4 [1, 2, 3, 0] (by decide) rfl ?_
  refine vl_aload_n C0 dX4_setRate_5 0 rfl ?_
  refine vl_iload_n C0 dX4_setRate_6 3 rfl ?_
  refine vl_if_ne (tgt := 14) C0 dX4_setRate_7 (by decide) (fun (h7 : ¬ (bI (inB b 0 2) : Int32) = (0 : Int32)) => ?_) (fun (h7 : (bI (inB b 0 2) : Int32) = (0 : Int32)) => ?_)
  · have g7 := bI_n.mp h7
    refine vl_iload_n C0 dX4_setRate_14 2 rfl ?_
    refine vl_iconst (v := 0) C0 dX4_setRate_15 (by decide) ?_
    refine vl_bipush (v := 20) C0 dX4_setRate_16 (by decide) ?_
    refine vl_calli C0 (vl_goS C0 (As := [.int t, .int 0, .int 20]) (na := 3) (st := [.ref (ad 0)]) gX4_setRate_X4_isIn rfl rfl rfl (by decide +kernel) ⟨Nat.le_of_ble_eq_true rfl, Nat.le_of_ble_eq_true rfl⟩ dX4_setRate_18 (Nat.le_of_ble_eq_true rfl) ⟨Nat.le_of_ble_eq_true rfl, Nat.le_of_ble_eq_true rfl⟩ rfl rfl) (c_X4_isIn hl0 t 0 20) (k2 := 0) (n2 := 0) (Nat.le_of_ble_eq_true rfl) (Nat.le_of_ble_eq_true rfl) (fun r9 w9 hp9 => ?_)
    obtain ⟨rfl, rfl⟩ := hp9
    refine vl_if_eq (tgt := 28) C0 dX4_setRate_21 (by decide) (fun (h21 : (bI (inB t 0 20) : Int32) = (0 : Int32)) => ?_) (fun (h21 : ¬ (bI (inB t 0 20) : Int32) = (0 : Int32)) => ?_)
    · have g21 := bI_0.mp h21
      refine vl_iconst (v := 2) C0 dX4_setRate_28 (by decide) ?_
      refine vl_calli C0 (vl_goV C0 (As := [.int 2]) (na := 1) (b := ad 0) (st := []) (ci := 4) gX4_setRate_X4_fails rfl rfl rfl (by decide +kernel) ⟨Nat.le_of_ble_eq_true rfl, Nat.le_of_ble_eq_true rfl⟩ rfl ⟨0, _, rfl⟩ dX4_setRate_29 (Nat.le_of_ble_eq_true rfl) ⟨Nat.le_of_ble_eq_true rfl, Nat.le_of_ble_eq_true rfl⟩ rfl rfl) (c_X4_fails hl0 2) (k2 := 0) (n2 := 0) (Nat.le_of_ble_eq_true rfl) (Nat.le_of_ble_eq_true rfl) (fun r9 w9 hp9 => ?_)
      obtain ⟨hr9, rfl⟩ := hp9
      have hr9 : r9 = 1 := hr9.trans (by decide)
      subst hr9
      refine vl_if_eq (tgt := 37) C0 dX4_setRate_32 (by decide) (fun (h32 : (1 : Int32) = (0 : Int32)) => absurd h32 (by decide)) (fun (h32 : ¬ (1 : Int32) = (0 : Int32)) => ?_)
      refine vl_iconst (v := 0) C0 dX4_setRate_35 (by decide) ?_
      exact vl_iret C0 hA.symm hr ⟨by simp [sp_setRate, g7, g21], by simp [sp_setRate, g7, g21]⟩ (Nat.le_of_ble_eq_true rfl) (Nat.le_of_ble_eq_true rfl) dX4_setRate_36
    · have g21 := bI_n.mp h21
      refine vl_iconst (v := 0) C0 dX4_setRate_24 (by decide) ?_
      refine vl_goto (tgt := 29) C0 dX4_setRate_25 (by decide) ?_
      refine vl_calli C0 (vl_goV C0 (As := [.int 0]) (na := 1) (b := ad 0) (st := []) (ci := 4) gX4_setRate_X4_fails rfl rfl rfl (by decide +kernel) ⟨Nat.le_of_ble_eq_true rfl, Nat.le_of_ble_eq_true rfl⟩ rfl ⟨0, _, rfl⟩ dX4_setRate_29 (Nat.le_of_ble_eq_true rfl) ⟨Nat.le_of_ble_eq_true rfl, Nat.le_of_ble_eq_true rfl⟩ rfl rfl) (c_X4_fails hl0 0) (k2 := 0) (n2 := 0) (Nat.le_of_ble_eq_true rfl) (Nat.le_of_ble_eq_true rfl) (fun r9 w9 hp9 => ?_)
      obtain ⟨hr9, rfl⟩ := hp9
      have hr9 : r9 = 0 := hr9.trans (by decide)
      subst hr9
      refine vl_if_eq (tgt := 37) C0 dX4_setRate_32 (by decide) (fun (h32 : (0 : Int32) = (0 : Int32)) => ?_) (fun (h32 : ¬ (0 : Int32) = (0 : Int32)) => absurd h32 (by decide))
      refine vl_aload_n C0 dX4_setRate_37 0 rfl ?_
      refine rm_get C0 hin 4 (by decide) (by decide +kernel) rfl dX4_setRate_38 ?_
      refine vl_iload_n C0 dX4_setRate_41 1 rfl ?_
      refine rm_iald C0 4 4 3 rfl (inB_vp g7 (by decide)) (kn := (b).toNatClampNeg) (rfl) (v := mm 4 ((b).toNatClampNeg)) (rfl) dX4_setRate_42 ?_
      refine vl_istore (lv' := [(0, .ref (ad 0)), (1, .int b), (2, .int t), (3, .int (bI (inB b 0 2))), (4, .int (mm 4 ((b).toNatClampNeg)))]) C0 dX4_setRate_43 [1, 2, 3, 4, 0] (by decide) rfl ?_
      refine vl_aload_n C0 dX4_setRate_45 0 rfl ?_
      refine rm_get C0 hin 4 (by decide) (by decide +kernel) rfl dX4_setRate_46 ?_
      refine vl_iload_n C0 dX4_setRate_49 1 rfl ?_
      refine vl_iload_n C0 dX4_setRate_50 2 rfl ?_
      refine rm_iast C0 4 4 3 rfl (mw_st4 _ _) (inB_vp g7 (by decide)) (kn := (b).toNatClampNeg) (rfl) dX4_setRate_51 ?_
      refine vl_iload C0 dX4_setRate_52 4 rfl ?_
      exact vl_iret C0 hA.symm hr ⟨by simp [sp_setRate, g7, g21], by simp [sp_setRate, g7, g21]⟩ (Nat.le_of_ble_eq_true rfl) (Nat.le_of_ble_eq_true rfl) dX4_setRate_54
  · have g7 := bI_0.mp h7
    refine vl_iconst (v := 1) C0 dX4_setRate_10 (by decide) ?_
    refine vl_goto (tgt := 29) C0 dX4_setRate_11 (by decide) ?_
    refine vl_calli C0 (vl_goV C0 (As := [.int 1]) (na := 1) (b := ad 0) (st := []) (ci := 4) gX4_setRate_X4_fails rfl rfl rfl (by decide +kernel) ⟨Nat.le_of_ble_eq_true rfl, Nat.le_of_ble_eq_true rfl⟩ rfl ⟨0, _, rfl⟩ dX4_setRate_29 (Nat.le_of_ble_eq_true rfl) ⟨Nat.le_of_ble_eq_true rfl, Nat.le_of_ble_eq_true rfl⟩ rfl rfl) (c_X4_fails hl0 1) (k2 := 0) (n2 := 0) (Nat.le_of_ble_eq_true rfl) (Nat.le_of_ble_eq_true rfl) (fun r9 w9 hp9 => ?_)
    obtain ⟨hr9, rfl⟩ := hp9
    have hr9 : r9 = 1 := hr9.trans (by decide)
    subst hr9
    refine vl_if_eq (tgt := 37) C0 dX4_setRate_32 (by decide) (fun (h32 : (1 : Int32) = (0 : Int32)) => absurd h32 (by decide)) (fun (h32 : ¬ (1 : Int32) = (0 : Int32)) => ?_)
    refine vl_iconst (v := 0) C0 dX4_setRate_35 (by decide) ?_
    exact vl_iret C0 hA.symm hr ⟨by simp [sp_setRate, g7], by simp [sp_setRate, g7]⟩ (Nat.le_of_ble_eq_true rfl) (Nat.le_of_ble_eq_true rfl) dX4_setRate_36
end VM2
end
section
section VM3
theorem inB_n {n N : Nat} {v : Int32} (h1 : 1 ≤ n) (hn : n ≤ N) (hN : N < 2 ^ 31) (h : inB v 0 (nI n - 1) = true) : vp_in v N := by
  obtain ⟨j, hj, rfl⟩ := inB_nI h1 (by omega) h
  exact vp_in_nI (by omega) hN
theorem inB_pl {n : Nat} {a t : Int32} (h1 : 1 ≤ n) (hn : n ≤ 9) (h : inB a 0 (nI n - 1) = true) (ht : inB t 0 29 = true) : vp_in (30 * a + t) 270 := by
  obtain ⟨j, hj, rfl⟩ := inB_nI h1 (by omega) h
  obtain ⟨k, hk, rfl⟩ := inB_k ht (by decide) (n := 30) (by decide)
  rw [nI_pl]
  exact vp_in_nI (by omega) (by decide)
set_option maxHeartbeats 4000000 in
set_option maxRecDepth 100000 in
theorem c_X4_setRules {l : Launch} {D : va_G} {cy : Nat → ClassId} {ad : Nat → Nat} {mm : Nat → Nat → Int32} {X : va_W} (hl0 : l.stackTraces = false) (a b : Int32)  : vl_Kv l D cy yX4_setRules wsX4_setRules { frames := 1, cells := 0, slots := 0, locals := 22 } 0 0 (mw cy ad mm ++ X) [.ref (ad 0), .int a, .int b] (fun w' => w' = mw cy ad (sp_setRules mm a b) ++ X) := by
  refine vl_openv hl0 (by decide) rfl (Nat.le_of_ble_eq_true rfl) rfl ?_
  intro p e s m args below meth c C0 hr hnm
  generalize hA : va_A (mw cy ad mm ++ X) s.heap.size = A at C0 ⊢
  refine vl_lv (lv2 := [(0, .ref (ad 0)), (1, .int a), (2, .int b)]) [0, 1, 2] rfl ?_
  have hin : ∀ x ∈ u_ws RX4 TX4 18, x ∈ wsX4_setRules := by decide +kernel
  refine vl_aload_n C0 dX4_setRules_0 0 rfl ?_
  refine vl_iload_n C0 dX4_setRules_1 1 rfl ?_
  refine vl_iconst (v := 0) C0 dX4_setRules_2 (by decide) ?_
  refine vl_bipush (v := 100) C0 dX4_setRules_3 (by decide) ?_
  refine vl_calli C0 (vl_goS C0 (As := [.int a, .int 0, .int 100]) (na := 3) (st := [.ref (ad 0)]) gX4_setRules_X4_isIn rfl rfl rfl (by decide +kernel) ⟨Nat.le_of_ble_eq_true rfl, Nat.le_of_ble_eq_true rfl⟩ dX4_setRules_5 (Nat.le_of_ble_eq_true rfl) ⟨Nat.le_of_ble_eq_true rfl, Nat.le_of_ble_eq_true rfl⟩ rfl rfl) (c_X4_isIn hl0 a 0 100) (k2 := 0) (n2 := 0) (Nat.le_of_ble_eq_true rfl) (Nat.le_of_ble_eq_true rfl) (fun r9 w9 hp9 => ?_)
  obtain ⟨rfl, rfl⟩ := hp9
  refine vl_if_eq (tgt := 25) C0 dX4_setRules_8 (by decide) (fun (h8 : (bI (inB a 0 100) : Int32) = (0 : Int32)) => ?_) (fun (h8 : ¬ (bI (inB a 0 100) : Int32) = (0 : Int32)) => ?_)
  · have g8 := bI_0.mp h8
    refine vl_iconst (v := 1) C0 dX4_setRules_25 (by decide) ?_
    refine vl_calli C0 (vl_goV C0 (As := [.int 1]) (na := 1) (b := ad 0) (st := []) (ci := 4) gX4_setRules_X4_fails rfl rfl rfl (by decide +kernel) ⟨Nat.le_of_ble_eq_true rfl, Nat.le_of_ble_eq_true rfl⟩ rfl ⟨0, _, rfl⟩ dX4_setRules_26 (Nat.le_of_ble_eq_true rfl) ⟨Nat.le_of_ble_eq_true rfl, Nat.le_of_ble_eq_true rfl⟩ rfl rfl) (c_X4_fails hl0 1) (k2 := 0) (n2 := 0) (Nat.le_of_ble_eq_true rfl) (Nat.le_of_ble_eq_true rfl) (fun r9 w9 hp9 => ?_)
    obtain ⟨hr9, rfl⟩ := hp9
    have hr9 : r9 = 1 := hr9.trans (by decide)
    subst hr9
    refine vl_if_ne (tgt := 42) C0 dX4_setRules_29 (by decide) (fun (h29 : ¬ (1 : Int32) = (0 : Int32)) => ?_) (fun (h29 : (1 : Int32) = (0 : Int32)) => absurd h29 (by decide))
    exact vl_vret C0 hA.symm hr (by simp [sp_setRules, g8]) (Nat.le_of_ble_eq_true rfl) (Nat.le_of_ble_eq_true rfl) dX4_setRules_42
  · have g8 := bI_n.mp h8
    refine vl_iload_n C0 dX4_setRules_11 2 rfl ?_
    refine vl_iconst (v := 0) C0 dX4_setRules_12 (by decide) ?_
    refine vl_bipush (v := 100) C0 dX4_setRules_13 (by decide) ?_
    refine vl_calli C0 (vl_goS C0 (As := [.int b, .int 0, .int 100]) (na := 3) (st := [.ref (ad 0)]) gX4_setRules_X4_isIn rfl rfl rfl (by decide +kernel) ⟨Nat.le_of_ble_eq_true rfl, Nat.le_of_ble_eq_true rfl⟩ dX4_setRules_15 (Nat.le_of_ble_eq_true rfl) ⟨Nat.le_of_ble_eq_true rfl, Nat.le_of_ble_eq_true rfl⟩ rfl rfl) (c_X4_isIn hl0 b 0 100) (k2 := 0) (n2 := 0) (Nat.le_of_ble_eq_true rfl) (Nat.le_of_ble_eq_true rfl) (fun r9 w9 hp9 => ?_)
    obtain ⟨rfl, rfl⟩ := hp9
    refine vl_if_eq (tgt := 25) C0 dX4_setRules_18 (by decide) (fun (h18 : (bI (inB b 0 100) : Int32) = (0 : Int32)) => ?_) (fun (h18 : ¬ (bI (inB b 0 100) : Int32) = (0 : Int32)) => ?_)
    · have g18 := bI_0.mp h18
      refine vl_iconst (v := 1) C0 dX4_setRules_25 (by decide) ?_
      refine vl_calli C0 (vl_goV C0 (As := [.int 1]) (na := 1) (b := ad 0) (st := []) (ci := 4) gX4_setRules_X4_fails rfl rfl rfl (by decide +kernel) ⟨Nat.le_of_ble_eq_true rfl, Nat.le_of_ble_eq_true rfl⟩ rfl ⟨0, _, rfl⟩ dX4_setRules_26 (Nat.le_of_ble_eq_true rfl) ⟨Nat.le_of_ble_eq_true rfl, Nat.le_of_ble_eq_true rfl⟩ rfl rfl) (c_X4_fails hl0 1) (k2 := 0) (n2 := 0) (Nat.le_of_ble_eq_true rfl) (Nat.le_of_ble_eq_true rfl) (fun r9 w9 hp9 => ?_)
      obtain ⟨hr9, rfl⟩ := hp9
      have hr9 : r9 = 1 := hr9.trans (by decide)
      subst hr9
      refine vl_if_ne (tgt := 42) C0 dX4_setRules_29 (by decide) (fun (h29 : ¬ (1 : Int32) = (0 : Int32)) => ?_) (fun (h29 : (1 : Int32) = (0 : Int32)) => absurd h29 (by decide))
      exact vl_vret C0 hA.symm hr (by simp [sp_setRules, g8, g18]) (Nat.le_of_ble_eq_true rfl) (Nat.le_of_ble_eq_true rfl) dX4_setRules_42
    · have g18 := bI_n.mp h18
      refine vl_iconst (v := 0) C0 dX4_setRules_21 (by decide) ?_
      refine vl_goto (tgt := 26) C0 dX4_setRules_22 (by decide) ?_
      refine vl_calli C0 (vl_goV C0 (As := [.int 0]) (na := 1) (b := ad 0) (st := []) (ci := 4) gX4_setRules_X4_fails rfl rfl rfl (by decide +kernel) ⟨Nat.le_of_ble_eq_true rfl, Nat.le_of_ble_eq_true rfl⟩ rfl ⟨0, _, rfl⟩ dX4_setRules_26 (Nat.le_of_ble_eq_true rfl) ⟨Nat.le_of_ble_eq_true rfl, Nat.le_of_ble_eq_true rfl⟩ rfl rfl) (c_X4_fails hl0 0) (k2 := 0) (n2 := 0) (Nat.le_of_ble_eq_true rfl) (Nat.le_of_ble_eq_true rfl) (fun r9 w9 hp9 => ?_)
      obtain ⟨hr9, rfl⟩ := hp9
      have hr9 : r9 = 0 := hr9.trans (by decide)
      subst hr9
      refine vl_if_ne (tgt := 42) C0 dX4_setRules_29 (by decide) (fun (h29 : ¬ (0 : Int32) = (0 : Int32)) => absurd h29 (by decide)) (fun (h29 : (0 : Int32) = (0 : Int32)) => ?_)
      refine vl_aload_n C0 dX4_setRules_32 0 rfl ?_
      refine vl_iload_n C0 dX4_setRules_33 1 rfl ?_
      refine rm_put C0 hin 5 (by decide) (by decide +kernel) rfl rfl (mw_put5 _) dX4_setRules_34 ?_
      refine vl_aload_n C0 dX4_setRules_37 0 rfl ?_
      refine vl_iload_n C0 dX4_setRules_38 2 rfl ?_
      refine rm_put C0 hin 6 (by decide) (by decide +kernel) rfl rfl (mw_put6 _) dX4_setRules_39 ?_
      exact vl_vret C0 hA.symm hr (by simp [sp_setRules, g8, g18]) (Nat.le_of_ble_eq_true rfl) (Nat.le_of_ble_eq_true rfl) dX4_setRules_42
set_option maxHeartbeats 4000000 in
set_option maxRecDepth 100000 in
theorem c_X4_fork {l : Launch} {D : va_G} {cy : Nat → ClassId} {ad : Nat → Nat} {mm : Nat → Nat → Int32} {X : va_W} {nl : Nat} (hl0 : l.stackTraces = false) (a t : Int32) (e7 : mm 0 7 = nI nl) (h1 : 1 ≤ nl) (h9 : nl ≤ 9) : vl_Ki l D cy yX4_fork wsX4_fork { frames := 2, cells := 0, slots := 0, locals := 43 } 0 0 (mw cy ad mm ++ X) [.ref (ad 0), .int a, .int t] (fun r w' => r = (sp_fork nl mm a t).1 ∧ w' = mw cy ad (sp_fork nl mm a t).2 ++ X) := by
  refine vl_openi hl0 (by decide) rfl (Nat.le_of_ble_eq_true rfl) rfl ?_
  intro p e s m args below meth c C0 hr hnm
  generalize hA : va_A (mw cy ad mm ++ X) s.heap.size = A at C0 ⊢
  refine vl_lv (lv2 := [(0, .ref (ad 0)), (1, .int a), (2, .int t)]) [0, 1, 2] rfl ?_
  have hin : ∀ x ∈ u_ws RX4 TX4 18, x ∈ wsX4_fork := by decide +kernel
  refine vl_aload_n C0 dX4_fork_0 0 rfl ?_
  refine vl_iload_n C0 dX4_fork_1 1 rfl ?_
  refine vl_calli C0 (vl_goV C0 (As := [.int a]) (na := 1) (b := ad 0) (st := []) (ci := 4) gX4_fork_X4_isLine rfl rfl rfl (by decide +kernel) ⟨Nat.le_of_ble_eq_true rfl, Nat.le_of_ble_eq_true rfl⟩ rfl ⟨0, _, rfl⟩ dX4_fork_2 (Nat.le_of_ble_eq_true rfl) ⟨Nat.le_of_ble_eq_true rfl, Nat.le_of_ble_eq_true rfl⟩ rfl rfl) (c_X4_isLine hl0 a) (k2 := 0) (n2 := 0) (Nat.le_of_ble_eq_true rfl) (Nat.le_of_ble_eq_true rfl) (fun r9 w9 hp9 => ?_)
  obtain ⟨rfl, rfl⟩ := hp9
  rw [e7]
  refine vl_if_eq (tgt := 19) C0 dX4_fork_5 (by decide) (fun (h5 : (bI (inB a 0 (nI nl - 1)) : Int32) = (0 : Int32)) => ?_) (fun (h5 : ¬ (bI (inB a 0 (nI nl - 1)) : Int32) = (0 : Int32)) => ?_)
  · have g5 := bI_0.mp h5
    refine vl_iconst (v := 0) C0 dX4_fork_19 (by decide) ?_
    refine vl_istore_n (lv' := [(0, .ref (ad 0)), (1, .int a), (2, .int t), (3, .int 0)]) C0 dX4_fork_20 [1, 2, 3, 0] (by decide) rfl ?_
    refine vl_aload_n C0 dX4_fork_21 0 rfl ?_
    refine vl_iload_n C0 dX4_fork_22 3 rfl ?_
    refine vl_if_ne (tgt := 30) C0 dX4_fork_23 (by decide) (fun (h23 : ¬ (0 : Int32) = (0 : Int32)) => absurd h23 (by decide)) (fun (h23 : (0 : Int32) = (0 : Int32)) => ?_)
    refine vl_iconst (v := 1) C0 dX4_fork_26 (by decide) ?_
    refine vl_goto (tgt := 44) C0 dX4_fork_27 (by decide) ?_
    refine vl_calli C0 (vl_goV C0 (As := [.int 1]) (na := 1) (b := ad 0) (st := []) (ci := 4) gX4_fork_X4_fails rfl rfl rfl (by decide +kernel) ⟨Nat.le_of_ble_eq_true rfl, Nat.le_of_ble_eq_true rfl⟩ rfl ⟨0, _, rfl⟩ dX4_fork_44 (Nat.le_of_ble_eq_true rfl) ⟨Nat.le_of_ble_eq_true rfl, Nat.le_of_ble_eq_true rfl⟩ rfl rfl) (c_X4_fails hl0 1) (k2 := 0) (n2 := 0) (Nat.le_of_ble_eq_true rfl) (Nat.le_of_ble_eq_true rfl) (fun r9 w9 hp9 => ?_)
    obtain ⟨hr9, rfl⟩ := hp9
    have hr9 : r9 = 1 := hr9.trans (by decide)
    subst hr9
    refine vl_if_eq (tgt := 52) C0 dX4_fork_47 (by decide) (fun (h47 : (1 : Int32) = (0 : Int32)) => absurd h47 (by decide)) (fun (h47 : ¬ (1 : Int32) = (0 : Int32)) => ?_)
    refine vl_iconst (v := 0) C0 dX4_fork_50 (by decide) ?_
    exact vl_iret C0 hA.symm hr ⟨by (first | (have z9 : nl = 9 := (nI_eq (by omega) (by decide)).mp h36; subst z9; simp [sp_fork, g5]) | (have z9 : ¬ nl = 9 := fun q => h36 (by rw [q]; rfl); simp [sp_fork, g5, z9, Int32.add_sub_cancel, up2_o]) | simp [sp_fork, g5]), by (first | (have z9 : nl = 9 := (nI_eq (by omega) (by decide)).mp h36; subst z9; simp [sp_fork, g5]) | (have z9 : ¬ nl = 9 := fun q => h36 (by rw [q]; rfl); simp [sp_fork, g5, z9, Int32.add_sub_cancel, up2_o]) | simp [sp_fork, g5])⟩ (Nat.le_of_ble_eq_true rfl) (Nat.le_of_ble_eq_true rfl) dX4_fork_51
  · have g5 := bI_n.mp h5
    refine vl_iload_n C0 dX4_fork_8 2 rfl ?_
    refine vl_calli C0 (vl_goS C0 (As := [.int t]) (na := 1) (st := []) gX4_fork_X4_isTurn rfl rfl rfl (by decide +kernel) ⟨Nat.le_of_ble_eq_true rfl, Nat.le_of_ble_eq_true rfl⟩ dX4_fork_9 (Nat.le_of_ble_eq_true rfl) ⟨Nat.le_of_ble_eq_true rfl, Nat.le_of_ble_eq_true rfl⟩ rfl rfl) (c_X4_isTurn hl0 t) (k2 := 0) (n2 := 0) (Nat.le_of_ble_eq_true rfl) (Nat.le_of_ble_eq_true rfl) (fun r9 w9 hp9 => ?_)
    obtain ⟨rfl, rfl⟩ := hp9
    refine vl_if_eq (tgt := 19) C0 dX4_fork_12 (by decide) (fun (h12 : (bI (inB t 0 29) : Int32) = (0 : Int32)) => ?_) (fun (h12 : ¬ (bI (inB t 0 29) : Int32) = (0 : Int32)) => ?_)
    · have g12 := bI_0.mp h12
      refine vl_iconst (v := 0) C0 dX4_fork_19 (by decide) ?_
      refine vl_istore_n (lv' := [(0, .ref (ad 0)), (1, .int a), (2, .int t), (3, .int 0)]) C0 dX4_fork_20 [1, 2, 3, 0] (by decide) rfl ?_
      refine vl_aload_n C0 dX4_fork_21 0 rfl ?_
      refine vl_iload_n C0 dX4_fork_22 3 rfl ?_
      refine vl_if_ne (tgt := 30) C0 dX4_fork_23 (by decide) (fun (h23 : ¬ (0 : Int32) = (0 : Int32)) => absurd h23 (by decide)) (fun (h23 : (0 : Int32) = (0 : Int32)) => ?_)
      refine vl_iconst (v := 1) C0 dX4_fork_26 (by decide) ?_
      refine vl_goto (tgt := 44) C0 dX4_fork_27 (by decide) ?_
      refine vl_calli C0 (vl_goV C0 (As := [.int 1]) (na := 1) (b := ad 0) (st := []) (ci := 4) gX4_fork_X4_fails rfl rfl rfl (by decide +kernel) ⟨Nat.le_of_ble_eq_true rfl, Nat.le_of_ble_eq_true rfl⟩ rfl ⟨0, _, rfl⟩ dX4_fork_44 (Nat.le_of_ble_eq_true rfl) ⟨Nat.le_of_ble_eq_true rfl, Nat.le_of_ble_eq_true rfl⟩ rfl rfl) (c_X4_fails hl0 1) (k2 := 0) (n2 := 0) (Nat.le_of_ble_eq_true rfl) (Nat.le_of_ble_eq_true rfl) (fun r9 w9 hp9 => ?_)
      obtain ⟨hr9, rfl⟩ := hp9
      have hr9 : r9 = 1 := hr9.trans (by decide)
      subst hr9
      refine vl_if_eq (tgt := 52) C0 dX4_fork_47 (by decide) (fun (h47 : (1 : Int32) = (0 : Int32)) => absurd h47 (by decide)) (fun (h47 : ¬ (1 : Int32) = (0 : Int32)) => ?_)
      refine vl_iconst (v := 0) C0 dX4_fork_50 (by decide) ?_
      exact vl_iret C0 hA.symm hr ⟨by (first | (have z9 : nl = 9 := (nI_eq (by omega) (by decide)).mp h36; subst z9; simp [sp_fork, g5, g12]) | (have z9 : ¬ nl = 9 := fun q => h36 (by rw [q]; rfl); simp [sp_fork, g5, g12, z9, Int32.add_sub_cancel, up2_o]) | simp [sp_fork, g5, g12]), by (first | (have z9 : nl = 9 := (nI_eq (by omega) (by decide)).mp h36; subst z9; simp [sp_fork, g5, g12]) | (have z9 : ¬ nl = 9 := fun q => h36 (by rw [q]; rfl); simp [sp_fork, g5, g12, z9, Int32.add_sub_cancel, up2_o]) | simp [sp_fork, g5, g12])⟩ (Nat.le_of_ble_eq_true rfl) (Nat.le_of_ble_eq_true rfl) dX4_fork_51
    · have g12 := bI_n.mp h12
      refine vl_iconst (v := 1) C0 dX4_fork_15 (by decide) ?_
      refine vl_goto (tgt := 20) C0 dX4_fork_16 (by decide) ?_
      refine vl_istore_n (lv' := [(0, .ref (ad 0)), (1, .int a), (2, .int t), (3, .int 1)]) C0 dX4_fork_20 [1, 2, 3, 0] (by decide) rfl ?_
      refine vl_aload_n C0 dX4_fork_21 0 rfl ?_
      refine vl_iload_n C0 dX4_fork_22 3 rfl ?_
      refine vl_if_ne (tgt := 30) C0 dX4_fork_23 (by decide) (fun (h23 : ¬ (1 : Int32) = (0 : Int32)) => ?_) (fun (h23 : (1 : Int32) = (0 : Int32)) => absurd h23 (by decide))
      refine vl_aload_n C0 dX4_fork_30 0 rfl ?_
      refine rm_get C0 hin 7 (by decide) (by decide +kernel) (v := .int (nI nl)) (congrArg (fun z => some (Value.int z)) e7) dX4_fork_31 ?_
      refine vl_bipush (v := 9) C0 dX4_fork_34 (by decide) ?_
      refine vl_icmp_ne (tgt := 43) C0 dX4_fork_36 (by decide) (fun (h36 : ¬ (nI nl : Int32) = (9 : Int32)) => ?_) (fun (h36 : (nI nl : Int32) = (9 : Int32)) => ?_)
      · refine vl_iconst (v := 0) C0 dX4_fork_43 (by decide) ?_
        refine vl_calli C0 (vl_goV C0 (As := [.int 0]) (na := 1) (b := ad 0) (st := []) (ci := 4) gX4_fork_X4_fails rfl rfl rfl (by decide +kernel) ⟨Nat.le_of_ble_eq_true rfl, Nat.le_of_ble_eq_true rfl⟩ rfl ⟨0, _, rfl⟩ dX4_fork_44 (Nat.le_of_ble_eq_true rfl) ⟨Nat.le_of_ble_eq_true rfl, Nat.le_of_ble_eq_true rfl⟩ rfl rfl) (c_X4_fails hl0 0) (k2 := 0) (n2 := 0) (Nat.le_of_ble_eq_true rfl) (Nat.le_of_ble_eq_true rfl) (fun r9 w9 hp9 => ?_)
        obtain ⟨hr9, rfl⟩ := hp9
        have hr9 : r9 = 0 := hr9.trans (by decide)
        subst hr9
        refine vl_if_eq (tgt := 52) C0 dX4_fork_47 (by decide) (fun (h47 : (0 : Int32) = (0 : Int32)) => ?_) (fun (h47 : ¬ (0 : Int32) = (0 : Int32)) => absurd h47 (by decide))
        refine vl_aload_n C0 dX4_fork_52 0 rfl ?_
        refine rm_get C0 hin 8 (by decide) (by decide +kernel) rfl dX4_fork_53 ?_
        refine vl_aload_n C0 dX4_fork_56 0 rfl ?_
        refine rm_get C0 hin 7 (by decide) (by decide +kernel) (v := .int (nI nl)) (congrArg (fun z => some (Value.int z)) e7) dX4_fork_57 ?_
        refine vl_iload_n C0 dX4_fork_60 1 rfl ?_
        refine rm_iast C0 8 5 9 rfl (mw_st8 _ _) (vp_in_nI (show nl < 9 by have z : ¬ nl = 9 := fun q => h36 (by rw [q]; rfl); omega) (by decide)) (kn := nl) (nI_clamp (by omega)) dX4_fork_61 ?_
        refine vl_aload_n C0 dX4_fork_62 0 rfl ?_
        refine rm_get C0 hin 9 (by decide) (by decide +kernel) rfl dX4_fork_63 ?_
        refine vl_aload_n C0 dX4_fork_66 0 rfl ?_
        refine rm_get C0 hin 7 (by decide) (by decide +kernel) (v := .int (nI nl)) (congrArg (fun z => some (Value.int z)) e7) dX4_fork_67 ?_
        refine vl_iload_n C0 dX4_fork_70 2 rfl ?_
        refine rm_iast C0 9 6 9 rfl (mw_st9 _ _) (vp_in_nI (show nl < 9 by have z : ¬ nl = 9 := fun q => h36 (by rw [q]; rfl); omega) (by decide)) (kn := nl) (nI_clamp (by omega)) dX4_fork_71 ?_
        refine vl_aload_n C0 dX4_fork_72 0 rfl ?_
        refine rm_get C0 hin 10 (by decide) (by decide +kernel) rfl dX4_fork_73 ?_
        refine vl_aload_n C0 dX4_fork_76 0 rfl ?_
        refine rm_get C0 hin 7 (by decide) (by decide +kernel) (v := .int (nI nl)) (congrArg (fun z => some (Value.int z)) e7) dX4_fork_77 ?_
        refine vl_aload_n C0 dX4_fork_80 0 rfl ?_
        refine rm_get C0 hin 10 (by decide) (by decide +kernel) rfl dX4_fork_81 ?_
        refine vl_iload_n C0 dX4_fork_84 1 rfl ?_
        refine rm_iald C0 10 7 9 rfl (inB_n h1 h9 (by decide) g5) (kn := (a).toNatClampNeg) (rfl) (v := mm 10 ((a).toNatClampNeg)) (rfl) dX4_fork_85 ?_
        refine rm_iast C0 10 7 9 rfl (mw_st10 _ _) (vp_in_nI (show nl < 9 by have z : ¬ nl = 9 := fun q => h36 (by rw [q]; rfl); omega) (by decide)) (kn := nl) (nI_clamp (by omega)) dX4_fork_86 ?_
        refine vl_aload_n C0 dX4_fork_87 0 rfl ?_
        refine vl_dup C0 dX4_fork_88 rfl ?_
        refine rm_get C0 hin 7 (by decide) (by decide +kernel) (v := .int (nI nl)) (congrArg (fun z => some (Value.int z)) e7) dX4_fork_89 ?_
        refine vl_iconst (v := 1) C0 dX4_fork_92 (by decide) ?_
        refine vl_iadd C0 dX4_fork_93 ?_
        refine rm_put C0 hin 7 (by decide) (by decide +kernel) rfl rfl (mw_put7 _) dX4_fork_94 ?_
        refine vl_aload_n C0 dX4_fork_97 0 rfl ?_
        refine rm_get C0 hin 7 (by decide) (by decide +kernel) (v := .int ((nI nl) + (1))) (rfl) dX4_fork_98 ?_
        refine vl_iconst (v := 1) C0 dX4_fork_101 (by decide) ?_
        refine vl_isub C0 dX4_fork_102 ?_
        exact vl_iret C0 hA.symm hr ⟨by (first | (have z9 : nl = 9 := (nI_eq (by omega) (by decide)).mp h36; subst z9; simp [sp_fork, g5, g12]) | (have z9 : ¬ nl = 9 := fun q => h36 (by rw [q]; rfl); simp [sp_fork, g5, g12, z9, Int32.add_sub_cancel, up2_o]) | simp [sp_fork, g5, g12]), by (first | (have z9 : nl = 9 := (nI_eq (by omega) (by decide)).mp h36; subst z9; simp [sp_fork, g5, g12]) | (have z9 : ¬ nl = 9 := fun q => h36 (by rw [q]; rfl); simp [sp_fork, g5, g12, z9, Int32.add_sub_cancel, up2_o]) | simp [sp_fork, g5, g12])⟩ (Nat.le_of_ble_eq_true rfl) (Nat.le_of_ble_eq_true rfl) dX4_fork_103
      · refine vl_iconst (v := 2) C0 dX4_fork_39 (by decide) ?_
        refine vl_goto (tgt := 44) C0 dX4_fork_40 (by decide) ?_
        refine vl_calli C0 (vl_goV C0 (As := [.int 2]) (na := 1) (b := ad 0) (st := []) (ci := 4) gX4_fork_X4_fails rfl rfl rfl (by decide +kernel) ⟨Nat.le_of_ble_eq_true rfl, Nat.le_of_ble_eq_true rfl⟩ rfl ⟨0, _, rfl⟩ dX4_fork_44 (Nat.le_of_ble_eq_true rfl) ⟨Nat.le_of_ble_eq_true rfl, Nat.le_of_ble_eq_true rfl⟩ rfl rfl) (c_X4_fails hl0 2) (k2 := 0) (n2 := 0) (Nat.le_of_ble_eq_true rfl) (Nat.le_of_ble_eq_true rfl) (fun r9 w9 hp9 => ?_)
        obtain ⟨hr9, rfl⟩ := hp9
        have hr9 : r9 = 1 := hr9.trans (by decide)
        subst hr9
        refine vl_if_eq (tgt := 52) C0 dX4_fork_47 (by decide) (fun (h47 : (1 : Int32) = (0 : Int32)) => absurd h47 (by decide)) (fun (h47 : ¬ (1 : Int32) = (0 : Int32)) => ?_)
        refine vl_iconst (v := 0) C0 dX4_fork_50 (by decide) ?_
        exact vl_iret C0 hA.symm hr ⟨by (first | (have z9 : nl = 9 := (nI_eq (by omega) (by decide)).mp h36; subst z9; simp [sp_fork, g5, g12]) | (have z9 : ¬ nl = 9 := fun q => h36 (by rw [q]; rfl); simp [sp_fork, g5, g12, z9, Int32.add_sub_cancel, up2_o]) | simp [sp_fork, g5, g12]), by (first | (have z9 : nl = 9 := (nI_eq (by omega) (by decide)).mp h36; subst z9; simp [sp_fork, g5, g12]) | (have z9 : ¬ nl = 9 := fun q => h36 (by rw [q]; rfl); simp [sp_fork, g5, g12, z9, Int32.add_sub_cancel, up2_o]) | simp [sp_fork, g5, g12])⟩ (Nat.le_of_ble_eq_true rfl) (Nat.le_of_ble_eq_true rfl) dX4_fork_51
set_option maxHeartbeats 4000000 in
set_option maxRecDepth 100000 in
theorem c_X4_hasOwn {l : Launch} {D : va_G} {cy : Nat → ClassId} {ad : Nat → Nat} {mm : Nat → Nat → Int32} {X : va_W} (hl0 : l.stackTraces = false) (a t : Int32) (hp : vp_in (30 * a + t) 270) : vl_Ki l D cy yX4_hasOwn wsX4_hasOwn { frames := 0, cells := 0, slots := 0, locals := 0 } 0 0 (mw cy ad mm ++ X) [.ref (ad 0), .int a, .int t] (fun r w' => r = bI (ownB mm a t) ∧ w' = mw cy ad mm ++ X) := by
  refine vl_openi hl0 (by decide) rfl (Nat.le_of_ble_eq_true rfl) rfl ?_
  intro p e s m args below meth c C0 hr hnm
  generalize hA : va_A (mw cy ad mm ++ X) s.heap.size = A at C0 ⊢
  refine vl_lv (lv2 := [(0, .ref (ad 0)), (1, .int a), (2, .int t)]) [0, 1, 2] rfl ?_
  have hin : ∀ x ∈ u_ws RX4 TX4 18, x ∈ wsX4_hasOwn := by decide +kernel
  refine vl_aload_n C0 dX4_hasOwn_0 0 rfl ?_
  refine rm_get C0 hin 11 (by decide) (by decide +kernel) rfl dX4_hasOwn_1 ?_
  refine vl_bipush (v := 30) C0 dX4_hasOwn_4 (by decide) ?_
  refine vl_iload_n C0 dX4_hasOwn_6 1 rfl ?_
  refine vl_imul C0 dX4_hasOwn_7 ?_
  refine vl_iload_n C0 dX4_hasOwn_8 2 rfl ?_
  refine vl_iadd C0 dX4_hasOwn_9 ?_
  refine rm_iald C0 11 8 270 rfl (hp) (kn := (((30) * (a)) + (t)).toNatClampNeg) (rfl) (v := mm 11 ((((30) * (a)) + (t)).toNatClampNeg)) (rfl) dX4_hasOwn_10 ?_
  refine vl_iconst (v := -1) C0 dX4_hasOwn_11 (by decide) ?_
  refine vl_icmp_eq (tgt := 19) C0 dX4_hasOwn_12 (by decide) (fun (h12 : (mm 11 ((((30) * (a)) + (t)).toNatClampNeg) : Int32) = ((-1) : Int32)) => ?_) (fun (h12 : ¬ (mm 11 ((((30) * (a)) + (t)).toNatClampNeg) : Int32) = ((-1) : Int32)) => ?_)
  · refine vl_iconst (v := 0) C0 dX4_hasOwn_19 (by decide) ?_
    exact vl_zret C0 hA.symm hr rfl ⟨by simp [bI, ownB, h12], rfl⟩ (Nat.le_of_ble_eq_true rfl) (Nat.le_of_ble_eq_true rfl) dX4_hasOwn_20
  · refine vl_iconst (v := 1) C0 dX4_hasOwn_15 (by decide) ?_
    refine vl_goto (tgt := 20) C0 dX4_hasOwn_16 (by decide) ?_
    exact vl_zret C0 hA.symm hr rfl ⟨by simp [bI, ownB, h12], rfl⟩ (Nat.le_of_ble_eq_true rfl) (Nat.le_of_ble_eq_true rfl) dX4_hasOwn_20
set_option maxHeartbeats 4000000 in
set_option maxRecDepth 100000 in
theorem c_X4_removes {l : Launch} {D : va_G} {cy : Nat → ClassId} {ad : Nat → Nat} {mm : Nat → Nat → Int32} {X : va_W} (hl0 : l.stackTraces = false) (a t : Int32) (hp : vp_in (30 * a + t) 270) : vl_Ki l D cy yX4_removes wsX4_removes { frames := 0, cells := 0, slots := 0, locals := 0 } 0 0 (mw cy ad mm ++ X) [.ref (ad 0), .int a, .int t] (fun r w' => r = 1 ∧ w' = mw cy ad (up2 (up2 mm 11 (30 * a + t).toNatClampNeg (-1)) 12 (30 * a + t).toNatClampNeg 0) ++ X) := by
  refine vl_openi hl0 (by decide) rfl (Nat.le_of_ble_eq_true rfl) rfl ?_
  intro p e s m args below meth c C0 hr hnm
  generalize hA : va_A (mw cy ad mm ++ X) s.heap.size = A at C0 ⊢
  refine vl_lv (lv2 := [(0, .ref (ad 0)), (1, .int a), (2, .int t)]) [0, 1, 2] rfl ?_
  have hin : ∀ x ∈ u_ws RX4 TX4 18, x ∈ wsX4_removes := by decide +kernel
  refine vl_aload_n C0 dX4_removes_0 0 rfl ?_
  refine rm_get C0 hin 11 (by decide) (by decide +kernel) rfl dX4_removes_1 ?_
  refine vl_bipush (v := 30) C0 dX4_removes_4 (by decide) ?_
  refine vl_iload_n C0 dX4_removes_6 1 rfl ?_
  refine vl_imul C0 dX4_removes_7 ?_
  refine vl_iload_n C0 dX4_removes_8 2 rfl ?_
  refine vl_iadd C0 dX4_removes_9 ?_
  refine vl_iconst (v := -1) C0 dX4_removes_10 (by decide) ?_
  refine rm_iast C0 11 8 270 rfl (mw_st11 _ _) (hp) (kn := (((30) * (a)) + (t)).toNatClampNeg) (rfl) dX4_removes_11 ?_
  refine vl_aload_n C0 dX4_removes_12 0 rfl ?_
  refine rm_get C0 hin 12 (by decide) (by decide +kernel) rfl dX4_removes_13 ?_
  refine vl_bipush (v := 30) C0 dX4_removes_16 (by decide) ?_
  refine vl_iload_n C0 dX4_removes_18 1 rfl ?_
  refine vl_imul C0 dX4_removes_19 ?_
  refine vl_iload_n C0 dX4_removes_20 2 rfl ?_
  refine vl_iadd C0 dX4_removes_21 ?_
  refine vl_iconst (v := 0) C0 dX4_removes_22 (by decide) ?_
  refine rm_zast C0 (hp) (kn := (((30) * (a)) + (t)).toNatClampNeg) (rfl) dX4_removes_23 ?_
  refine vl_iconst (v := 1) C0 dX4_removes_24 (by decide) ?_
  exact vl_zret C0 hA.symm hr rfl ⟨rfl, rfl⟩ (Nat.le_of_ble_eq_true rfl) (Nat.le_of_ble_eq_true rfl) dX4_removes_25
end VM3
end
section
section VM4
set_option maxHeartbeats 4000000 in
set_option maxRecDepth 100000 in
theorem c_X4_order {l : Launch} {D : va_G} {cy : Nat → ClassId} {ad : Nat → Nat} {mm : Nat → Nat → Int32} {X : va_W} {nl ns : Nat} (hl0 : l.stackTraces = false) (a t k z b : Int32) (e0 : mm 0 0 = nI ns) (h8 : ns ≤ 8) (e7 : mm 0 7 = nI nl) (h1 : 1 ≤ nl) (h9 : nl ≤ 9) : vl_Ki l D cy yX4_order wsX4_order { frames := 2, cells := 0, slots := 0, locals := 43 } 0 0 (mw cy ad mm ++ X) [.ref (ad 0), .int a, .int t, .int k, .int z, .int b] (fun r w' => r = (sp_order nl ns mm a t k z b).1 ∧ w' = mw cy ad (sp_order nl ns mm a t k z b).2 ++ X) := by
  refine vl_openi hl0 (by decide) rfl (Nat.le_of_ble_eq_true rfl) rfl ?_
  intro p e s m args below meth c C0 hr hnm
  generalize hA : va_A (mw cy ad mm ++ X) s.heap.size = A at C0 ⊢
  refine vl_lv (lv2 := [(0, .ref (ad 0)), (1, .int a), (2, .int t), (3, .int k), (4, .int z), (5, .int b)]) [0, 1, 2, 3, 4, 5] rfl ?_
  have hin : ∀ x ∈ u_ws RX4 TX4 18, x ∈ wsX4_order := by decide +kernel
  refine vl_aload_n C0 dX4_order_0 0 rfl ?_
  refine vl_iload_n C0 dX4_order_1 1 rfl ?_
  refine vl_calli C0 (vl_goV C0 (As := [.int a]) (na := 1) (b := ad 0) (st := []) (ci := 4) gX4_order_X4_isLine rfl rfl rfl (by decide +kernel) ⟨Nat.le_of_ble_eq_true rfl, Nat.le_of_ble_eq_true rfl⟩ rfl ⟨0, _, rfl⟩ dX4_order_2 (Nat.le_of_ble_eq_true rfl) ⟨Nat.le_of_ble_eq_true rfl, Nat.le_of_ble_eq_true rfl⟩ rfl rfl) (c_X4_isLine hl0 a) (k2 := 0) (n2 := 0) (Nat.le_of_ble_eq_true rfl) (Nat.le_of_ble_eq_true rfl) (fun r9 w9 hp9 => ?_)
  obtain ⟨rfl, rfl⟩ := hp9
  rw [e7]
  refine vl_if_eq (tgt := 36) C0 dX4_order_5 (by decide) (fun (h5 : (bI (inB a 0 (nI nl - 1)) : Int32) = (0 : Int32)) => ?_) (fun (h5 : ¬ (bI (inB a 0 (nI nl - 1)) : Int32) = (0 : Int32)) => ?_)
  · have g5 := bI_0.mp h5
    refine vl_iconst (v := 0) C0 dX4_order_36 (by decide) ?_
    refine vl_istore (lv' := [(0, .ref (ad 0)), (1, .int a), (2, .int t), (3, .int k), (4, .int z), (5, .int b), (6, .int 0)]) C0 dX4_order_37 [1, 2, 3, 4, 5, 6, 0] (by decide) rfl ?_
    refine vl_aload_n C0 dX4_order_39 0 rfl ?_
    refine vl_iload C0 dX4_order_40 6 rfl ?_
    refine vl_if_ne (tgt := 49) C0 dX4_order_42 (by decide) (fun (h42 : ¬ (0 : Int32) = (0 : Int32)) => absurd h42 (by decide)) (fun (h42 : (0 : Int32) = (0 : Int32)) => ?_)
    refine vl_iconst (v := 1) C0 dX4_order_45 (by decide) ?_
    refine vl_goto (tgt := 77) C0 dX4_order_46 (by decide) ?_
    refine vl_calli C0 (vl_goV C0 (As := [.int 1]) (na := 1) (b := ad 0) (st := []) (ci := 4) gX4_order_X4_fails rfl rfl rfl (by decide +kernel) ⟨Nat.le_of_ble_eq_true rfl, Nat.le_of_ble_eq_true rfl⟩ rfl ⟨0, _, rfl⟩ dX4_order_77 (Nat.le_of_ble_eq_true rfl) ⟨Nat.le_of_ble_eq_true rfl, Nat.le_of_ble_eq_true rfl⟩ rfl rfl) (c_X4_fails hl0 1) (k2 := 0) (n2 := 0) (Nat.le_of_ble_eq_true rfl) (Nat.le_of_ble_eq_true rfl) (fun r9 w9 hp9 => ?_)
    obtain ⟨hr9, rfl⟩ := hp9
    have hr9 : r9 = 1 := hr9.trans (by decide)
    subst hr9
    refine vl_if_eq (tgt := 85) C0 dX4_order_80 (by decide) (fun (h80 : (1 : Int32) = (0 : Int32)) => absurd h80 (by decide)) (fun (h80 : ¬ (1 : Int32) = (0 : Int32)) => ?_)
    refine vl_iconst (v := 0) C0 dX4_order_83 (by decide) ?_
    exact vl_zret C0 hA.symm hr rfl ⟨by (simp [sp_order, codeI, aheadB, bI, ← Int32.not_le, up2_o, g5]), by (simp [sp_order, codeI, aheadB, bI, ← Int32.not_le, up2_o, g5])⟩ (Nat.le_of_ble_eq_true rfl) (Nat.le_of_ble_eq_true rfl) dX4_order_84
  · have g5 := bI_n.mp h5
    refine vl_iload_n C0 dX4_order_8 2 rfl ?_
    refine vl_calli C0 (vl_goS C0 (As := [.int t]) (na := 1) (st := []) gX4_order_X4_isTurn rfl rfl rfl (by decide +kernel) ⟨Nat.le_of_ble_eq_true rfl, Nat.le_of_ble_eq_true rfl⟩ dX4_order_9 (Nat.le_of_ble_eq_true rfl) ⟨Nat.le_of_ble_eq_true rfl, Nat.le_of_ble_eq_true rfl⟩ rfl rfl) (c_X4_isTurn hl0 t) (k2 := 0) (n2 := 0) (Nat.le_of_ble_eq_true rfl) (Nat.le_of_ble_eq_true rfl) (fun r9 w9 hp9 => ?_)
    obtain ⟨rfl, rfl⟩ := hp9
    refine vl_if_eq (tgt := 36) C0 dX4_order_12 (by decide) (fun (h12 : (bI (inB t 0 29) : Int32) = (0 : Int32)) => ?_) (fun (h12 : ¬ (bI (inB t 0 29) : Int32) = (0 : Int32)) => ?_)
    · have g12 := bI_0.mp h12
      refine vl_iconst (v := 0) C0 dX4_order_36 (by decide) ?_
      refine vl_istore (lv' := [(0, .ref (ad 0)), (1, .int a), (2, .int t), (3, .int k), (4, .int z), (5, .int b), (6, .int 0)]) C0 dX4_order_37 [1, 2, 3, 4, 5, 6, 0] (by decide) rfl ?_
      refine vl_aload_n C0 dX4_order_39 0 rfl ?_
      refine vl_iload C0 dX4_order_40 6 rfl ?_
      refine vl_if_ne (tgt := 49) C0 dX4_order_42 (by decide) (fun (h42 : ¬ (0 : Int32) = (0 : Int32)) => absurd h42 (by decide)) (fun (h42 : (0 : Int32) = (0 : Int32)) => ?_)
      refine vl_iconst (v := 1) C0 dX4_order_45 (by decide) ?_
      refine vl_goto (tgt := 77) C0 dX4_order_46 (by decide) ?_
      refine vl_calli C0 (vl_goV C0 (As := [.int 1]) (na := 1) (b := ad 0) (st := []) (ci := 4) gX4_order_X4_fails rfl rfl rfl (by decide +kernel) ⟨Nat.le_of_ble_eq_true rfl, Nat.le_of_ble_eq_true rfl⟩ rfl ⟨0, _, rfl⟩ dX4_order_77 (Nat.le_of_ble_eq_true rfl) ⟨Nat.le_of_ble_eq_true rfl, Nat.le_of_ble_eq_true rfl⟩ rfl rfl) (c_X4_fails hl0 1) (k2 := 0) (n2 := 0) (Nat.le_of_ble_eq_true rfl) (Nat.le_of_ble_eq_true rfl) (fun r9 w9 hp9 => ?_)
      obtain ⟨hr9, rfl⟩ := hp9
      have hr9 : r9 = 1 := hr9.trans (by decide)
      subst hr9
      refine vl_if_eq (tgt := 85) C0 dX4_order_80 (by decide) (fun (h80 : (1 : Int32) = (0 : Int32)) => absurd h80 (by decide)) (fun (h80 : ¬ (1 : Int32) = (0 : Int32)) => ?_)
      refine vl_iconst (v := 0) C0 dX4_order_83 (by decide) ?_
      exact vl_zret C0 hA.symm hr rfl ⟨by (simp [sp_order, codeI, aheadB, bI, ← Int32.not_le, up2_o, g5, g12]), by (simp [sp_order, codeI, aheadB, bI, ← Int32.not_le, up2_o, g5, g12])⟩ (Nat.le_of_ble_eq_true rfl) (Nat.le_of_ble_eq_true rfl) dX4_order_84
    · have g12 := bI_n.mp h12
      refine vl_aload_n C0 dX4_order_15 0 rfl ?_
      refine vl_iload C0 dX4_order_16 4 rfl ?_
      refine vl_calli C0 (vl_goV C0 (As := [.int z]) (na := 1) (b := ad 0) (st := []) (ci := 4) gX4_order_X4_isShip rfl rfl rfl (by decide +kernel) ⟨Nat.le_of_ble_eq_true rfl, Nat.le_of_ble_eq_true rfl⟩ rfl ⟨0, _, rfl⟩ dX4_order_18 (Nat.le_of_ble_eq_true rfl) ⟨Nat.le_of_ble_eq_true rfl, Nat.le_of_ble_eq_true rfl⟩ rfl rfl) (c_X4_isShip hl0 z) (k2 := 0) (n2 := 0) (Nat.le_of_ble_eq_true rfl) (Nat.le_of_ble_eq_true rfl) (fun r9 w9 hp9 => ?_)
      obtain ⟨rfl, rfl⟩ := hp9
      rw [e0]
      refine vl_if_eq (tgt := 36) C0 dX4_order_21 (by decide) (fun (h21 : (bI (inB z 0 (nI ns - 1)) : Int32) = (0 : Int32)) => ?_) (fun (h21 : ¬ (bI (inB z 0 (nI ns - 1)) : Int32) = (0 : Int32)) => ?_)
      · have g21 := bI_0.mp h21
        refine vl_iconst (v := 0) C0 dX4_order_36 (by decide) ?_
        refine vl_istore (lv' := [(0, .ref (ad 0)), (1, .int a), (2, .int t), (3, .int k), (4, .int z), (5, .int b), (6, .int 0)]) C0 dX4_order_37 [1, 2, 3, 4, 5, 6, 0] (by decide) rfl ?_
        refine vl_aload_n C0 dX4_order_39 0 rfl ?_
        refine vl_iload C0 dX4_order_40 6 rfl ?_
        refine vl_if_ne (tgt := 49) C0 dX4_order_42 (by decide) (fun (h42 : ¬ (0 : Int32) = (0 : Int32)) => absurd h42 (by decide)) (fun (h42 : (0 : Int32) = (0 : Int32)) => ?_)
        refine vl_iconst (v := 1) C0 dX4_order_45 (by decide) ?_
        refine vl_goto (tgt := 77) C0 dX4_order_46 (by decide) ?_
        refine vl_calli C0 (vl_goV C0 (As := [.int 1]) (na := 1) (b := ad 0) (st := []) (ci := 4) gX4_order_X4_fails rfl rfl rfl (by decide +kernel) ⟨Nat.le_of_ble_eq_true rfl, Nat.le_of_ble_eq_true rfl⟩ rfl ⟨0, _, rfl⟩ dX4_order_77 (Nat.le_of_ble_eq_true rfl) ⟨Nat.le_of_ble_eq_true rfl, Nat.le_of_ble_eq_true rfl⟩ rfl rfl) (c_X4_fails hl0 1) (k2 := 0) (n2 := 0) (Nat.le_of_ble_eq_true rfl) (Nat.le_of_ble_eq_true rfl) (fun r9 w9 hp9 => ?_)
        obtain ⟨hr9, rfl⟩ := hp9
        have hr9 : r9 = 1 := hr9.trans (by decide)
        subst hr9
        refine vl_if_eq (tgt := 85) C0 dX4_order_80 (by decide) (fun (h80 : (1 : Int32) = (0 : Int32)) => absurd h80 (by decide)) (fun (h80 : ¬ (1 : Int32) = (0 : Int32)) => ?_)
        refine vl_iconst (v := 0) C0 dX4_order_83 (by decide) ?_
        exact vl_zret C0 hA.symm hr rfl ⟨by (simp [sp_order, codeI, aheadB, bI, ← Int32.not_le, up2_o, g5, g12, g21]), by (simp [sp_order, codeI, aheadB, bI, ← Int32.not_le, up2_o, g5, g12, g21])⟩ (Nat.le_of_ble_eq_true rfl) (Nat.le_of_ble_eq_true rfl) dX4_order_84
      · have g21 := bI_n.mp h21
        refine vl_iload C0 dX4_order_24 5 rfl ?_
        refine vl_calli C0 (vl_goS C0 (As := [.int b]) (na := 1) (st := []) gX4_order_X4_isBerth rfl rfl rfl (by decide +kernel) ⟨Nat.le_of_ble_eq_true rfl, Nat.le_of_ble_eq_true rfl⟩ dX4_order_26 (Nat.le_of_ble_eq_true rfl) ⟨Nat.le_of_ble_eq_true rfl, Nat.le_of_ble_eq_true rfl⟩ rfl rfl) (c_X4_isBerth hl0 b) (k2 := 0) (n2 := 0) (Nat.le_of_ble_eq_true rfl) (Nat.le_of_ble_eq_true rfl) (fun r9 w9 hp9 => ?_)
        obtain ⟨rfl, rfl⟩ := hp9
        refine vl_if_eq (tgt := 36) C0 dX4_order_29 (by decide) (fun (h29 : (bI (inB b 0 2) : Int32) = (0 : Int32)) => ?_) (fun (h29 : ¬ (bI (inB b 0 2) : Int32) = (0 : Int32)) => ?_)
        · have g29 := bI_0.mp h29
          refine vl_iconst (v := 0) C0 dX4_order_36 (by decide) ?_
          refine vl_istore (lv' := [(0, .ref (ad 0)), (1, .int a), (2, .int t), (3, .int k), (4, .int z), (5, .int b), (6, .int 0)]) C0 dX4_order_37 [1, 2, 3, 4, 5, 6, 0] (by decide) rfl ?_
          refine vl_aload_n C0 dX4_order_39 0 rfl ?_
          refine vl_iload C0 dX4_order_40 6 rfl ?_
          refine vl_if_ne (tgt := 49) C0 dX4_order_42 (by decide) (fun (h42 : ¬ (0 : Int32) = (0 : Int32)) => absurd h42 (by decide)) (fun (h42 : (0 : Int32) = (0 : Int32)) => ?_)
          refine vl_iconst (v := 1) C0 dX4_order_45 (by decide) ?_
          refine vl_goto (tgt := 77) C0 dX4_order_46 (by decide) ?_
          refine vl_calli C0 (vl_goV C0 (As := [.int 1]) (na := 1) (b := ad 0) (st := []) (ci := 4) gX4_order_X4_fails rfl rfl rfl (by decide +kernel) ⟨Nat.le_of_ble_eq_true rfl, Nat.le_of_ble_eq_true rfl⟩ rfl ⟨0, _, rfl⟩ dX4_order_77 (Nat.le_of_ble_eq_true rfl) ⟨Nat.le_of_ble_eq_true rfl, Nat.le_of_ble_eq_true rfl⟩ rfl rfl) (c_X4_fails hl0 1) (k2 := 0) (n2 := 0) (Nat.le_of_ble_eq_true rfl) (Nat.le_of_ble_eq_true rfl) (fun r9 w9 hp9 => ?_)
          obtain ⟨hr9, rfl⟩ := hp9
          have hr9 : r9 = 1 := hr9.trans (by decide)
          subst hr9
          refine vl_if_eq (tgt := 85) C0 dX4_order_80 (by decide) (fun (h80 : (1 : Int32) = (0 : Int32)) => absurd h80 (by decide)) (fun (h80 : ¬ (1 : Int32) = (0 : Int32)) => ?_)
          refine vl_iconst (v := 0) C0 dX4_order_83 (by decide) ?_
          exact vl_zret C0 hA.symm hr rfl ⟨by (simp [sp_order, codeI, aheadB, bI, ← Int32.not_le, up2_o, g5, g12, g21, g29]), by (simp [sp_order, codeI, aheadB, bI, ← Int32.not_le, up2_o, g5, g12, g21, g29])⟩ (Nat.le_of_ble_eq_true rfl) (Nat.le_of_ble_eq_true rfl) dX4_order_84
        · have g29 := bI_n.mp h29
          refine vl_iconst (v := 1) C0 dX4_order_32 (by decide) ?_
          refine vl_goto (tgt := 37) C0 dX4_order_33 (by decide) ?_
          refine vl_istore (lv' := [(0, .ref (ad 0)), (1, .int a), (2, .int t), (3, .int k), (4, .int z), (5, .int b), (6, .int 1)]) C0 dX4_order_37 [1, 2, 3, 4, 5, 6, 0] (by decide) rfl ?_
          refine vl_aload_n C0 dX4_order_39 0 rfl ?_
          refine vl_iload C0 dX4_order_40 6 rfl ?_
          refine vl_if_ne (tgt := 49) C0 dX4_order_42 (by decide) (fun (h42 : ¬ (1 : Int32) = (0 : Int32)) => ?_) (fun (h42 : (1 : Int32) = (0 : Int32)) => absurd h42 (by decide))
          refine vl_iload_n C0 dX4_order_49 3 rfl ?_
          refine vl_iconst (v := 0) C0 dX4_order_50 (by decide) ?_
          refine vl_iconst (v := 2) C0 dX4_order_51 (by decide) ?_
          refine vl_calli C0 (vl_goS C0 (As := [.int k, .int 0, .int 2]) (na := 3) (st := [.ref (ad 0)]) gX4_order_X4_isIn rfl rfl rfl (by decide +kernel) ⟨Nat.le_of_ble_eq_true rfl, Nat.le_of_ble_eq_true rfl⟩ dX4_order_52 (Nat.le_of_ble_eq_true rfl) ⟨Nat.le_of_ble_eq_true rfl, Nat.le_of_ble_eq_true rfl⟩ rfl rfl) (c_X4_isIn hl0 k 0 2) (k2 := 0) (n2 := 0) (Nat.le_of_ble_eq_true rfl) (Nat.le_of_ble_eq_true rfl) (fun r9 w9 hp9 => ?_)
          obtain ⟨rfl, rfl⟩ := hp9
          refine vl_if_ne (tgt := 62) C0 dX4_order_55 (by decide) (fun (h55 : ¬ (bI (inB k 0 2) : Int32) = (0 : Int32)) => ?_) (fun (h55 : (bI (inB k 0 2) : Int32) = (0 : Int32)) => ?_)
          · have g55 := bI_n.mp h55
            refine vl_iload_n C0 dX4_order_62 2 rfl ?_
            refine vl_aload_n C0 dX4_order_63 0 rfl ?_
            refine rm_get C0 hin 9 (by decide) (by decide +kernel) rfl dX4_order_64 ?_
            refine vl_iload_n C0 dX4_order_67 1 rfl ?_
            refine rm_iald C0 9 6 9 rfl (inB_n h1 h9 (by decide) g5) (kn := (a).toNatClampNeg) (rfl) (v := mm 9 ((a).toNatClampNeg)) (rfl) dX4_order_68 ?_
            refine vl_icmp_ge (tgt := 76) C0 dX4_order_69 (by decide) (fun (h69 : (mm 9 ((a).toNatClampNeg) : Int32) ≤ (t : Int32)) => ?_) (fun (h69 : ¬ (mm 9 ((a).toNatClampNeg) : Int32) ≤ (t : Int32)) => ?_)
            · refine vl_iconst (v := 0) C0 dX4_order_76 (by decide) ?_
              refine vl_calli C0 (vl_goV C0 (As := [.int 0]) (na := 1) (b := ad 0) (st := []) (ci := 4) gX4_order_X4_fails rfl rfl rfl (by decide +kernel) ⟨Nat.le_of_ble_eq_true rfl, Nat.le_of_ble_eq_true rfl⟩ rfl ⟨0, _, rfl⟩ dX4_order_77 (Nat.le_of_ble_eq_true rfl) ⟨Nat.le_of_ble_eq_true rfl, Nat.le_of_ble_eq_true rfl⟩ rfl rfl) (c_X4_fails hl0 0) (k2 := 0) (n2 := 0) (Nat.le_of_ble_eq_true rfl) (Nat.le_of_ble_eq_true rfl) (fun r9 w9 hp9 => ?_)
              obtain ⟨hr9, rfl⟩ := hp9
              have hr9 : r9 = 0 := hr9.trans (by decide)
              subst hr9
              refine vl_if_eq (tgt := 85) C0 dX4_order_80 (by decide) (fun (h80 : (0 : Int32) = (0 : Int32)) => ?_) (fun (h80 : ¬ (0 : Int32) = (0 : Int32)) => absurd h80 (by decide))
              refine vl_bipush (v := 30) C0 dX4_order_85 (by decide) ?_
              refine vl_iload_n C0 dX4_order_87 1 rfl ?_
              refine vl_imul C0 dX4_order_88 ?_
              refine vl_iload_n C0 dX4_order_89 2 rfl ?_
              refine vl_iadd C0 dX4_order_90 ?_
              refine vl_istore (lv' := [(0, .ref (ad 0)), (1, .int a), (2, .int t), (3, .int k), (4, .int z), (5, .int b), (6, .int 1), (7, .int (((30) * (a)) + (t)))]) C0 dX4_order_91 [1, 2, 3, 4, 5, 6, 7, 0] (by decide) rfl ?_
              refine vl_aload_n C0 dX4_order_93 0 rfl ?_
              refine rm_get C0 hin 11 (by decide) (by decide +kernel) rfl dX4_order_94 ?_
              refine vl_iload C0 dX4_order_97 7 rfl ?_
              refine vl_iload_n C0 dX4_order_99 3 rfl ?_
              refine vl_if_ne (tgt := 107) C0 dX4_order_100 (by decide) (fun (h100 : ¬ (k : Int32) = (0 : Int32)) => ?_) (fun (h100 : (k : Int32) = (0 : Int32)) => ?_)
              · refine vl_bipush (v := 100) C0 dX4_order_107 (by decide) ?_
                refine vl_iload_n C0 dX4_order_109 3 rfl ?_
                refine vl_imul C0 dX4_order_110 ?_
                refine vl_bipush (v := 10) C0 dX4_order_111 (by decide) ?_
                refine vl_iload C0 dX4_order_113 4 rfl ?_
                refine vl_imul C0 dX4_order_115 ?_
                refine vl_iadd C0 dX4_order_116 ?_
                refine vl_iload_n C0 dX4_order_117 3 rfl ?_
                refine vl_iconst (v := 1) C0 dX4_order_118 (by decide) ?_
                refine vl_icmp_ne (tgt := 127) C0 dX4_order_119 (by decide) (fun (h119 : ¬ (k : Int32) = (1 : Int32)) => ?_) (fun (h119 : (k : Int32) = (1 : Int32)) => ?_)
                · refine vl_iconst (v := 0) C0 dX4_order_127 (by decide) ?_
                  refine vl_iadd C0 dX4_order_128 ?_
                  refine rm_iast C0 11 8 270 rfl (mw_st11 _ _) (inB_pl h1 h9 g5 g12) (kn := (((30) * (a)) + (t)).toNatClampNeg) (rfl) dX4_order_129 ?_
                  refine vl_aload_n C0 dX4_order_130 0 rfl ?_
                  refine rm_get C0 hin 12 (by decide) (by decide +kernel) rfl dX4_order_131 ?_
                  refine vl_iload C0 dX4_order_134 7 rfl ?_
                  refine vl_iload_n C0 dX4_order_136 1 rfl ?_
                  refine vl_if_le (tgt := 154) C0 dX4_order_137 (by decide) (fun (h137 : (a : Int32) ≤ (0 : Int32)) => ?_) (fun (h137 : ¬ (a : Int32) ≤ (0 : Int32)) => ?_)
                  · refine vl_iconst (v := 0) C0 dX4_order_154 (by decide) ?_
                    refine rm_zast C0 (inB_pl h1 h9 g5 g12) (kn := (((30) * (a)) + (t)).toNatClampNeg) (rfl) dX4_order_155 ?_
                    refine vl_aload_n C0 dX4_order_156 0 rfl ?_
                    refine rm_get C0 hin 12 (by decide) (by decide +kernel) rfl dX4_order_157 ?_
                    refine vl_iload C0 dX4_order_160 7 rfl ?_
                    refine rm_zald C0 (inB_pl h1 h9 g5 g12) (kn := (((30) * (a)) + (t)).toNatClampNeg) (rfl) dX4_order_162 ?_
                    rw [up2_same, vnb0]
                    exact vl_zret C0 hA.symm hr rfl ⟨by (simp [sp_order, codeI, aheadB, bI, ← Int32.not_le, up2_o, g5, g12, g21, g29, g55, h69, h100, h119, h137]), by (simp [sp_order, codeI, aheadB, bI, ← Int32.not_le, up2_o, g5, g12, g21, g29, g55, h69, h100, h119, h137])⟩ (Nat.le_of_ble_eq_true rfl) (Nat.le_of_ble_eq_true rfl) dX4_order_163
                  · refine vl_aload_n C0 dX4_order_140 0 rfl ?_
                    refine rm_get C0 hin 10 (by decide) (by decide +kernel) rfl dX4_order_141 ?_
                    refine vl_iload_n C0 dX4_order_144 1 rfl ?_
                    refine rm_iald C0 10 7 9 rfl (inB_n h1 h9 (by decide) g5) (kn := (a).toNatClampNeg) (rfl) (v := mm 10 ((a).toNatClampNeg)) (rfl) dX4_order_145 ?_
                    refine vl_iload_n C0 dX4_order_146 2 rfl ?_
                    refine vl_icmp_le (tgt := 154) C0 dX4_order_147 (by decide) (fun (h147 : (mm 10 ((a).toNatClampNeg) : Int32) ≤ (t : Int32)) => ?_) (fun (h147 : ¬ (mm 10 ((a).toNatClampNeg) : Int32) ≤ (t : Int32)) => ?_)
                    · refine vl_iconst (v := 0) C0 dX4_order_154 (by decide) ?_
                      refine rm_zast C0 (inB_pl h1 h9 g5 g12) (kn := (((30) * (a)) + (t)).toNatClampNeg) (rfl) dX4_order_155 ?_
                      refine vl_aload_n C0 dX4_order_156 0 rfl ?_
                      refine rm_get C0 hin 12 (by decide) (by decide +kernel) rfl dX4_order_157 ?_
                      refine vl_iload C0 dX4_order_160 7 rfl ?_
                      refine rm_zald C0 (inB_pl h1 h9 g5 g12) (kn := (((30) * (a)) + (t)).toNatClampNeg) (rfl) dX4_order_162 ?_
                      rw [up2_same, vnb0]
                      exact vl_zret C0 hA.symm hr rfl ⟨by (simp [sp_order, codeI, aheadB, bI, ← Int32.not_le, up2_o, g5, g12, g21, g29, g55, h69, h100, h119, h137, h147]), by (simp [sp_order, codeI, aheadB, bI, ← Int32.not_le, up2_o, g5, g12, g21, g29, g55, h69, h100, h119, h137, h147])⟩ (Nat.le_of_ble_eq_true rfl) (Nat.le_of_ble_eq_true rfl) dX4_order_163
                    · refine vl_iconst (v := 1) C0 dX4_order_150 (by decide) ?_
                      refine vl_goto (tgt := 155) C0 dX4_order_151 (by decide) ?_
                      refine rm_zast C0 (inB_pl h1 h9 g5 g12) (kn := (((30) * (a)) + (t)).toNatClampNeg) (rfl) dX4_order_155 ?_
                      refine vl_aload_n C0 dX4_order_156 0 rfl ?_
                      refine rm_get C0 hin 12 (by decide) (by decide +kernel) rfl dX4_order_157 ?_
                      refine vl_iload C0 dX4_order_160 7 rfl ?_
                      refine rm_zald C0 (inB_pl h1 h9 g5 g12) (kn := (((30) * (a)) + (t)).toNatClampNeg) (rfl) dX4_order_162 ?_
                      rw [up2_same, vnb1]
                      exact vl_zret C0 hA.symm hr rfl ⟨by (simp [sp_order, codeI, aheadB, bI, ← Int32.not_le, up2_o, g5, g12, g21, g29, g55, h69, h100, h119, h137, h147]), by (simp [sp_order, codeI, aheadB, bI, ← Int32.not_le, up2_o, g5, g12, g21, g29, g55, h69, h100, h119, h137, h147])⟩ (Nat.le_of_ble_eq_true rfl) (Nat.le_of_ble_eq_true rfl) dX4_order_163
                · refine vl_iload C0 dX4_order_122 5 rfl ?_
                  refine vl_goto (tgt := 128) C0 dX4_order_124 (by decide) ?_
                  refine vl_iadd C0 dX4_order_128 ?_
                  refine rm_iast C0 11 8 270 rfl (mw_st11 _ _) (inB_pl h1 h9 g5 g12) (kn := (((30) * (a)) + (t)).toNatClampNeg) (rfl) dX4_order_129 ?_
                  refine vl_aload_n C0 dX4_order_130 0 rfl ?_
                  refine rm_get C0 hin 12 (by decide) (by decide +kernel) rfl dX4_order_131 ?_
                  refine vl_iload C0 dX4_order_134 7 rfl ?_
                  refine vl_iload_n C0 dX4_order_136 1 rfl ?_
                  refine vl_if_le (tgt := 154) C0 dX4_order_137 (by decide) (fun (h137 : (a : Int32) ≤ (0 : Int32)) => ?_) (fun (h137 : ¬ (a : Int32) ≤ (0 : Int32)) => ?_)
                  · refine vl_iconst (v := 0) C0 dX4_order_154 (by decide) ?_
                    refine rm_zast C0 (inB_pl h1 h9 g5 g12) (kn := (((30) * (a)) + (t)).toNatClampNeg) (rfl) dX4_order_155 ?_
                    refine vl_aload_n C0 dX4_order_156 0 rfl ?_
                    refine rm_get C0 hin 12 (by decide) (by decide +kernel) rfl dX4_order_157 ?_
                    refine vl_iload C0 dX4_order_160 7 rfl ?_
                    refine rm_zald C0 (inB_pl h1 h9 g5 g12) (kn := (((30) * (a)) + (t)).toNatClampNeg) (rfl) dX4_order_162 ?_
                    rw [up2_same, vnb0]
                    exact vl_zret C0 hA.symm hr rfl ⟨by (subst h119; simp [sp_order, codeI, aheadB, bI, ← Int32.not_le, up2_o, g5, g12, g21, g29, g55, h69, h100, h137]), by (subst h119; simp [sp_order, codeI, aheadB, bI, ← Int32.not_le, up2_o, g5, g12, g21, g29, g55, h69, h100, h137])⟩ (Nat.le_of_ble_eq_true rfl) (Nat.le_of_ble_eq_true rfl) dX4_order_163
                  · refine vl_aload_n C0 dX4_order_140 0 rfl ?_
                    refine rm_get C0 hin 10 (by decide) (by decide +kernel) rfl dX4_order_141 ?_
                    refine vl_iload_n C0 dX4_order_144 1 rfl ?_
                    refine rm_iald C0 10 7 9 rfl (inB_n h1 h9 (by decide) g5) (kn := (a).toNatClampNeg) (rfl) (v := mm 10 ((a).toNatClampNeg)) (rfl) dX4_order_145 ?_
                    refine vl_iload_n C0 dX4_order_146 2 rfl ?_
                    refine vl_icmp_le (tgt := 154) C0 dX4_order_147 (by decide) (fun (h147 : (mm 10 ((a).toNatClampNeg) : Int32) ≤ (t : Int32)) => ?_) (fun (h147 : ¬ (mm 10 ((a).toNatClampNeg) : Int32) ≤ (t : Int32)) => ?_)
                    · refine vl_iconst (v := 0) C0 dX4_order_154 (by decide) ?_
                      refine rm_zast C0 (inB_pl h1 h9 g5 g12) (kn := (((30) * (a)) + (t)).toNatClampNeg) (rfl) dX4_order_155 ?_
                      refine vl_aload_n C0 dX4_order_156 0 rfl ?_
                      refine rm_get C0 hin 12 (by decide) (by decide +kernel) rfl dX4_order_157 ?_
                      refine vl_iload C0 dX4_order_160 7 rfl ?_
                      refine rm_zald C0 (inB_pl h1 h9 g5 g12) (kn := (((30) * (a)) + (t)).toNatClampNeg) (rfl) dX4_order_162 ?_
                      rw [up2_same, vnb0]
                      exact vl_zret C0 hA.symm hr rfl ⟨by (subst h119; simp [sp_order, codeI, aheadB, bI, ← Int32.not_le, up2_o, g5, g12, g21, g29, g55, h69, h100, h137, h147]), by (subst h119; simp [sp_order, codeI, aheadB, bI, ← Int32.not_le, up2_o, g5, g12, g21, g29, g55, h69, h100, h137, h147])⟩ (Nat.le_of_ble_eq_true rfl) (Nat.le_of_ble_eq_true rfl) dX4_order_163
                    · refine vl_iconst (v := 1) C0 dX4_order_150 (by decide) ?_
                      refine vl_goto (tgt := 155) C0 dX4_order_151 (by decide) ?_
                      refine rm_zast C0 (inB_pl h1 h9 g5 g12) (kn := (((30) * (a)) + (t)).toNatClampNeg) (rfl) dX4_order_155 ?_
                      refine vl_aload_n C0 dX4_order_156 0 rfl ?_
                      refine rm_get C0 hin 12 (by decide) (by decide +kernel) rfl dX4_order_157 ?_
                      refine vl_iload C0 dX4_order_160 7 rfl ?_
                      refine rm_zald C0 (inB_pl h1 h9 g5 g12) (kn := (((30) * (a)) + (t)).toNatClampNeg) (rfl) dX4_order_162 ?_
                      rw [up2_same, vnb1]
                      exact vl_zret C0 hA.symm hr rfl ⟨by (subst h119; simp [sp_order, codeI, aheadB, bI, ← Int32.not_le, up2_o, g5, g12, g21, g29, g55, h69, h100, h137, h147]), by (subst h119; simp [sp_order, codeI, aheadB, bI, ← Int32.not_le, up2_o, g5, g12, g21, g29, g55, h69, h100, h137, h147])⟩ (Nat.le_of_ble_eq_true rfl) (Nat.le_of_ble_eq_true rfl) dX4_order_163
              · refine vl_iconst (v := 0) C0 dX4_order_103 (by decide) ?_
                refine vl_goto (tgt := 129) C0 dX4_order_104 (by decide) ?_
                refine rm_iast C0 11 8 270 rfl (mw_st11 _ _) (inB_pl h1 h9 g5 g12) (kn := (((30) * (a)) + (t)).toNatClampNeg) (rfl) dX4_order_129 ?_
                refine vl_aload_n C0 dX4_order_130 0 rfl ?_
                refine rm_get C0 hin 12 (by decide) (by decide +kernel) rfl dX4_order_131 ?_
                refine vl_iload C0 dX4_order_134 7 rfl ?_
                refine vl_iload_n C0 dX4_order_136 1 rfl ?_
                refine vl_if_le (tgt := 154) C0 dX4_order_137 (by decide) (fun (h137 : (a : Int32) ≤ (0 : Int32)) => ?_) (fun (h137 : ¬ (a : Int32) ≤ (0 : Int32)) => ?_)
                · refine vl_iconst (v := 0) C0 dX4_order_154 (by decide) ?_
                  refine rm_zast C0 (inB_pl h1 h9 g5 g12) (kn := (((30) * (a)) + (t)).toNatClampNeg) (rfl) dX4_order_155 ?_
                  refine vl_aload_n C0 dX4_order_156 0 rfl ?_
                  refine rm_get C0 hin 12 (by decide) (by decide +kernel) rfl dX4_order_157 ?_
                  refine vl_iload C0 dX4_order_160 7 rfl ?_
                  refine rm_zald C0 (inB_pl h1 h9 g5 g12) (kn := (((30) * (a)) + (t)).toNatClampNeg) (rfl) dX4_order_162 ?_
                  rw [up2_same, vnb0]
                  exact vl_zret C0 hA.symm hr rfl ⟨by (subst h100; simp [sp_order, codeI, aheadB, bI, ← Int32.not_le, up2_o, g5, g12, g21, g29, g55, h69, h137]), by (subst h100; simp [sp_order, codeI, aheadB, bI, ← Int32.not_le, up2_o, g5, g12, g21, g29, g55, h69, h137])⟩ (Nat.le_of_ble_eq_true rfl) (Nat.le_of_ble_eq_true rfl) dX4_order_163
                · refine vl_aload_n C0 dX4_order_140 0 rfl ?_
                  refine rm_get C0 hin 10 (by decide) (by decide +kernel) rfl dX4_order_141 ?_
                  refine vl_iload_n C0 dX4_order_144 1 rfl ?_
                  refine rm_iald C0 10 7 9 rfl (inB_n h1 h9 (by decide) g5) (kn := (a).toNatClampNeg) (rfl) (v := mm 10 ((a).toNatClampNeg)) (rfl) dX4_order_145 ?_
                  refine vl_iload_n C0 dX4_order_146 2 rfl ?_
                  refine vl_icmp_le (tgt := 154) C0 dX4_order_147 (by decide) (fun (h147 : (mm 10 ((a).toNatClampNeg) : Int32) ≤ (t : Int32)) => ?_) (fun (h147 : ¬ (mm 10 ((a).toNatClampNeg) : Int32) ≤ (t : Int32)) => ?_)
                  · refine vl_iconst (v := 0) C0 dX4_order_154 (by decide) ?_
                    refine rm_zast C0 (inB_pl h1 h9 g5 g12) (kn := (((30) * (a)) + (t)).toNatClampNeg) (rfl) dX4_order_155 ?_
                    refine vl_aload_n C0 dX4_order_156 0 rfl ?_
                    refine rm_get C0 hin 12 (by decide) (by decide +kernel) rfl dX4_order_157 ?_
                    refine vl_iload C0 dX4_order_160 7 rfl ?_
                    refine rm_zald C0 (inB_pl h1 h9 g5 g12) (kn := (((30) * (a)) + (t)).toNatClampNeg) (rfl) dX4_order_162 ?_
                    rw [up2_same, vnb0]
                    exact vl_zret C0 hA.symm hr rfl ⟨by (subst h100; simp [sp_order, codeI, aheadB, bI, ← Int32.not_le, up2_o, g5, g12, g21, g29, g55, h69, h137, h147]), by (subst h100; simp [sp_order, codeI, aheadB, bI, ← Int32.not_le, up2_o, g5, g12, g21, g29, g55, h69, h137, h147])⟩ (Nat.le_of_ble_eq_true rfl) (Nat.le_of_ble_eq_true rfl) dX4_order_163
                  · refine vl_iconst (v := 1) C0 dX4_order_150 (by decide) ?_
                    refine vl_goto (tgt := 155) C0 dX4_order_151 (by decide) ?_
                    refine rm_zast C0 (inB_pl h1 h9 g5 g12) (kn := (((30) * (a)) + (t)).toNatClampNeg) (rfl) dX4_order_155 ?_
                    refine vl_aload_n C0 dX4_order_156 0 rfl ?_
                    refine rm_get C0 hin 12 (by decide) (by decide +kernel) rfl dX4_order_157 ?_
                    refine vl_iload C0 dX4_order_160 7 rfl ?_
                    refine rm_zald C0 (inB_pl h1 h9 g5 g12) (kn := (((30) * (a)) + (t)).toNatClampNeg) (rfl) dX4_order_162 ?_
                    rw [up2_same, vnb1]
                    exact vl_zret C0 hA.symm hr rfl ⟨by (subst h100; simp [sp_order, codeI, aheadB, bI, ← Int32.not_le, up2_o, g5, g12, g21, g29, g55, h69, h137, h147]), by (subst h100; simp [sp_order, codeI, aheadB, bI, ← Int32.not_le, up2_o, g5, g12, g21, g29, g55, h69, h137, h147])⟩ (Nat.le_of_ble_eq_true rfl) (Nat.le_of_ble_eq_true rfl) dX4_order_163
            · refine vl_iconst (v := 3) C0 dX4_order_72 (by decide) ?_
              refine vl_goto (tgt := 77) C0 dX4_order_73 (by decide) ?_
              refine vl_calli C0 (vl_goV C0 (As := [.int 3]) (na := 1) (b := ad 0) (st := []) (ci := 4) gX4_order_X4_fails rfl rfl rfl (by decide +kernel) ⟨Nat.le_of_ble_eq_true rfl, Nat.le_of_ble_eq_true rfl⟩ rfl ⟨0, _, rfl⟩ dX4_order_77 (Nat.le_of_ble_eq_true rfl) ⟨Nat.le_of_ble_eq_true rfl, Nat.le_of_ble_eq_true rfl⟩ rfl rfl) (c_X4_fails hl0 3) (k2 := 0) (n2 := 0) (Nat.le_of_ble_eq_true rfl) (Nat.le_of_ble_eq_true rfl) (fun r9 w9 hp9 => ?_)
              obtain ⟨hr9, rfl⟩ := hp9
              have hr9 : r9 = 1 := hr9.trans (by decide)
              subst hr9
              refine vl_if_eq (tgt := 85) C0 dX4_order_80 (by decide) (fun (h80 : (1 : Int32) = (0 : Int32)) => absurd h80 (by decide)) (fun (h80 : ¬ (1 : Int32) = (0 : Int32)) => ?_)
              refine vl_iconst (v := 0) C0 dX4_order_83 (by decide) ?_
              exact vl_zret C0 hA.symm hr rfl ⟨by (simp [sp_order, codeI, aheadB, bI, ← Int32.not_le, up2_o, g5, g12, g21, g29, g55, h69]), by (simp [sp_order, codeI, aheadB, bI, ← Int32.not_le, up2_o, g5, g12, g21, g29, g55, h69])⟩ (Nat.le_of_ble_eq_true rfl) (Nat.le_of_ble_eq_true rfl) dX4_order_84
          · have g55 := bI_0.mp h55
            refine vl_iconst (v := 2) C0 dX4_order_58 (by decide) ?_
            refine vl_goto (tgt := 77) C0 dX4_order_59 (by decide) ?_
            refine vl_calli C0 (vl_goV C0 (As := [.int 2]) (na := 1) (b := ad 0) (st := []) (ci := 4) gX4_order_X4_fails rfl rfl rfl (by decide +kernel) ⟨Nat.le_of_ble_eq_true rfl, Nat.le_of_ble_eq_true rfl⟩ rfl ⟨0, _, rfl⟩ dX4_order_77 (Nat.le_of_ble_eq_true rfl) ⟨Nat.le_of_ble_eq_true rfl, Nat.le_of_ble_eq_true rfl⟩ rfl rfl) (c_X4_fails hl0 2) (k2 := 0) (n2 := 0) (Nat.le_of_ble_eq_true rfl) (Nat.le_of_ble_eq_true rfl) (fun r9 w9 hp9 => ?_)
            obtain ⟨hr9, rfl⟩ := hp9
            have hr9 : r9 = 1 := hr9.trans (by decide)
            subst hr9
            refine vl_if_eq (tgt := 85) C0 dX4_order_80 (by decide) (fun (h80 : (1 : Int32) = (0 : Int32)) => absurd h80 (by decide)) (fun (h80 : ¬ (1 : Int32) = (0 : Int32)) => ?_)
            refine vl_iconst (v := 0) C0 dX4_order_83 (by decide) ?_
            exact vl_zret C0 hA.symm hr rfl ⟨by (simp [sp_order, codeI, aheadB, bI, ← Int32.not_le, up2_o, g5, g12, g21, g29, g55]), by (simp [sp_order, codeI, aheadB, bI, ← Int32.not_le, up2_o, g5, g12, g21, g29, g55])⟩ (Nat.le_of_ble_eq_true rfl) (Nat.le_of_ble_eq_true rfl) dX4_order_84
end VM4
end
section
section VM5
def misB (nl ns : Nat) (a b t : Int32) : Bool := !(inB a 0 (nI nl - 1) && inB b 0 (nI ns - 1) && inB t 0 29)
def sp_seen (nl : Nat) (m : Nat → Nat → Int32) (a : Int32) : Int32 × (Nat → Nat → Int32) := if inB a 0 (nI nl - 1) = false then (0, up2 m 0 17 1) else (m 10 a.toNatClampNeg, up2 m 0 17 0)
set_option maxHeartbeats 4000000 in
set_option maxRecDepth 100000 in
theorem c_X4_takeAway {l : Launch} {D : va_G} {cy : Nat → ClassId} {ad : Nat → Nat} {mm : Nat → Nat → Int32} {X : va_W} {nl : Nat} (hl0 : l.stackTraces = false) (a t : Int32) (e7 : mm 0 7 = nI nl) (h1 : 1 ≤ nl) (h9 : nl ≤ 9) : vl_Ki l D cy yX4_takeAway wsX4_takeAway { frames := 2, cells := 0, slots := 0, locals := 43 } 0 0 (mw cy ad mm ++ X) [.ref (ad 0), .int a, .int t] (fun r w' => r = (sp_takeAway nl mm a t).1 ∧ w' = mw cy ad (sp_takeAway nl mm a t).2 ++ X) := by
  refine vl_openi hl0 (by decide) rfl (Nat.le_of_ble_eq_true rfl) rfl ?_
  intro p e s m args below meth c C0 hr hnm
  generalize hA : va_A (mw cy ad mm ++ X) s.heap.size = A at C0 ⊢
  refine vl_lv (lv2 := [(0, .ref (ad 0)), (1, .int a), (2, .int t)]) [0, 1, 2] rfl ?_
  have hin : ∀ x ∈ u_ws RX4 TX4 18, x ∈ wsX4_takeAway := by decide +kernel
  refine vl_aload_n C0 dX4_takeAway_0 0 rfl ?_
  refine vl_aload_n C0 dX4_takeAway_1 0 rfl ?_
  refine vl_iload_n C0 dX4_takeAway_2 1 rfl ?_
  refine vl_calli C0 (vl_goV C0 (As := [.int a]) (na := 1) (b := ad 0) (st := [.ref (ad 0)]) (ci := 4) gX4_takeAway_X4_isLine rfl rfl rfl (by decide +kernel) ⟨Nat.le_of_ble_eq_true rfl, Nat.le_of_ble_eq_true rfl⟩ rfl ⟨0, _, rfl⟩ dX4_takeAway_3 (Nat.le_of_ble_eq_true rfl) ⟨Nat.le_of_ble_eq_true rfl, Nat.le_of_ble_eq_true rfl⟩ rfl rfl) (c_X4_isLine hl0 a) (k2 := 0) (n2 := 0) (Nat.le_of_ble_eq_true rfl) (Nat.le_of_ble_eq_true rfl) (fun r9 w9 hp9 => ?_)
  obtain ⟨rfl, rfl⟩ := hp9
  rw [e7]
  refine vl_if_eq (tgt := 20) C0 dX4_takeAway_6 (by decide) (fun (h6 : (bI (inB a 0 (nI nl - 1)) : Int32) = (0 : Int32)) => ?_) (fun (h6 : ¬ (bI (inB a 0 (nI nl - 1)) : Int32) = (0 : Int32)) => ?_)
  · have g6 := bI_0.mp h6
    refine vl_iconst (v := 1) C0 dX4_takeAway_20 (by decide) ?_
    refine vl_calli C0 (vl_goV C0 (As := [.int 1]) (na := 1) (b := ad 0) (st := []) (ci := 4) gX4_takeAway_X4_fails rfl rfl rfl (by decide +kernel) ⟨Nat.le_of_ble_eq_true rfl, Nat.le_of_ble_eq_true rfl⟩ rfl ⟨0, _, rfl⟩ dX4_takeAway_21 (Nat.le_of_ble_eq_true rfl) ⟨Nat.le_of_ble_eq_true rfl, Nat.le_of_ble_eq_true rfl⟩ rfl rfl) (c_X4_fails hl0 1) (k2 := 0) (n2 := 0) (Nat.le_of_ble_eq_true rfl) (Nat.le_of_ble_eq_true rfl) (fun r9 w9 hp9 => ?_)
    obtain ⟨hr9, rfl⟩ := hp9
    have hr9 : r9 = 1 := hr9.trans (by decide)
    subst hr9
    refine vl_if_eq (tgt := 29) C0 dX4_takeAway_24 (by decide) (fun (h24 : (1 : Int32) = (0 : Int32)) => absurd h24 (by decide)) (fun (h24 : ¬ (1 : Int32) = (0 : Int32)) => ?_)
    refine vl_iconst (v := 0) C0 dX4_takeAway_27 (by decide) ?_
    exact vl_zret C0 hA.symm hr rfl ⟨by (simp [sp_takeAway, bI, g6]), by (simp [sp_takeAway, bI, g6])⟩ (Nat.le_of_ble_eq_true rfl) (Nat.le_of_ble_eq_true rfl) dX4_takeAway_28
  · have g6 := bI_n.mp h6
    refine vl_iload_n C0 dX4_takeAway_9 2 rfl ?_
    refine vl_calli C0 (vl_goS C0 (As := [.int t]) (na := 1) (st := [.ref (ad 0)]) gX4_takeAway_X4_isTurn rfl rfl rfl (by decide +kernel) ⟨Nat.le_of_ble_eq_true rfl, Nat.le_of_ble_eq_true rfl⟩ dX4_takeAway_10 (Nat.le_of_ble_eq_true rfl) ⟨Nat.le_of_ble_eq_true rfl, Nat.le_of_ble_eq_true rfl⟩ rfl rfl) (c_X4_isTurn hl0 t) (k2 := 0) (n2 := 0) (Nat.le_of_ble_eq_true rfl) (Nat.le_of_ble_eq_true rfl) (fun r9 w9 hp9 => ?_)
    obtain ⟨rfl, rfl⟩ := hp9
    refine vl_if_eq (tgt := 20) C0 dX4_takeAway_13 (by decide) (fun (h13 : (bI (inB t 0 29) : Int32) = (0 : Int32)) => ?_) (fun (h13 : ¬ (bI (inB t 0 29) : Int32) = (0 : Int32)) => ?_)
    · have g13 := bI_0.mp h13
      refine vl_iconst (v := 1) C0 dX4_takeAway_20 (by decide) ?_
      refine vl_calli C0 (vl_goV C0 (As := [.int 1]) (na := 1) (b := ad 0) (st := []) (ci := 4) gX4_takeAway_X4_fails rfl rfl rfl (by decide +kernel) ⟨Nat.le_of_ble_eq_true rfl, Nat.le_of_ble_eq_true rfl⟩ rfl ⟨0, _, rfl⟩ dX4_takeAway_21 (Nat.le_of_ble_eq_true rfl) ⟨Nat.le_of_ble_eq_true rfl, Nat.le_of_ble_eq_true rfl⟩ rfl rfl) (c_X4_fails hl0 1) (k2 := 0) (n2 := 0) (Nat.le_of_ble_eq_true rfl) (Nat.le_of_ble_eq_true rfl) (fun r9 w9 hp9 => ?_)
      obtain ⟨hr9, rfl⟩ := hp9
      have hr9 : r9 = 1 := hr9.trans (by decide)
      subst hr9
      refine vl_if_eq (tgt := 29) C0 dX4_takeAway_24 (by decide) (fun (h24 : (1 : Int32) = (0 : Int32)) => absurd h24 (by decide)) (fun (h24 : ¬ (1 : Int32) = (0 : Int32)) => ?_)
      refine vl_iconst (v := 0) C0 dX4_takeAway_27 (by decide) ?_
      exact vl_zret C0 hA.symm hr rfl ⟨by (simp [sp_takeAway, bI, g6, g13]), by (simp [sp_takeAway, bI, g6, g13])⟩ (Nat.le_of_ble_eq_true rfl) (Nat.le_of_ble_eq_true rfl) dX4_takeAway_28
    · have g13 := bI_n.mp h13
      refine vl_iconst (v := 0) C0 dX4_takeAway_16 (by decide) ?_
      refine vl_goto (tgt := 21) C0 dX4_takeAway_17 (by decide) ?_
      refine vl_calli C0 (vl_goV C0 (As := [.int 0]) (na := 1) (b := ad 0) (st := []) (ci := 4) gX4_takeAway_X4_fails rfl rfl rfl (by decide +kernel) ⟨Nat.le_of_ble_eq_true rfl, Nat.le_of_ble_eq_true rfl⟩ rfl ⟨0, _, rfl⟩ dX4_takeAway_21 (Nat.le_of_ble_eq_true rfl) ⟨Nat.le_of_ble_eq_true rfl, Nat.le_of_ble_eq_true rfl⟩ rfl rfl) (c_X4_fails hl0 0) (k2 := 0) (n2 := 0) (Nat.le_of_ble_eq_true rfl) (Nat.le_of_ble_eq_true rfl) (fun r9 w9 hp9 => ?_)
      obtain ⟨hr9, rfl⟩ := hp9
      have hr9 : r9 = 0 := hr9.trans (by decide)
      subst hr9
      refine vl_if_eq (tgt := 29) C0 dX4_takeAway_24 (by decide) (fun (h24 : (0 : Int32) = (0 : Int32)) => ?_) (fun (h24 : ¬ (0 : Int32) = (0 : Int32)) => absurd h24 (by decide))
      refine vl_aload_n C0 dX4_takeAway_29 0 rfl ?_
      refine vl_iload_n C0 dX4_takeAway_30 1 rfl ?_
      refine vl_iload_n C0 dX4_takeAway_31 2 rfl ?_
      refine vl_calli C0 (vl_goV C0 (As := [.int a, .int t]) (na := 2) (b := ad 0) (st := []) (ci := 4) gX4_takeAway_X4_hasOwn rfl rfl rfl (by decide +kernel) ⟨Nat.le_of_ble_eq_true rfl, Nat.le_of_ble_eq_true rfl⟩ rfl ⟨0, _, rfl⟩ dX4_takeAway_32 (Nat.le_of_ble_eq_true rfl) ⟨Nat.le_of_ble_eq_true rfl, Nat.le_of_ble_eq_true rfl⟩ rfl rfl) (c_X4_hasOwn hl0 a t (inB_pl h1 h9 g6 g13)) (k2 := 0) (n2 := 0) (Nat.le_of_ble_eq_true rfl) (Nat.le_of_ble_eq_true rfl) (fun r9 w9 hp9 => ?_)
      obtain ⟨rfl, rfl⟩ := hp9
      refine vl_if_eq (tgt := 51) C0 dX4_takeAway_35 (by decide) (fun (h35 : (bI (ownB mm a t) : Int32) = (0 : Int32)) => ?_) (fun (h35 : ¬ (bI (ownB mm a t) : Int32) = (0 : Int32)) => ?_)
      · have g35 := bI_0.mp h35
        refine vl_iconst (v := 0) C0 dX4_takeAway_51 (by decide) ?_
        exact vl_zret C0 hA.symm hr rfl ⟨by (simp [sp_takeAway, bI, g6, g13, g35]), by (simp [sp_takeAway, bI, g6, g13, g35])⟩ (Nat.le_of_ble_eq_true rfl) (Nat.le_of_ble_eq_true rfl) dX4_takeAway_52
      · have g35 := bI_n.mp h35
        refine vl_aload_n C0 dX4_takeAway_38 0 rfl ?_
        refine vl_iload_n C0 dX4_takeAway_39 1 rfl ?_
        refine vl_iload_n C0 dX4_takeAway_40 2 rfl ?_
        refine vl_calli C0 (vl_goV C0 (As := [.int a, .int t]) (na := 2) (b := ad 0) (st := []) (ci := 4) gX4_takeAway_X4_removes rfl rfl rfl (by decide +kernel) ⟨Nat.le_of_ble_eq_true rfl, Nat.le_of_ble_eq_true rfl⟩ rfl ⟨0, _, rfl⟩ dX4_takeAway_41 (Nat.le_of_ble_eq_true rfl) ⟨Nat.le_of_ble_eq_true rfl, Nat.le_of_ble_eq_true rfl⟩ rfl rfl) (c_X4_removes hl0 a t (inB_pl h1 h9 g6 g13)) (k2 := 0) (n2 := 0) (Nat.le_of_ble_eq_true rfl) (Nat.le_of_ble_eq_true rfl) (fun r9 w9 hp9 => ?_)
        obtain ⟨rfl, rfl⟩ := hp9
        refine vl_if_eq (tgt := 51) C0 dX4_takeAway_44 (by decide) (fun (h44 : (1 : Int32) = (0 : Int32)) => absurd h44 (by decide)) (fun (h44 : ¬ (1 : Int32) = (0 : Int32)) => ?_)
        refine vl_iconst (v := 1) C0 dX4_takeAway_47 (by decide) ?_
        refine vl_goto (tgt := 52) C0 dX4_takeAway_48 (by decide) ?_
        exact vl_zret C0 hA.symm hr rfl ⟨by (simp [sp_takeAway, bI, g6, g13, g35]), by (simp [sp_takeAway, bI, g6, g13, g35])⟩ (Nat.le_of_ble_eq_true rfl) (Nat.le_of_ble_eq_true rfl) dX4_takeAway_52
set_option maxHeartbeats 4000000 in
set_option maxRecDepth 100000 in
theorem c_X4_misses {l : Launch} {D : va_G} {cy : Nat → ClassId} {ad : Nat → Nat} {mm : Nat → Nat → Int32} {X : va_W} {nl ns : Nat} (hl0 : l.stackTraces = false) (a b t : Int32) (e0 : mm 0 0 = nI ns) (h8 : ns ≤ 8) (e7 : mm 0 7 = nI nl) (h1 : 1 ≤ nl) (h9 : nl ≤ 9) : vl_Ki l D cy yX4_misses wsX4_misses { frames := 2, cells := 0, slots := 0, locals := 43 } 0 0 (mw cy ad mm ++ X) [.ref (ad 0), .int a, .int b, .int t] (fun r w' => r = bI (misB nl ns a b t) ∧ w' = mw cy ad (up2 mm 0 17 (bI (misB nl ns a b t))) ++ X) := by
  refine vl_openi hl0 (by decide) rfl (Nat.le_of_ble_eq_true rfl) rfl ?_
  intro p e s m args below meth c C0 hr hnm
  generalize hA : va_A (mw cy ad mm ++ X) s.heap.size = A at C0 ⊢
  refine vl_lv (lv2 := [(0, .ref (ad 0)), (1, .int a), (2, .int b), (3, .int t)]) [0, 1, 2, 3] rfl ?_
  have hin : ∀ x ∈ u_ws RX4 TX4 18, x ∈ wsX4_misses := by decide +kernel
  refine vl_aload_n C0 dX4_misses_0 0 rfl ?_
  refine vl_aload_n C0 dX4_misses_1 0 rfl ?_
  refine vl_iload_n C0 dX4_misses_2 1 rfl ?_
  refine vl_calli C0 (vl_goV C0 (As := [.int a]) (na := 1) (b := ad 0) (st := [.ref (ad 0)]) (ci := 4) gX4_misses_X4_isLine rfl rfl rfl (by decide +kernel) ⟨Nat.le_of_ble_eq_true rfl, Nat.le_of_ble_eq_true rfl⟩ rfl ⟨0, _, rfl⟩ dX4_misses_3 (Nat.le_of_ble_eq_true rfl) ⟨Nat.le_of_ble_eq_true rfl, Nat.le_of_ble_eq_true rfl⟩ rfl rfl) (c_X4_isLine hl0 a) (k2 := 0) (n2 := 0) (Nat.le_of_ble_eq_true rfl) (Nat.le_of_ble_eq_true rfl) (fun r9 w9 hp9 => ?_)
  obtain ⟨rfl, rfl⟩ := hp9
  rw [e7]
  refine vl_if_eq (tgt := 28) C0 dX4_misses_6 (by decide) (fun (h6 : (bI (inB a 0 (nI nl - 1)) : Int32) = (0 : Int32)) => ?_) (fun (h6 : ¬ (bI (inB a 0 (nI nl - 1)) : Int32) = (0 : Int32)) => ?_)
  · have g6 := bI_0.mp h6
    refine vl_iconst (v := 1) C0 dX4_misses_28 (by decide) ?_
    refine vl_calli C0 (vl_goV C0 (As := [.int 1]) (na := 1) (b := ad 0) (st := []) (ci := 4) gX4_misses_X4_fails rfl rfl rfl (by decide +kernel) ⟨Nat.le_of_ble_eq_true rfl, Nat.le_of_ble_eq_true rfl⟩ rfl ⟨0, _, rfl⟩ dX4_misses_29 (Nat.le_of_ble_eq_true rfl) ⟨Nat.le_of_ble_eq_true rfl, Nat.le_of_ble_eq_true rfl⟩ rfl rfl) (c_X4_fails hl0 1) (k2 := 0) (n2 := 0) (Nat.le_of_ble_eq_true rfl) (Nat.le_of_ble_eq_true rfl) (fun r9 w9 hp9 => ?_)
    obtain ⟨hr9, rfl⟩ := hp9
    have hr9 : r9 = 1 := hr9.trans (by decide)
    subst hr9
    exact vl_zret C0 hA.symm hr rfl ⟨by simp [misB, bI, g6], by simp [misB, bI, g6]⟩ (Nat.le_of_ble_eq_true rfl) (Nat.le_of_ble_eq_true rfl) dX4_misses_32
  · have g6 := bI_n.mp h6
    refine vl_aload_n C0 dX4_misses_9 0 rfl ?_
    refine vl_iload_n C0 dX4_misses_10 2 rfl ?_
    refine vl_calli C0 (vl_goV C0 (As := [.int b]) (na := 1) (b := ad 0) (st := [.ref (ad 0)]) (ci := 4) gX4_misses_X4_isShip rfl rfl rfl (by decide +kernel) ⟨Nat.le_of_ble_eq_true rfl, Nat.le_of_ble_eq_true rfl⟩ rfl ⟨0, _, rfl⟩ dX4_misses_11 (Nat.le_of_ble_eq_true rfl) ⟨Nat.le_of_ble_eq_true rfl, Nat.le_of_ble_eq_true rfl⟩ rfl rfl) (c_X4_isShip hl0 b) (k2 := 0) (n2 := 0) (Nat.le_of_ble_eq_true rfl) (Nat.le_of_ble_eq_true rfl) (fun r9 w9 hp9 => ?_)
    obtain ⟨rfl, rfl⟩ := hp9
    rw [e0]
    refine vl_if_eq (tgt := 28) C0 dX4_misses_14 (by decide) (fun (h14 : (bI (inB b 0 (nI ns - 1)) : Int32) = (0 : Int32)) => ?_) (fun (h14 : ¬ (bI (inB b 0 (nI ns - 1)) : Int32) = (0 : Int32)) => ?_)
    · have g14 := bI_0.mp h14
      refine vl_iconst (v := 1) C0 dX4_misses_28 (by decide) ?_
      refine vl_calli C0 (vl_goV C0 (As := [.int 1]) (na := 1) (b := ad 0) (st := []) (ci := 4) gX4_misses_X4_fails rfl rfl rfl (by decide +kernel) ⟨Nat.le_of_ble_eq_true rfl, Nat.le_of_ble_eq_true rfl⟩ rfl ⟨0, _, rfl⟩ dX4_misses_29 (Nat.le_of_ble_eq_true rfl) ⟨Nat.le_of_ble_eq_true rfl, Nat.le_of_ble_eq_true rfl⟩ rfl rfl) (c_X4_fails hl0 1) (k2 := 0) (n2 := 0) (Nat.le_of_ble_eq_true rfl) (Nat.le_of_ble_eq_true rfl) (fun r9 w9 hp9 => ?_)
      obtain ⟨hr9, rfl⟩ := hp9
      have hr9 : r9 = 1 := hr9.trans (by decide)
      subst hr9
      exact vl_zret C0 hA.symm hr rfl ⟨by simp [misB, bI, g6, g14], by simp [misB, bI, g6, g14]⟩ (Nat.le_of_ble_eq_true rfl) (Nat.le_of_ble_eq_true rfl) dX4_misses_32
    · have g14 := bI_n.mp h14
      refine vl_iload_n C0 dX4_misses_17 3 rfl ?_
      refine vl_calli C0 (vl_goS C0 (As := [.int t]) (na := 1) (st := [.ref (ad 0)]) gX4_misses_X4_isTurn rfl rfl rfl (by decide +kernel) ⟨Nat.le_of_ble_eq_true rfl, Nat.le_of_ble_eq_true rfl⟩ dX4_misses_18 (Nat.le_of_ble_eq_true rfl) ⟨Nat.le_of_ble_eq_true rfl, Nat.le_of_ble_eq_true rfl⟩ rfl rfl) (c_X4_isTurn hl0 t) (k2 := 0) (n2 := 0) (Nat.le_of_ble_eq_true rfl) (Nat.le_of_ble_eq_true rfl) (fun r9 w9 hp9 => ?_)
      obtain ⟨rfl, rfl⟩ := hp9
      refine vl_if_eq (tgt := 28) C0 dX4_misses_21 (by decide) (fun (h21 : (bI (inB t 0 29) : Int32) = (0 : Int32)) => ?_) (fun (h21 : ¬ (bI (inB t 0 29) : Int32) = (0 : Int32)) => ?_)
      · have g21 := bI_0.mp h21
        refine vl_iconst (v := 1) C0 dX4_misses_28 (by decide) ?_
        refine vl_calli C0 (vl_goV C0 (As := [.int 1]) (na := 1) (b := ad 0) (st := []) (ci := 4) gX4_misses_X4_fails rfl rfl rfl (by decide +kernel) ⟨Nat.le_of_ble_eq_true rfl, Nat.le_of_ble_eq_true rfl⟩ rfl ⟨0, _, rfl⟩ dX4_misses_29 (Nat.le_of_ble_eq_true rfl) ⟨Nat.le_of_ble_eq_true rfl, Nat.le_of_ble_eq_true rfl⟩ rfl rfl) (c_X4_fails hl0 1) (k2 := 0) (n2 := 0) (Nat.le_of_ble_eq_true rfl) (Nat.le_of_ble_eq_true rfl) (fun r9 w9 hp9 => ?_)
        obtain ⟨hr9, rfl⟩ := hp9
        have hr9 : r9 = 1 := hr9.trans (by decide)
        subst hr9
        exact vl_zret C0 hA.symm hr rfl ⟨by simp [misB, bI, g6, g14, g21], by simp [misB, bI, g6, g14, g21]⟩ (Nat.le_of_ble_eq_true rfl) (Nat.le_of_ble_eq_true rfl) dX4_misses_32
      · have g21 := bI_n.mp h21
        refine vl_iconst (v := 0) C0 dX4_misses_24 (by decide) ?_
        refine vl_goto (tgt := 29) C0 dX4_misses_25 (by decide) ?_
        refine vl_calli C0 (vl_goV C0 (As := [.int 0]) (na := 1) (b := ad 0) (st := []) (ci := 4) gX4_misses_X4_fails rfl rfl rfl (by decide +kernel) ⟨Nat.le_of_ble_eq_true rfl, Nat.le_of_ble_eq_true rfl⟩ rfl ⟨0, _, rfl⟩ dX4_misses_29 (Nat.le_of_ble_eq_true rfl) ⟨Nat.le_of_ble_eq_true rfl, Nat.le_of_ble_eq_true rfl⟩ rfl rfl) (c_X4_fails hl0 0) (k2 := 0) (n2 := 0) (Nat.le_of_ble_eq_true rfl) (Nat.le_of_ble_eq_true rfl) (fun r9 w9 hp9 => ?_)
        obtain ⟨hr9, rfl⟩ := hp9
        have hr9 : r9 = 0 := hr9.trans (by decide)
        subst hr9
        exact vl_zret C0 hA.symm hr rfl ⟨by simp [misB, bI, g6, g14, g21], by simp [misB, bI, g6, g14, g21]⟩ (Nat.le_of_ble_eq_true rfl) (Nat.le_of_ble_eq_true rfl) dX4_misses_32
set_option maxHeartbeats 4000000 in
set_option maxRecDepth 100000 in
theorem c_X4_seen {l : Launch} {D : va_G} {cy : Nat → ClassId} {ad : Nat → Nat} {mm : Nat → Nat → Int32} {X : va_W} {nl : Nat} (hl0 : l.stackTraces = false) (a : Int32) (e7 : mm 0 7 = nI nl) (h1 : 1 ≤ nl) (h9 : nl ≤ 9) : vl_Ki l D cy yX4_seen wsX4_seen { frames := 2, cells := 0, slots := 0, locals := 43 } 0 0 (mw cy ad mm ++ X) [.ref (ad 0), .int a] (fun r w' => r = (sp_seen nl mm a).1 ∧ w' = mw cy ad (sp_seen nl mm a).2 ++ X) := by
  refine vl_openi hl0 (by decide) rfl (Nat.le_of_ble_eq_true rfl) rfl ?_
  intro p e s m args below meth c C0 hr hnm
  generalize hA : va_A (mw cy ad mm ++ X) s.heap.size = A at C0 ⊢
  refine vl_lv (lv2 := [(0, .ref (ad 0)), (1, .int a)]) [0, 1] rfl ?_
  have hin : ∀ x ∈ u_ws RX4 TX4 18, x ∈ wsX4_seen := by decide +kernel
  refine vl_aload_n C0 dX4_seen_0 0 rfl ?_
  refine vl_aload_n C0 dX4_seen_1 0 rfl ?_
  refine vl_iload_n C0 dX4_seen_2 1 rfl ?_
  refine vl_calli C0 (vl_goV C0 (As := [.int a]) (na := 1) (b := ad 0) (st := [.ref (ad 0)]) (ci := 4) gX4_seen_X4_isLine rfl rfl rfl (by decide +kernel) ⟨Nat.le_of_ble_eq_true rfl, Nat.le_of_ble_eq_true rfl⟩ rfl ⟨0, _, rfl⟩ dX4_seen_3 (Nat.le_of_ble_eq_true rfl) ⟨Nat.le_of_ble_eq_true rfl, Nat.le_of_ble_eq_true rfl⟩ rfl rfl) (c_X4_isLine hl0 a) (k2 := 0) (n2 := 0) (Nat.le_of_ble_eq_true rfl) (Nat.le_of_ble_eq_true rfl) (fun r9 w9 hp9 => ?_)
  obtain ⟨rfl, rfl⟩ := hp9
  rw [e7]
  refine vl_if_eq (tgt := 13) C0 dX4_seen_6 (by decide) (fun (h6 : (bI (inB a 0 (nI nl - 1)) : Int32) = (0 : Int32)) => ?_) (fun (h6 : ¬ (bI (inB a 0 (nI nl - 1)) : Int32) = (0 : Int32)) => ?_)
  · have g6 := bI_0.mp h6
    refine vl_iconst (v := 1) C0 dX4_seen_13 (by decide) ?_
    refine vl_calli C0 (vl_goV C0 (As := [.int 1]) (na := 1) (b := ad 0) (st := []) (ci := 4) gX4_seen_X4_fails rfl rfl rfl (by decide +kernel) ⟨Nat.le_of_ble_eq_true rfl, Nat.le_of_ble_eq_true rfl⟩ rfl ⟨0, _, rfl⟩ dX4_seen_14 (Nat.le_of_ble_eq_true rfl) ⟨Nat.le_of_ble_eq_true rfl, Nat.le_of_ble_eq_true rfl⟩ rfl rfl) (c_X4_fails hl0 1) (k2 := 0) (n2 := 0) (Nat.le_of_ble_eq_true rfl) (Nat.le_of_ble_eq_true rfl) (fun r9 w9 hp9 => ?_)
    obtain ⟨hr9, rfl⟩ := hp9
    have hr9 : r9 = 1 := hr9.trans (by decide)
    subst hr9
    refine vl_if_eq (tgt := 24) C0 dX4_seen_17 (by decide) (fun (h17 : (1 : Int32) = (0 : Int32)) => absurd h17 (by decide)) (fun (h17 : ¬ (1 : Int32) = (0 : Int32)) => ?_)
    refine vl_iconst (v := 0) C0 dX4_seen_20 (by decide) ?_
    refine vl_goto (tgt := 30) C0 dX4_seen_21 (by decide) ?_
    exact vl_iret C0 hA.symm hr ⟨by simp [sp_seen, bI, up2_o, g6], by simp [sp_seen, bI, up2_o, g6]⟩ (Nat.le_of_ble_eq_true rfl) (Nat.le_of_ble_eq_true rfl) dX4_seen_30
  · have g6 := bI_n.mp h6
    refine vl_iconst (v := 0) C0 dX4_seen_9 (by decide) ?_
    refine vl_goto (tgt := 14) C0 dX4_seen_10 (by decide) ?_
    refine vl_calli C0 (vl_goV C0 (As := [.int 0]) (na := 1) (b := ad 0) (st := []) (ci := 4) gX4_seen_X4_fails rfl rfl rfl (by decide +kernel) ⟨Nat.le_of_ble_eq_true rfl, Nat.le_of_ble_eq_true rfl⟩ rfl ⟨0, _, rfl⟩ dX4_seen_14 (Nat.le_of_ble_eq_true rfl) ⟨Nat.le_of_ble_eq_true rfl, Nat.le_of_ble_eq_true rfl⟩ rfl rfl) (c_X4_fails hl0 0) (k2 := 0) (n2 := 0) (Nat.le_of_ble_eq_true rfl) (Nat.le_of_ble_eq_true rfl) (fun r9 w9 hp9 => ?_)
    obtain ⟨hr9, rfl⟩ := hp9
    have hr9 : r9 = 0 := hr9.trans (by decide)
    subst hr9
    refine vl_if_eq (tgt := 24) C0 dX4_seen_17 (by decide) (fun (h17 : (0 : Int32) = (0 : Int32)) => ?_) (fun (h17 : ¬ (0 : Int32) = (0 : Int32)) => absurd h17 (by decide))
    refine vl_aload_n C0 dX4_seen_24 0 rfl ?_
    refine rm_get C0 hin 10 (by decide) (by decide +kernel) rfl dX4_seen_25 ?_
    refine vl_iload_n C0 dX4_seen_28 1 rfl ?_
    refine rm_iald C0 10 7 9 rfl (inB_n h1 h9 (by decide) g6) (kn := (a).toNatClampNeg) (rfl) (v := mm 10 ((a).toNatClampNeg)) (rfl) dX4_seen_29 ?_
    exact vl_iret C0 hA.symm hr ⟨by simp [sp_seen, bI, up2_o, g6], by simp [sp_seen, bI, up2_o, g6]⟩ (Nat.le_of_ble_eq_true rfl) (Nat.le_of_ble_eq_true rfl) dX4_seen_30
end VM5
end
section
section VM6
theorem vl_loop {p : Program} {l : Launch} {e : Env} {R : Room} {s : State} {m : MethodId} {args : Array Value} {below : List Frame} {meth : Method} {c : Code} {Q : State → Prop} {D : va_G} {A : Nat → Prop} {nL : Nat} {k n : Nat} {pc : Nat} {st : List Value} {σ : Type} (w : σ → va_W) (lv : σ → List (Nat × Value)) (I : σ → Prop) (μ : σ → Nat) (hstep : ∀ x : σ, I x → (∀ y : σ, I y → μ y < μ x → vl_V p l e R s m args below meth c Q D A nL (w y) k n (lv y) pc st) → vl_V p l e R s m args below meth c Q D A nL (w x) k n (lv x) pc st) (x : σ) (hx : I x) : vl_V p l e R s m args below meth c Q D A nL (w x) k n (lv x) pc st := by
  have key : ∀ (N : Nat) (x : σ), μ x < N → I x → vl_V p l e R s m args below meth c Q D A nL (w x) k n (lv x) pc st := by
    intro N
    induction N with
    | zero => intro x h; exact absurd h (Nat.not_lt_zero _)
    | succ N ih => intro x h hx; exact hstep x hx (fun y hy hlt => ih y (by omega) hy)
  exact key (μ x + 1) x (by omega) hx
def vI (x : Option Nat) : Int32 := match x with
  | none => -1
  | some p => nI p
theorem nI_m1 {q : Nat} (h : q < 2 ^ 31) : ¬ nI q = -1 := fun e => by
  have h1 := nI_toInt h
  rw [e] at h1
  have h2 : (-1 : Int32).toInt = -1 := by decide
  omega
theorem ordA_fuel {o : Nat → Int32} {par : Nat → Option Nat} {t : Nat} (hlt : ∀ i p, par i = some p → p < i) : ∀ (f : Nat) (x : Option Nat), (∀ q, x = some q → q + 1 ≤ f) → ordA o par t f x = ordA o par t (f + 1) x := by
  intro f
  induction f with
  | zero =>
    intro x h
    cases x with
    | none => rfl
    | some q => exact absurd (h q rfl) (by omega)
  | succ f ih =>
    intro x h
    cases x with
    | none => rfl
    | some q =>
      rw [ordA, ordA, ih (par q) (fun r hr => by have := hlt q r hr; have := h q rfl; omega)]
def ordX (o : Nat → Int32) (par : Nat → Option Nat) (t : Nat) (x : Option Nat) : Int32 := ordA o par t 10 x
theorem ordX_none {o : Nat → Int32} {par : Nat → Option Nat} {t : Nat} : ordX o par t none = 0 := rfl
theorem ordX_own {o : Nat → Int32} {par : Nat → Option Nat} {t q : Nat} (h : ¬ o (30 * q + t) = -1) : ordX o par t (some q) = o (30 * q + t) := by simp [ordX, ordA, h]
theorem ordX_up {o : Nat → Int32} {par : Nat → Option Nat} {t q : Nat} (hlt : ∀ i p, par i = some p → p < i) (hq : q ≤ 9) (h : o (30 * q + t) = -1) : ordX o par t (some q) = ordX o par t (par q) := by
  unfold ordX
  rw [show ordA o par t 10 (some q) = ordA o par t 9 (par q) by simp [ordA, h]]
  exact ordA_fuel hlt 9 (par q) (fun r hr => by have := hlt q r hr; omega)
def aheadP (m : Nat → Nat → Int32) (j : Nat) : Nat → Bool := fun k => decide (¬ m 12 (30 * j + k) = 0)
def aheadI (m : Nat → Nat → Int32) (j : Nat) : Int32 := bset (aheadP m j) 30
/-- the reference's rows of lines are the tree par -/
def mTree (nl : Nat) (par : Nat → Option Nat) (m : Nat → Nat → Int32) : Prop := (∀ i p, par i = some p → p < i) ∧ ∀ i, i < nl → m 8 i = vI (par i)
theorem bset_t {P : Nat → Bool} {k : Nat} (h : P k = true) : bset P k ||| 1 <<< (nI k &&& 31) = bset P (k + 1) := by simp [bset, h]
theorem bset_f {P : Nat → Bool} {k : Nat} (h : P k = false) : bset P k ||| 0 = bset P (k + 1) := by simp [bset, h]
set_option maxHeartbeats 4000000 in
set_option maxRecDepth 100000 in
theorem c_X4_aheadOf {l : Launch} {D : va_G} {cy : Nat → ClassId} {ad : Nat → Nat} {mm : Nat → Nat → Int32} {X : va_W} (hl0 : l.stackTraces = false) (j : Nat) (hj : j < 9) : vl_Ki l D cy yX4_aheadOf wsX4_aheadOf { frames := 0, cells := 0, slots := 0, locals := 0 } 0 0 (mw cy ad mm ++ X) [.ref (ad 0), .int (nI j)] (fun r w' => r = aheadI mm j ∧ w' = mw cy ad mm ++ X) := by
  refine vl_openi hl0 (by decide) rfl (Nat.le_of_ble_eq_true rfl) rfl ?_
  intro p e s m args below meth c C0 hr hnm
  generalize hA : va_A (mw cy ad mm ++ X) s.heap.size = A at C0 ⊢
  refine vl_lv (lv2 := [(0, .ref (ad 0)), (1, .int (nI j))]) [0, 1] rfl ?_
  have hin : ∀ x ∈ u_ws RX4 TX4 18, x ∈ wsX4_aheadOf := by decide +kernel
  refine vl_iconst (v := 0) C0 dX4_aheadOf_0 (by decide) ?_
  refine vl_istore_n (lv' := [(0, .ref (ad 0)), (1, .int (nI j)), (2, .int 0)]) C0 dX4_aheadOf_1 [1, 2, 0] (by decide) rfl ?_
  refine vl_iconst (v := 0) C0 dX4_aheadOf_2 (by decide) ?_
  refine vl_istore_n (lv' := [(0, .ref (ad 0)), (1, .int (nI j)), (2, .int 0), (3, .int 0)]) C0 dX4_aheadOf_3 [1, 2, 3, 0] (by decide) rfl ?_
  refine vl_loop (σ := Nat) (fun _ => mw cy ad mm ++ X) (fun k => [(0, .ref (ad 0)), (1, .int (nI j)), (2, .int (bset (aheadP mm j) k)), (3, .int (nI k))]) (fun k => k ≤ 30) (fun k => 30 - k) ?_ 0 (by decide)
  intro k hk ih
  refine vl_iload_n C0 dX4_aheadOf_4 3 rfl ?_
  refine vl_bipush (v := 30) C0 dX4_aheadOf_5 (by decide) ?_
  refine vl_icmp_ge (tgt := 40) C0 dX4_aheadOf_7 (by decide) (fun (h7 : (30 : Int32) ≤ (nI k : Int32)) => ?_) (fun (h7 : ¬ (30 : Int32) ≤ (nI k : Int32)) => ?_)
  · have hk30 : k = 30 := by have z : ¬ k < 30 := fun q => absurd h7 (nI_ge q (by decide)); omega
    refine vl_iload_n C0 dX4_aheadOf_40 2 rfl ?_
    exact vl_iret C0 hA.symm hr ⟨by rw [hk30]; rfl, rfl⟩ (Nat.le_of_ble_eq_true rfl) (Nat.le_of_ble_eq_true rfl) dX4_aheadOf_41
  · have hk30 : k < 30 := by have z : ¬ k = 30 := fun q => h7 (by rw [q]; exact nI_le (Nat.le_refl _) (by decide)); omega
    refine vl_iload_n C0 dX4_aheadOf_10 2 rfl ?_
    refine vl_aload_n C0 dX4_aheadOf_11 0 rfl ?_
    refine rm_get C0 hin 12 (by decide) (by decide +kernel) rfl dX4_aheadOf_12 ?_
    refine vl_bipush (v := 30) C0 dX4_aheadOf_15 (by decide) ?_
    refine vl_iload_n C0 dX4_aheadOf_17 1 rfl ?_
    refine vl_imul C0 dX4_aheadOf_18 ?_
    refine vl_iload_n C0 dX4_aheadOf_19 3 rfl ?_
    refine vl_iadd C0 dX4_aheadOf_20 ?_
    rw [nI_pl]
    refine rm_zald C0 (vp_in_nI (by omega) (by decide)) (kn := (30 * j + k)) (nI_clamp (by omega)) dX4_aheadOf_21 ?_
    refine vl_if_eq (tgt := 31) C0 dX4_aheadOf_22 (by decide) (fun (h22 : (mm 12 (30 * j + k) : Int32) = (0 : Int32)) => ?_) (fun (h22 : ¬ (mm 12 (30 * j + k) : Int32) = (0 : Int32)) => ?_)
    · refine vl_iconst (v := 0) C0 dX4_aheadOf_31 (by decide) ?_
      refine vl_ior C0 dX4_aheadOf_32 ?_
      rw [bset_f (P := aheadP mm j) (k := k) (by simp [aheadP, h22])]
      refine vl_istore_n (lv' := [(0, .ref (ad 0)), (1, .int (nI j)), (2, .int (bset (aheadP mm j) (k + 1))), (3, .int (nI k))]) C0 dX4_aheadOf_33 [1, 2, 0, 3] (by decide) rfl ?_
      refine vl_iinc (v := nI (k + 1)) (lv' := [(0, .ref (ad 0)), (1, .int (nI j)), (2, .int (bset (aheadP mm j) (k + 1))), (3, .int (nI (k + 1)))]) C0 dX4_aheadOf_34 3 rfl (nI_1 k) [1, 2, 3, 0] (by decide) rfl ?_
      refine vl_goto (tgt := 4) C0 dX4_aheadOf_37 (by decide) ?_
      exact ih (k + 1) (by omega) (by omega)
    · refine vl_iconst (v := 1) C0 dX4_aheadOf_25 (by decide) ?_
      refine vl_iload_n C0 dX4_aheadOf_26 3 rfl ?_
      refine vl_ishl C0 dX4_aheadOf_27 ?_
      refine vl_goto (tgt := 32) C0 dX4_aheadOf_28 (by decide) ?_
      refine vl_ior C0 dX4_aheadOf_32 ?_
      rw [bset_t (P := aheadP mm j) (k := k) (by simp [aheadP, h22])]
      refine vl_istore_n (lv' := [(0, .ref (ad 0)), (1, .int (nI j)), (2, .int (bset (aheadP mm j) (k + 1))), (3, .int (nI k))]) C0 dX4_aheadOf_33 [1, 2, 0, 3] (by decide) rfl ?_
      refine vl_iinc (v := nI (k + 1)) (lv' := [(0, .ref (ad 0)), (1, .int (nI j)), (2, .int (bset (aheadP mm j) (k + 1))), (3, .int (nI (k + 1)))]) C0 dX4_aheadOf_34 3 rfl (nI_1 k) [1, 2, 3, 0] (by decide) rfl ?_
      refine vl_goto (tgt := 4) C0 dX4_aheadOf_37 (by decide) ?_
      exact ih (k + 1) (by omega) (by omega)
end VM6
end
section
section VM7
def muO (x : Option Nat) : Nat := match x with
  | none => 0
  | some q => q + 1
theorem muO_lt {par : Nat → Option Nat} (h : ∀ i p, par i = some p → p < i) (q : Nat) : muO (par q) < muO (some q) := by
  cases hp : par q with
  | none => simp [muO]
  | some r => have := h q r hp; simp [muO]; omega
theorem ownB_t {m : Nat → Nat → Int32} {q t : Nat} (hq : q < 9) (ht : t < 30) (h : ownB m (nI q) (nI t) = true) : ¬ m 11 (30 * q + t) = -1 := by
  rw [ownB, nI_pl, nI_clamp (by omega)] at h
  simpa using h
theorem ownB_f {m : Nat → Nat → Int32} {q t : Nat} (hq : q < 9) (ht : t < 30) (h : ownB m (nI q) (nI t) = false) : m 11 (30 * q + t) = -1 := by
  rw [ownB, nI_pl, nI_clamp (by omega)] at h
  simpa using h
def sp_orderOf (nl : Nat) (par : Nat → Option Nat) (m : Nat → Nat → Int32) (a t : Int32) : Int32 × (Nat → Nat → Int32) := if (inB a 0 (nI nl - 1) && inB t 0 29) = false then (0, up2 m 0 17 1) else (ordX (m 11) par t.toNatClampNeg (some a.toNatClampNeg), up2 m 0 17 0)
def difP (o : Nat → Int32) (par : Nat → Option Nat) (x y : Nat) : Nat → Bool := fun k => decide (¬ ordX o par k (some x) = ordX o par k (some y))
def sp_differences (nl : Nat) (par : Nat → Option Nat) (m : Nat → Nat → Int32) (a b : Int32) : Int32 × (Nat → Nat → Int32) := if (inB a 0 (nI nl - 1) && inB b 0 (nI nl - 1)) = false then (0, up2 m 0 17 1) else (bset (difP (m 11) par a.toNatClampNeg b.toNatClampNeg) 30, up2 m 0 17 0)
def sp_ahead (nl : Nat) (m : Nat → Nat → Int32) (a : Int32) : Int32 × (Nat → Nat → Int32) := if inB a 0 (nI nl - 1) = false then (0, up2 m 0 17 1) else (aheadI m a.toNatClampNeg, up2 m 0 17 0)
set_option maxHeartbeats 4000000 in
set_option maxRecDepth 100000 in
theorem c_X4_orderAt {l : Launch} {D : va_G} {cy : Nat → ClassId} {ad : Nat → Nat} {mm : Nat → Nat → Int32} {X : va_W} {nl : Nat} {par : Nat → Option Nat} (hl0 : l.stackTraces = false) (j t : Nat) (ht : mTree nl par mm) (h9 : nl ≤ 9) (hj : j < nl) (h3 : t < 30) : vl_Ki l D cy yX4_orderAt wsX4_orderAt { frames := 1, cells := 0, slots := 0, locals := 22 } 0 0 (mw cy ad mm ++ X) [.ref (ad 0), .int (nI j), .int (nI t)] (fun r w' => r = ordX (mm 11) par t (some j) ∧ w' = mw cy ad mm ++ X) := by
  refine vl_openi hl0 (by decide) rfl (Nat.le_of_ble_eq_true rfl) rfl ?_
  intro p e s m args below meth c C0 hr hnm
  generalize hA : va_A (mw cy ad mm ++ X) s.heap.size = A at C0 ⊢
  refine vl_lv (lv2 := [(0, .ref (ad 0)), (1, .int (nI j)), (2, .int (nI t))]) [0, 1, 2] rfl ?_
  have hin : ∀ x ∈ u_ws RX4 TX4 18, x ∈ wsX4_orderAt := by decide +kernel
  refine vl_iload_n C0 dX4_orderAt_0 1 rfl ?_
  refine vl_istore_n (lv' := [(0, .ref (ad 0)), (1, .int (nI j)), (2, .int (nI t)), (3, .int (nI j))]) C0 dX4_orderAt_1 [1, 2, 3, 0] (by decide) rfl ?_
  refine vl_loop (σ := Option Nat) (fun _ => mw cy ad mm ++ X) (fun x => [(0, .ref (ad 0)), (1, .int (nI j)), (2, .int (nI t)), (3, .int (vI x))]) (fun x => (∀ q, x = some q → q < nl) ∧ ordX (mm 11) par t x = ordX (mm 11) par t (some j)) muO ?_ (some j) ⟨fun q hq => by cases hq; exact hj, rfl⟩
  intro x hx ih
  rcases x with _ | q
  · refine vl_lv (lv2 := [(0, .ref (ad 0)), (1, .int (nI j)), (2, .int (nI t)), (3, .int ((-1)))]) [0, 1, 2, 3] rfl ?_
    refine vl_iload_n C0 dX4_orderAt_2 3 rfl ?_
    refine vl_iconst (v := -1) C0 dX4_orderAt_3 (by decide) ?_
    refine vl_icmp_eq (tgt := 26) C0 dX4_orderAt_4 (by decide) (fun (h4 : ((-1) : Int32) = ((-1) : Int32)) => ?_) (fun (h4 : ¬ ((-1) : Int32) = ((-1) : Int32)) => absurd h4 (by decide))
    refine vl_iload_n C0 dX4_orderAt_26 3 rfl ?_
    refine vl_iconst (v := -1) C0 dX4_orderAt_27 (by decide) ?_
    refine vl_icmp_ne (tgt := 35) C0 dX4_orderAt_28 (by decide) (fun (h28 : ¬ ((-1) : Int32) = ((-1) : Int32)) => absurd h28 (by decide)) (fun (h28 : ((-1) : Int32) = ((-1) : Int32)) => ?_)
    refine vl_iconst (v := 0) C0 dX4_orderAt_31 (by decide) ?_
    refine vl_goto (tgt := 46) C0 dX4_orderAt_32 (by decide) ?_
    exact vl_iret C0 hA.symm hr ⟨hx.2, rfl⟩ (Nat.le_of_ble_eq_true rfl) (Nat.le_of_ble_eq_true rfl) dX4_orderAt_46
  · refine vl_lv (lv2 := [(0, .ref (ad 0)), (1, .int (nI j)), (2, .int (nI t)), (3, .int (nI q))]) [0, 1, 2, 3] rfl ?_
    have hq : q < nl := hx.1 q rfl
    refine vl_iload_n C0 dX4_orderAt_2 3 rfl ?_
    refine vl_iconst (v := -1) C0 dX4_orderAt_3 (by decide) ?_
    refine vl_icmp_eq (tgt := 26) C0 dX4_orderAt_4 (by decide) (fun (h4 : (nI q : Int32) = ((-1) : Int32)) => absurd h4 (nI_m1 (by omega))) (fun (h4 : ¬ (nI q : Int32) = ((-1) : Int32)) => ?_)
    refine vl_aload_n C0 dX4_orderAt_7 0 rfl ?_
    refine vl_iload_n C0 dX4_orderAt_8 3 rfl ?_
    refine vl_iload_n C0 dX4_orderAt_9 2 rfl ?_
    refine vl_calli C0 (vl_goV C0 (As := [.int (nI q), .int (nI t)]) (na := 2) (b := ad 0) (st := []) (ci := 4) gX4_orderAt_X4_hasOwn rfl rfl rfl (by decide +kernel) ⟨Nat.le_of_ble_eq_true rfl, Nat.le_of_ble_eq_true rfl⟩ rfl ⟨0, _, rfl⟩ dX4_orderAt_10 (Nat.le_of_ble_eq_true rfl) ⟨Nat.le_of_ble_eq_true rfl, Nat.le_of_ble_eq_true rfl⟩ rfl rfl) (c_X4_hasOwn hl0 (nI q) (nI t) (by rw [nI_pl]; exact vp_in_nI (by omega) (by decide))) (k2 := 0) (n2 := 0) (Nat.le_of_ble_eq_true rfl) (Nat.le_of_ble_eq_true rfl) (fun r9 w9 hp9 => ?_)
    obtain ⟨rfl, rfl⟩ := hp9
    refine vl_if_ne (tgt := 26) C0 dX4_orderAt_13 (by decide) (fun (h13 : ¬ (bI (ownB mm (nI q) (nI t)) : Int32) = (0 : Int32)) => ?_) (fun (h13 : (bI (ownB mm (nI q) (nI t)) : Int32) = (0 : Int32)) => ?_)
    · have g13 := bI_n.mp h13
      refine vl_iload_n C0 dX4_orderAt_26 3 rfl ?_
      refine vl_iconst (v := -1) C0 dX4_orderAt_27 (by decide) ?_
      refine vl_icmp_ne (tgt := 35) C0 dX4_orderAt_28 (by decide) (fun (h28 : ¬ (nI q : Int32) = ((-1) : Int32)) => ?_) (fun (h28 : (nI q : Int32) = ((-1) : Int32)) => absurd h28 (nI_m1 (by omega)))
      refine vl_aload_n C0 dX4_orderAt_35 0 rfl ?_
      refine rm_get C0 hin 11 (by decide) (by decide +kernel) rfl dX4_orderAt_36 ?_
      refine vl_bipush (v := 30) C0 dX4_orderAt_39 (by decide) ?_
      refine vl_iload_n C0 dX4_orderAt_41 3 rfl ?_
      refine vl_imul C0 dX4_orderAt_42 ?_
      refine vl_iload_n C0 dX4_orderAt_43 2 rfl ?_
      refine vl_iadd C0 dX4_orderAt_44 ?_
      rw [nI_pl]
      refine rm_iald C0 11 8 270 rfl (vp_in_nI (by omega) (by decide)) (kn := (30 * q + t)) (nI_clamp (by omega)) (v := mm 11 (30 * q + t)) (rfl) dX4_orderAt_45 ?_
      exact vl_iret C0 hA.symm hr ⟨by rw [← hx.2]; exact (ordX_own (ownB_t (by omega) h3 g13)).symm, rfl⟩ (Nat.le_of_ble_eq_true rfl) (Nat.le_of_ble_eq_true rfl) dX4_orderAt_46
    · have g13 := bI_0.mp h13
      refine vl_aload_n C0 dX4_orderAt_16 0 rfl ?_
      refine rm_get C0 hin 8 (by decide) (by decide +kernel) rfl dX4_orderAt_17 ?_
      refine vl_iload_n C0 dX4_orderAt_20 3 rfl ?_
      refine rm_iald C0 8 5 9 rfl (vp_in_nI (by omega) (by decide)) (kn := q) (nI_clamp (by omega)) (v := mm 8 q) (rfl) dX4_orderAt_21 ?_
      rw [ht.2 q hq]
      refine vl_istore_n (lv' := [(0, .ref (ad 0)), (1, .int (nI j)), (2, .int (nI t)), (3, .int (vI (par q)))]) C0 dX4_orderAt_22 [1, 2, 3, 0] (by decide) rfl ?_
      refine vl_goto (tgt := 2) C0 dX4_orderAt_23 (by decide) ?_
      exact ih (par q) ⟨fun r hr => by have := ht.1 q r hr; omega, (ordX_up ht.1 (by omega) (ownB_f (by omega) h3 g13)).symm.trans hx.2⟩ (muO_lt ht.1 q)
set_option maxHeartbeats 4000000 in
set_option maxRecDepth 100000 in
theorem c_X4_orderOf {l : Launch} {D : va_G} {cy : Nat → ClassId} {ad : Nat → Nat} {mm : Nat → Nat → Int32} {X : va_W} {nl : Nat} {par : Nat → Option Nat} (hl0 : l.stackTraces = false) (a t : Int32) (e7 : mm 0 7 = nI nl) (h1 : 1 ≤ nl) (h9 : nl ≤ 9) (ht : mTree nl par mm) : vl_Ki l D cy yX4_orderOf wsX4_orderOf { frames := 2, cells := 0, slots := 0, locals := 45 } 0 0 (mw cy ad mm ++ X) [.ref (ad 0), .int a, .int t] (fun r w' => r = (sp_orderOf nl par mm a t).1 ∧ w' = mw cy ad (sp_orderOf nl par mm a t).2 ++ X) := by
  refine vl_openi hl0 (by decide) rfl (Nat.le_of_ble_eq_true rfl) rfl ?_
  intro p e s m args below meth c C0 hr hnm
  generalize hA : va_A (mw cy ad mm ++ X) s.heap.size = A at C0 ⊢
  refine vl_lv (lv2 := [(0, .ref (ad 0)), (1, .int a), (2, .int t)]) [0, 1, 2] rfl ?_
  have hin : ∀ x ∈ u_ws RX4 TX4 18, x ∈ wsX4_orderOf := by decide +kernel
  refine vl_aload_n C0 dX4_orderOf_0 0 rfl ?_
  refine vl_aload_n C0 dX4_orderOf_1 0 rfl ?_
  refine vl_iload_n C0 dX4_orderOf_2 1 rfl ?_
  refine vl_calli C0 (vl_goV C0 (As := [.int a]) (na := 1) (b := ad 0) (st := [.ref (ad 0)]) (ci := 4) gX4_orderOf_X4_isLine rfl rfl rfl (by decide +kernel) ⟨Nat.le_of_ble_eq_true rfl, Nat.le_of_ble_eq_true rfl⟩ rfl ⟨0, _, rfl⟩ dX4_orderOf_3 (Nat.le_of_ble_eq_true rfl) ⟨Nat.le_of_ble_eq_true rfl, Nat.le_of_ble_eq_true rfl⟩ rfl rfl) (c_X4_isLine hl0 a) (k2 := 0) (n2 := 0) (Nat.le_of_ble_eq_true rfl) (Nat.le_of_ble_eq_true rfl) (fun r9 w9 hp9 => ?_)
  obtain ⟨rfl, rfl⟩ := hp9
  rw [e7]
  refine vl_if_eq (tgt := 20) C0 dX4_orderOf_6 (by decide) (fun (h6 : (bI (inB a 0 (nI nl - 1)) : Int32) = (0 : Int32)) => ?_) (fun (h6 : ¬ (bI (inB a 0 (nI nl - 1)) : Int32) = (0 : Int32)) => ?_)
  · have g6 := bI_0.mp h6
    refine vl_iconst (v := 1) C0 dX4_orderOf_20 (by decide) ?_
    refine vl_calli C0 (vl_goV C0 (As := [.int 1]) (na := 1) (b := ad 0) (st := []) (ci := 4) gX4_orderOf_X4_fails rfl rfl rfl (by decide +kernel) ⟨Nat.le_of_ble_eq_true rfl, Nat.le_of_ble_eq_true rfl⟩ rfl ⟨0, _, rfl⟩ dX4_orderOf_21 (Nat.le_of_ble_eq_true rfl) ⟨Nat.le_of_ble_eq_true rfl, Nat.le_of_ble_eq_true rfl⟩ rfl rfl) (c_X4_fails hl0 1) (k2 := 0) (n2 := 0) (Nat.le_of_ble_eq_true rfl) (Nat.le_of_ble_eq_true rfl) (fun r9 w9 hp9 => ?_)
    obtain ⟨hr9, rfl⟩ := hp9
    have hr9 : r9 = 1 := hr9.trans (by decide)
    subst hr9
    refine vl_if_eq (tgt := 31) C0 dX4_orderOf_24 (by decide) (fun (h24 : (1 : Int32) = (0 : Int32)) => absurd h24 (by decide)) (fun (h24 : ¬ (1 : Int32) = (0 : Int32)) => ?_)
    refine vl_iconst (v := 0) C0 dX4_orderOf_27 (by decide) ?_
    refine vl_goto (tgt := 37) C0 dX4_orderOf_28 (by decide) ?_
    exact vl_iret C0 hA.symm hr ⟨by simp [sp_orderOf, bI, g6], by simp [sp_orderOf, bI, g6]⟩ (Nat.le_of_ble_eq_true rfl) (Nat.le_of_ble_eq_true rfl) dX4_orderOf_37
  · have g6 := bI_n.mp h6
    refine vl_iload_n C0 dX4_orderOf_9 2 rfl ?_
    refine vl_calli C0 (vl_goS C0 (As := [.int t]) (na := 1) (st := [.ref (ad 0)]) gX4_orderOf_X4_isTurn rfl rfl rfl (by decide +kernel) ⟨Nat.le_of_ble_eq_true rfl, Nat.le_of_ble_eq_true rfl⟩ dX4_orderOf_10 (Nat.le_of_ble_eq_true rfl) ⟨Nat.le_of_ble_eq_true rfl, Nat.le_of_ble_eq_true rfl⟩ rfl rfl) (c_X4_isTurn hl0 t) (k2 := 0) (n2 := 0) (Nat.le_of_ble_eq_true rfl) (Nat.le_of_ble_eq_true rfl) (fun r9 w9 hp9 => ?_)
    obtain ⟨rfl, rfl⟩ := hp9
    refine vl_if_eq (tgt := 20) C0 dX4_orderOf_13 (by decide) (fun (h13 : (bI (inB t 0 29) : Int32) = (0 : Int32)) => ?_) (fun (h13 : ¬ (bI (inB t 0 29) : Int32) = (0 : Int32)) => ?_)
    · have g13 := bI_0.mp h13
      refine vl_iconst (v := 1) C0 dX4_orderOf_20 (by decide) ?_
      refine vl_calli C0 (vl_goV C0 (As := [.int 1]) (na := 1) (b := ad 0) (st := []) (ci := 4) gX4_orderOf_X4_fails rfl rfl rfl (by decide +kernel) ⟨Nat.le_of_ble_eq_true rfl, Nat.le_of_ble_eq_true rfl⟩ rfl ⟨0, _, rfl⟩ dX4_orderOf_21 (Nat.le_of_ble_eq_true rfl) ⟨Nat.le_of_ble_eq_true rfl, Nat.le_of_ble_eq_true rfl⟩ rfl rfl) (c_X4_fails hl0 1) (k2 := 0) (n2 := 0) (Nat.le_of_ble_eq_true rfl) (Nat.le_of_ble_eq_true rfl) (fun r9 w9 hp9 => ?_)
      obtain ⟨hr9, rfl⟩ := hp9
      have hr9 : r9 = 1 := hr9.trans (by decide)
      subst hr9
      refine vl_if_eq (tgt := 31) C0 dX4_orderOf_24 (by decide) (fun (h24 : (1 : Int32) = (0 : Int32)) => absurd h24 (by decide)) (fun (h24 : ¬ (1 : Int32) = (0 : Int32)) => ?_)
      refine vl_iconst (v := 0) C0 dX4_orderOf_27 (by decide) ?_
      refine vl_goto (tgt := 37) C0 dX4_orderOf_28 (by decide) ?_
      exact vl_iret C0 hA.symm hr ⟨by simp [sp_orderOf, bI, g6, g13], by simp [sp_orderOf, bI, g6, g13]⟩ (Nat.le_of_ble_eq_true rfl) (Nat.le_of_ble_eq_true rfl) dX4_orderOf_37
    · have g13 := bI_n.mp h13
      obtain ⟨ja, hja, rfl⟩ := inB_nI h1 (by omega) g6
      obtain ⟨jt, hjt, rfl⟩ := inB_k g13 (by decide) (n := 30) (by decide)
      refine vl_iconst (v := 0) C0 dX4_orderOf_16 (by decide) ?_
      refine vl_goto (tgt := 21) C0 dX4_orderOf_17 (by decide) ?_
      refine vl_calli C0 (vl_goV C0 (As := [.int 0]) (na := 1) (b := ad 0) (st := []) (ci := 4) gX4_orderOf_X4_fails rfl rfl rfl (by decide +kernel) ⟨Nat.le_of_ble_eq_true rfl, Nat.le_of_ble_eq_true rfl⟩ rfl ⟨0, _, rfl⟩ dX4_orderOf_21 (Nat.le_of_ble_eq_true rfl) ⟨Nat.le_of_ble_eq_true rfl, Nat.le_of_ble_eq_true rfl⟩ rfl rfl) (c_X4_fails hl0 0) (k2 := 0) (n2 := 0) (Nat.le_of_ble_eq_true rfl) (Nat.le_of_ble_eq_true rfl) (fun r9 w9 hp9 => ?_)
      obtain ⟨hr9, rfl⟩ := hp9
      have hr9 : r9 = 0 := hr9.trans (by decide)
      subst hr9
      refine vl_if_eq (tgt := 31) C0 dX4_orderOf_24 (by decide) (fun (h24 : (0 : Int32) = (0 : Int32)) => ?_) (fun (h24 : ¬ (0 : Int32) = (0 : Int32)) => absurd h24 (by decide))
      refine vl_aload_n C0 dX4_orderOf_31 0 rfl ?_
      refine vl_iload_n C0 dX4_orderOf_32 1 rfl ?_
      refine vl_iload_n C0 dX4_orderOf_33 2 rfl ?_
      refine vl_calli C0 (vl_goV C0 (As := [.int (nI ja), .int (nI jt)]) (na := 2) (b := ad 0) (st := []) (ci := 4) gX4_orderOf_X4_orderAt rfl rfl rfl (by decide +kernel) ⟨Nat.le_of_ble_eq_true rfl, Nat.le_of_ble_eq_true rfl⟩ rfl ⟨0, _, rfl⟩ dX4_orderOf_34 (Nat.le_of_ble_eq_true rfl) ⟨Nat.le_of_ble_eq_true rfl, Nat.le_of_ble_eq_true rfl⟩ rfl rfl) (c_X4_orderAt hl0 ja jt (nl := nl) (par := par) ht h9 (hja) (hjt)) (k2 := 0) (n2 := 0) (Nat.le_of_ble_eq_true rfl) (Nat.le_of_ble_eq_true rfl) (fun r9 w9 hp9 => ?_)
      obtain ⟨rfl, rfl⟩ := hp9
      exact vl_iret C0 hA.symm hr ⟨by simp [sp_orderOf, bI, g6, g13, nI_clamp (show ja < 2 ^ 31 by omega), nI_clamp (show jt < 2 ^ 31 by omega)]; rfl, by simp [sp_orderOf, bI, g6, g13, nI_clamp (show ja < 2 ^ 31 by omega), nI_clamp (show jt < 2 ^ 31 by omega)]⟩ (Nat.le_of_ble_eq_true rfl) (Nat.le_of_ble_eq_true rfl) dX4_orderOf_37
set_option maxHeartbeats 4000000 in
set_option maxRecDepth 100000 in
theorem c_X4_ahead {l : Launch} {D : va_G} {cy : Nat → ClassId} {ad : Nat → Nat} {mm : Nat → Nat → Int32} {X : va_W} {nl : Nat} (hl0 : l.stackTraces = false) (a : Int32) (e7 : mm 0 7 = nI nl) (h1 : 1 ≤ nl) (h9 : nl ≤ 9) : vl_Ki l D cy yX4_ahead wsX4_ahead { frames := 2, cells := 0, slots := 0, locals := 43 } 0 0 (mw cy ad mm ++ X) [.ref (ad 0), .int a] (fun r w' => r = (sp_ahead nl mm a).1 ∧ w' = mw cy ad (sp_ahead nl mm a).2 ++ X) := by
  refine vl_openi hl0 (by decide) rfl (Nat.le_of_ble_eq_true rfl) rfl ?_
  intro p e s m args below meth c C0 hr hnm
  generalize hA : va_A (mw cy ad mm ++ X) s.heap.size = A at C0 ⊢
  refine vl_lv (lv2 := [(0, .ref (ad 0)), (1, .int a)]) [0, 1] rfl ?_
  have hin : ∀ x ∈ u_ws RX4 TX4 18, x ∈ wsX4_ahead := by decide +kernel
  refine vl_aload_n C0 dX4_ahead_0 0 rfl ?_
  refine vl_aload_n C0 dX4_ahead_1 0 rfl ?_
  refine vl_iload_n C0 dX4_ahead_2 1 rfl ?_
  refine vl_calli C0 (vl_goV C0 (As := [.int a]) (na := 1) (b := ad 0) (st := [.ref (ad 0)]) (ci := 4) gX4_ahead_X4_isLine rfl rfl rfl (by decide +kernel) ⟨Nat.le_of_ble_eq_true rfl, Nat.le_of_ble_eq_true rfl⟩ rfl ⟨0, _, rfl⟩ dX4_ahead_3 (Nat.le_of_ble_eq_true rfl) ⟨Nat.le_of_ble_eq_true rfl, Nat.le_of_ble_eq_true rfl⟩ rfl rfl) (c_X4_isLine hl0 a) (k2 := 0) (n2 := 0) (Nat.le_of_ble_eq_true rfl) (Nat.le_of_ble_eq_true rfl) (fun r9 w9 hp9 => ?_)
  obtain ⟨rfl, rfl⟩ := hp9
  rw [e7]
  refine vl_if_eq (tgt := 13) C0 dX4_ahead_6 (by decide) (fun (h6 : (bI (inB a 0 (nI nl - 1)) : Int32) = (0 : Int32)) => ?_) (fun (h6 : ¬ (bI (inB a 0 (nI nl - 1)) : Int32) = (0 : Int32)) => ?_)
  · have g6 := bI_0.mp h6
    refine vl_iconst (v := 1) C0 dX4_ahead_13 (by decide) ?_
    refine vl_calli C0 (vl_goV C0 (As := [.int 1]) (na := 1) (b := ad 0) (st := []) (ci := 4) gX4_ahead_X4_fails rfl rfl rfl (by decide +kernel) ⟨Nat.le_of_ble_eq_true rfl, Nat.le_of_ble_eq_true rfl⟩ rfl ⟨0, _, rfl⟩ dX4_ahead_14 (Nat.le_of_ble_eq_true rfl) ⟨Nat.le_of_ble_eq_true rfl, Nat.le_of_ble_eq_true rfl⟩ rfl rfl) (c_X4_fails hl0 1) (k2 := 0) (n2 := 0) (Nat.le_of_ble_eq_true rfl) (Nat.le_of_ble_eq_true rfl) (fun r9 w9 hp9 => ?_)
    obtain ⟨hr9, rfl⟩ := hp9
    have hr9 : r9 = 1 := hr9.trans (by decide)
    subst hr9
    refine vl_if_eq (tgt := 24) C0 dX4_ahead_17 (by decide) (fun (h17 : (1 : Int32) = (0 : Int32)) => absurd h17 (by decide)) (fun (h17 : ¬ (1 : Int32) = (0 : Int32)) => ?_)
    refine vl_iconst (v := 0) C0 dX4_ahead_20 (by decide) ?_
    refine vl_goto (tgt := 29) C0 dX4_ahead_21 (by decide) ?_
    exact vl_iret C0 hA.symm hr ⟨by simp [sp_ahead, bI, g6], by simp [sp_ahead, bI, g6]⟩ (Nat.le_of_ble_eq_true rfl) (Nat.le_of_ble_eq_true rfl) dX4_ahead_29
  · have g6 := bI_n.mp h6
    obtain ⟨ja, hja, rfl⟩ := inB_nI h1 (by omega) g6
    refine vl_iconst (v := 0) C0 dX4_ahead_9 (by decide) ?_
    refine vl_goto (tgt := 14) C0 dX4_ahead_10 (by decide) ?_
    refine vl_calli C0 (vl_goV C0 (As := [.int 0]) (na := 1) (b := ad 0) (st := []) (ci := 4) gX4_ahead_X4_fails rfl rfl rfl (by decide +kernel) ⟨Nat.le_of_ble_eq_true rfl, Nat.le_of_ble_eq_true rfl⟩ rfl ⟨0, _, rfl⟩ dX4_ahead_14 (Nat.le_of_ble_eq_true rfl) ⟨Nat.le_of_ble_eq_true rfl, Nat.le_of_ble_eq_true rfl⟩ rfl rfl) (c_X4_fails hl0 0) (k2 := 0) (n2 := 0) (Nat.le_of_ble_eq_true rfl) (Nat.le_of_ble_eq_true rfl) (fun r9 w9 hp9 => ?_)
    obtain ⟨hr9, rfl⟩ := hp9
    have hr9 : r9 = 0 := hr9.trans (by decide)
    subst hr9
    refine vl_if_eq (tgt := 24) C0 dX4_ahead_17 (by decide) (fun (h17 : (0 : Int32) = (0 : Int32)) => ?_) (fun (h17 : ¬ (0 : Int32) = (0 : Int32)) => absurd h17 (by decide))
    refine vl_aload_n C0 dX4_ahead_24 0 rfl ?_
    refine vl_iload_n C0 dX4_ahead_25 1 rfl ?_
    refine vl_calli C0 (vl_goV C0 (As := [.int (nI ja)]) (na := 1) (b := ad 0) (st := []) (ci := 4) gX4_ahead_X4_aheadOf rfl rfl rfl (by decide +kernel) ⟨Nat.le_of_ble_eq_true rfl, Nat.le_of_ble_eq_true rfl⟩ rfl ⟨0, _, rfl⟩ dX4_ahead_26 (Nat.le_of_ble_eq_true rfl) ⟨Nat.le_of_ble_eq_true rfl, Nat.le_of_ble_eq_true rfl⟩ rfl rfl) (c_X4_aheadOf hl0 ja (by omega)) (k2 := 0) (n2 := 0) (Nat.le_of_ble_eq_true rfl) (Nat.le_of_ble_eq_true rfl) (fun r9 w9 hp9 => ?_)
    obtain ⟨rfl, rfl⟩ := hp9
    exact vl_iret C0 hA.symm hr ⟨by simp [sp_ahead, bI, g6, nI_clamp (show ja < 2 ^ 31 by omega)]; rfl, by simp [sp_ahead, bI, g6, nI_clamp (show ja < 2 ^ 31 by omega)]⟩ (Nat.le_of_ble_eq_true rfl) (Nat.le_of_ble_eq_true rfl) dX4_ahead_29
set_option maxHeartbeats 4000000 in
set_option maxRecDepth 100000 in
theorem c_X4_differences {l : Launch} {D : va_G} {cy : Nat → ClassId} {ad : Nat → Nat} {mm : Nat → Nat → Int32} {X : va_W} {nl : Nat} {par : Nat → Option Nat} (hl0 : l.stackTraces = false) (a b : Int32) (e7 : mm 0 7 = nI nl) (h1 : 1 ≤ nl) (h9 : nl ≤ 9) (ht : mTree nl par mm) : vl_Ki l D cy yX4_differences wsX4_differences { frames := 2, cells := 0, slots := 0, locals := 45 } 0 0 (mw cy ad mm ++ X) [.ref (ad 0), .int a, .int b] (fun r w' => r = (sp_differences nl par mm a b).1 ∧ w' = mw cy ad (sp_differences nl par mm a b).2 ++ X) := by
  refine vl_openi hl0 (by decide) rfl (Nat.le_of_ble_eq_true rfl) rfl ?_
  intro p e s m args below meth c C0 hr hnm
  generalize hA : va_A (mw cy ad mm ++ X) s.heap.size = A at C0 ⊢
  refine vl_lv (lv2 := [(0, .ref (ad 0)), (1, .int a), (2, .int b)]) [0, 1, 2] rfl ?_
  have hin : ∀ x ∈ u_ws RX4 TX4 18, x ∈ wsX4_differences := by decide +kernel
  refine vl_aload_n C0 dX4_differences_0 0 rfl ?_
  refine vl_aload_n C0 dX4_differences_1 0 rfl ?_
  refine vl_iload_n C0 dX4_differences_2 1 rfl ?_
  refine vl_calli C0 (vl_goV C0 (As := [.int a]) (na := 1) (b := ad 0) (st := [.ref (ad 0)]) (ci := 4) gX4_differences_X4_isLine rfl rfl rfl (by decide +kernel) ⟨Nat.le_of_ble_eq_true rfl, Nat.le_of_ble_eq_true rfl⟩ rfl ⟨0, _, rfl⟩ dX4_differences_3 (Nat.le_of_ble_eq_true rfl) ⟨Nat.le_of_ble_eq_true rfl, Nat.le_of_ble_eq_true rfl⟩ rfl rfl) (c_X4_isLine hl0 a) (k2 := 0) (n2 := 0) (Nat.le_of_ble_eq_true rfl) (Nat.le_of_ble_eq_true rfl) (fun r9 w9 hp9 => ?_)
  obtain ⟨rfl, rfl⟩ := hp9
  rw [e7]
  refine vl_if_eq (tgt := 21) C0 dX4_differences_6 (by decide) (fun (h6 : (bI (inB a 0 (nI nl - 1)) : Int32) = (0 : Int32)) => ?_) (fun (h6 : ¬ (bI (inB a 0 (nI nl - 1)) : Int32) = (0 : Int32)) => ?_)
  · have g6 := bI_0.mp h6
    refine vl_iconst (v := 1) C0 dX4_differences_21 (by decide) ?_
    refine vl_calli C0 (vl_goV C0 (As := [.int 1]) (na := 1) (b := ad 0) (st := []) (ci := 4) gX4_differences_X4_fails rfl rfl rfl (by decide +kernel) ⟨Nat.le_of_ble_eq_true rfl, Nat.le_of_ble_eq_true rfl⟩ rfl ⟨0, _, rfl⟩ dX4_differences_22 (Nat.le_of_ble_eq_true rfl) ⟨Nat.le_of_ble_eq_true rfl, Nat.le_of_ble_eq_true rfl⟩ rfl rfl) (c_X4_fails hl0 1) (k2 := 0) (n2 := 0) (Nat.le_of_ble_eq_true rfl) (Nat.le_of_ble_eq_true rfl) (fun r9 w9 hp9 => ?_)
    obtain ⟨hr9, rfl⟩ := hp9
    have hr9 : r9 = 1 := hr9.trans (by decide)
    subst hr9
    refine vl_if_eq (tgt := 30) C0 dX4_differences_25 (by decide) (fun (h25 : (1 : Int32) = (0 : Int32)) => absurd h25 (by decide)) (fun (h25 : ¬ (1 : Int32) = (0 : Int32)) => ?_)
    refine vl_iconst (v := 0) C0 dX4_differences_28 (by decide) ?_
    exact vl_iret C0 hA.symm hr ⟨by simp [sp_differences, bI, g6], by simp [sp_differences, bI, g6]⟩ (Nat.le_of_ble_eq_true rfl) (Nat.le_of_ble_eq_true rfl) dX4_differences_29
  · have g6 := bI_n.mp h6
    refine vl_aload_n C0 dX4_differences_9 0 rfl ?_
    refine vl_iload_n C0 dX4_differences_10 2 rfl ?_
    refine vl_calli C0 (vl_goV C0 (As := [.int b]) (na := 1) (b := ad 0) (st := [.ref (ad 0)]) (ci := 4) gX4_differences_X4_isLine rfl rfl rfl (by decide +kernel) ⟨Nat.le_of_ble_eq_true rfl, Nat.le_of_ble_eq_true rfl⟩ rfl ⟨0, _, rfl⟩ dX4_differences_11 (Nat.le_of_ble_eq_true rfl) ⟨Nat.le_of_ble_eq_true rfl, Nat.le_of_ble_eq_true rfl⟩ rfl rfl) (c_X4_isLine hl0 b) (k2 := 0) (n2 := 0) (Nat.le_of_ble_eq_true rfl) (Nat.le_of_ble_eq_true rfl) (fun r9 w9 hp9 => ?_)
    obtain ⟨rfl, rfl⟩ := hp9
    rw [e7]
    refine vl_if_eq (tgt := 21) C0 dX4_differences_14 (by decide) (fun (h14 : (bI (inB b 0 (nI nl - 1)) : Int32) = (0 : Int32)) => ?_) (fun (h14 : ¬ (bI (inB b 0 (nI nl - 1)) : Int32) = (0 : Int32)) => ?_)
    · have g14 := bI_0.mp h14
      refine vl_iconst (v := 1) C0 dX4_differences_21 (by decide) ?_
      refine vl_calli C0 (vl_goV C0 (As := [.int 1]) (na := 1) (b := ad 0) (st := []) (ci := 4) gX4_differences_X4_fails rfl rfl rfl (by decide +kernel) ⟨Nat.le_of_ble_eq_true rfl, Nat.le_of_ble_eq_true rfl⟩ rfl ⟨0, _, rfl⟩ dX4_differences_22 (Nat.le_of_ble_eq_true rfl) ⟨Nat.le_of_ble_eq_true rfl, Nat.le_of_ble_eq_true rfl⟩ rfl rfl) (c_X4_fails hl0 1) (k2 := 0) (n2 := 0) (Nat.le_of_ble_eq_true rfl) (Nat.le_of_ble_eq_true rfl) (fun r9 w9 hp9 => ?_)
      obtain ⟨hr9, rfl⟩ := hp9
      have hr9 : r9 = 1 := hr9.trans (by decide)
      subst hr9
      refine vl_if_eq (tgt := 30) C0 dX4_differences_25 (by decide) (fun (h25 : (1 : Int32) = (0 : Int32)) => absurd h25 (by decide)) (fun (h25 : ¬ (1 : Int32) = (0 : Int32)) => ?_)
      refine vl_iconst (v := 0) C0 dX4_differences_28 (by decide) ?_
      exact vl_iret C0 hA.symm hr ⟨by simp [sp_differences, bI, g6, g14], by simp [sp_differences, bI, g6, g14]⟩ (Nat.le_of_ble_eq_true rfl) (Nat.le_of_ble_eq_true rfl) dX4_differences_29
    · have g14 := bI_n.mp h14
      obtain ⟨ja, hja, rfl⟩ := inB_nI h1 (by omega) g6
      obtain ⟨jb, hjb, rfl⟩ := inB_nI h1 (by omega) g14
      refine vl_iconst (v := 0) C0 dX4_differences_17 (by decide) ?_
      refine vl_goto (tgt := 22) C0 dX4_differences_18 (by decide) ?_
      refine vl_calli C0 (vl_goV C0 (As := [.int 0]) (na := 1) (b := ad 0) (st := []) (ci := 4) gX4_differences_X4_fails rfl rfl rfl (by decide +kernel) ⟨Nat.le_of_ble_eq_true rfl, Nat.le_of_ble_eq_true rfl⟩ rfl ⟨0, _, rfl⟩ dX4_differences_22 (Nat.le_of_ble_eq_true rfl) ⟨Nat.le_of_ble_eq_true rfl, Nat.le_of_ble_eq_true rfl⟩ rfl rfl) (c_X4_fails hl0 0) (k2 := 0) (n2 := 0) (Nat.le_of_ble_eq_true rfl) (Nat.le_of_ble_eq_true rfl) (fun r9 w9 hp9 => ?_)
      obtain ⟨hr9, rfl⟩ := hp9
      have hr9 : r9 = 0 := hr9.trans (by decide)
      subst hr9
      refine vl_if_eq (tgt := 30) C0 dX4_differences_25 (by decide) (fun (h25 : (0 : Int32) = (0 : Int32)) => ?_) (fun (h25 : ¬ (0 : Int32) = (0 : Int32)) => absurd h25 (by decide))
      refine vl_iconst (v := 0) C0 dX4_differences_30 (by decide) ?_
      refine vl_istore_n (lv' := [(0, .ref (ad 0)), (1, .int (nI ja)), (2, .int (nI jb)), (3, .int 0)]) C0 dX4_differences_31 [1, 2, 3, 0] (by decide) rfl ?_
      refine vl_iconst (v := 0) C0 dX4_differences_32 (by decide) ?_
      refine vl_istore (lv' := [(0, .ref (ad 0)), (1, .int (nI ja)), (2, .int (nI jb)), (3, .int 0), (4, .int 0)]) C0 dX4_differences_33 [1, 2, 3, 4, 0] (by decide) rfl ?_
      refine vl_loop (σ := Nat) (fun _ => mw cy ad (up2 mm 0 17 0) ++ X) (fun k => [(0, .ref (ad 0)), (1, .int (nI ja)), (2, .int (nI jb)), (3, .int (bset (difP (mm 11) par ja jb) k)), (4, .int (nI k))]) (fun k => k ≤ 30) (fun k => 30 - k) ?_ 0 (by decide)
      intro k hk ih
      refine vl_lv (lv2 := [(0, .ref (ad 0)), (1, .int (nI ja)), (2, .int (nI jb)), (3, .int (bset (difP (mm 11) par ja jb) k)), (4, .int (nI k))]) [0, 1, 2, 3, 4] rfl ?_
      refine vl_iload C0 dX4_differences_35 4 rfl ?_
      refine vl_bipush (v := 30) C0 dX4_differences_37 (by decide) ?_
      refine vl_icmp_ge (tgt := 76) C0 dX4_differences_39 (by decide) (fun (h39 : (30 : Int32) ≤ (nI k : Int32)) => ?_) (fun (h39 : ¬ (30 : Int32) ≤ (nI k : Int32)) => ?_)
      · have hk30 : k = 30 := by have z : ¬ k < 30 := fun q => absurd h39 (nI_ge q (by decide)); omega
        refine vl_iload_n C0 dX4_differences_76 3 rfl ?_
        exact vl_iret C0 hA.symm hr ⟨by subst hk30; simp [sp_differences, bI, g6, g14, nI_clamp (show ja < 2 ^ 31 by omega), nI_clamp (show jb < 2 ^ 31 by omega)], by subst hk30; simp [sp_differences, bI, g6, g14, nI_clamp (show ja < 2 ^ 31 by omega), nI_clamp (show jb < 2 ^ 31 by omega)]⟩ (Nat.le_of_ble_eq_true rfl) (Nat.le_of_ble_eq_true rfl) dX4_differences_77
      · have hk30 : k < 30 := by have z : ¬ k = 30 := fun q => h39 (by rw [q]; exact nI_le (Nat.le_refl _) (by decide)); omega
        refine vl_iload_n C0 dX4_differences_42 3 rfl ?_
        refine vl_aload_n C0 dX4_differences_43 0 rfl ?_
        refine vl_iload_n C0 dX4_differences_44 1 rfl ?_
        refine vl_iload C0 dX4_differences_45 4 rfl ?_
        refine vl_calli C0 (vl_goV C0 (As := [.int (nI ja), .int (nI k)]) (na := 2) (b := ad 0) (st := [.int (bset (difP (mm 11) par ja jb) k)]) (ci := 4) gX4_differences_X4_orderAt rfl rfl rfl (by decide +kernel) ⟨Nat.le_of_ble_eq_true rfl, Nat.le_of_ble_eq_true rfl⟩ rfl ⟨0, _, rfl⟩ dX4_differences_47 (Nat.le_of_ble_eq_true rfl) ⟨Nat.le_of_ble_eq_true rfl, Nat.le_of_ble_eq_true rfl⟩ rfl rfl) (c_X4_orderAt hl0 ja k (nl := nl) (par := par) ht h9 (hja) (hk30)) (k2 := 0) (n2 := 0) (Nat.le_of_ble_eq_true rfl) (Nat.le_of_ble_eq_true rfl) (fun r9 w9 hp9 => ?_)
        obtain ⟨rfl, rfl⟩ := hp9
        refine vl_aload_n C0 dX4_differences_50 0 rfl ?_
        refine vl_iload_n C0 dX4_differences_51 2 rfl ?_
        refine vl_iload C0 dX4_differences_52 4 rfl ?_
        refine vl_calli C0 (vl_goV C0 (As := [.int (nI jb), .int (nI k)]) (na := 2) (b := ad 0) (st := [.int (ordX (mm 11) par k (some ja)), .int (bset (difP (mm 11) par ja jb) k)]) (ci := 4) gX4_differences_X4_orderAt rfl rfl rfl (by decide +kernel) ⟨Nat.le_of_ble_eq_true rfl, Nat.le_of_ble_eq_true rfl⟩ rfl ⟨0, _, rfl⟩ dX4_differences_54 (Nat.le_of_ble_eq_true rfl) ⟨Nat.le_of_ble_eq_true rfl, Nat.le_of_ble_eq_true rfl⟩ rfl rfl) (c_X4_orderAt hl0 jb k (nl := nl) (par := par) ht h9 (hjb) (hk30)) (k2 := 0) (n2 := 0) (Nat.le_of_ble_eq_true rfl) (Nat.le_of_ble_eq_true rfl) (fun r9 w9 hp9 => ?_)
        obtain ⟨rfl, rfl⟩ := hp9
        refine vl_icmp_ne (tgt := 64) C0 dX4_differences_57 (by decide) (fun (h57 : ¬ (ordX (mm 11) par k (some ja) : Int32) = (ordX (mm 11) par k (some jb) : Int32)) => ?_) (fun (h57 : (ordX (mm 11) par k (some ja) : Int32) = (ordX (mm 11) par k (some jb) : Int32)) => ?_)
        · refine vl_iconst (v := 1) C0 dX4_differences_64 (by decide) ?_
          refine vl_iload C0 dX4_differences_65 4 rfl ?_
          refine vl_ishl C0 dX4_differences_67 ?_
          refine vl_ior C0 dX4_differences_68 ?_
          rw [bset_t (P := difP (mm 11) par ja jb) (k := k) (by simp [difP, h57])]
          refine vl_istore_n (lv' := [(0, .ref (ad 0)), (1, .int (nI ja)), (2, .int (nI jb)), (3, .int (bset (difP (mm 11) par ja jb) (k + 1))), (4, .int (nI k))]) C0 dX4_differences_69 [1, 2, 3, 0, 4] (by decide) rfl ?_
          refine vl_iinc (v := nI (k + 1)) (lv' := [(0, .ref (ad 0)), (1, .int (nI ja)), (2, .int (nI jb)), (3, .int (bset (difP (mm 11) par ja jb) (k + 1))), (4, .int (nI (k + 1)))]) C0 dX4_differences_70 4 rfl (nI_1 k) [1, 2, 3, 4, 0] (by decide) rfl ?_
          refine vl_goto (tgt := 35) C0 dX4_differences_73 (by decide) ?_
          exact ih (k + 1) (by omega) (by omega)
        · refine vl_iconst (v := 0) C0 dX4_differences_60 (by decide) ?_
          refine vl_goto (tgt := 68) C0 dX4_differences_61 (by decide) ?_
          refine vl_ior C0 dX4_differences_68 ?_
          rw [bset_f (P := difP (mm 11) par ja jb) (k := k) (by simp [difP, h57])]
          refine vl_istore_n (lv' := [(0, .ref (ad 0)), (1, .int (nI ja)), (2, .int (nI jb)), (3, .int (bset (difP (mm 11) par ja jb) (k + 1))), (4, .int (nI k))]) C0 dX4_differences_69 [1, 2, 3, 0, 4] (by decide) rfl ?_
          refine vl_iinc (v := nI (k + 1)) (lv' := [(0, .ref (ad 0)), (1, .int (nI ja)), (2, .int (nI jb)), (3, .int (bset (difP (mm 11) par ja jb) (k + 1))), (4, .int (nI (k + 1)))]) C0 dX4_differences_70 4 rfl (nI_1 k) [1, 2, 3, 4, 0] (by decide) rfl ?_
          refine vl_goto (tgt := 35) C0 dX4_differences_73 (by decide) ?_
          exact ih (k + 1) (by omega) (by omega)
end VM7
end
section
/-! PLAYING A LINE, as a function -/
section PL
theorem vl_join {p : Program} {l : Launch} {e : Env} {R : Room} {s : State} {m : MethodId} {args : Array Value} {below : List Frame} {meth : Method} {c : Code} {Q : State → Prop} {D : va_G} {A : Nat → Prop} {nL : Nat} {w : va_W} {k n : Nat} {lv : List (Nat × Value)} {pc : Nat} {st : List Value} {w2 : va_W} {k2 n2 : Nat} {lv2 : List (Nat × Value)} (pc2 : Nat) {st2 : List Value} (h2 : vl_V p l e R s m args below meth c Q D A nL w2 k2 n2 lv2 pc2 st2) (h1 : vl_V p l e R s m args below meth c Q D A nL w2 k2 n2 lv2 pc2 st2 → vl_V p l e R s m args below meth c Q D A nL w k n lv pc st) : vl_V p l e R s m args below meth c Q D A nL w k n lv pc st := h1 h2
abbrev plS : Type := (Nat → Int32) × (Nat → Int32) × Int32 × Int32
def tideI (t : Nat) : Int32 := if nI t - nI t / 4 * 4 = 3 then 1 else nI t - nI t / 4 * 4
def freeB (wh : Nat → Int32) (b : Int32) : Nat → Bool
  | 0 => true
  | k + 1 => freeB wh b k && decide (¬ wh k = b)
def canB (n : Nat) (dr wh lf : Nat → Int32) (k : Int32) (s : Nat) (b : Int32) (t : Nat) : Bool := if tideI t < dr s then false else if k = 2 then decide (0 ≤ wh s) && decide (lf s = 0) else decide (wh s = -1) && freeB wh b n
def shI (c : Int32) : Int32 := c / 10 - c / 10 / 10 * 10
def beI (c : Int32) : Int32 := c - c / 10 * 10
def comeA (cm : Nat → Int32) (t : Nat) (wh : Nat → Int32) : Nat → Int32 := fun k => if cm k = nI t then -1 else wh k
def doesS (n : Nat) (dr : Nat → Int32) (c : Int32) (t : Nat) (S : plS) : plS := if c / 100 = 0 then S else if canB n dr S.1 S.2.1 (c / 100) (shI c).toNatClampNeg (beI c) t = true then (upd S.1 (shI c).toNatClampNeg (if c / 100 = 1 then beI c else -3), S.2.1, S.2.2.1, S.2.2.2) else (S.1, S.2.1, S.2.2.1, S.2.2.2 ||| 1 <<< (nI t &&& 31))
def manyI (rt wh lf : Nat → Int32) (k : Nat) : Int32 := if lf k < rt (wh k).toNatClampNeg then lf k else rt (wh k).toNatClampNeg
def earnL (rt wh lf : Nat → Int32) : Nat → Int32 := fun k => if 0 ≤ wh k then lf k - manyI rt wh lf k else lf k
def earnE (rt : Nat → Int32) (pr fe : Int32) (wh lf : Nat → Int32) (e : Int32) : Nat → Int32
  | 0 => e
  | k + 1 => (if 0 ≤ wh k then earnE rt pr fe wh lf e k + pr * manyI rt wh lf k else earnE rt pr fe wh lf e k) - (if wh k = -1 then fe else 0)
def turnS (n : Nat) (cm dr rt : Nat → Int32) (pr fe : Int32) (c : Int32) (t : Nat) (S : plS) : plS := ((doesS n dr c t (comeA cm t S.1, S.2)).1, earnL rt (doesS n dr c t (comeA cm t S.1, S.2)).1 (doesS n dr c t (comeA cm t S.1, S.2)).2.1, earnE rt pr fe (doesS n dr c t (comeA cm t S.1, S.2)).1 (doesS n dr c t (comeA cm t S.1, S.2)).2.1 (doesS n dr c t (comeA cm t S.1, S.2)).2.2.1 n, (doesS n dr c t (comeA cm t S.1, S.2)).2.2.2)
def playS (n : Nat) (cm dr cg rt : Nat → Int32) (pr fe : Int32) (od : Nat → Int32) : Nat → plS
  | 0 => (fun _ => -2, cg, 0, 0)
  | t + 1 => turnS n cm dr rt pr fe (od t) t (playS n cm dr cg rt pr fe od t)
/-- numbers of orders that can be kept -/
def codeOK (n : Nat) (c : Int32) : Prop := c = 0 ∨ (∃ s b : Nat, s < n ∧ b < 3 ∧ c = nI (100 + 10 * s + b)) ∨ ∃ s : Nat, s < n ∧ c = nI (200 + 10 * s)
theorem code_b : ∀ s, s < 8 → ∀ b, b < 3 → nI (100 + 10 * s + b) / 100 = 1 ∧ shI (nI (100 + 10 * s + b)) = nI s ∧ beI (nI (100 + 10 * s + b)) = nI b := by decide +kernel
theorem code_l : ∀ s, s < 8 → nI (200 + 10 * s) / 100 = 2 ∧ shI (nI (200 + 10 * s)) = nI s ∧ beI (nI (200 + 10 * s)) = 0 := by decide +kernel
/-- what is read off the number of an order -/
theorem code_sp {n : Nat} {c : Int32} (hn : n ≤ 8) (h : codeOK n c) : (c / 100 = 0 ∧ c = 0) ∨ (∃ s b : Nat, s < n ∧ b < 3 ∧ c / 100 = 1 ∧ shI c = nI s ∧ beI c = nI b ∧ ¬ c = 0) ∨ ∃ s : Nat, s < n ∧ c / 100 = 2 ∧ shI c = nI s ∧ beI c = 0 ∧ ¬ c = 0 := by
  rcases h with rfl | ⟨s, b, hs, hb, rfl⟩ | ⟨s, hs, rfl⟩
  · exact Or.inl ⟨by decide, rfl⟩
  · obtain ⟨h1, h2, h3⟩ := code_b s (by omega) b hb
    exact Or.inr (Or.inl ⟨s, b, hs, hb, h1, h2, h3, nI_ne0 (by omega) (by omega)⟩)
  · obtain ⟨h1, h2, h3⟩ := code_l s (by omega)
    exact Or.inr (Or.inr ⟨s, hs, h1, h2, h3, nI_ne0 (by omega) (by omega)⟩)
def placeOK (x : Int32) : Prop := x = -3 ∨ x = -2 ∨ x = -1 ∨ x = 0 ∨ x = 1 ∨ x = 2
theorem place_in {x : Int32} (h : placeOK x) (h0 : 0 ≤ x) : vp_in x 3 := by
  rcases h with rfl | rfl | rfl | rfl | rfl | rfl
  · exact absurd h0 (by decide)
  · exact absurd h0 (by decide)
  · exact absurd h0 (by decide)
  · exact vp_in_iff.mpr (by decide)
  · exact vp_in_iff.mpr (by decide)
  · exact vp_in_iff.mpr (by decide)
theorem place_nI {b : Nat} (h : b < 3) : placeOK (nI b) := by
  rcases (show b = 0 ∨ b = 1 ∨ b = 2 by omega) with rfl | rfl | rfl
  · exact Or.inr (Or.inr (Or.inr (Or.inl rfl)))
  · exact Or.inr (Or.inr (Or.inr (Or.inr (Or.inl rfl))))
  · exact Or.inr (Or.inr (Or.inr (Or.inr (Or.inr rfl))))
theorem come_ok {cm : Nat → Int32} {t : Nat} {wh : Nat → Int32} (h : ∀ k, placeOK (wh k)) : ∀ k, placeOK (comeA cm t wh k) := fun k => by
  unfold comeA
  split
  · exact Or.inr (Or.inr (Or.inl rfl))
  · exact h k
theorem does_ok {n : Nat} {dr : Nat → Int32} {c : Int32} {t : Nat} {S : plS} (hn : n ≤ 8) (hc : codeOK n c) (h : ∀ k, placeOK (S.1 k)) : ∀ k, placeOK ((doesS n dr c t S).1 k) := fun k => by
  unfold doesS
  split
  · exact h k
  · split
    · dsimp only [upd]
      split
      · split
        · rcases code_sp hn hc with ⟨h1, -⟩ | ⟨s, b, hs, hb, h1, h2, h3, h4⟩ | ⟨s, hs, h1, h2, h3, h4⟩
          · contradiction
          · rw [h3]; exact place_nI hb
          · rw [h3]; exact Or.inr (Or.inr (Or.inr (Or.inl rfl)))
        · exact Or.inl rfl
      · exact h k
    · exact h k
theorem play_ok {n : Nat} {cm dr cg rt : Nat → Int32} {pr fe : Int32} {od : Nat → Int32} (hn : n ≤ 8) : ∀ t : Nat, (∀ i, i < t → codeOK n (od i)) → ∀ k, placeOK ((playS n cm dr cg rt pr fe od t).1 k) := by
  intro t
  induction t with
  | zero => intro _ k; exact Or.inr (Or.inl rfl)
  | succ t ih => intro ho k; exact does_ok hn (ho t (Nat.lt_succ_self t)) (come_ok (ih fun i hi => ho i (by omega))) k
theorem upd_step {f new old : Nat → Int32} {n k : Nat} {v : Int32} (h : ∀ i, i < n → f i = if i < k then new i else old i) (hv : v = new k) : ∀ i, i < n → upd f k v i = if i < k + 1 then new i else old i := fun i hi => by
  by_cases hik : i = k
  · subst hik; simp [upd, hv]
  · have h2 := h i hi
    simp only [upd, hik, if_false, h2]
    by_cases h3 : i < k
    · rw [if_pos h3, if_pos (by omega)]
    · rw [if_neg h3, if_neg (by omega)]
theorem upd_skip {f new old : Nat → Int32} {n k : Nat} (h : ∀ i, i < n → f i = if i < k then new i else old i) (hv : old k = new k) : ∀ i, i < n → f i = if i < k + 1 then new i else old i := fun i hi => by
  rw [h i hi]
  by_cases hik : i = k
  · subst hik; rw [if_neg (Nat.lt_irrefl i), if_pos (Nat.lt_succ_self i), hv]
  · by_cases h3 : i < k
    · rw [if_pos h3, if_pos (by omega)]
    · rw [if_neg h3, if_neg (by omega)]
theorem upd_at {f new old : Nat → Int32} {n k : Nat} (h : ∀ i, i < n → f i = if i < k then new i else old i) (hk : k < n) : f k = old k := by rw [h k hk, if_neg (Nat.lt_irrefl k)]
theorem upd_end {f new old : Nat → Int32} {n : Nat} (h : ∀ i, i < n → f i = if i < n then new i else old i) : ∀ i, i < n → f i = new i := fun i hi => by rw [h i hi, if_pos hi]
theorem freeB_c {wh wh' : Nat → Int32} {b : Int32} : ∀ n : Nat, (∀ i, i < n → wh i = wh' i) → freeB wh b n = freeB wh' b n := by
  intro n
  induction n with
  | zero => intro _; rfl
  | succ n ih => intro h; rw [freeB, freeB, ih fun i hi => h i (by omega), h n (Nat.lt_succ_self n)]
theorem canB_c {n : Nat} {dr wh lf wh' lf' : Nat → Int32} {k : Int32} {s : Nat} {b : Int32} {t : Nat} (hs : s < n) (h1 : ∀ i, i < n → wh i = wh' i) (h2 : ∀ i, i < n → lf i = lf' i) : canB n dr wh lf k s b t = canB n dr wh' lf' k s b t := by
  unfold canB
  rw [h1 s hs, h2 s hs, freeB_c n h1]
theorem many_c {rt wh lf wh' lf' : Nat → Int32} {k : Nat} (h1 : wh k = wh' k) (h2 : lf k = lf' k) : manyI rt wh lf k = manyI rt wh' lf' k := by
  unfold manyI
  rw [h1, h2]
/-- the reference's state, but for what a play writes -/
def mFr (m m' : Nat → Nat → Int32) : Prop := (∀ j, j ≠ 0 → j ≠ 13 → j ≠ 14 → m' j = m j) ∧ ∀ i, i ≠ 15 → i ≠ 16 → m' 0 i = m 0 i
theorem mFr.rf {m : Nat → Nat → Int32} : mFr m m := ⟨fun _ _ _ _ => rfl, fun _ _ _ => rfl⟩
theorem mFr.tr {m m' m2 : Nat → Nat → Int32} (h : mFr m m') (h2 : mFr m' m2) : mFr m m2 := ⟨fun j a b c => (h2.1 j a b c).trans (h.1 j a b c), fun i a b => (h2.2 i a b).trans (h.2 i a b)⟩
theorem mFr.up {m m' : Nat → Nat → Int32} (h : mFr m m') (j i : Nat) (v : Int32) (hj : j = 13 ∨ j = 14 ∨ (j = 0 ∧ (i = 15 ∨ i = 16))) : mFr m (up2 m' j i v) := by
  refine ⟨fun a h0 h1 h2 => ?_, fun b h1 h2 => ?_⟩
  · rw [show up2 m' j i v a = m' a by simp only [up2]; rw [if_neg (by omega)]]
    exact h.1 a h0 h1 h2
  · rw [show up2 m' j i v 0 b = m' 0 b by
      simp only [up2]
      split
      · rename_i h3
        subst h3
        simp only [upd]
        rw [if_neg (by omega)]
      · rfl]
    exact h.2 b h1 h2
/-- the reference's state tells the play S -/
def mPl (n : Nat) (m : Nat → Nat → Int32) (S : plS) : Prop := (∀ i, i < n → m 13 i = S.1 i) ∧ (∀ i, i < n → m 14 i = S.2.1 i) ∧ m 0 15 = S.2.2.1 ∧ m 0 16 = S.2.2.2
def doesM (n : Nat) (m : Nat → Nat → Int32) (c : Int32) (t : Nat) : Nat → Nat → Int32 := if c / 100 = 0 then m else if canB n (m 2) (m 13) (m 14) (c / 100) (shI c).toNatClampNeg (beI c) t = true then up2 m 13 (shI c).toNatClampNeg (if c / 100 = 1 then beI c else -3) else up2 m 0 16 (m 0 16 ||| 1 <<< (nI t &&& 31))
theorem doesM_fr {n : Nat} {m : Nat → Nat → Int32} {c : Int32} {t : Nat} : mFr m (doesM n m c t) := by
  unfold doesM
  split
  · exact mFr.rf
  · split
    · exact mFr.rf.up _ _ _ (Or.inl rfl)
    · exact mFr.rf.up _ _ _ (Or.inr (Or.inr ⟨rfl, Or.inr rfl⟩))
theorem doesM_pl {n : Nat} {m : Nat → Nat → Int32} {c : Int32} {t : Nat} {S : plS} (hn : n ≤ 8) (hc : codeOK n c) (h : mPl n m S) : mPl n (doesM n m c t) (doesS n (m 2) c t S) := by
  have key : ∀ s : Nat, s < n → shI c = nI s → canB n (m 2) (m 13) (m 14) (c / 100) (shI c).toNatClampNeg (beI c) t = canB n (m 2) S.1 S.2.1 (c / 100) (shI c).toNatClampNeg (beI c) t := fun s hs e => canB_c (by rw [e, nI_clamp (by omega)]; exact hs) h.1 h.2.1
  unfold doesM doesS
  by_cases h0 : c / 100 = 0
  · rw [if_pos h0, if_pos h0]; exact h
  · rw [if_neg h0, if_neg h0]
    have hk : canB n (m 2) (m 13) (m 14) (c / 100) (shI c).toNatClampNeg (beI c) t = canB n (m 2) S.1 S.2.1 (c / 100) (shI c).toNatClampNeg (beI c) t := by
      rcases code_sp hn hc with ⟨h1, -⟩ | ⟨s, b, hs, hb, h1, h2, h3, h4⟩ | ⟨s, hs, h1, h2, h3, h4⟩
      · exact absurd h1 h0
      · exact key s hs h2
      · exact key s hs h2
    rw [hk]
    by_cases h1 : canB n (m 2) S.1 S.2.1 (c / 100) (shI c).toNatClampNeg (beI c) t = true
    · rw [if_pos h1, if_pos h1]
      refine ⟨fun i hi => ?_, fun i hi => h.2.1 i hi, h.2.2.1, h.2.2.2⟩
      show upd (m 13) _ _ i = upd S.1 _ _ i
      simp only [upd]
      split
      · rfl
      · exact h.1 i hi
    · rw [if_neg h1, if_neg h1]
      refine ⟨fun i hi => h.1 i hi, fun i hi => h.2.1 i hi, h.2.2.1, ?_⟩
      show (m 0 16 ||| 1 <<< (nI t &&& 31) : Int32) = _
      rw [h.2.2.2]
end PL
end
section
section VM8
theorem code_sh {n : Nat} {c : Int32} (hn : n ≤ 8) (h : codeOK n c) (h0 : ¬ c / 100 = 0) : ∃ s : Nat, s < n ∧ shI c = nI s := by
  rcases code_sp hn h with ⟨h1, -⟩ | ⟨s, b, hs, hb, h1, h2, h3, h4⟩ | ⟨s, hs, h1, h2, h3, h4⟩
  · exact absurd h1 h0
  · exact ⟨s, hs, h2⟩
  · exact ⟨s, hs, h2⟩
set_option maxHeartbeats 4000000 in
set_option maxRecDepth 100000 in
theorem c_X4_can {l : Launch} {D : va_G} {cy : Nat → ClassId} {ad : Nat → Nat} {mm : Nat → Nat → Int32} {X : va_W} {ns : Nat} (hl0 : l.stackTraces = false) (k9 : Int32) (s9 : Nat) (b : Int32) (t : Nat) (e0 : mm 0 0 = nI ns) (h8 : ns ≤ 8) (hs : s9 < ns) : vl_Ki l D cy yX4_can wsX4_can { frames := 0, cells := 0, slots := 0, locals := 0 } 0 0 (mw cy ad mm ++ X) [.ref (ad 0), .int k9, .int (nI s9), .int b, .int (nI t)] (fun r w' => r = bI (canB ns (mm 2) (mm 13) (mm 14) k9 s9 b t) ∧ w' = mw cy ad mm ++ X) := by
  refine vl_openi hl0 (by decide) rfl (Nat.le_of_ble_eq_true rfl) rfl ?_
  intro p e s m args below meth c C0 hr hnm
  generalize hA : va_A (mw cy ad mm ++ X) s.heap.size = A at C0 ⊢
  refine vl_lv (lv2 := [(0, .ref (ad 0)), (1, .int k9), (2, .int (nI s9)), (3, .int b), (4, .int (nI t))]) [0, 1, 2, 3, 4] rfl ?_
  have hin : ∀ x ∈ u_ws RX4 TX4 18, x ∈ wsX4_can := by decide +kernel
  refine vl_join (w2 := mw cy ad mm ++ X) (k2 := 0) (n2 := 0) (lv2 := [(0, .ref (ad 0)), (1, .int k9), (2, .int (nI s9)), (3, .int b), (4, .int (nI t))]) 16 (st2 := [.int (tideI t)]) ?_ (fun hj => ?_)
  · skip
    refine vl_istore (lv' := [(0, .ref (ad 0)), (1, .int k9), (2, .int (nI s9)), (3, .int b), (4, .int (nI t)), (5, .int (tideI t))]) C0 dX4_can_16 [1, 2, 3, 4, 5, 0] (by decide) rfl ?_
    refine vl_iload C0 dX4_can_18 5 rfl ?_
    refine vl_aload_n C0 dX4_can_20 0 rfl ?_
    refine rm_get C0 hin 2 (by decide) (by decide +kernel) rfl dX4_can_21 ?_
    refine vl_iload_n C0 dX4_can_24 2 rfl ?_
    refine rm_iald C0 2 2 8 rfl (vp_in_nI (show s9 < 8 by omega) (by decide)) (kn := s9) (nI_clamp (by omega)) (v := mm 2 s9) (rfl) dX4_can_25 ?_
    refine vl_icmp_ge (tgt := 31) C0 dX4_can_26 (by decide) (fun (h26 : (mm 2 s9 : Int32) ≤ (tideI t : Int32)) => ?_) (fun (h26 : ¬ (mm 2 s9 : Int32) ≤ (tideI t : Int32)) => ?_)
    · refine vl_iload_n C0 dX4_can_31 1 rfl ?_
      refine vl_iconst (v := 2) C0 dX4_can_32 (by decide) ?_
      refine vl_icmp_ne (tgt := 60) C0 dX4_can_33 (by decide) (fun (h33 : ¬ (k9 : Int32) = (2 : Int32)) => ?_) (fun (h33 : (k9 : Int32) = (2 : Int32)) => ?_)
      · refine vl_join (w2 := mw cy ad mm ++ X) (k2 := 0) (n2 := 0) (lv2 := [(0, .ref (ad 0)), (1, .int k9), (2, .int (nI s9)), (3, .int b), (4, .int (nI t)), (5, .int (tideI t))]) 75 (st2 := [.int (bI (decide (mm 13 s9 = -1)))]) ?_ (fun hj => ?_)
        · skip
          refine vl_istore (lv' := [(0, .ref (ad 0)), (1, .int k9), (2, .int (nI s9)), (3, .int b), (4, .int (nI t)), (5, .int (tideI t)), (6, .int (bI (decide (mm 13 s9 = -1))))]) C0 dX4_can_75 [1, 2, 3, 4, 5, 6, 0] (by decide) rfl ?_
          refine vl_iconst (v := 0) C0 dX4_can_77 (by decide) ?_
          refine vl_istore (lv' := [(0, .ref (ad 0)), (1, .int k9), (2, .int (nI s9)), (3, .int b), (4, .int (nI t)), (5, .int (tideI t)), (6, .int (bI (decide (mm 13 s9 = -1)))), (7, .int 0)]) C0 dX4_can_78 [1, 2, 3, 4, 5, 6, 7, 0] (by decide) rfl ?_
          refine vl_loop (σ := Nat) (fun _ => mw cy ad mm ++ X) (fun k => [(0, .ref (ad 0)), (1, .int k9), (2, .int (nI s9)), (3, .int b), (4, .int (nI t)), (5, .int (tideI t)), (6, .int (bI (freeB (mm 13) b k && decide (mm 13 s9 = -1)))), (7, .int (nI k))]) (fun k => k ≤ ns) (fun k => ns - k) ?_ 0 (by omega)
          intro k hk ih
          refine vl_lv (lv2 := [(0, .ref (ad 0)), (1, .int k9), (2, .int (nI s9)), (3, .int b), (4, .int (nI t)), (5, .int (tideI t)), (6, .int (bI (freeB (mm 13) b k && decide (mm 13 s9 = -1)))), (7, .int (nI k))]) [0, 1, 2, 3, 4, 5, 6, 7] rfl ?_
          refine vl_iload C0 dX4_can_80 7 rfl ?_
          refine vl_aload_n C0 dX4_can_82 0 rfl ?_
          refine rm_get C0 hin 0 (by decide) (by decide +kernel) (v := .int (nI ns)) (congrArg (fun z => some (Value.int z)) e0) dX4_can_83 ?_
          refine vl_icmp_ge (tgt := 118) C0 dX4_can_86 (by decide) (fun (h86 : (nI ns : Int32) ≤ (nI k : Int32)) => ?_) (fun (h86 : ¬ (nI ns : Int32) ≤ (nI k : Int32)) => ?_)
          · have hkn : k = ns := by have z : ¬ k < ns := fun q => absurd h86 (nI_ge q (by omega)); omega
            refine vl_iload C0 dX4_can_118 6 rfl ?_
            exact vl_zret C0 hA.symm hr (nb_bI _) ⟨by subst hkn; simp [canB, bI, ← Int32.not_le, Bool.and_comm, h26, h33], rfl⟩ (Nat.le_of_ble_eq_true rfl) (Nat.le_of_ble_eq_true rfl) dX4_can_120
          · have hkn : k < ns := by have z : ¬ k = ns := fun q => h86 (by rw [q]; exact nI_le (Nat.le_refl _) (by omega)); omega
            refine vl_iload C0 dX4_can_89 6 rfl ?_
            refine vl_if_eq (tgt := 109) C0 dX4_can_91 (by decide) (fun (h91 : (bI (freeB (mm 13) b k && decide (mm 13 s9 = -1)) : Int32) = (0 : Int32)) => ?_) (fun (h91 : ¬ (bI (freeB (mm 13) b k && decide (mm 13 s9 = -1)) : Int32) = (0 : Int32)) => ?_)
            · have g91 := bI_0.mp h91
              refine vl_iconst (v := 0) C0 dX4_can_109 (by decide) ?_
              refine vl_st (st2 := [.int (bI (freeB (mm 13) b (k + 1) && decide (mm 13 s9 = -1)))]) (by have q := g91; simp [bI, freeB, g91]; (try simp_all)) ?_
              refine vl_istore (lv' := [(0, .ref (ad 0)), (1, .int k9), (2, .int (nI s9)), (3, .int b), (4, .int (nI t)), (5, .int (tideI t)), (6, .int (bI (freeB (mm 13) b (k + 1) && decide (mm 13 s9 = -1)))), (7, .int (nI k))]) C0 dX4_can_110 [1, 2, 3, 4, 5, 6, 0, 7] (by decide) rfl ?_
              refine vl_iinc (v := nI (k + 1)) (lv' := [(0, .ref (ad 0)), (1, .int k9), (2, .int (nI s9)), (3, .int b), (4, .int (nI t)), (5, .int (tideI t)), (6, .int (bI (freeB (mm 13) b (k + 1) && decide (mm 13 s9 = -1)))), (7, .int (nI (k + 1)))]) C0 dX4_can_112 7 rfl (nI_1 k) [1, 2, 3, 4, 5, 6, 7, 0] (by decide) rfl ?_
              refine vl_goto (tgt := 80) C0 dX4_can_115 (by decide) ?_
              exact ih (k + 1) (by omega) (by omega)
            · have g91 := bI_n.mp h91
              refine vl_aload_n C0 dX4_can_94 0 rfl ?_
              refine rm_get C0 hin 13 (by decide) (by decide +kernel) rfl dX4_can_95 ?_
              refine vl_iload C0 dX4_can_98 7 rfl ?_
              refine rm_iald C0 13 10 8 rfl (vp_in_nI (show k < 8 by omega) (by decide)) (kn := k) (nI_clamp (by omega)) (v := mm 13 k) (rfl) dX4_can_100 ?_
              refine vl_iload_n C0 dX4_can_101 3 rfl ?_
              refine vl_icmp_eq (tgt := 109) C0 dX4_can_102 (by decide) (fun (h102 : (mm 13 k : Int32) = (b : Int32)) => ?_) (fun (h102 : ¬ (mm 13 k : Int32) = (b : Int32)) => ?_)
              · refine vl_iconst (v := 0) C0 dX4_can_109 (by decide) ?_
                refine vl_st (st2 := [.int (bI (freeB (mm 13) b (k + 1) && decide (mm 13 s9 = -1)))]) (by have q := g91; simp [bI, freeB, g91, h102]; (try simp_all)) ?_
                refine vl_istore (lv' := [(0, .ref (ad 0)), (1, .int k9), (2, .int (nI s9)), (3, .int b), (4, .int (nI t)), (5, .int (tideI t)), (6, .int (bI (freeB (mm 13) b (k + 1) && decide (mm 13 s9 = -1)))), (7, .int (nI k))]) C0 dX4_can_110 [1, 2, 3, 4, 5, 6, 0, 7] (by decide) rfl ?_
                refine vl_iinc (v := nI (k + 1)) (lv' := [(0, .ref (ad 0)), (1, .int k9), (2, .int (nI s9)), (3, .int b), (4, .int (nI t)), (5, .int (tideI t)), (6, .int (bI (freeB (mm 13) b (k + 1) && decide (mm 13 s9 = -1)))), (7, .int (nI (k + 1)))]) C0 dX4_can_112 7 rfl (nI_1 k) [1, 2, 3, 4, 5, 6, 7, 0] (by decide) rfl ?_
                refine vl_goto (tgt := 80) C0 dX4_can_115 (by decide) ?_
                exact ih (k + 1) (by omega) (by omega)
              · refine vl_iconst (v := 1) C0 dX4_can_105 (by decide) ?_
                refine vl_goto (tgt := 110) C0 dX4_can_106 (by decide) ?_
                refine vl_st (st2 := [.int (bI (freeB (mm 13) b (k + 1) && decide (mm 13 s9 = -1)))]) (by have q := g91; simp [bI, freeB, g91, h102]; (try simp_all)) ?_
                refine vl_istore (lv' := [(0, .ref (ad 0)), (1, .int k9), (2, .int (nI s9)), (3, .int b), (4, .int (nI t)), (5, .int (tideI t)), (6, .int (bI (freeB (mm 13) b (k + 1) && decide (mm 13 s9 = -1)))), (7, .int (nI k))]) C0 dX4_can_110 [1, 2, 3, 4, 5, 6, 0, 7] (by decide) rfl ?_
                refine vl_iinc (v := nI (k + 1)) (lv' := [(0, .ref (ad 0)), (1, .int k9), (2, .int (nI s9)), (3, .int b), (4, .int (nI t)), (5, .int (tideI t)), (6, .int (bI (freeB (mm 13) b (k + 1) && decide (mm 13 s9 = -1)))), (7, .int (nI (k + 1)))]) C0 dX4_can_112 7 rfl (nI_1 k) [1, 2, 3, 4, 5, 6, 7, 0] (by decide) rfl ?_
                refine vl_goto (tgt := 80) C0 dX4_can_115 (by decide) ?_
                exact ih (k + 1) (by omega) (by omega)
        · skip
          refine vl_aload_n C0 dX4_can_60 0 rfl ?_
          refine rm_get C0 hin 13 (by decide) (by decide +kernel) rfl dX4_can_61 ?_
          refine vl_iload_n C0 dX4_can_64 2 rfl ?_
          refine rm_iald C0 13 10 8 rfl (vp_in_nI (show s9 < 8 by omega) (by decide)) (kn := s9) (nI_clamp (by omega)) (v := mm 13 s9) (rfl) dX4_can_65 ?_
          refine vl_iconst (v := -1) C0 dX4_can_66 (by decide) ?_
          refine vl_icmp_ne (tgt := 74) C0 dX4_can_67 (by decide) (fun (h67 : ¬ (mm 13 s9 : Int32) = ((-1) : Int32)) => ?_) (fun (h67 : (mm 13 s9 : Int32) = ((-1) : Int32)) => ?_)
          · refine vl_iconst (v := 0) C0 dX4_can_74 (by decide) ?_
            exact vl_st (by simp [bI, h67]) hj
          · refine vl_iconst (v := 1) C0 dX4_can_70 (by decide) ?_
            refine vl_goto (tgt := 75) C0 dX4_can_71 (by decide) ?_
            exact vl_st (by simp [bI, h67]) hj
      · refine vl_aload_n C0 dX4_can_36 0 rfl ?_
        refine rm_get C0 hin 13 (by decide) (by decide +kernel) rfl dX4_can_37 ?_
        refine vl_iload_n C0 dX4_can_40 2 rfl ?_
        refine rm_iald C0 13 10 8 rfl (vp_in_nI (show s9 < 8 by omega) (by decide)) (kn := s9) (nI_clamp (by omega)) (v := mm 13 s9) (rfl) dX4_can_41 ?_
        refine vl_if_lt (tgt := 58) C0 dX4_can_42 (by decide) (fun (h42 : (mm 13 s9 : Int32) < (0 : Int32)) => ?_) (fun (h42 : ¬ (mm 13 s9 : Int32) < (0 : Int32)) => ?_)
        · have z42 : ¬ 0 ≤ mm 13 s9 := Int32.not_le.mpr h42
          refine vl_iconst (v := 0) C0 dX4_can_58 (by decide) ?_
          exact vl_zret C0 hA.symm hr rfl ⟨by simp [canB, bI, ← Int32.not_le, h26, h33, h42, z42], rfl⟩ (Nat.le_of_ble_eq_true rfl) (Nat.le_of_ble_eq_true rfl) dX4_can_59
        · have z42 : 0 ≤ mm 13 s9 := Int32.not_lt.mp h42
          refine vl_aload_n C0 dX4_can_45 0 rfl ?_
          refine rm_get C0 hin 14 (by decide) (by decide +kernel) rfl dX4_can_46 ?_
          refine vl_iload_n C0 dX4_can_49 2 rfl ?_
          refine rm_iald C0 14 11 8 rfl (vp_in_nI (show s9 < 8 by omega) (by decide)) (kn := s9) (nI_clamp (by omega)) (v := mm 14 s9) (rfl) dX4_can_50 ?_
          refine vl_if_ne (tgt := 58) C0 dX4_can_51 (by decide) (fun (h51 : ¬ (mm 14 s9 : Int32) = (0 : Int32)) => ?_) (fun (h51 : (mm 14 s9 : Int32) = (0 : Int32)) => ?_)
          · refine vl_iconst (v := 0) C0 dX4_can_58 (by decide) ?_
            exact vl_zret C0 hA.symm hr rfl ⟨by simp [canB, bI, ← Int32.not_le, h26, h33, h42, z42, h51], rfl⟩ (Nat.le_of_ble_eq_true rfl) (Nat.le_of_ble_eq_true rfl) dX4_can_59
          · refine vl_iconst (v := 1) C0 dX4_can_54 (by decide) ?_
            refine vl_goto (tgt := 59) C0 dX4_can_55 (by decide) ?_
            exact vl_zret C0 hA.symm hr rfl ⟨by simp [canB, bI, ← Int32.not_le, h26, h33, h42, z42, h51], rfl⟩ (Nat.le_of_ble_eq_true rfl) (Nat.le_of_ble_eq_true rfl) dX4_can_59
    · refine vl_iconst (v := 0) C0 dX4_can_29 (by decide) ?_
      exact vl_zret C0 hA.symm hr rfl ⟨by simp [canB, bI, ← Int32.not_le, h26], rfl⟩ (Nat.le_of_ble_eq_true rfl) (Nat.le_of_ble_eq_true rfl) dX4_can_30
  · skip
    refine vl_iload C0 dX4_can_0 4 rfl ?_
    refine vl_iconst (v := 4) C0 dX4_can_2 (by decide) ?_
    refine vl_irem C0 dX4_can_3 (by decide) ?_
    refine vl_iconst (v := 3) C0 dX4_can_4 (by decide) ?_
    refine vl_icmp_ne (tgt := 12) C0 dX4_can_5 (by decide) (fun (h5 : ¬ ((nI t) - (nI t) / (4) * (4) : Int32) = (3 : Int32)) => ?_) (fun (h5 : ((nI t) - (nI t) / (4) * (4) : Int32) = (3 : Int32)) => ?_)
    · refine vl_iload C0 dX4_can_12 4 rfl ?_
      refine vl_iconst (v := 4) C0 dX4_can_14 (by decide) ?_
      refine vl_irem C0 dX4_can_15 (by decide) ?_
      exact vl_st (by simp [tideI, h5]) hj
    · refine vl_iconst (v := 1) C0 dX4_can_8 (by decide) ?_
      refine vl_goto (tgt := 16) C0 dX4_can_9 (by decide) ?_
      exact vl_st (by simp [tideI, h5]) hj
set_option maxHeartbeats 4000000 in
set_option maxRecDepth 100000 in
theorem c_X4_does {l : Launch} {D : va_G} {cy : Nat → ClassId} {ad : Nat → Nat} {mm : Nat → Nat → Int32} {X : va_W} {ns : Nat} (hl0 : l.stackTraces = false) (c0 : Int32) (t : Nat) (e0 : mm 0 0 = nI ns) (h8 : ns ≤ 8) (hc : codeOK ns c0) : vl_Kv l D cy yX4_does wsX4_does { frames := 1, cells := 0, slots := 0, locals := 27 } 0 0 (mw cy ad mm ++ X) [.ref (ad 0), .int c0, .int (nI t)] (fun w' => w' = mw cy ad (doesM ns mm c0 t) ++ X) := by
  refine vl_openv hl0 (by decide) rfl (Nat.le_of_ble_eq_true rfl) rfl ?_
  intro p e s m args below meth c C0 hr hnm
  generalize hA : va_A (mw cy ad mm ++ X) s.heap.size = A at C0 ⊢
  refine vl_lv (lv2 := [(0, .ref (ad 0)), (1, .int c0), (2, .int (nI t))]) [0, 1, 2] rfl ?_
  have hin : ∀ x ∈ u_ws RX4 TX4 18, x ∈ wsX4_does := by decide +kernel
  refine vl_iload_n C0 dX4_does_0 1 rfl ?_
  refine vl_bipush (v := 100) C0 dX4_does_1 (by decide) ?_
  refine vl_idiv C0 dX4_does_3 (by decide) ?_
  refine vl_istore_n (lv' := [(0, .ref (ad 0)), (1, .int c0), (2, .int (nI t)), (3, .int ((c0) / (100)))]) C0 dX4_does_4 [1, 2, 3, 0] (by decide) rfl ?_
  refine vl_iload_n C0 dX4_does_5 1 rfl ?_
  refine vl_bipush (v := 10) C0 dX4_does_6 (by decide) ?_
  refine vl_idiv C0 dX4_does_8 (by decide) ?_
  refine vl_bipush (v := 10) C0 dX4_does_9 (by decide) ?_
  refine vl_irem C0 dX4_does_11 (by decide) ?_
  refine vl_st (st2 := [.int (shI c0)]) rfl ?_
  refine vl_istore (lv' := [(0, .ref (ad 0)), (1, .int c0), (2, .int (nI t)), (3, .int ((c0) / (100))), (4, .int (shI c0))]) C0 dX4_does_12 [1, 2, 3, 4, 0] (by decide) rfl ?_
  refine vl_iload_n C0 dX4_does_14 3 rfl ?_
  refine vl_if_ne (tgt := 19) C0 dX4_does_15 (by decide) (fun (h15 : ¬ ((c0) / (100) : Int32) = (0 : Int32)) => ?_) (fun (h15 : ((c0) / (100) : Int32) = (0 : Int32)) => ?_)
  · obtain ⟨s1, hs1, hsh⟩ := code_sh h8 hc h15
    rw [hsh]
    refine vl_aload_n C0 dX4_does_19 0 rfl ?_
    refine vl_iload_n C0 dX4_does_20 3 rfl ?_
    refine vl_iload C0 dX4_does_21 4 rfl ?_
    refine vl_iload_n C0 dX4_does_23 1 rfl ?_
    refine vl_bipush (v := 10) C0 dX4_does_24 (by decide) ?_
    refine vl_irem C0 dX4_does_26 (by decide) ?_
    refine vl_st (st2 := [.int (beI c0), .int (nI s1), .int ((c0) / (100)), .ref (ad 0)]) rfl ?_
    refine vl_iload_n C0 dX4_does_27 2 rfl ?_
    refine vl_calli C0 (vl_goV C0 (As := [.int ((c0) / (100)), .int (nI s1), .int (beI c0), .int (nI t)]) (na := 4) (b := ad 0) (st := []) (ci := 4) gX4_does_X4_can rfl rfl rfl (by decide +kernel) ⟨Nat.le_of_ble_eq_true rfl, Nat.le_of_ble_eq_true rfl⟩ rfl ⟨0, _, rfl⟩ dX4_does_28 (Nat.le_of_ble_eq_true rfl) ⟨Nat.le_of_ble_eq_true rfl, Nat.le_of_ble_eq_true rfl⟩ rfl rfl) (c_X4_can hl0 ((c0) / (100)) s1 (beI c0) t (ns := ns) e0 h8 hs1) (k2 := 0) (n2 := 0) (Nat.le_of_ble_eq_true rfl) (Nat.le_of_ble_eq_true rfl) (fun r9 w9 hp9 => ?_)
    obtain ⟨rfl, rfl⟩ := hp9
    refine vl_if_ne (tgt := 47) C0 dX4_does_31 (by decide) (fun (h31 : ¬ (bI (canB ns (mm 2) (mm 13) (mm 14) ((c0) / (100)) s1 (beI c0) t) : Int32) = (0 : Int32)) => ?_) (fun (h31 : (bI (canB ns (mm 2) (mm 13) (mm 14) ((c0) / (100)) s1 (beI c0) t) : Int32) = (0 : Int32)) => ?_)
    · have g31 := bI_n.mp h31
      refine vl_aload_n C0 dX4_does_47 0 rfl ?_
      refine rm_get C0 hin 13 (by decide) (by decide +kernel) rfl dX4_does_48 ?_
      refine vl_iload C0 dX4_does_51 4 rfl ?_
      refine vl_iload_n C0 dX4_does_53 3 rfl ?_
      refine vl_iconst (v := 1) C0 dX4_does_54 (by decide) ?_
      refine vl_icmp_ne (tgt := 65) C0 dX4_does_55 (by decide) (fun (h55 : ¬ ((c0) / (100) : Int32) = (1 : Int32)) => ?_) (fun (h55 : ((c0) / (100) : Int32) = (1 : Int32)) => ?_)
      · refine vl_bipush (v := -3) C0 dX4_does_65 (by decide) ?_
        refine rm_iast C0 13 10 8 rfl (mw_st13 _ _) (vp_in_nI (show s1 < 8 by omega) (by decide)) (kn := s1) (nI_clamp (by omega)) dX4_does_67 ?_
        exact vl_vret C0 hA.symm hr (by simp [doesM, h15, g31, hsh, nI_clamp (show s1 < 2 ^ 31 by omega)] <;> simp [h55]) (Nat.le_of_ble_eq_true rfl) (Nat.le_of_ble_eq_true rfl) dX4_does_68
      · refine vl_iload_n C0 dX4_does_58 1 rfl ?_
        refine vl_bipush (v := 10) C0 dX4_does_59 (by decide) ?_
        refine vl_irem C0 dX4_does_61 (by decide) ?_
        refine vl_st (st2 := [.int (beI c0), .int (nI s1), .ref (ad 13)]) rfl ?_
        refine vl_goto (tgt := 67) C0 dX4_does_62 (by decide) ?_
        refine rm_iast C0 13 10 8 rfl (mw_st13 _ _) (vp_in_nI (show s1 < 8 by omega) (by decide)) (kn := s1) (nI_clamp (by omega)) dX4_does_67 ?_
        exact vl_vret C0 hA.symm hr (by simp [doesM, h15, g31, hsh, nI_clamp (show s1 < 2 ^ 31 by omega)] <;> simp [h55]) (Nat.le_of_ble_eq_true rfl) (Nat.le_of_ble_eq_true rfl) dX4_does_68
    · have g31 := bI_0.mp h31
      refine vl_aload_n C0 dX4_does_34 0 rfl ?_
      refine vl_dup C0 dX4_does_35 rfl ?_
      refine rm_get C0 hin 16 (by decide) (by decide +kernel) (v := .int (mm 0 16)) (rfl) dX4_does_36 ?_
      refine vl_iconst (v := 1) C0 dX4_does_39 (by decide) ?_
      refine vl_iload_n C0 dX4_does_40 2 rfl ?_
      refine vl_ishl C0 dX4_does_41 ?_
      refine vl_ior C0 dX4_does_42 ?_
      refine rm_put C0 hin 16 (by decide) (by decide +kernel) rfl rfl (mw_put16 _) dX4_does_43 ?_
      exact vl_vret C0 hA.symm hr (by simp [doesM, h15, g31, hsh, nI_clamp (show s1 < 2 ^ 31 by omega)]) (Nat.le_of_ble_eq_true rfl) (Nat.le_of_ble_eq_true rfl) dX4_does_46
  · exact vl_vret C0 hA.symm hr (by simp [doesM, h15]) (Nat.le_of_ble_eq_true rfl) (Nat.le_of_ble_eq_true rfl) dX4_does_18
end VM8
end
section
section VM9
def in1 (n : Nat) (m0 : Nat → Nat → Int32) (k : Nat) (m : Nat → Nat → Int32) : Prop := k ≤ n ∧ mFr m0 m ∧ (∀ i, i < k → m 13 i = -2 ∧ m 14 i = m0 3 i) ∧ m 0 15 = 0 ∧ m 0 16 = 0
theorem in1_s {n : Nat} {m0 m : Nat → Nat → Int32} {k : Nat} (h : in1 n m0 k m) (hk : k < n) : in1 n m0 (k + 1) (up2 (up2 m 13 k (-2)) 14 k (m0 3 k)) := by
  obtain ⟨-, h1, h2, h3, h4⟩ := h
  refine ⟨hk, (h1.up _ _ _ (Or.inl rfl)).up _ _ _ (Or.inr (Or.inl rfl)), fun i hi => ?_, h3, h4⟩
  show upd (m 13) k (-2) i = -2 ∧ upd (m 14) k (m0 3 k) i = m0 3 i
  by_cases hik : i = k
  · subst hik; simp [upd]
  · have := h2 i (by omega)
    simp [upd, hik, this]
theorem in1_e {n : Nat} {m0 m : Nat → Nat → Int32} {dr rt cm : Nat → Int32} {pr fe : Int32} {od : Nat → Int32} (h : in1 n m0 n m) : mPl n m (playS n cm dr (m0 3) rt pr fe od 0) := ⟨fun i hi => (h.2.2.1 i hi).1, fun i hi => (h.2.2.1 i hi).2, h.2.2.2.1, h.2.2.2.2⟩
def in2 (n : Nat) (m0 : Nat → Nat → Int32) (t : Nat) (S : plS) (k : Nat) (m : Nat → Nat → Int32) : Prop := k ≤ n ∧ mFr m0 m ∧ (∀ i, i < n → m 13 i = if i < k then comeA (m0 1) t S.1 i else S.1 i) ∧ (∀ i, i < n → m 14 i = S.2.1 i) ∧ m 0 15 = S.2.2.1 ∧ m 0 16 = S.2.2.2
theorem in2_0 {n : Nat} {m0 m : Nat → Nat → Int32} {t : Nat} {S : plS} (hf : mFr m0 m) (h : mPl n m S) : in2 n m0 t S 0 m := ⟨Nat.zero_le n, hf, fun i hi => by rw [if_neg (Nat.not_lt_zero i)]; exact h.1 i hi, h.2.1, h.2.2.1, h.2.2.2⟩
theorem in2_s {n : Nat} {m0 m : Nat → Nat → Int32} {t : Nat} {S : plS} {k : Nat} {v : Int32} (h : in2 n m0 t S k m) (hk : k < n) (hv : v = comeA (m0 1) t S.1 k) : in2 n m0 t S (k + 1) (up2 m 13 k v) := ⟨hk, h.2.1.up _ _ _ (Or.inl rfl), upd_step h.2.2.1 hv, h.2.2.2.1, h.2.2.2.2⟩
theorem in2_e {n : Nat} {m0 m : Nat → Nat → Int32} {t : Nat} {S : plS} (h : in2 n m0 t S n m) : mPl n m (comeA (m0 1) t S.1, S.2) := ⟨upd_end h.2.2.1, h.2.2.2.1, h.2.2.2.2.1, h.2.2.2.2.2⟩
def in3 (n : Nat) (m0 : Nat → Nat → Int32) (S : plS) (k : Nat) (m : Nat → Nat → Int32) : Prop := k ≤ n ∧ mFr m0 m ∧ (∀ i, i < n → m 13 i = S.1 i) ∧ (∀ i, i < n → m 14 i = if i < k then earnL (m0 4) S.1 S.2.1 i else S.2.1 i) ∧ m 0 15 = earnE (m0 4) (m0 0 5) (m0 0 6) S.1 S.2.1 S.2.2.1 k ∧ m 0 16 = S.2.2.2
theorem in3_0 {n : Nat} {m0 m : Nat → Nat → Int32} {S : plS} (hf : mFr m0 m) (h : mPl n m S) : in3 n m0 S 0 m := ⟨Nat.zero_le n, hf, h.1, fun i hi => by rw [if_neg (Nat.not_lt_zero i)]; exact h.2.1 i hi, h.2.2.1, h.2.2.2⟩
theorem in3_a {n : Nat} {m0 m : Nat → Nat → Int32} {S : plS} {k : Nat} {v e1 e2 : Int32} (h : in3 n m0 S k m) (hk : k < n) (h0 : 0 ≤ S.1 k) (hv : v = S.2.1 k - manyI (m0 4) S.1 S.2.1 k) (he : e2 = earnE (m0 4) (m0 0 5) (m0 0 6) S.1 S.2.1 S.2.2.1 k + m0 0 5 * manyI (m0 4) S.1 S.2.1 k - (if S.1 k = -1 then m0 0 6 else 0)) : in3 n m0 S (k + 1) (up2 (up2 (up2 m 14 k v) 0 15 e1) 0 15 e2) := ⟨hk, ((h.2.1.up _ _ _ (Or.inr (Or.inl rfl))).up _ _ _ (Or.inr (Or.inr ⟨rfl, Or.inl rfl⟩))).up _ _ _ (Or.inr (Or.inr ⟨rfl, Or.inl rfl⟩)), h.2.2.1, upd_step (n := n) (f := m 14) h.2.2.2.1 (by rw [hv, earnL, if_pos h0]), by rw [earnE, if_pos h0]; exact he, h.2.2.2.2.2⟩
theorem in3_b {n : Nat} {m0 m : Nat → Nat → Int32} {S : plS} {k : Nat} {e2 : Int32} (h : in3 n m0 S k m) (hk : k < n) (h0 : ¬ 0 ≤ S.1 k) (he : e2 = earnE (m0 4) (m0 0 5) (m0 0 6) S.1 S.2.1 S.2.2.1 k - (if S.1 k = -1 then m0 0 6 else 0)) : in3 n m0 S (k + 1) (up2 m 0 15 e2) := ⟨hk, h.2.1.up _ _ _ (Or.inr (Or.inr ⟨rfl, Or.inl rfl⟩)), h.2.2.1, upd_skip (n := n) (f := m 14) h.2.2.2.1 (by rw [earnL, if_neg h0]), by rw [earnE, if_neg h0]; exact he, h.2.2.2.2.2⟩
theorem in3_e {n : Nat} {m0 m : Nat → Nat → Int32} {S : plS} (h : in3 n m0 S n m) : mPl n m (S.1, earnL (m0 4) S.1 S.2.1, earnE (m0 4) (m0 0 5) (m0 0 6) S.1 S.2.1 S.2.2.1 n, S.2.2.2) := ⟨h.2.2.1, upd_end h.2.2.2.1, h.2.2.2.2.1, h.2.2.2.2.2⟩
/-- the play of a line in the reference's state -/
def plyM (n : Nat) (par : Nat → Option Nat) (m : Nat → Nat → Int32) (j : Nat) (T : Nat) : plS := playS n (m 1) (m 2) (m 3) (m 4) (m 0 5) (m 0 6) (fun t => ordX (m 11) par t (some j)) T
theorem mTree_f {nl : Nat} {par : Nat → Option Nat} {m m' : Nat → Nat → Int32} (h : mTree nl par m) (hf : mFr m m') : mTree nl par m' := ⟨h.1, fun i hi => (congrFun (hf.1 8 (by decide) (by decide) (by decide)) i).trans (h.2 i hi)⟩
set_option maxHeartbeats 4000000 in
set_option maxRecDepth 100000 in
theorem c_X4_plays {l : Launch} {D : va_G} {cy : Nat → ClassId} {ad : Nat → Nat} {mm : Nat → Nat → Int32} {X : va_W} {ns nl : Nat} {par : Nat → Option Nat} (hl0 : l.stackTraces = false) (j T : Nat) (e0 : mm 0 0 = nI ns) (h8 : ns ≤ 8) (ht : mTree nl par mm) (h9 : nl ≤ 9) (hj : j < nl) (hT3 : T < 30) (hcode : ∀ t, t < 30 → codeOK ns (ordX (mm 11) par t (some j))) : vl_Kv l D cy yX4_plays wsX4_plays { frames := 2, cells := 0, slots := 0, locals := 51 } 0 0 (mw cy ad mm ++ X) [.ref (ad 0), .int (nI j), .int (nI T)] (fun w' => ∃ m', w' = mw cy ad m' ++ X ∧ mFr mm m' ∧ mPl ns m' (plyM ns par mm j (T + 1))) := by
  refine vl_openv hl0 (by decide) rfl (Nat.le_of_ble_eq_true rfl) rfl ?_
  intro p e s m args below meth c C0 hr hnm
  generalize hA : va_A (mw cy ad mm ++ X) s.heap.size = A at C0 ⊢
  refine vl_lv (lv2 := [(0, .ref (ad 0)), (1, .int (nI j)), (2, .int (nI T))]) [0, 1, 2] rfl ?_
  have hin : ∀ x ∈ u_ws RX4 TX4 18, x ∈ wsX4_plays := by decide +kernel
  refine vl_aload_n C0 dX4_plays_0 0 rfl ?_
  refine vl_iconst (v := 0) C0 dX4_plays_1 (by decide) ?_
  refine rm_put C0 hin 15 (by decide) (by decide +kernel) rfl rfl (mw_put15 _) dX4_plays_2 ?_
  refine vl_aload_n C0 dX4_plays_5 0 rfl ?_
  refine vl_iconst (v := 0) C0 dX4_plays_6 (by decide) ?_
  refine rm_put C0 hin 16 (by decide) (by decide +kernel) rfl rfl (mw_put16 _) dX4_plays_7 ?_
  refine vl_iconst (v := 0) C0 dX4_plays_10 (by decide) ?_
  refine vl_istore_n (lv' := [(0, .ref (ad 0)), (1, .int (nI j)), (2, .int (nI T)), (3, .int 0)]) C0 dX4_plays_11 [1, 2, 3, 0] (by decide) rfl ?_
  refine vl_loop (σ := Nat × (Nat → Nat → Int32)) (fun x => mw cy ad x.2 ++ X) (fun x => [(0, .ref (ad 0)), (1, .int (nI j)), (2, .int (nI T)), (3, .int (nI (x.1)))]) (fun x => in1 ns mm x.1 x.2) (fun x => ns - x.1) ?_ (0, up2 (up2 mm 0 15 0) 0 16 0) (⟨Nat.zero_le _, (mFr.rf.up _ _ _ (Or.inr (Or.inr ⟨rfl, Or.inl rfl⟩))).up _ _ _ (Or.inr (Or.inr ⟨rfl, Or.inr rfl⟩)), fun i hi => absurd hi (Nat.not_lt_zero i), rfl, rfl⟩)
  rintro ⟨k, m1⟩ hI ihk
  refine vl_w (w2 := mw cy ad m1 ++ X) rfl ?_
  refine vl_lv (lv2 := [(0, .ref (ad 0)), (1, .int (nI j)), (2, .int (nI T)), (3, .int (nI k))]) [0, 1, 2, 3] rfl ?_
  have hI : in1 ns mm k m1 := hI
  refine vl_iload_n C0 dX4_plays_12 3 rfl ?_
  refine vl_aload_n C0 dX4_plays_13 0 rfl ?_
  refine rm_get C0 hin 0 (by decide) (by decide +kernel) (v := .int (nI ns)) (congrArg (fun z => some (Value.int z)) ((hI.2.1.2 0 (by decide) (by decide)).trans e0)) dX4_plays_14 ?_
  refine vl_icmp_ge (tgt := 46) C0 dX4_plays_17 (by decide) (fun (h17 : (nI ns : Int32) ≤ (nI k : Int32)) => ?_) (fun (h17 : ¬ (nI ns : Int32) ≤ (nI k : Int32)) => ?_)
  · have hkn : k = ns := by have z : ¬ k < ns := fun q => absurd h17 (nI_ge q (by omega)); have := hI.1; omega
    rw [hkn] at hI
    have hP := in1_e (dr := mm 2) (rt := mm 4) (cm := mm 1) (pr := mm 0 5) (fe := mm 0 6) (od := fun t => ordX (mm 11) par t (some j)) hI
    refine vl_iconst (v := 0) C0 dX4_plays_46 (by decide) ?_
    refine vl_istore_n (lv' := [(0, .ref (ad 0)), (1, .int (nI j)), (2, .int (nI T)), (3, .int 0)]) C0 dX4_plays_47 [1, 2, 3, 0] (by decide) rfl ?_
    refine vl_loop (σ := Nat × (Nat → Nat → Int32)) (fun x => mw cy ad x.2 ++ X) (fun x => [(0, .ref (ad 0)), (1, .int (nI j)), (2, .int (nI T)), (3, .int (nI (x.1)))]) (fun x => x.1 ≤ T + 1 ∧ mFr mm x.2 ∧ mPl ns x.2 (plyM ns par mm j (x.1))) (fun x => T + 1 - x.1) ?_ (0, m1) (⟨Nat.zero_le _, hI.2.1, hP⟩)
    rintro ⟨t, m2⟩ hT iht
    refine vl_w (w2 := mw cy ad m2 ++ X) rfl ?_
    refine vl_lv (lv2 := [(0, .ref (ad 0)), (1, .int (nI j)), (2, .int (nI T)), (3, .int (nI t))]) [0, 1, 2, 3] rfl ?_
    have hT : t ≤ T + 1 ∧ mFr mm m2 ∧ mPl ns m2 (plyM ns par mm j t) := hT
    refine vl_iload_n C0 dX4_plays_48 3 rfl ?_
    refine vl_iload_n C0 dX4_plays_49 2 rfl ?_
    refine vl_icmp_gt (tgt := 247) C0 dX4_plays_50 (by decide) (fun (h50 : (nI T : Int32) < (nI t : Int32)) => ?_) (fun (h50 : ¬ (nI T : Int32) < (nI t : Int32)) => ?_)
    · have htT : t = T + 1 := by have z : ¬ t ≤ T := fun q => nI_nlt q (by omega) h50; have := hT.1; omega
      subst htT
      exact vl_vret C0 hA.symm hr ⟨m2, rfl, hT.2.1, hT.2.2⟩ (Nat.le_of_ble_eq_true rfl) (Nat.le_of_ble_eq_true rfl) dX4_plays_247
    · have htT : t ≤ T := by have z : ¬ T < t := fun q => h50 (nI_lt q (by omega)); omega
      refine vl_iconst (v := 0) C0 dX4_plays_53 (by decide) ?_
      refine vl_istore (lv' := [(0, .ref (ad 0)), (1, .int (nI j)), (2, .int (nI T)), (3, .int (nI t)), (4, .int 0)]) C0 dX4_plays_54 [1, 2, 3, 4, 0] (by decide) rfl ?_
      refine vl_loop (σ := Nat × (Nat → Nat → Int32)) (fun x => mw cy ad x.2 ++ X) (fun x => [(0, .ref (ad 0)), (1, .int (nI j)), (2, .int (nI T)), (3, .int (nI t)), (4, .int (nI (x.1)))]) (fun x => in2 ns mm t (plyM ns par mm j t) x.1 x.2) (fun x => ns - x.1) ?_ (0, m2) (in2_0 hT.2.1 hT.2.2)
      rintro ⟨k, m3⟩ hI ihk
      refine vl_w (w2 := mw cy ad m3 ++ X) rfl ?_
      refine vl_lv (lv2 := [(0, .ref (ad 0)), (1, .int (nI j)), (2, .int (nI T)), (3, .int (nI t)), (4, .int (nI k))]) [0, 1, 2, 3, 4] rfl ?_
      have hI : in2 ns mm t (plyM ns par mm j t) k m3 := hI
      refine vl_iload C0 dX4_plays_56 4 rfl ?_
      refine vl_aload_n C0 dX4_plays_58 0 rfl ?_
      refine rm_get C0 hin 0 (by decide) (by decide +kernel) (v := .int (nI ns)) (congrArg (fun z => some (Value.int z)) ((hI.2.1.2 0 (by decide) (by decide)).trans e0)) dX4_plays_59 ?_
      refine vl_icmp_ge (tgt := 100) C0 dX4_plays_62 (by decide) (fun (h62 : (nI ns : Int32) ≤ (nI k : Int32)) => ?_) (fun (h62 : ¬ (nI ns : Int32) ≤ (nI k : Int32)) => ?_)
      · have hkn : k = ns := by have z : ¬ k < ns := fun q => absurd h62 (nI_ge q (by omega)); have := hI.1; omega
        rw [hkn] at hI
        have hP := in2_e hI
        have ht3 : mTree nl par m3 := mTree_f ht hI.2.1
        have e03 : m3 0 0 = nI ns := (hI.2.1.2 0 (by decide) (by decide)).trans e0
        refine vl_aload_n C0 dX4_plays_100 0 rfl ?_
        refine vl_aload_n C0 dX4_plays_101 0 rfl ?_
        refine vl_iload_n C0 dX4_plays_102 1 rfl ?_
        refine vl_iload_n C0 dX4_plays_103 3 rfl ?_
        refine vl_calli C0 (vl_goV C0 (As := [.int (nI j), .int (nI t)]) (na := 2) (b := ad 0) (st := [.ref (ad 0)]) (ci := 4) gX4_plays_X4_orderAt rfl rfl rfl (by decide +kernel) ⟨Nat.le_of_ble_eq_true rfl, Nat.le_of_ble_eq_true rfl⟩ rfl ⟨0, _, rfl⟩ dX4_plays_104 (Nat.le_of_ble_eq_true rfl) ⟨Nat.le_of_ble_eq_true rfl, Nat.le_of_ble_eq_true rfl⟩ rfl rfl) (c_X4_orderAt hl0 j t (nl := nl) (par := par) ht3 h9 (hj) (by omega)) (k2 := 0) (n2 := 0) (Nat.le_of_ble_eq_true rfl) (Nat.le_of_ble_eq_true rfl) (fun r9 w9 hp9 => ?_)
        obtain ⟨rfl, rfl⟩ := hp9
        rw [show m3 11 = mm 11 from hI.2.1.1 11 (by decide) (by decide) (by decide)]
        refine vl_iload_n C0 dX4_plays_107 3 rfl ?_
        refine vl_callv C0 (vl_goV C0 (As := [.int (ordX (mm 11) par t (some j)), .int (nI t)]) (na := 2) (b := ad 0) (st := []) (ci := 4) gX4_plays_X4_does rfl rfl rfl (by decide +kernel) ⟨Nat.le_of_ble_eq_true rfl, Nat.le_of_ble_eq_true rfl⟩ rfl ⟨0, _, rfl⟩ dX4_plays_108 (Nat.le_of_ble_eq_true rfl) ⟨Nat.le_of_ble_eq_true rfl, Nat.le_of_ble_eq_true rfl⟩ rfl rfl) (c_X4_does hl0 (ordX (mm 11) par t (some j)) t (ns := ns) e03 h8 (hcode t (by omega))) (k2 := 0) (n2 := 0) (Nat.le_of_ble_eq_true rfl) (Nat.le_of_ble_eq_true rfl) (fun w9 hp9 => ?_)
        obtain rfl := hp9
        have hf4 : mFr mm (doesM ns m3 (ordX (mm 11) par t (some j)) t) := hI.2.1.tr doesM_fr
        have hP4 := doesM_pl (t := t) h8 (hcode t (by omega)) hP
        rw [show m3 2 = mm 2 from hI.2.1.1 2 (by decide) (by decide) (by decide)] at hP4
        generalize doesM ns m3 (ordX (mm 11) par t (some j)) t = m4 at hf4 hP4 ⊢
        have hok4 := does_ok (n := ns) (dr := mm 2) (t := t) (S := (comeA (mm 1) t (plyM ns par mm j t).1, (plyM ns par mm j t).2)) h8 (hcode t (by omega)) (come_ok (play_ok h8 t (fun i hi => hcode i (by omega))))
        generalize hS4 : doesS ns (mm 2) (ordX (mm 11) par t (some j)) t (comeA (mm 1) t (plyM ns par mm j t).1, (plyM ns par mm j t).2) = S4 at hP4 hok4
        refine vl_iconst (v := 0) C0 dX4_plays_111 (by decide) ?_
        refine vl_istore (lv' := [(0, .ref (ad 0)), (1, .int (nI j)), (2, .int (nI T)), (3, .int (nI t)), (4, .int 0)]) C0 dX4_plays_112 [1, 2, 3, 4, 0] (by decide) rfl ?_
        refine vl_loop (σ := Nat × (Nat → Nat → Int32)) (fun x => mw cy ad x.2 ++ X) (fun x => [(0, .ref (ad 0)), (1, .int (nI j)), (2, .int (nI T)), (3, .int (nI t)), (4, .int (nI (x.1)))]) (fun x => in3 ns mm S4 x.1 x.2) (fun x => ns - x.1) ?_ (0, m4) (in3_0 hf4 hP4)
        rintro ⟨k, m5⟩ hI ihk
        refine vl_w (w2 := mw cy ad m5 ++ X) rfl ?_
        refine vl_lv (lv2 := [(0, .ref (ad 0)), (1, .int (nI j)), (2, .int (nI T)), (3, .int (nI t)), (4, .int (nI k))]) [0, 1, 2, 3, 4] rfl ?_
        have hI : in3 ns mm S4 k m5 := hI
        refine vl_iload C0 dX4_plays_114 4 rfl ?_
        refine vl_aload_n C0 dX4_plays_116 0 rfl ?_
        refine rm_get C0 hin 0 (by decide) (by decide +kernel) (v := .int (nI ns)) (congrArg (fun z => some (Value.int z)) ((hI.2.1.2 0 (by decide) (by decide)).trans e0)) dX4_plays_117 ?_
        refine vl_icmp_ge (tgt := 241) C0 dX4_plays_120 (by decide) (fun (h120 : (nI ns : Int32) ≤ (nI k : Int32)) => ?_) (fun (h120 : ¬ (nI ns : Int32) ≤ (nI k : Int32)) => ?_)
        · have hkn : k = ns := by have z : ¬ k < ns := fun q => absurd h120 (nI_ge q (by omega)); have := hI.1; omega
          rw [hkn] at hI
          subst hS4
          refine vl_iinc (v := nI (t + 1)) (lv' := [(0, .ref (ad 0)), (1, .int (nI j)), (2, .int (nI T)), (3, .int (nI (t + 1))), (4, .int (nI k))]) C0 dX4_plays_241 3 rfl (nI_1 t) [1, 2, 3, 0, 4] (by decide) rfl ?_
          refine vl_goto (tgt := 48) C0 dX4_plays_244 (by decide) ?_
          exact vl_lv (lv2 := [(0, .ref (ad 0)), (1, .int (nI j)), (2, .int (nI T)), (3, .int (nI (t + 1)))]) [0, 1, 2, 3] rfl (iht (t + 1, m5) ⟨by omega, hI.2.1, in3_e hI⟩ (by show T + 1 - (t + 1) < T + 1 - t; omega))
        · have hk30 : k < ns := by have z : ¬ k = ns := fun q => h120 (by rw [q]; exact nI_le (Nat.le_refl _) (by omega)); have := hI.1; omega
          refine vl_aload_n C0 dX4_plays_123 0 rfl ?_
          refine rm_get C0 hin 13 (by decide) (by decide +kernel) rfl dX4_plays_124 ?_
          refine vl_iload C0 dX4_plays_127 4 rfl ?_
          refine rm_iald C0 13 10 8 rfl (vp_in_nI (show k < 8 by omega) (by decide)) (kn := k) (nI_clamp (by omega)) (v := S4.1 k) (hI.2.2.1 k hk30) dX4_plays_129 ?_
          refine vl_if_lt (tgt := 207) C0 dX4_plays_130 (by decide) (fun (h130 : (S4.1 k : Int32) < (0 : Int32)) => ?_) (fun (h130 : ¬ (S4.1 k : Int32) < (0 : Int32)) => ?_)
          · refine vl_aload_n C0 dX4_plays_207 0 rfl ?_
            refine vl_dup C0 dX4_plays_208 rfl ?_
            refine rm_get C0 hin 15 (by decide) (by decide +kernel) (v := .int (earnE (mm 4) (mm 0 5) (mm 0 6) S4.1 S4.2.1 S4.2.2.1 k)) (congrArg (fun z => some (Value.int z)) hI.2.2.2.2.1) dX4_plays_209 ?_
            refine vl_aload_n C0 dX4_plays_212 0 rfl ?_
            refine rm_get C0 hin 13 (by decide) (by decide +kernel) rfl dX4_plays_213 ?_
            refine vl_iload C0 dX4_plays_216 4 rfl ?_
            refine rm_iald C0 13 10 8 rfl (vp_in_nI (show k < 8 by omega) (by decide)) (kn := k) (nI_clamp (by omega)) (v := S4.1 k) (hI.2.2.1 k hk30) dX4_plays_218 ?_
            refine vl_iconst (v := -1) C0 dX4_plays_219 (by decide) ?_
            refine vl_icmp_ne (tgt := 230) C0 dX4_plays_220 (by decide) (fun (h220 : ¬ (S4.1 k : Int32) = ((-1) : Int32)) => ?_) (fun (h220 : (S4.1 k : Int32) = ((-1) : Int32)) => ?_)
            · refine vl_iconst (v := 0) C0 dX4_plays_230 (by decide) ?_
              refine vl_isub C0 dX4_plays_231 ?_
              refine rm_put C0 hin 15 (by decide) (by decide +kernel) rfl rfl (mw_put15 _) dX4_plays_232 ?_
              refine vl_iinc (v := nI (k + 1)) (lv' := [(0, .ref (ad 0)), (1, .int (nI j)), (2, .int (nI T)), (3, .int (nI t)), (4, .int (nI (k + 1)))]) C0 dX4_plays_235 4 rfl (nI_1 k) [1, 2, 3, 4, 0] (by decide) rfl ?_
              refine vl_goto (tgt := 114) C0 dX4_plays_238 (by decide) ?_
              exact vl_lv (lv2 := [(0, .ref (ad 0)), (1, .int (nI j)), (2, .int (nI T)), (3, .int (nI t)), (4, .int (nI (k + 1)))]) [0, 1, 2, 3, 4] rfl (ihk (k + 1, (up2 m5 0 15 ((earnE (mm 4) (mm 0 5) (mm 0 6) S4.1 S4.2.1 S4.2.2.1 k) - (0)))) (in3_b hI hk30 (Int32.not_le.mpr h130) (by rw [if_neg h220])) (by show ns - (k + 1) < ns - k; omega))
            · refine vl_aload_n C0 dX4_plays_223 0 rfl ?_
              refine rm_get C0 hin 6 (by decide) (by decide +kernel) (v := .int (mm 0 6)) (congrArg (fun z => some (Value.int z)) (hI.2.1.2 6 (by decide) (by decide))) dX4_plays_224 ?_
              refine vl_goto (tgt := 231) C0 dX4_plays_227 (by decide) ?_
              refine vl_isub C0 dX4_plays_231 ?_
              refine rm_put C0 hin 15 (by decide) (by decide +kernel) rfl rfl (mw_put15 _) dX4_plays_232 ?_
              refine vl_iinc (v := nI (k + 1)) (lv' := [(0, .ref (ad 0)), (1, .int (nI j)), (2, .int (nI T)), (3, .int (nI t)), (4, .int (nI (k + 1)))]) C0 dX4_plays_235 4 rfl (nI_1 k) [1, 2, 3, 4, 0] (by decide) rfl ?_
              refine vl_goto (tgt := 114) C0 dX4_plays_238 (by decide) ?_
              exact vl_lv (lv2 := [(0, .ref (ad 0)), (1, .int (nI j)), (2, .int (nI T)), (3, .int (nI t)), (4, .int (nI (k + 1)))]) [0, 1, 2, 3, 4] rfl (ihk (k + 1, (up2 m5 0 15 ((earnE (mm 4) (mm 0 5) (mm 0 6) S4.1 S4.2.1 S4.2.2.1 k) - (mm 0 6)))) (in3_b hI hk30 (Int32.not_le.mpr h130) (by rw [if_pos h220])) (by show ns - (k + 1) < ns - k; omega))
          · refine vl_join (w2 := mw cy ad m5 ++ X) (k2 := 0) (n2 := 0) (lv2 := [(0, .ref (ad 0)), (1, .int (nI j)), (2, .int (nI T)), (3, .int (nI t)), (4, .int (nI k))]) 177 (st2 := [.int (manyI (mm 4) S4.1 S4.2.1 k)]) ?_ (fun hj => ?_)
            · skip
              refine vl_istore (lv' := [(0, .ref (ad 0)), (1, .int (nI j)), (2, .int (nI T)), (3, .int (nI t)), (4, .int (nI k)), (5, .int (manyI (mm 4) S4.1 S4.2.1 k))]) C0 dX4_plays_177 [1, 2, 3, 4, 5, 0] (by decide) rfl ?_
              refine vl_aload_n C0 dX4_plays_179 0 rfl ?_
              refine rm_get C0 hin 14 (by decide) (by decide +kernel) rfl dX4_plays_180 ?_
              refine vl_iload C0 dX4_plays_183 4 rfl ?_
              refine vl_dup2 C0 dX4_plays_185 rfl rfl ?_
              refine rm_iald C0 14 11 8 rfl (vp_in_nI (show k < 8 by omega) (by decide)) (kn := k) (nI_clamp (by omega)) (v := S4.2.1 k) (upd_at hI.2.2.2.1 hk30) dX4_plays_186 ?_
              refine vl_iload C0 dX4_plays_187 5 rfl ?_
              refine vl_isub C0 dX4_plays_189 ?_
              refine rm_iast C0 14 11 8 rfl (mw_st14 _ _) (vp_in_nI (show k < 8 by omega) (by decide)) (kn := k) (nI_clamp (by omega)) dX4_plays_190 ?_
              refine vl_aload_n C0 dX4_plays_191 0 rfl ?_
              refine vl_dup C0 dX4_plays_192 rfl ?_
              refine rm_get C0 hin 15 (by decide) (by decide +kernel) (v := .int (earnE (mm 4) (mm 0 5) (mm 0 6) S4.1 S4.2.1 S4.2.2.1 k)) (congrArg (fun z => some (Value.int z)) hI.2.2.2.2.1) dX4_plays_193 ?_
              refine vl_aload_n C0 dX4_plays_196 0 rfl ?_
              refine rm_get C0 hin 5 (by decide) (by decide +kernel) (v := .int (mm 0 5)) (congrArg (fun z => some (Value.int z)) (hI.2.1.2 5 (by decide) (by decide))) dX4_plays_197 ?_
              refine vl_iload C0 dX4_plays_200 5 rfl ?_
              refine vl_imul C0 dX4_plays_202 ?_
              refine vl_iadd C0 dX4_plays_203 ?_
              refine rm_put C0 hin 15 (by decide) (by decide +kernel) rfl rfl (mw_put15 _) dX4_plays_204 ?_
              refine vl_aload_n C0 dX4_plays_207 0 rfl ?_
              refine vl_dup C0 dX4_plays_208 rfl ?_
              refine rm_get C0 hin 15 (by decide) (by decide +kernel) (v := .int ((earnE (mm 4) (mm 0 5) (mm 0 6) S4.1 S4.2.1 S4.2.2.1 k) + ((mm 0 5) * (manyI (mm 4) S4.1 S4.2.1 k)))) (rfl) dX4_plays_209 ?_
              refine vl_aload_n C0 dX4_plays_212 0 rfl ?_
              refine rm_get C0 hin 13 (by decide) (by decide +kernel) rfl dX4_plays_213 ?_
              refine vl_iload C0 dX4_plays_216 4 rfl ?_
              refine rm_iald C0 13 10 8 rfl (vp_in_nI (show k < 8 by omega) (by decide)) (kn := k) (nI_clamp (by omega)) (v := S4.1 k) (hI.2.2.1 k hk30) dX4_plays_218 ?_
              refine vl_iconst (v := -1) C0 dX4_plays_219 (by decide) ?_
              refine vl_icmp_ne (tgt := 230) C0 dX4_plays_220 (by decide) (fun (h220 : ¬ (S4.1 k : Int32) = ((-1) : Int32)) => ?_) (fun (h220 : (S4.1 k : Int32) = ((-1) : Int32)) => ?_)
              · refine vl_iconst (v := 0) C0 dX4_plays_230 (by decide) ?_
                refine vl_isub C0 dX4_plays_231 ?_
                refine rm_put C0 hin 15 (by decide) (by decide +kernel) rfl rfl (mw_put15 _) dX4_plays_232 ?_
                refine vl_iinc (v := nI (k + 1)) (lv' := [(0, .ref (ad 0)), (1, .int (nI j)), (2, .int (nI T)), (3, .int (nI t)), (4, .int (nI (k + 1))), (5, .int (manyI (mm 4) S4.1 S4.2.1 k))]) C0 dX4_plays_235 4 rfl (nI_1 k) [1, 2, 3, 4, 0, 5] (by decide) rfl ?_
                refine vl_goto (tgt := 114) C0 dX4_plays_238 (by decide) ?_
                exact vl_lv (lv2 := [(0, .ref (ad 0)), (1, .int (nI j)), (2, .int (nI T)), (3, .int (nI t)), (4, .int (nI (k + 1)))]) [0, 1, 2, 3, 4] rfl (ihk (k + 1, (up2 (up2 (up2 m5 14 k ((S4.2.1 k) - (manyI (mm 4) S4.1 S4.2.1 k))) 0 15 ((earnE (mm 4) (mm 0 5) (mm 0 6) S4.1 S4.2.1 S4.2.2.1 k) + ((mm 0 5) * (manyI (mm 4) S4.1 S4.2.1 k)))) 0 15 (((earnE (mm 4) (mm 0 5) (mm 0 6) S4.1 S4.2.1 S4.2.2.1 k) + ((mm 0 5) * (manyI (mm 4) S4.1 S4.2.1 k))) - (0)))) (in3_a hI hk30 (Int32.not_lt.mp h130) rfl (by rw [if_neg h220])) (by show ns - (k + 1) < ns - k; omega))
              · refine vl_aload_n C0 dX4_plays_223 0 rfl ?_
                refine rm_get C0 hin 6 (by decide) (by decide +kernel) (v := .int (mm 0 6)) (congrArg (fun z => some (Value.int z)) (hI.2.1.2 6 (by decide) (by decide))) dX4_plays_224 ?_
                refine vl_goto (tgt := 231) C0 dX4_plays_227 (by decide) ?_
                refine vl_isub C0 dX4_plays_231 ?_
                refine rm_put C0 hin 15 (by decide) (by decide +kernel) rfl rfl (mw_put15 _) dX4_plays_232 ?_
                refine vl_iinc (v := nI (k + 1)) (lv' := [(0, .ref (ad 0)), (1, .int (nI j)), (2, .int (nI T)), (3, .int (nI t)), (4, .int (nI (k + 1))), (5, .int (manyI (mm 4) S4.1 S4.2.1 k))]) C0 dX4_plays_235 4 rfl (nI_1 k) [1, 2, 3, 4, 0, 5] (by decide) rfl ?_
                refine vl_goto (tgt := 114) C0 dX4_plays_238 (by decide) ?_
                exact vl_lv (lv2 := [(0, .ref (ad 0)), (1, .int (nI j)), (2, .int (nI T)), (3, .int (nI t)), (4, .int (nI (k + 1)))]) [0, 1, 2, 3, 4] rfl (ihk (k + 1, (up2 (up2 (up2 m5 14 k ((S4.2.1 k) - (manyI (mm 4) S4.1 S4.2.1 k))) 0 15 ((earnE (mm 4) (mm 0 5) (mm 0 6) S4.1 S4.2.1 S4.2.2.1 k) + ((mm 0 5) * (manyI (mm 4) S4.1 S4.2.1 k)))) 0 15 (((earnE (mm 4) (mm 0 5) (mm 0 6) S4.1 S4.2.1 S4.2.2.1 k) + ((mm 0 5) * (manyI (mm 4) S4.1 S4.2.1 k))) - (mm 0 6)))) (in3_a hI hk30 (Int32.not_lt.mp h130) rfl (by rw [if_pos h220])) (by show ns - (k + 1) < ns - k; omega))
            · skip
              refine vl_aload_n C0 dX4_plays_133 0 rfl ?_
              refine rm_get C0 hin 14 (by decide) (by decide +kernel) rfl dX4_plays_134 ?_
              refine vl_iload C0 dX4_plays_137 4 rfl ?_
              refine rm_iald C0 14 11 8 rfl (vp_in_nI (show k < 8 by omega) (by decide)) (kn := k) (nI_clamp (by omega)) (v := S4.2.1 k) (upd_at hI.2.2.2.1 hk30) dX4_plays_139 ?_
              refine vl_aload_n C0 dX4_plays_140 0 rfl ?_
              refine rm_get C0 hin 4 (by decide) (by decide +kernel) rfl dX4_plays_141 ?_
              refine vl_aload_n C0 dX4_plays_144 0 rfl ?_
              refine rm_get C0 hin 13 (by decide) (by decide +kernel) rfl dX4_plays_145 ?_
              refine vl_iload C0 dX4_plays_148 4 rfl ?_
              refine rm_iald C0 13 10 8 rfl (vp_in_nI (show k < 8 by omega) (by decide)) (kn := k) (nI_clamp (by omega)) (v := S4.1 k) (hI.2.2.1 k hk30) dX4_plays_150 ?_
              refine rm_iald C0 4 4 3 rfl (place_in (hok4 k) (Int32.not_lt.mp h130)) (kn := (S4.1 k).toNatClampNeg) (rfl) (v := mm 4 ((S4.1 k).toNatClampNeg)) (congrFun (hI.2.1.1 4 (by decide) (by decide) (by decide)) _) dX4_plays_151 ?_
              refine vl_icmp_ge (tgt := 165) C0 dX4_plays_152 (by decide) (fun (h152 : (mm 4 ((S4.1 k).toNatClampNeg) : Int32) ≤ (S4.2.1 k : Int32)) => ?_) (fun (h152 : ¬ (mm 4 ((S4.1 k).toNatClampNeg) : Int32) ≤ (S4.2.1 k : Int32)) => ?_)
              · refine vl_aload_n C0 dX4_plays_165 0 rfl ?_
                refine rm_get C0 hin 4 (by decide) (by decide +kernel) rfl dX4_plays_166 ?_
                refine vl_aload_n C0 dX4_plays_169 0 rfl ?_
                refine rm_get C0 hin 13 (by decide) (by decide +kernel) rfl dX4_plays_170 ?_
                refine vl_iload C0 dX4_plays_173 4 rfl ?_
                refine rm_iald C0 13 10 8 rfl (vp_in_nI (show k < 8 by omega) (by decide)) (kn := k) (nI_clamp (by omega)) (v := S4.1 k) (hI.2.2.1 k hk30) dX4_plays_175 ?_
                refine rm_iald C0 4 4 3 rfl (place_in (hok4 k) (Int32.not_lt.mp h130)) (kn := (S4.1 k).toNatClampNeg) (rfl) (v := mm 4 ((S4.1 k).toNatClampNeg)) (congrFun (hI.2.1.1 4 (by decide) (by decide) (by decide)) _) dX4_plays_176 ?_
                exact vl_st (by simp [manyI, ← Int32.not_le, h152]) hj
              · refine vl_aload_n C0 dX4_plays_155 0 rfl ?_
                refine rm_get C0 hin 14 (by decide) (by decide +kernel) rfl dX4_plays_156 ?_
                refine vl_iload C0 dX4_plays_159 4 rfl ?_
                refine rm_iald C0 14 11 8 rfl (vp_in_nI (show k < 8 by omega) (by decide)) (kn := k) (nI_clamp (by omega)) (v := S4.2.1 k) (upd_at hI.2.2.2.1 hk30) dX4_plays_161 ?_
                refine vl_goto (tgt := 177) C0 dX4_plays_162 (by decide) ?_
                exact vl_st (by simp [manyI, ← Int32.not_le, h152]) hj
      · have hk30 : k < ns := by have z : ¬ k = ns := fun q => h62 (by rw [q]; exact nI_le (Nat.le_refl _) (by omega)); have := hI.1; omega
        refine vl_aload_n C0 dX4_plays_65 0 rfl ?_
        refine rm_get C0 hin 13 (by decide) (by decide +kernel) rfl dX4_plays_66 ?_
        refine vl_iload C0 dX4_plays_69 4 rfl ?_
        refine vl_aload_n C0 dX4_plays_71 0 rfl ?_
        refine rm_get C0 hin 1 (by decide) (by decide +kernel) rfl dX4_plays_72 ?_
        refine vl_iload C0 dX4_plays_75 4 rfl ?_
        refine rm_iald C0 1 1 8 rfl (vp_in_nI (show k < 8 by omega) (by decide)) (kn := k) (nI_clamp (by omega)) (v := mm 1 k) (congrFun (hI.2.1.1 1 (by decide) (by decide) (by decide)) _) dX4_plays_77 ?_
        refine vl_iload_n C0 dX4_plays_78 3 rfl ?_
        refine vl_icmp_ne (tgt := 86) C0 dX4_plays_79 (by decide) (fun (h79 : ¬ (mm 1 k : Int32) = (nI t : Int32)) => ?_) (fun (h79 : (mm 1 k : Int32) = (nI t : Int32)) => ?_)
        · refine vl_aload_n C0 dX4_plays_86 0 rfl ?_
          refine rm_get C0 hin 13 (by decide) (by decide +kernel) rfl dX4_plays_87 ?_
          refine vl_iload C0 dX4_plays_90 4 rfl ?_
          refine rm_iald C0 13 10 8 rfl (vp_in_nI (show k < 8 by omega) (by decide)) (kn := k) (nI_clamp (by omega)) (v := m3 13 k) (rfl) dX4_plays_92 ?_
          refine rm_iast C0 13 10 8 rfl (mw_st13 _ _) (vp_in_nI (show k < 8 by omega) (by decide)) (kn := k) (nI_clamp (by omega)) dX4_plays_93 ?_
          refine vl_iinc (v := nI (k + 1)) (lv' := [(0, .ref (ad 0)), (1, .int (nI j)), (2, .int (nI T)), (3, .int (nI t)), (4, .int (nI (k + 1)))]) C0 dX4_plays_94 4 rfl (nI_1 k) [1, 2, 3, 4, 0] (by decide) rfl ?_
          refine vl_goto (tgt := 56) C0 dX4_plays_97 (by decide) ?_
          exact vl_lv (lv2 := [(0, .ref (ad 0)), (1, .int (nI j)), (2, .int (nI T)), (3, .int (nI t)), (4, .int (nI (k + 1)))]) [0, 1, 2, 3, 4] rfl (ihk (k + 1, (up2 m3 13 k (m3 13 k))) (in2_s hI hk30 (by simp only [comeA]; rw [if_neg h79]; exact upd_at hI.2.2.1 hk30)) (by show ns - (k + 1) < ns - k; omega))
        · refine vl_iconst (v := -1) C0 dX4_plays_82 (by decide) ?_
          refine vl_goto (tgt := 93) C0 dX4_plays_83 (by decide) ?_
          refine rm_iast C0 13 10 8 rfl (mw_st13 _ _) (vp_in_nI (show k < 8 by omega) (by decide)) (kn := k) (nI_clamp (by omega)) dX4_plays_93 ?_
          refine vl_iinc (v := nI (k + 1)) (lv' := [(0, .ref (ad 0)), (1, .int (nI j)), (2, .int (nI T)), (3, .int (nI t)), (4, .int (nI (k + 1)))]) C0 dX4_plays_94 4 rfl (nI_1 k) [1, 2, 3, 4, 0] (by decide) rfl ?_
          refine vl_goto (tgt := 56) C0 dX4_plays_97 (by decide) ?_
          exact vl_lv (lv2 := [(0, .ref (ad 0)), (1, .int (nI j)), (2, .int (nI T)), (3, .int (nI t)), (4, .int (nI (k + 1)))]) [0, 1, 2, 3, 4] rfl (ihk (k + 1, (up2 m3 13 k (-1))) (in2_s hI hk30 (by simp only [comeA]; rw [if_pos h79])) (by show ns - (k + 1) < ns - k; omega))
  · have hk30 : k < ns := by have z : ¬ k = ns := fun q => h17 (by rw [q]; exact nI_le (Nat.le_refl _) (by omega)); have := hI.1; omega
    refine vl_aload_n C0 dX4_plays_20 0 rfl ?_
    refine rm_get C0 hin 13 (by decide) (by decide +kernel) rfl dX4_plays_21 ?_
    refine vl_iload_n C0 dX4_plays_24 3 rfl ?_
    refine vl_bipush (v := -2) C0 dX4_plays_25 (by decide) ?_
    refine rm_iast C0 13 10 8 rfl (mw_st13 _ _) (vp_in_nI (show k < 8 by omega) (by decide)) (kn := k) (nI_clamp (by omega)) dX4_plays_27 ?_
    refine vl_aload_n C0 dX4_plays_28 0 rfl ?_
    refine rm_get C0 hin 14 (by decide) (by decide +kernel) rfl dX4_plays_29 ?_
    refine vl_iload_n C0 dX4_plays_32 3 rfl ?_
    refine vl_aload_n C0 dX4_plays_33 0 rfl ?_
    refine rm_get C0 hin 3 (by decide) (by decide +kernel) rfl dX4_plays_34 ?_
    refine vl_iload_n C0 dX4_plays_37 3 rfl ?_
    refine rm_iald C0 3 3 8 rfl (vp_in_nI (show k < 8 by omega) (by decide)) (kn := k) (nI_clamp (by omega)) (v := mm 3 k) (congrFun (hI.2.1.1 3 (by decide) (by decide) (by decide)) _) dX4_plays_38 ?_
    refine rm_iast C0 14 11 8 rfl (mw_st14 _ _) (vp_in_nI (show k < 8 by omega) (by decide)) (kn := k) (nI_clamp (by omega)) dX4_plays_39 ?_
    refine vl_iinc (v := nI (k + 1)) (lv' := [(0, .ref (ad 0)), (1, .int (nI j)), (2, .int (nI T)), (3, .int (nI (k + 1)))]) C0 dX4_plays_40 3 rfl (nI_1 k) [1, 2, 3, 0] (by decide) rfl ?_
    refine vl_goto (tgt := 12) C0 dX4_plays_43 (by decide) ?_
    exact vl_lv (lv2 := [(0, .ref (ad 0)), (1, .int (nI j)), (2, .int (nI T)), (3, .int (nI (k + 1)))]) [0, 1, 2, 3] rfl (ihk (k + 1, (up2 (up2 m1 13 k (-2)) 14 k (mm 3 k))) (in1_s hI hk30) (by show ns - (k + 1) < ns - k; omega))
end VM9
end
section
section VM10
/-- the reference's state, but for what plays and the numbers of throws write -/
def mKp (m m' : Nat → Nat → Int32) : Prop := (∀ j, j ≠ 0 → j ≠ 13 → j ≠ 14 → m' j = m j) ∧ ∀ i, i ≠ 15 → i ≠ 16 → i ≠ 17 → m' 0 i = m 0 i
theorem mFr.kp {m m' : Nat → Nat → Int32} (h : mFr m m') : mKp m m' := ⟨h.1, fun i a b _ => h.2 i a b⟩
theorem mKp.rf {m : Nat → Nat → Int32} : mKp m m := ⟨fun _ _ _ _ => rfl, fun _ _ _ _ => rfl⟩
theorem mKp.tr {m m' m2 : Nat → Nat → Int32} (h : mKp m m') (h2 : mKp m' m2) : mKp m m2 := ⟨fun j a b c => (h2.1 j a b c).trans (h.1 j a b c), fun i a b c => (h2.2 i a b c).trans (h.2 i a b c)⟩
theorem mKp.t {m : Nat → Nat → Int32} (v : Int32) : mKp m (up2 m 0 17 v) := ⟨fun j a _ _ => by simp [up2, a], fun i _ _ h => by simp [up2, upd, h]⟩
theorem plyM_k {n : Nat} {par : Nat → Option Nat} {m m' : Nat → Nat → Int32} (h : mKp m m') (j T : Nat) : plyM n par m' j T = plyM n par m j T := by
  unfold plyM
  rw [h.1 1 (by decide) (by decide) (by decide), h.1 2 (by decide) (by decide) (by decide), h.1 3 (by decide) (by decide) (by decide), h.1 4 (by decide) (by decide) (by decide), h.1 11 (by decide) (by decide) (by decide), h.2 5 (by decide) (by decide) (by decide), h.2 6 (by decide) (by decide) (by decide)]
theorem mTree_k {nl : Nat} {par : Nat → Option Nat} {m m' : Nat → Nat → Int32} (h : mTree nl par m) (hf : mKp m m') : mTree nl par m' := ⟨h.1, fun i hi => (congrFun (hf.1 8 (by decide) (by decide) (by decide)) i).trans (h.2 i hi)⟩
theorem aheadI_k {m m' : Nat → Nat → Int32} (h : mKp m m') (j : Nat) : aheadI m' j = aheadI m j := by
  unfold aheadI aheadP
  rw [h.1 12 (by decide) (by decide) (by decide)]
theorem misB_f {nl ns : Nat} {a b t : Int32} (h : misB nl ns a b t = false) : inB a 0 (nI nl - 1) = true ∧ inB b 0 (nI ns - 1) = true ∧ inB t 0 29 = true := by
  simp only [misB, Bool.not_eq_false', Bool.and_eq_true] at h
  exact ⟨h.1.1, h.1.2, h.2⟩
theorem inB_nS {n : Nat} {v : Int32} (hn : n ≤ 8) (h : inB v 0 (nI n - 1) = true) : ∃ j : Nat, j < n ∧ v = nI j := by
  cases n with
  | zero => exact absurd h (fun q => inB_nI0 q)
  | succ n => exact inB_nI (by omega) (by omega) h
def whV (ns nl : Nat) (par : Nat → Option Nat) (m : Nat → Nat → Int32) (a b t : Int32) : Int32 := if misB nl ns a b t = true then 0 else (plyM ns par m a.toNatClampNeg (t.toNatClampNeg + 1)).1 b.toNatClampNeg
def cgV (ns nl : Nat) (par : Nat → Option Nat) (m : Nat → Nat → Int32) (a b t : Int32) : Int32 := if misB nl ns a b t = true then 0 else (plyM ns par m a.toNatClampNeg (t.toNatClampNeg + 1)).2.1 b.toNatClampNeg
def faV (ns nl : Nat) (par : Nat → Option Nat) (m : Nat → Nat → Int32) (a : Int32) : Int32 := if inB a 0 (nI nl - 1) = false then 0 else (plyM ns par m a.toNatClampNeg 30).2.2.2
def lkV (ns nl : Nat) (par : Nat → Option Nat) (m : Nat → Nat → Int32) (a t : Int32) : Int32 := if (inB a 0 (nI nl - 1) && inB t 0 29) = false then 0 else (plyM ns par m a.toNatClampNeg (t.toNatClampNeg + 1)).2.2.1
def lkM (nl : Nat) (m : Nat → Nat → Int32) (a t : Int32) : Nat → Nat → Int32 := if (inB a 0 (nI nl - 1) && inB t 0 29) = false then m else up2 m 10 a.toNatClampNeg (if m 10 a.toNatClampNeg < t then t else m 10 a.toNatClampNeg)
def mkV (ns : Nat) (par : Nat → Option Nat) (m : Nat → Nat → Int32) (j : Nat) : Int32 := if j = 0 then 50 else if ¬ aheadI m j = 0 then 0 else if 50 + (plyM ns par m j 30).2.2.1 - (plyM ns par m 0 30).2.2.1 < 0 then 0 else if 100 < 50 + (plyM ns par m j 30).2.2.1 - (plyM ns par m 0 30).2.2.1 then 100 else 50 + (plyM ns par m j 30).2.2.1 - (plyM ns par m 0 30).2.2.1
theorem mkV_k {ns : Nat} {par : Nat → Option Nat} {m m' : Nat → Nat → Int32} (h : mKp m m') (j : Nat) : mkV ns par m' j = mkV ns par m j := by
  unfold mkV
  rw [aheadI_k h, plyM_k h, plyM_k h]
def maV (ns nl : Nat) (par : Nat → Option Nat) (m : Nat → Nat → Int32) (a : Int32) : Int32 := if inB a 0 (nI nl - 1) = false then 0 else mkV ns par m a.toNatClampNeg
def bstF (mk : Nat → Int32) : Nat → Int32 × Int32
  | 0 => (-1, -1)
  | k + 1 => if (bstF mk k).2 < mk (k + 1) then (nI (k + 1), mk (k + 1)) else bstF mk k
set_option maxHeartbeats 4000000 in
set_option maxRecDepth 100000 in
theorem c_X4_where {l : Launch} {D : va_G} {cy : Nat → ClassId} {ad : Nat → Nat} {mm : Nat → Nat → Int32} {X : va_W} {ns nl : Nat} {par : Nat → Option Nat} (hl0 : l.stackTraces = false) (a b t : Int32) (e0 : mm 0 0 = nI ns) (h8 : ns ≤ 8) (e7 : mm 0 7 = nI nl) (h1 : 1 ≤ nl) (h9 : nl ≤ 9) (ht : mTree nl par mm) (hcode : ∀ j t, j < nl → t < 30 → codeOK ns (ordX (mm 11) par t (some j))) : vl_Ki l D cy yX4_where wsX4_where { frames := 3, cells := 0, slots := 0, locals := 76 } 0 0 (mw cy ad mm ++ X) [.ref (ad 0), .int a, .int b, .int t] (fun r w' => ∃ m', w' = mw cy ad m' ++ X ∧ mKp mm m' ∧ m' 0 17 = bI (misB nl ns a b t) ∧ r = whV ns nl par mm a b t) := by
  refine vl_openi hl0 (by decide) rfl (Nat.le_of_ble_eq_true rfl) rfl ?_
  intro p e s m args below meth c C0 hr hnm
  generalize hA : va_A (mw cy ad mm ++ X) s.heap.size = A at C0 ⊢
  refine vl_lv (lv2 := [(0, .ref (ad 0)), (1, .int a), (2, .int b), (3, .int t)]) [0, 1, 2, 3] rfl ?_
  have hin : ∀ x ∈ u_ws RX4 TX4 18, x ∈ wsX4_where := by decide +kernel
  refine vl_aload_n C0 dX4_where_0 0 rfl ?_
  refine vl_iload_n C0 dX4_where_1 1 rfl ?_
  refine vl_iload_n C0 dX4_where_2 2 rfl ?_
  refine vl_iload_n C0 dX4_where_3 3 rfl ?_
  refine vl_calli C0 (vl_goV C0 (As := [.int a, .int b, .int t]) (na := 3) (b := ad 0) (st := []) (ci := 4) gX4_where_X4_misses rfl rfl rfl (by decide +kernel) ⟨Nat.le_of_ble_eq_true rfl, Nat.le_of_ble_eq_true rfl⟩ rfl ⟨0, _, rfl⟩ dX4_where_4 (Nat.le_of_ble_eq_true rfl) ⟨Nat.le_of_ble_eq_true rfl, Nat.le_of_ble_eq_true rfl⟩ rfl rfl) (c_X4_misses hl0 a b t e0 h8 e7 h1 h9) (k2 := 0) (n2 := 0) (Nat.le_of_ble_eq_true rfl) (Nat.le_of_ble_eq_true rfl) (fun r9 w9 hp9 => ?_)
  obtain ⟨rfl, rfl⟩ := hp9
  refine vl_if_eq (tgt := 12) C0 dX4_where_7 (by decide) (fun (h7 : (bI (misB nl ns a b t) : Int32) = (0 : Int32)) => ?_) (fun (h7 : ¬ (bI (misB nl ns a b t) : Int32) = (0 : Int32)) => ?_)
  · have g7 := bI_0.mp h7
    obtain ⟨ga, gb, gt⟩ := misB_f g7
    obtain ⟨ja, hja, rfl⟩ := inB_nI h1 (by omega) ga
    obtain ⟨jb, hjb, rfl⟩ := inB_nS h8 gb
    obtain ⟨jt, hjt, rfl⟩ := inB_k gt (by decide) (n := 30) (by decide)
    refine vl_aload_n C0 dX4_where_12 0 rfl ?_
    refine vl_iload_n C0 dX4_where_13 1 rfl ?_
    refine vl_iload_n C0 dX4_where_14 3 rfl ?_
    refine vl_callv C0 (vl_goV C0 (As := [.int (nI ja), .int (nI jt)]) (na := 2) (b := ad 0) (st := []) (ci := 4) gX4_where_X4_plays rfl rfl rfl (by decide +kernel) ⟨Nat.le_of_ble_eq_true rfl, Nat.le_of_ble_eq_true rfl⟩ rfl ⟨0, _, rfl⟩ dX4_where_15 (Nat.le_of_ble_eq_true rfl) ⟨Nat.le_of_ble_eq_true rfl, Nat.le_of_ble_eq_true rfl⟩ rfl rfl) (c_X4_plays hl0 ja jt (ns := ns) (nl := nl) (par := par) e0 h8 ht h9 (hja) (hjt) (fun t9 h9t => hcode ja t9 hja h9t)) (k2 := 0) (n2 := 0) (Nat.le_of_ble_eq_true rfl) (Nat.le_of_ble_eq_true rfl) (fun w9 hp9 => ?_)
    obtain ⟨m1, rfl, hf1, hq1⟩ := hp9
    refine vl_aload_n C0 dX4_where_18 0 rfl ?_
    refine rm_get C0 hin 13 (by decide) (by decide +kernel) rfl dX4_where_19 ?_
    refine vl_iload_n C0 dX4_where_22 2 rfl ?_
    refine rm_iald C0 13 10 8 rfl (vp_in_nI (show jb < 8 by omega) (by decide)) (kn := jb) (nI_clamp (by omega)) (v := (plyM ns par mm ja (jt + 1)).1 jb) (hq1.1 jb hjb) dX4_where_23 ?_
    exact vl_iret C0 hA.symm hr ⟨_, rfl, (mKp.t _).tr hf1.kp, hf1.2 17 (by decide) (by decide), by rw [whV, if_neg (by rw [g7]; decide), nI_clamp (show ja < 2 ^ 31 by omega), nI_clamp (show jb < 2 ^ 31 by omega), nI_clamp (show jt < 2 ^ 31 by omega)]⟩ (Nat.le_of_ble_eq_true rfl) (Nat.le_of_ble_eq_true rfl) dX4_where_24
  · have g7 := bI_n.mp h7
    refine vl_iconst (v := 0) C0 dX4_where_10 (by decide) ?_
    exact vl_iret C0 hA.symm hr ⟨_, rfl, mKp.t _, rfl, by simp [whV, g7]⟩ (Nat.le_of_ble_eq_true rfl) (Nat.le_of_ble_eq_true rfl) dX4_where_11
set_option maxHeartbeats 4000000 in
set_option maxRecDepth 100000 in
theorem c_X4_cargo {l : Launch} {D : va_G} {cy : Nat → ClassId} {ad : Nat → Nat} {mm : Nat → Nat → Int32} {X : va_W} {ns nl : Nat} {par : Nat → Option Nat} (hl0 : l.stackTraces = false) (a b t : Int32) (e0 : mm 0 0 = nI ns) (h8 : ns ≤ 8) (e7 : mm 0 7 = nI nl) (h1 : 1 ≤ nl) (h9 : nl ≤ 9) (ht : mTree nl par mm) (hcode : ∀ j t, j < nl → t < 30 → codeOK ns (ordX (mm 11) par t (some j))) : vl_Ki l D cy yX4_cargo wsX4_cargo { frames := 3, cells := 0, slots := 0, locals := 76 } 0 0 (mw cy ad mm ++ X) [.ref (ad 0), .int a, .int b, .int t] (fun r w' => ∃ m', w' = mw cy ad m' ++ X ∧ mKp mm m' ∧ m' 0 17 = bI (misB nl ns a b t) ∧ r = cgV ns nl par mm a b t) := by
  refine vl_openi hl0 (by decide) rfl (Nat.le_of_ble_eq_true rfl) rfl ?_
  intro p e s m args below meth c C0 hr hnm
  generalize hA : va_A (mw cy ad mm ++ X) s.heap.size = A at C0 ⊢
  refine vl_lv (lv2 := [(0, .ref (ad 0)), (1, .int a), (2, .int b), (3, .int t)]) [0, 1, 2, 3] rfl ?_
  have hin : ∀ x ∈ u_ws RX4 TX4 18, x ∈ wsX4_cargo := by decide +kernel
  refine vl_aload_n C0 dX4_cargo_0 0 rfl ?_
  refine vl_iload_n C0 dX4_cargo_1 1 rfl ?_
  refine vl_iload_n C0 dX4_cargo_2 2 rfl ?_
  refine vl_iload_n C0 dX4_cargo_3 3 rfl ?_
  refine vl_calli C0 (vl_goV C0 (As := [.int a, .int b, .int t]) (na := 3) (b := ad 0) (st := []) (ci := 4) gX4_cargo_X4_misses rfl rfl rfl (by decide +kernel) ⟨Nat.le_of_ble_eq_true rfl, Nat.le_of_ble_eq_true rfl⟩ rfl ⟨0, _, rfl⟩ dX4_cargo_4 (Nat.le_of_ble_eq_true rfl) ⟨Nat.le_of_ble_eq_true rfl, Nat.le_of_ble_eq_true rfl⟩ rfl rfl) (c_X4_misses hl0 a b t e0 h8 e7 h1 h9) (k2 := 0) (n2 := 0) (Nat.le_of_ble_eq_true rfl) (Nat.le_of_ble_eq_true rfl) (fun r9 w9 hp9 => ?_)
  obtain ⟨rfl, rfl⟩ := hp9
  refine vl_if_eq (tgt := 12) C0 dX4_cargo_7 (by decide) (fun (h7 : (bI (misB nl ns a b t) : Int32) = (0 : Int32)) => ?_) (fun (h7 : ¬ (bI (misB nl ns a b t) : Int32) = (0 : Int32)) => ?_)
  · have g7 := bI_0.mp h7
    obtain ⟨ga, gb, gt⟩ := misB_f g7
    obtain ⟨ja, hja, rfl⟩ := inB_nI h1 (by omega) ga
    obtain ⟨jb, hjb, rfl⟩ := inB_nS h8 gb
    obtain ⟨jt, hjt, rfl⟩ := inB_k gt (by decide) (n := 30) (by decide)
    refine vl_aload_n C0 dX4_cargo_12 0 rfl ?_
    refine vl_iload_n C0 dX4_cargo_13 1 rfl ?_
    refine vl_iload_n C0 dX4_cargo_14 3 rfl ?_
    refine vl_callv C0 (vl_goV C0 (As := [.int (nI ja), .int (nI jt)]) (na := 2) (b := ad 0) (st := []) (ci := 4) gX4_cargo_X4_plays rfl rfl rfl (by decide +kernel) ⟨Nat.le_of_ble_eq_true rfl, Nat.le_of_ble_eq_true rfl⟩ rfl ⟨0, _, rfl⟩ dX4_cargo_15 (Nat.le_of_ble_eq_true rfl) ⟨Nat.le_of_ble_eq_true rfl, Nat.le_of_ble_eq_true rfl⟩ rfl rfl) (c_X4_plays hl0 ja jt (ns := ns) (nl := nl) (par := par) e0 h8 ht h9 (hja) (hjt) (fun t9 h9t => hcode ja t9 hja h9t)) (k2 := 0) (n2 := 0) (Nat.le_of_ble_eq_true rfl) (Nat.le_of_ble_eq_true rfl) (fun w9 hp9 => ?_)
    obtain ⟨m1, rfl, hf1, hq1⟩ := hp9
    refine vl_aload_n C0 dX4_cargo_18 0 rfl ?_
    refine rm_get C0 hin 14 (by decide) (by decide +kernel) rfl dX4_cargo_19 ?_
    refine vl_iload_n C0 dX4_cargo_22 2 rfl ?_
    refine rm_iald C0 14 11 8 rfl (vp_in_nI (show jb < 8 by omega) (by decide)) (kn := jb) (nI_clamp (by omega)) (v := (plyM ns par mm ja (jt + 1)).2.1 jb) (hq1.2.1 jb hjb) dX4_cargo_23 ?_
    exact vl_iret C0 hA.symm hr ⟨_, rfl, (mKp.t _).tr hf1.kp, hf1.2 17 (by decide) (by decide), by rw [cgV, if_neg (by rw [g7]; decide), nI_clamp (show ja < 2 ^ 31 by omega), nI_clamp (show jb < 2 ^ 31 by omega), nI_clamp (show jt < 2 ^ 31 by omega)]⟩ (Nat.le_of_ble_eq_true rfl) (Nat.le_of_ble_eq_true rfl) dX4_cargo_24
  · have g7 := bI_n.mp h7
    refine vl_iconst (v := 0) C0 dX4_cargo_10 (by decide) ?_
    exact vl_iret C0 hA.symm hr ⟨_, rfl, mKp.t _, rfl, by simp [cgV, g7]⟩ (Nat.le_of_ble_eq_true rfl) (Nat.le_of_ble_eq_true rfl) dX4_cargo_11
set_option maxHeartbeats 4000000 in
set_option maxRecDepth 100000 in
theorem c_X4_failures {l : Launch} {D : va_G} {cy : Nat → ClassId} {ad : Nat → Nat} {mm : Nat → Nat → Int32} {X : va_W} {ns nl : Nat} {par : Nat → Option Nat} (hl0 : l.stackTraces = false) (a : Int32) (e0 : mm 0 0 = nI ns) (h8 : ns ≤ 8) (e7 : mm 0 7 = nI nl) (h1 : 1 ≤ nl) (h9 : nl ≤ 9) (ht : mTree nl par mm) (hcode : ∀ j t, j < nl → t < 30 → codeOK ns (ordX (mm 11) par t (some j))) : vl_Ki l D cy yX4_failures wsX4_failures { frames := 3, cells := 0, slots := 0, locals := 76 } 0 0 (mw cy ad mm ++ X) [.ref (ad 0), .int a] (fun r w' => ∃ m', w' = mw cy ad m' ++ X ∧ mKp mm m' ∧ m' 0 17 = bI (!inB a 0 (nI nl - 1)) ∧ r = faV ns nl par mm a) := by
  refine vl_openi hl0 (by decide) rfl (Nat.le_of_ble_eq_true rfl) rfl ?_
  intro p e s m args below meth c C0 hr hnm
  generalize hA : va_A (mw cy ad mm ++ X) s.heap.size = A at C0 ⊢
  refine vl_lv (lv2 := [(0, .ref (ad 0)), (1, .int a)]) [0, 1] rfl ?_
  have hin : ∀ x ∈ u_ws RX4 TX4 18, x ∈ wsX4_failures := by decide +kernel
  refine vl_aload_n C0 dX4_failures_0 0 rfl ?_
  refine vl_aload_n C0 dX4_failures_1 0 rfl ?_
  refine vl_iload_n C0 dX4_failures_2 1 rfl ?_
  refine vl_calli C0 (vl_goV C0 (As := [.int a]) (na := 1) (b := ad 0) (st := [.ref (ad 0)]) (ci := 4) gX4_failures_X4_isLine rfl rfl rfl (by decide +kernel) ⟨Nat.le_of_ble_eq_true rfl, Nat.le_of_ble_eq_true rfl⟩ rfl ⟨0, _, rfl⟩ dX4_failures_3 (Nat.le_of_ble_eq_true rfl) ⟨Nat.le_of_ble_eq_true rfl, Nat.le_of_ble_eq_true rfl⟩ rfl rfl) (c_X4_isLine hl0 a) (k2 := 0) (n2 := 0) (Nat.le_of_ble_eq_true rfl) (Nat.le_of_ble_eq_true rfl) (fun r9 w9 hp9 => ?_)
  obtain ⟨rfl, rfl⟩ := hp9
  rw [e7]
  refine vl_if_eq (tgt := 13) C0 dX4_failures_6 (by decide) (fun (h6 : (bI (inB a 0 (nI nl - 1)) : Int32) = (0 : Int32)) => ?_) (fun (h6 : ¬ (bI (inB a 0 (nI nl - 1)) : Int32) = (0 : Int32)) => ?_)
  · have g6 := bI_0.mp h6
    refine vl_iconst (v := 1) C0 dX4_failures_13 (by decide) ?_
    refine vl_calli C0 (vl_goV C0 (As := [.int 1]) (na := 1) (b := ad 0) (st := []) (ci := 4) gX4_failures_X4_fails rfl rfl rfl (by decide +kernel) ⟨Nat.le_of_ble_eq_true rfl, Nat.le_of_ble_eq_true rfl⟩ rfl ⟨0, _, rfl⟩ dX4_failures_14 (Nat.le_of_ble_eq_true rfl) ⟨Nat.le_of_ble_eq_true rfl, Nat.le_of_ble_eq_true rfl⟩ rfl rfl) (c_X4_fails hl0 1) (k2 := 0) (n2 := 0) (Nat.le_of_ble_eq_true rfl) (Nat.le_of_ble_eq_true rfl) (fun r9 w9 hp9 => ?_)
    obtain ⟨hr9, rfl⟩ := hp9
    have hr9 : r9 = 1 := hr9.trans (by decide)
    subst hr9
    refine vl_if_eq (tgt := 22) C0 dX4_failures_17 (by decide) (fun (h17 : (1 : Int32) = (0 : Int32)) => absurd h17 (by decide)) (fun (h17 : ¬ (1 : Int32) = (0 : Int32)) => ?_)
    refine vl_iconst (v := 0) C0 dX4_failures_20 (by decide) ?_
    exact vl_iret C0 hA.symm hr ⟨_, rfl, mKp.t _, by simp [up2_same, g6]; rfl, by simp [faV, g6]⟩ (Nat.le_of_ble_eq_true rfl) (Nat.le_of_ble_eq_true rfl) dX4_failures_21
  · have g6 := bI_n.mp h6
    obtain ⟨ja, hja, rfl⟩ := inB_nI h1 (by omega) g6
    refine vl_iconst (v := 0) C0 dX4_failures_9 (by decide) ?_
    refine vl_goto (tgt := 14) C0 dX4_failures_10 (by decide) ?_
    refine vl_calli C0 (vl_goV C0 (As := [.int 0]) (na := 1) (b := ad 0) (st := []) (ci := 4) gX4_failures_X4_fails rfl rfl rfl (by decide +kernel) ⟨Nat.le_of_ble_eq_true rfl, Nat.le_of_ble_eq_true rfl⟩ rfl ⟨0, _, rfl⟩ dX4_failures_14 (Nat.le_of_ble_eq_true rfl) ⟨Nat.le_of_ble_eq_true rfl, Nat.le_of_ble_eq_true rfl⟩ rfl rfl) (c_X4_fails hl0 0) (k2 := 0) (n2 := 0) (Nat.le_of_ble_eq_true rfl) (Nat.le_of_ble_eq_true rfl) (fun r9 w9 hp9 => ?_)
    obtain ⟨hr9, rfl⟩ := hp9
    have hr9 : r9 = 0 := hr9.trans (by decide)
    subst hr9
    refine vl_if_eq (tgt := 22) C0 dX4_failures_17 (by decide) (fun (h17 : (0 : Int32) = (0 : Int32)) => ?_) (fun (h17 : ¬ (0 : Int32) = (0 : Int32)) => absurd h17 (by decide))
    refine vl_aload_n C0 dX4_failures_22 0 rfl ?_
    refine vl_iload_n C0 dX4_failures_23 1 rfl ?_
    refine vl_bipush (v := 29) C0 dX4_failures_24 (by decide) ?_
    refine vl_callv C0 (vl_goV C0 (As := [.int (nI ja), .int 29]) (na := 2) (b := ad 0) (st := []) (ci := 4) gX4_failures_X4_plays rfl rfl rfl (by decide +kernel) ⟨Nat.le_of_ble_eq_true rfl, Nat.le_of_ble_eq_true rfl⟩ rfl ⟨0, _, rfl⟩ dX4_failures_26 (Nat.le_of_ble_eq_true rfl) ⟨Nat.le_of_ble_eq_true rfl, Nat.le_of_ble_eq_true rfl⟩ rfl rfl) (c_X4_plays hl0 ja 29 (ns := ns) (nl := nl) (par := par) e0 h8 ht h9 (hja) (by decide) (fun t9 h9t => hcode ja t9 hja h9t)) (k2 := 0) (n2 := 0) (Nat.le_of_ble_eq_true rfl) (Nat.le_of_ble_eq_true rfl) (fun w9 hp9 => ?_)
    obtain ⟨m1, rfl, hf1, hq1⟩ := hp9
    refine vl_aload_n C0 dX4_failures_29 0 rfl ?_
    refine rm_get C0 hin 16 (by decide) (by decide +kernel) (v := .int ((plyM ns par mm ja 30).2.2.2)) (congrArg (fun z => some (Value.int z)) hq1.2.2.2) dX4_failures_30 ?_
    exact vl_iret C0 hA.symm hr ⟨_, rfl, (mKp.t _).tr hf1.kp, (hf1.2 17 (by decide) (by decide)).trans (by simp [up2_same, g6]; rfl), by rw [faV, if_neg (by rw [g6]; decide), nI_clamp (show ja < 2 ^ 31 by omega)]⟩ (Nat.le_of_ble_eq_true rfl) (Nat.le_of_ble_eq_true rfl) dX4_failures_33
end VM10
end
