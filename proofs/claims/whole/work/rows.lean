section
-- ===== PART A: goes FIRST, ahead of the names: the tables' words, and 'selects' of the private methods out of them =====
/-- a private method of a class that the tables say can be made, by its rows of tables_1 -/
def lw_okq (q : MethodName × Nat) : Prop := (q.1.cls ≠ "java/lang/invoke/MethodHandle" ∧ q.1.cls ≠ "java/lang/invoke/VarHandle") ∧ Cond.instantiable q.1.cls q.2 ∈ tables_1 ∧ Cond.privateMethod q.1 ∈ tables_1 ∧ Cond.instanceMethod q.1 ∈ tables_1
theorem lw_p0 : lw_okq (⟨"java/lang/Throwable", "fillInStackTrace", "(I)Ljava/lang/Throwable;"⟩, 6) := ⟨⟨by decide +kernel, by decide +kernel⟩, List.mem_of_getElem? (i := 185) (by decide +kernel), List.mem_of_getElem? (i := 183) (by decide +kernel), List.mem_of_getElem? (i := 184) (by decide +kernel)⟩
theorem lw_p1 : lw_okq (⟨"EntryRows$Boards", "hasRoom", "()Z"⟩, 6) := ⟨⟨by decide +kernel, by decide +kernel⟩, List.mem_of_getElem? (i := 80) (by decide +kernel), List.mem_of_getElem? (i := 215) (by decide +kernel), List.mem_of_getElem? (i := 216) (by decide +kernel)⟩
theorem lw_p2 : lw_okq (⟨"EntryRows$Boards", "make", "(III)I"⟩, 6) := ⟨⟨by decide +kernel, by decide +kernel⟩, List.mem_of_getElem? (i := 80) (by decide +kernel), List.mem_of_getElem? (i := 235) (by decide +kernel), List.mem_of_getElem? (i := 236) (by decide +kernel)⟩
theorem lw_p3 : lw_okq (⟨"EntryRows", "requireBoard", "(I)V"⟩, 7) := ⟨⟨by decide +kernel, by decide +kernel⟩, List.mem_of_getElem? (i := 16) (by decide +kernel), List.mem_of_getElem? (i := 248) (by decide +kernel), List.mem_of_getElem? (i := 249) (by decide +kernel)⟩
theorem lw_p4 : lw_okq (⟨"EntryRows$Boards", "has", "(I)Z"⟩, 6) := ⟨⟨by decide +kernel, by decide +kernel⟩, List.mem_of_getElem? (i := 80) (by decide +kernel), List.mem_of_getElem? (i := 252) (by decide +kernel), List.mem_of_getElem? (i := 253) (by decide +kernel)⟩
theorem lw_p5 : lw_okq (⟨"EntryRows", "requireOpen", "(I)V"⟩, 7) := ⟨⟨by decide +kernel, by decide +kernel⟩, List.mem_of_getElem? (i := 16) (by decide +kernel), List.mem_of_getElem? (i := 281) (by decide +kernel), List.mem_of_getElem? (i := 282) (by decide +kernel)⟩
theorem lw_p6 : lw_okq (⟨"EntryRows", "requireOutside", "(I)V"⟩, 7) := ⟨⟨by decide +kernel, by decide +kernel⟩, List.mem_of_getElem? (i := 16) (by decide +kernel), List.mem_of_getElem? (i := 304) (by decide +kernel), List.mem_of_getElem? (i := 305) (by decide +kernel)⟩
theorem lw_p7 : lw_okq (⟨"EntryRows$Persons", "isInside", "(I)Z"⟩, 11) := ⟨⟨by decide +kernel, by decide +kernel⟩, List.mem_of_getElem? (i := 24) (by decide +kernel), List.mem_of_getElem? (i := 308) (by decide +kernel), List.mem_of_getElem? (i := 309) (by decide +kernel)⟩
theorem lw_p8 : lw_okq (⟨"EntryRows", "dropKeeper", "(I)V"⟩, 7) := ⟨⟨by decide +kernel, by decide +kernel⟩, List.mem_of_getElem? (i := 16) (by decide +kernel), List.mem_of_getElem? (i := 312) (by decide +kernel), List.mem_of_getElem? (i := 313) (by decide +kernel)⟩
theorem lw_p9 : lw_okq (⟨"EntryRows$Persons", "sizeOfTeam", "(I)I"⟩, 11) := ⟨⟨by decide +kernel, by decide +kernel⟩, List.mem_of_getElem? (i := 24) (by decide +kernel), List.mem_of_getElem? (i := 350) (by decide +kernel), List.mem_of_getElem? (i := 351) (by decide +kernel)⟩
theorem lw_p10 : lw_okq (⟨"EntryRows", "readySafetyTeams", "(II)I"⟩, 7) := ⟨⟨by decide +kernel, by decide +kernel⟩, List.mem_of_getElem? (i := 16) (by decide +kernel), List.mem_of_getElem? (i := 362) (by decide +kernel), List.mem_of_getElem? (i := 363) (by decide +kernel)⟩
theorem lw_p11 : lw_okq (⟨"EntryRows", "isReady", "(II)Z"⟩, 7) := ⟨⟨by decide +kernel, by decide +kernel⟩, List.mem_of_getElem? (i := 16) (by decide +kernel), List.mem_of_getElem? (i := 366) (by decide +kernel), List.mem_of_getElem? (i := 367) (by decide +kernel)⟩
theorem lw_p12 : lw_okq (⟨"EntryRows$Persons", "isTeamReady", "(III)Z"⟩, 11) := ⟨⟨by decide +kernel, by decide +kernel⟩, List.mem_of_getElem? (i := 24) (by decide +kernel), List.mem_of_getElem? (i := 370) (by decide +kernel), List.mem_of_getElem? (i := 371) (by decide +kernel)⟩
theorem lw_p13 : lw_okq (⟨"EntryRows$Persons", "isFree", "(II)Z"⟩, 11) := ⟨⟨by decide +kernel, by decide +kernel⟩, List.mem_of_getElem? (i := 24) (by decide +kernel), List.mem_of_getElem? (i := 374) (by decide +kernel), List.mem_of_getElem? (i := 375) (by decide +kernel)⟩
theorem lw_p14 : lw_okq (⟨"EntryRows", "isCovered", "(II)Z"⟩, 7) := ⟨⟨by decide +kernel, by decide +kernel⟩, List.mem_of_getElem? (i := 16) (by decide +kernel), List.mem_of_getElem? (i := 387) (by decide +kernel), List.mem_of_getElem? (i := 388) (by decide +kernel)⟩
theorem lw_p15 : lw_okq (⟨"EntryRows", "keeperMayLetRescue", "(I)Z"⟩, 7) := ⟨⟨by decide +kernel, by decide +kernel⟩, List.mem_of_getElem? (i := 16) (by decide +kernel), List.mem_of_getElem? (i := 391) (by decide +kernel), List.mem_of_getElem? (i := 392) (by decide +kernel)⟩
def lw_privs_1 : List (MethodName × Nat) := [(⟨"java/lang/Throwable", "fillInStackTrace", "(I)Ljava/lang/Throwable;"⟩, 6), (⟨"EntryRows$Boards", "hasRoom", "()Z"⟩, 6), (⟨"EntryRows$Boards", "make", "(III)I"⟩, 6), (⟨"EntryRows", "requireBoard", "(I)V"⟩, 7), (⟨"EntryRows$Boards", "has", "(I)Z"⟩, 6), (⟨"EntryRows", "requireOpen", "(I)V"⟩, 7), (⟨"EntryRows", "requireOutside", "(I)V"⟩, 7), (⟨"EntryRows$Persons", "isInside", "(I)Z"⟩, 11), (⟨"EntryRows", "dropKeeper", "(I)V"⟩, 7), (⟨"EntryRows$Persons", "sizeOfTeam", "(I)I"⟩, 11), (⟨"EntryRows", "readySafetyTeams", "(II)I"⟩, 7), (⟨"EntryRows", "isReady", "(II)Z"⟩, 7), (⟨"EntryRows$Persons", "isTeamReady", "(III)Z"⟩, 11), (⟨"EntryRows$Persons", "isFree", "(II)Z"⟩, 11), (⟨"EntryRows", "isCovered", "(II)Z"⟩, 7), (⟨"EntryRows", "keeperMayLetRescue", "(I)Z"⟩, 7)]
theorem lw_r1 : ∀ q ∈ lw_privs_1, lw_okq q := List.forall_mem_cons.mpr ⟨lw_p0, List.forall_mem_cons.mpr ⟨lw_p1, List.forall_mem_cons.mpr ⟨lw_p2, List.forall_mem_cons.mpr ⟨lw_p3, List.forall_mem_cons.mpr ⟨lw_p4, List.forall_mem_cons.mpr ⟨lw_p5, List.forall_mem_cons.mpr ⟨lw_p6, List.forall_mem_cons.mpr ⟨lw_p7, List.forall_mem_cons.mpr ⟨lw_p8, List.forall_mem_cons.mpr ⟨lw_p9, List.forall_mem_cons.mpr ⟨lw_p10, List.forall_mem_cons.mpr ⟨lw_p11, List.forall_mem_cons.mpr ⟨lw_p12, List.forall_mem_cons.mpr ⟨lw_p13, List.forall_mem_cons.mpr ⟨lw_p14, List.forall_mem_cons.mpr ⟨lw_p15, fun _ h => absurd h List.not_mem_nil⟩⟩⟩⟩⟩⟩⟩⟩⟩⟩⟩⟩⟩⟩⟩⟩
theorem lw_p16 : lw_okq (⟨"EntryRows$Persons", "setEntry", "(IIIIII)V"⟩, 11) := ⟨⟨by decide +kernel, by decide +kernel⟩, List.mem_of_getElem? (i := 24) (by decide +kernel), List.mem_of_getElem? (i := 395) (by decide +kernel), List.mem_of_getElem? (i := 396) (by decide +kernel)⟩
theorem lw_p17 : lw_okq (⟨"EntryRows$Persons", "comeOut", "(IIII)I"⟩, 11) := ⟨⟨by decide +kernel, by decide +kernel⟩, List.mem_of_getElem? (i := 24) (by decide +kernel), List.mem_of_getElem? (i := 406) (by decide +kernel), List.mem_of_getElem? (i := 407) (by decide +kernel)⟩
theorem lw_p18 : lw_okq (⟨"EntryRows$Persons", "moveAll", "(II)V"⟩, 11) := ⟨⟨by decide +kernel, by decide +kernel⟩, List.mem_of_getElem? (i := 24) (by decide +kernel), List.mem_of_getElem? (i := 425) (by decide +kernel), List.mem_of_getElem? (i := 426) (by decide +kernel)⟩
theorem lw_p19 : lw_okq (⟨"EntryRows", "shut", "(II)V"⟩, 7) := ⟨⟨by decide +kernel, by decide +kernel⟩, List.mem_of_getElem? (i := 16) (by decide +kernel), List.mem_of_getElem? (i := 429) (by decide +kernel), List.mem_of_getElem? (i := 430) (by decide +kernel)⟩
theorem lw_p20 : lw_okq (⟨"EntryRows$Persons", "countOn", "(I)I"⟩, 11) := ⟨⟨by decide +kernel, by decide +kernel⟩, List.mem_of_getElem? (i := 24) (by decide +kernel), List.mem_of_getElem? (i := 433) (by decide +kernel), List.mem_of_getElem? (i := 434) (by decide +kernel)⟩
theorem lw_p21 : lw_okq (⟨"EntryRows", "isLateAt", "(II)Z"⟩, 7) := ⟨⟨by decide +kernel, by decide +kernel⟩, List.mem_of_getElem? (i := 16) (by decide +kernel), List.mem_of_getElem? (i := 452) (by decide +kernel), List.mem_of_getElem? (i := 453) (by decide +kernel)⟩
theorem lw_p22 : lw_okq (⟨"EntryRows$Persons", "nextOn", "(II)I"⟩, 11) := ⟨⟨by decide +kernel, by decide +kernel⟩, List.mem_of_getElem? (i := 24) (by decide +kernel), List.mem_of_getElem? (i := 470) (by decide +kernel), List.mem_of_getElem? (i := 471) (by decide +kernel)⟩
theorem lw_p23 : lw_okq (⟨"EntryRows", "sumOf", "(I)I"⟩, 7) := ⟨⟨by decide +kernel, by decide +kernel⟩, List.mem_of_getElem? (i := 16) (by decide +kernel), List.mem_of_getElem? (i := 497) (by decide +kernel), List.mem_of_getElem? (i := 498) (by decide +kernel)⟩
theorem lw_p24 : lw_okq (⟨"EntryRows$Persons", "countInside", "()I"⟩, 11) := ⟨⟨by decide +kernel, by decide +kernel⟩, List.mem_of_getElem? (i := 24) (by decide +kernel), List.mem_of_getElem? (i := 512) (by decide +kernel), List.mem_of_getElem? (i := 513) (by decide +kernel)⟩
theorem lw_p25 : lw_okq (⟨"EntryRows$Boards", "countOpen", "()I"⟩, 6) := ⟨⟨by decide +kernel, by decide +kernel⟩, List.mem_of_getElem? (i := 80) (by decide +kernel), List.mem_of_getElem? (i := 517) (by decide +kernel), List.mem_of_getElem? (i := 518) (by decide +kernel)⟩
theorem lw_p26 : lw_okq (⟨"EntryRowsModel", "outside", "(I)V"⟩, 22) := ⟨⟨by decide +kernel, by decide +kernel⟩, List.mem_of_getElem? (i := 521) (by decide +kernel), List.mem_of_getElem? (i := 527) (by decide +kernel), List.mem_of_getElem? (i := 528) (by decide +kernel)⟩
theorem lw_p27 : lw_okq (⟨"EntryRowsModel", "throwing", "(ZZZ)Z"⟩, 22) := ⟨⟨by decide +kernel, by decide +kernel⟩, List.mem_of_getElem? (i := 521) (by decide +kernel), List.mem_of_getElem? (i := 609) (by decide +kernel), List.mem_of_getElem? (i := 610) (by decide +kernel)⟩
theorem lw_p28 : lw_okq (⟨"EntryRowsModel", "isBoard", "(I)Z"⟩, 22) := ⟨⟨by decide +kernel, by decide +kernel⟩, List.mem_of_getElem? (i := 521) (by decide +kernel), List.mem_of_getElem? (i := 617) (by decide +kernel), List.mem_of_getElem? (i := 618) (by decide +kernel)⟩
theorem lw_p29 : lw_okq (⟨"EntryRowsModel", "keeps", "(I)I"⟩, 22) := ⟨⟨by decide +kernel, by decide +kernel⟩, List.mem_of_getElem? (i := 521) (by decide +kernel), List.mem_of_getElem? (i := 624) (by decide +kernel), List.mem_of_getElem? (i := 625) (by decide +kernel)⟩
theorem lw_p30 : lw_okq (⟨"EntryRowsModel", "sizeOf", "(I)I"⟩, 22) := ⟨⟨by decide +kernel, by decide +kernel⟩, List.mem_of_getElem? (i := 521) (by decide +kernel), List.mem_of_getElem? (i := 647) (by decide +kernel), List.mem_of_getElem? (i := 648) (by decide +kernel)⟩
theorem lw_p31 : lw_okq (⟨"EntryRowsModel", "safe", "(II)I"⟩, 22) := ⟨⟨by decide +kernel, by decide +kernel⟩, List.mem_of_getElem? (i := 521) (by decide +kernel), List.mem_of_getElem? (i := 655) (by decide +kernel), List.mem_of_getElem? (i := 656) (by decide +kernel)⟩
def lw_privs_2 : List (MethodName × Nat) := [(⟨"EntryRows$Persons", "setEntry", "(IIIIII)V"⟩, 11), (⟨"EntryRows$Persons", "comeOut", "(IIII)I"⟩, 11), (⟨"EntryRows$Persons", "moveAll", "(II)V"⟩, 11), (⟨"EntryRows", "shut", "(II)V"⟩, 7), (⟨"EntryRows$Persons", "countOn", "(I)I"⟩, 11), (⟨"EntryRows", "isLateAt", "(II)Z"⟩, 7), (⟨"EntryRows$Persons", "nextOn", "(II)I"⟩, 11), (⟨"EntryRows", "sumOf", "(I)I"⟩, 7), (⟨"EntryRows$Persons", "countInside", "()I"⟩, 11), (⟨"EntryRows$Boards", "countOpen", "()I"⟩, 6), (⟨"EntryRowsModel", "outside", "(I)V"⟩, 22), (⟨"EntryRowsModel", "throwing", "(ZZZ)Z"⟩, 22), (⟨"EntryRowsModel", "isBoard", "(I)Z"⟩, 22), (⟨"EntryRowsModel", "keeps", "(I)I"⟩, 22), (⟨"EntryRowsModel", "sizeOf", "(I)I"⟩, 22), (⟨"EntryRowsModel", "safe", "(II)I"⟩, 22)]
theorem lw_r2 : ∀ q ∈ lw_privs_2, lw_okq q := List.forall_mem_cons.mpr ⟨lw_p16, List.forall_mem_cons.mpr ⟨lw_p17, List.forall_mem_cons.mpr ⟨lw_p18, List.forall_mem_cons.mpr ⟨lw_p19, List.forall_mem_cons.mpr ⟨lw_p20, List.forall_mem_cons.mpr ⟨lw_p21, List.forall_mem_cons.mpr ⟨lw_p22, List.forall_mem_cons.mpr ⟨lw_p23, List.forall_mem_cons.mpr ⟨lw_p24, List.forall_mem_cons.mpr ⟨lw_p25, List.forall_mem_cons.mpr ⟨lw_p26, List.forall_mem_cons.mpr ⟨lw_p27, List.forall_mem_cons.mpr ⟨lw_p28, List.forall_mem_cons.mpr ⟨lw_p29, List.forall_mem_cons.mpr ⟨lw_p30, List.forall_mem_cons.mpr ⟨lw_p31, fun _ h => absurd h List.not_mem_nil⟩⟩⟩⟩⟩⟩⟩⟩⟩⟩⟩⟩⟩⟩⟩⟩
theorem lw_p32 : lw_okq (⟨"EntryRowsModel", "isReady", "(II)Z"⟩, 22) := ⟨⟨by decide +kernel, by decide +kernel⟩, List.mem_of_getElem? (i := 521) (by decide +kernel), List.mem_of_getElem? (i := 659) (by decide +kernel), List.mem_of_getElem? (i := 660) (by decide +kernel)⟩
theorem lw_p33 : lw_okq (⟨"EntryRowsModel", "isShut", "(I)Z"⟩, 22) := ⟨⟨by decide +kernel, by decide +kernel⟩, List.mem_of_getElem? (i := 521) (by decide +kernel), List.mem_of_getElem? (i := 679) (by decide +kernel), List.mem_of_getElem? (i := 680) (by decide +kernel)⟩
theorem lw_p34 : lw_okq (⟨"EntryRowsModel", "onBoard", "(I)I"⟩, 22) := ⟨⟨by decide +kernel, by decide +kernel⟩, List.mem_of_getElem? (i := 521) (by decide +kernel), List.mem_of_getElem? (i := 683) (by decide +kernel), List.mem_of_getElem? (i := 684) (by decide +kernel)⟩
theorem lw_p35 : lw_okq (⟨"EntryRowsModel", "isLate", "(II)Z"⟩, 22) := ⟨⟨by decide +kernel, by decide +kernel⟩, List.mem_of_getElem? (i := 521) (by decide +kernel), List.mem_of_getElem? (i := 696) (by decide +kernel), List.mem_of_getElem? (i := 697) (by decide +kernel)⟩
theorem lw_p36 : lw_okq (⟨"EntryRowsModel", "behind", "(II)I"⟩, 22) := ⟨⟨by decide +kernel, by decide +kernel⟩, List.mem_of_getElem? (i := 521) (by decide +kernel), List.mem_of_getElem? (i := 704) (by decide +kernel), List.mem_of_getElem? (i := 705) (by decide +kernel)⟩
theorem lw_p37 : lw_okq (⟨"EntryRowsModel", "sumOf", "(I)I"⟩, 22) := ⟨⟨by decide +kernel, by decide +kernel⟩, List.mem_of_getElem? (i := 521) (by decide +kernel), List.mem_of_getElem? (i := 720) (by decide +kernel), List.mem_of_getElem? (i := 721) (by decide +kernel)⟩
def lw_privs_3 : List (MethodName × Nat) := [(⟨"EntryRowsModel", "isReady", "(II)Z"⟩, 22), (⟨"EntryRowsModel", "isShut", "(I)Z"⟩, 22), (⟨"EntryRowsModel", "onBoard", "(I)I"⟩, 22), (⟨"EntryRowsModel", "isLate", "(II)Z"⟩, 22), (⟨"EntryRowsModel", "behind", "(II)I"⟩, 22), (⟨"EntryRowsModel", "sumOf", "(I)I"⟩, 22)]
theorem lw_r3 : ∀ q ∈ lw_privs_3, lw_okq q := List.forall_mem_cons.mpr ⟨lw_p32, List.forall_mem_cons.mpr ⟨lw_p33, List.forall_mem_cons.mpr ⟨lw_p34, List.forall_mem_cons.mpr ⟨lw_p35, List.forall_mem_cons.mpr ⟨lw_p36, List.forall_mem_cons.mpr ⟨lw_p37, fun _ h => absurd h List.not_mem_nil⟩⟩⟩⟩⟩⟩
def lw_privs : List (MethodName × Nat) := lw_privs_1 ++ (lw_privs_2 ++ (lw_privs_3))
def lw_tbl : List Cond := k2_sels lw_privs ++ tables_1
theorem lw_privs_ok : ∀ q ∈ lw_privs, lw_okq q := by
  show ∀ q ∈ lw_privs_1 ++ (lw_privs_2 ++ (lw_privs_3)), lw_okq q
  exact List.forall_mem_append.mpr ⟨lw_r1, List.forall_mem_append.mpr ⟨lw_r2, lw_r3⟩⟩
-- ===== end of PART A; then your names; then what follows =====
end
section
/-! ===== BEGIN exceptions that leave a method, and their catching by the caller (launches without stack traces) ===== -/
section VXA
/-! The laws vx_back, vx_callV, vx_callS, vx_callSW, vx_throw0, vx_throwS follow proofs of the library, with one case more: JvmDerived/Free/Laws.lean (Back.of_free), Shelf42/LK1.lean (callV, callS), Shelf/KitTraced.lean (throwNew0V, throwNewS). -/
/-- where a method has thrown q: the class by its name, the cell, what was written, the world -/
def vx_T (XC : String → State → State → Prop) (st : State) (q : Addr) (t : State) (mc ms : Nat) (free : Addr → Prop) : Prop :=
  ∃ (E : String) (ce : Cell) (L : List Loc), XC E st t ∧ t.heap[q]? = some ce ∧ ce.vm = .none ∧ st.vm.findClass E = some ce.cls ∧ st.WarmedH t.vm ∧ st.sameButNew ({ t with vm := st.vm } : State) L mc ms ∧ ∀ z ∈ L, free z.base
def vx_Q (Qc : Array Value → State → Outcome → State → Prop) (XC : String → State → State → Prop) (mc ms : Nat) (free : Addr → Prop) : Array Value → State → Outcome → State → Prop := fun a st o t =>
  (Qc a st o t ∧ ∃ L, FrameEnd st o t L mc ms ∧ ∀ q ∈ L, free q.base) ∨ ∃ q, o = .threw q ∧ vx_T XC st q t mc ms free
/-- a callee that returns or throws -/
def vx_Met (l : Launch) (y : MethodName) (ws : List Cond) (rm : Room) (Pc : Array Value → State → Prop) (Qc : Array Value → State → Outcome → State → Prop) (XC : String → State → State → Prop) (mc ms : Nat) (free : Addr → Prop) : Prop :=
  MetFree l y (headSpec ws rm) Pc (fun _ _ _ _ _ => True) (vx_Q Qc XC mc ms free)
def vx_Post (XC : String → State → State → Prop) (mc ms : Nat) (free : Addr → Prop) : Pt → Array Value → Addr → Pt → Prop := fun A a q B =>
  ∃ (g : JFrame) (mk : MethodId) (t : State) (L : List Loc) (E : String) (ce : Cell), B.U.heap = t.heap ∧ B.U.vm = t.vm ∧ XC E (A.U.calling g mk a) t ∧ t.heap[q]? = some ce ∧ ce.vm = .none ∧ A.U.vm.findClass E = some ce.cls ∧ B.locs = A.locs ++ L ∧ (∀ z ∈ L, free z.base) ∧ B.cells = A.cells + mc ∧ B.slots = A.slots + ms
def vx_Back (l : Launch) (R : Room) (p : Program) (e : Env) (below : List Frame) (s : State) (sargs : Array Value) (y : MethodName) (len W9 : Nat)
    (Pre : Pt → Array Value → Prop) (Post : Pt → Array Value → Option Value → Pt → Prop) (PostX : Pt → Array Value → Addr → Pt → Prop) : Prop :=
  ∀ (m : MethodId) (meth : Method) (c : Code) (A : Pt) (g : JFrame) (ig : Instr) (mk : MethodId) (a : Array Value),
    Stand p l e R s m sargs below meth c A.U A.locs A.cells A.slots → g.method = m → g.locals.size = c.maxLocals → decode c.code g.pc = .ok (ig, len) →
    2 * g.monitorRoom + (g.stack.map fun v => v.category).sum ≤ W9 → A.U.methodNamed? y = some mk → Pre A a →
    (∃ (v : Option Value) (B : Pt), Stand p l e R s m sargs below meth c B.U B.locs B.cells B.slots ∧ Post A a v B ∧
      Steps p.tables e below (doInvoke e (A.U.setTop g) [] mk a).1 (B.U.setTop { g with pc := g.pc + len, stack := v.toList ++ g.stack })) ∨
    (∃ (q : Addr) (B : Pt), Stand p l e R s m sargs below meth c B.U B.locs B.cells B.slots ∧ PostX A a q B ∧
      Steps p.tables e below (doInvoke e (A.U.setTop g) [] mk a).1 ((B.U.setTop g).pushFrame (.throwing q)))
section Payer
variable {l : Launch} {R : Room} {p : Program} {e : Env} {below : List Frame} {s : State} {sargs : Array Value} {y : MethodName} {len W9 : Nat}
theorem vx_back {ws : List Cond} {rm : Room} {Pc : Array Value → State → Prop} {Qc : Array Value → State → Outcome → State → Prop} {XC : String → State → State → Prop} {mc ms : Nat} {free : Addr → Prop} {bytes : ByteArray} {maxL : Nat} {ret : Option FieldType}
    (hM : vx_Met l y ws rm Pc Qc XC mc ms free) (hblind : FrameBlind Pc) (hrc : rm.cells = mc) (hrs : rm.slots = ms)
    (hframes : rm.frames + 1 ≤ R.frames) (hlocals : W9 + (maxL + 11) + rm.locals ≤ R.locals)
    (hws : ∀ w ∈ ws, ∀ a' U, s.WarmedH U.vm → w.before a' U = true) (hcode : Cond.code y bytes maxL ret ∈ ws) (hinit : ∀ a' U, s.WarmedH U.vm → (Cond.initialized y.cls).before a' U = true) :
    vx_Back l R p e below s sargs y len W9 (PreOf R mc ms Pc) (PostOf Qc mc ms free) (vx_Post XC mc ms free) := by
  intro m meth c A g ig mk a X hg hsize hdg hW hn hp
  have h1 : (headSpec ws rm).pre.before a A.U = true := atoms_intro fun w hw => hws w hw _ _ X.warmed
  have h2 : (Cond.code y bytes maxL ret).before a A.U = true := hws _ hcode _ _ X.warmed
  have h3 : (Cond.initialized y.cls).before a A.U = true := hinit _ _ X.warmed
  have h4 : A.cells + (headSpec ws rm).room.cells ≤ R.cells := by rw [show (headSpec ws rm).room.cells = mc from hrc]; exact hp.1
  have h5 : A.slots + (headSpec ws rm).room.slots ≤ R.slots := by rw [show (headSpec ws rm).room.slots = ms from hrs]; exact hp.2.1
  have hPc : Pc a (A.U.calling g mk a) := hblind _ _ _ _ hp.2.2
  obtain ⟨U, Ls, c0, s0⟩ := A
  dsimp only [Pt.U, Pt.locs, Pt.cells, Pt.slots] at h1 h2 h3 h4 h5 X hn hPc ⊢
  obtain ⟨methY, cY, hmY, hcY, -, hlY, -, -, -, -⟩ := Cond.code_spec hn h2
  obtain ⟨kY, hkY, -⟩ := className_of_methodNamed hn
  have hinitY : kY.init = .initialized := Cond.initialized_spec (findClass_of_methodNamed hn) hkY h3
  have h : At U g.method c below := by rw [hg]; exact X.here
  have hlocals9 : W9 + (maxL + 11) + (headSpec ws rm).room.locals ≤ R.locals := hlocals
  have happ : (headSpec ws rm).appliesLoose y e.platform (U.calling g mk a) = true :=
    Spec.appliesLoose_calling (g := g) h hdg hn hkY hinitY
      (X.room_calling (g := g) (R' := (headSpec ws rm).room) hsize hmY hcY hframes (by rw [hlY]; omega) h4 h5) h1
  obtain ⟨mid, hmid⟩ := h.above
  have hfr : (U.setTop g).frames = (.java g :: mid) ++ below := by rw [State.frames_setTop' g h.top, hmid]; rfl
  obtain ⟨o, s₂, hsteps, -, hend, hq⟩ := Steps.callFree hM p X.admits X.cas X.clock (acts := []) hfr happ hPc trivial
  have hq' : vx_Q Qc XC mc ms free a (U.calling g mk a) o s₂ := hq
  rw [State.frames_setTop' g h.top] at hend
  obtain ⟨g₀, hg0⟩ := Option.isSome_iff_exists.mp h.top
  obtain ⟨r, hr⟩ := State.topJava?_eq_some.mp hg0
  have hr' : (({ U with heap := s₂.heap, slotsUsed := s₂.slotsUsed } : State).setVm s₂.vm).frames = .java g₀ :: r := hr
  rcases hq' with ⟨hqc, L, hfe, hL⟩ | ⟨q, rfl, E, ce, L, hx, hce, hcv, hcl, hW₂, hsm, hL⟩
  · obtain ⟨⟨v, rfl⟩, hW₂, e2, q2, q3, q4, q5, q6⟩ := id hfe
    have e3 : s₂ = ({ (U.calling g mk a).setFrames s₂.frames with heap := s₂.heap, slotsUsed := s₂.slotsUsed } : State).setVm s₂.vm := by
      have : s₂ = ({ s₂ with vm := (U.calling g mk a).vm } : State).setVm s₂.vm := rfl
      rw [e2] at this
      exact this
    obtain ⟨c₂, i₂, len₂, hc₂, hd₂, hf₂⟩ := hend
    have hW' : U.WarmedH s₂.vm := hW₂
    have hcc : c₂ = c := by
      have h1 : s₂.code? g.method = U.code? g.method := by
        rw [State.code?_eq, State.code?_eq, hW'.alike.method?]
      exact Option.some.inj (hc₂.symm.trans (h1.trans h.code))
    subst hcc
    have hlen : len₂ = len := by rw [hdg] at hd₂; cases hd₂; rfl
    subst hlen
    have hs₂ : s₂ = (({ U with heap := s₂.heap, slotsUsed := s₂.slotsUsed } : State).setVm s₂.vm).setTop { g with pc := g.pc + len₂, stack := v.toList ++ g.stack } := by
      refine e3.trans ?_
      rw [hf₂, State.calling_eq h.top, State.setFrames_setFrames, State.setTop_of_frames _ hr', hr]
      rfl
    have hsame : U.sameButNew ({ U with heap := s₂.heap, slotsUsed := s₂.slotsUsed } : State) L mc ms := by
      refine ⟨?_, q2, q3, q4, q5, q6⟩
      obtain ⟨t, ht, -⟩ := State.frames_cons hr
      show ({ U with heap := s₂.heap, slotsUsed := s₂.slotsUsed } : State) = { U.setFrames U.frames with heap := s₂.heap, slotsUsed := s₂.slotsUsed }
      rw [State.setFrames_self ht]
    subst hg
    refine Or.inl ⟨v, ⟨(({ U with heap := s₂.heap, slotsUsed := s₂.slotsUsed } : State).setVm s₂.vm), Ls ++ L, c0 + mc, s0 + ms⟩,
      ⟨X.admits, X.cas, X.clock, X.frames, X.room, X.hears, X.method, X.code, (X.here.setHeapUsed s₂.heap s₂.slotsUsed).setVm hW'.alike, X.tail, State.WarmedH.trans X.warmed hW', X.limits, X.bytes, X.same.trans (hsame.setVm s.vm)⟩,
      ⟨g, mk, s₂, L, rfl, rfl, hqc, rfl, hL, rfl, rfl⟩, ?_⟩
    show Steps p.tables e below _ ((({ U with heap := s₂.heap, slotsUsed := s₂.slotsUsed } : State).setVm s₂.vm).setTop { g with pc := g.pc + len₂, stack := v.toList ++ g.stack })
    rw [← hs₂]
    exact hsteps
  · obtain ⟨e2, q2, q3, q4, q5, q6⟩ := id hsm
    have e3 : s₂ = ({ (U.calling g mk a).setFrames s₂.frames with heap := s₂.heap, slotsUsed := s₂.slotsUsed } : State).setVm s₂.vm := by
      have : s₂ = ({ s₂ with vm := (U.calling g mk a).vm } : State).setVm s₂.vm := rfl
      rw [e2] at this
      exact this
    have hf₂ : s₂.frames = .throwing q :: .java g :: U.frames.tail := hend
    have hW' : U.WarmedH s₂.vm := hW₂
    have hs₂ : s₂ = ((({ U with heap := s₂.heap, slotsUsed := s₂.slotsUsed } : State).setVm s₂.vm).setTop g).pushFrame (.throwing q) := by
      refine e3.trans ?_
      rw [hf₂, State.calling_eq h.top, State.setFrames_setFrames, State.pushFrame, State.frames_setTop _ hr', State.setTop_of_frames _ hr', State.setFrames_setFrames, hr]
      rfl
    have hsame : U.sameButNew ({ U with heap := s₂.heap, slotsUsed := s₂.slotsUsed } : State) L mc ms := by
      refine ⟨?_, q2, q3, q4, q5, q6⟩
      obtain ⟨t, ht, -⟩ := State.frames_cons hr
      show ({ U with heap := s₂.heap, slotsUsed := s₂.slotsUsed } : State) = { U.setFrames U.frames with heap := s₂.heap, slotsUsed := s₂.slotsUsed }
      rw [State.setFrames_self ht]
    subst hg
    refine Or.inr ⟨q, ⟨(({ U with heap := s₂.heap, slotsUsed := s₂.slotsUsed } : State).setVm s₂.vm), Ls ++ L, c0 + mc, s0 + ms⟩,
      ⟨X.admits, X.cas, X.clock, X.frames, X.room, X.hears, X.method, X.code, (X.here.setHeapUsed s₂.heap s₂.slotsUsed).setVm hW'.alike, X.tail, State.WarmedH.trans X.warmed hW', X.limits, X.bytes, X.same.trans (hsame.setVm s.vm)⟩,
      ⟨g, mk, s₂, L, E, ce, rfl, rfl, hx, hce, hcv, hcl, rfl, hL, rfl, rfl⟩, ?_⟩
    show Steps p.tables e below _ (((({ U with heap := s₂.heap, slotsUsed := s₂.slotsUsed } : State).setVm s₂.vm).setTop g).pushFrame (.throwing q))
    rw [← hs₂]
    exact hsteps
end Payer
section Calls
variable {p : Program} {l : Launch} {e : Env} {R : Room} {s : State} {m : MethodId} {args : Array Value} {below : List Frame} {meth : Method} {c : Code} {T : State} {locs : List Loc} {cells slots : Nat}
theorem vx_callV (X : Stand p l e R s m args below meth c T locs cells slots) (hexec : p.tables.exec = Jvm.exec) {own C : String} {index : Nat} {y : MethodName} {bytes : ByteArray} {maxL : Nat} {ret : Option FieldType}
    (hown : s.vm.findClass own = some m.cls) (hlink : (Cond.methodLink own index y).before args s = true) (hinst : (Cond.instanceMethod y).before args s = true) (hsel : (Cond.selects C y y).before args s = true)
    (hcode : (Cond.code y bytes maxL ret).before args s = true) (hy : y.cls ≠ "java/lang/invoke/MethodHandle" ∧ y.cls ≠ "java/lang/invoke/VarHandle")
    {W9 : Nat} {Pre : Pt → Array Value → Prop} {Post : Pt → Array Value → Option Value → Pt → Prop} {PostX : Pt → Array Value → Addr → Pt → Prop} (hK : vx_Back l R p e below s args y 3 W9 Pre Post PostX)
    {b : Addr} {cellB : Cell} (hcell : T.heap[b]? = some cellB) (hobj : cellB.vm.isStatics = false) (hcls : s.vm.findClass C = some cellB.cls)
    {g : JFrame} (hg : g.method = m) (hsize : g.locals.size = c.maxLocals) {argsL rest : List Value} (hlen : ∀ sig, parseMethodDescriptor y.desc = some sig → argsL.length = sig.parameters.length)
    (hstack : g.stack = argsL.reverse ++ .ref b :: rest) (hW : 2 * g.monitorRoom + (rest.map fun v => v.category).sum ≤ W9) (hdg : decode c.code g.pc = .ok (.invokevirtual index, 3))
    (hpre : ∀ vm₁, s.WarmedH vm₁ → Pre ⟨T.setVm vm₁, locs, cells, slots⟩ (Value.ref b :: argsL).toArray) :
    (∃ (v : Option Value) (vm₁ : Vm) (B : Pt), s.WarmedH vm₁ ∧ Stand p l e R s m args below meth c B.U B.locs B.cells B.slots ∧ Post ⟨T.setVm vm₁, locs, cells, slots⟩ (Value.ref b :: argsL).toArray v B ∧
      ∀ target, Steps p.tables e below (B.U.setTop { g with pc := g.pc + 3, stack := v.toList ++ rest }) target → Steps p.tables e below (T.setTop g) target) ∨
    (∃ (q : Addr) (vm₁ : Vm) (B : Pt), s.WarmedH vm₁ ∧ Stand p l e R s m args below meth c B.U B.locs B.cells B.slots ∧ PostX ⟨T.setVm vm₁, locs, cells, slots⟩ (Value.ref b :: argsL).toArray q B ∧
      Steps p.tables e below (T.setTop g) ((B.U.setTop { g with stack := rest }).pushFrame (.throwing q))) := by
  obtain ⟨mk, methM, hnamed, hmethM, hstM, habM⟩ := Cond.instanceMethod_spec hinst
  obtain ⟨methM', cM, hmethM', -, -, -, -, -, -, hsigM⟩ := Cond.code_spec hnamed hcode
  cases hmethM.symm.trans hmethM'
  obtain ⟨c2, r2, m2, q1, q2, q3, q4, kP, hkP, hkPi⟩ := Cond.selects_spec hsel
  cases hcls.symm.trans q1
  cases (State.methodFound?_of_named hnamed hy).symm.trans q2
  cases hnamed.symm.trans q3
  have hselP : selectMethod e.platform s.vm cellB.cls mk = .method mk := by rw [Launch.admits_selectMethod X.admits]; exact q4
  obtain ⟨vm₁, X₁, hstep₁⟩ := X.invokevirtual hexec hown hlink hnamed hmethM hstM hkP hkPi hy (a := b) (cell := cellB) hcell
    (fun z h => by rw [h] at hobj; cases hobj) hselP hmethM habM hkP hkPi (g := g) hg (argsL := argsL) (rest := rest) (hlen _ hsigM) hstack hdg
  rcases hK m meth c ⟨T.setVm vm₁, locs, cells, slots⟩ { g with stack := rest } (.invokevirtual index) mk (Value.ref b :: argsL).toArray X₁ hg hsize hdg hW (X₁.named hnamed) (hpre vm₁ X₁.warmed) with ⟨v, B, X', hpost, hsteps⟩ | ⟨q, B, X', hpost, hsteps⟩
  · exact Or.inl ⟨v, vm₁, B, X₁.warmed, X', hpost, fun target h => hstep₁ _ fun acts => by rw [doInvoke_state]; exact hsteps.trans h⟩
  · exact Or.inr ⟨q, vm₁, B, X₁.warmed, X', hpost, hstep₁ _ fun acts => by rw [doInvoke_state]; exact hsteps⟩
theorem vx_callS (X : Stand p l e R s m args below meth c T locs cells slots) (hexec : p.tables.exec = Jvm.exec) {own : String} {index : Nat} {y : MethodName} {bytes : ByteArray} {maxL : Nat} {ret : Option FieldType}
    (hown : s.vm.findClass own = some m.cls) (hlink : (Cond.methodLink own index y).before args s = true) (hstat : (Cond.static y).before args s = true) (hinit : (Cond.initialized y.cls).before args s = true)
    (hcode : (Cond.code y bytes maxL ret).before args s = true) (hy : y.cls ≠ "java/lang/invoke/MethodHandle" ∧ y.cls ≠ "java/lang/invoke/VarHandle")
    {W9 : Nat} {Pre : Pt → Array Value → Prop} {Post : Pt → Array Value → Option Value → Pt → Prop} {PostX : Pt → Array Value → Addr → Pt → Prop} (hK : vx_Back l R p e below s args y 3 W9 Pre Post PostX)
    {g : JFrame} (hg : g.method = m) (hsize : g.locals.size = c.maxLocals) {argsL rest : List Value} (hlen : ∀ sig, parseMethodDescriptor y.desc = some sig → argsL.length = sig.parameters.length)
    (hstack : g.stack = argsL.reverse ++ rest) (hW : 2 * g.monitorRoom + (rest.map fun v => v.category).sum ≤ W9) (hdg : decode c.code g.pc = .ok (.invokestatic index, 3))
    (hpre : ∀ vm₁, s.WarmedH vm₁ → Pre ⟨T.setVm vm₁, locs, cells, slots⟩ argsL.toArray) :
    (∃ (v : Option Value) (vm₁ : Vm) (B : Pt), s.WarmedH vm₁ ∧ Stand p l e R s m args below meth c B.U B.locs B.cells B.slots ∧ Post ⟨T.setVm vm₁, locs, cells, slots⟩ argsL.toArray v B ∧
      ∀ target, Steps p.tables e below (B.U.setTop { g with pc := g.pc + 3, stack := v.toList ++ rest }) target → Steps p.tables e below (T.setTop g) target) ∨
    (∃ (q : Addr) (vm₁ : Vm) (B : Pt), s.WarmedH vm₁ ∧ Stand p l e R s m args below meth c B.U B.locs B.cells B.slots ∧ PostX ⟨T.setVm vm₁, locs, cells, slots⟩ argsL.toArray q B ∧
      Steps p.tables e below (T.setTop g) ((B.U.setTop { g with stack := rest }).pushFrame (.throwing q))) := by
  obtain ⟨mk, hnamed⟩ := Cond.code_named hcode
  obtain ⟨methM, cM, hmethM, -, -, -, -, -, -, hsigM⟩ := Cond.code_spec hnamed hcode
  have hstatic : methM.isStatic = true := Cond.static_spec hnamed hmethM hstat
  obtain ⟨kP, hkP, -⟩ := className_of_methodNamed hnamed
  have hinitP : kP.init = .initialized := Cond.initialized_spec (findClass_of_methodNamed hnamed) hkP hinit
  obtain ⟨vm₁, X₁, hstep₁⟩ := X.invokestatic hexec hown hlink hnamed hmethM hstatic hkP hinitP hy (g := g) hg (argsL := argsL) (rest := rest) (hlen _ hsigM) hstack hdg
  rcases hK m meth c ⟨T.setVm vm₁, locs, cells, slots⟩ { g with stack := rest } (.invokestatic index) mk argsL.toArray X₁ hg hsize hdg hW (X₁.named hnamed) (hpre vm₁ X₁.warmed) with ⟨v, B, X', hpost, hsteps⟩ | ⟨q, B, X', hpost, hsteps⟩
  · exact Or.inl ⟨v, vm₁, B, X₁.warmed, X', hpost, fun target h => hstep₁ _ fun acts => by rw [doInvoke_state]; exact hsteps.trans h⟩
  · exact Or.inr ⟨q, vm₁, B, X₁.warmed, X', hpost, hstep₁ _ fun acts => by rw [doInvoke_state]; exact hsteps⟩
end Calls
theorem vx_cls {s : State} {T : State} {vm₁ : Vm} {E : String} {k : ClassId} (hW : s.WarmedH vm₁) (h : (T.setVm vm₁).vm.findClass E = some k) : s.vm.findClass E = some k := by
  have h1 : vm₁.findClass E = some k := h
  rw [hW.alike.findClass] at h1
  exact h1
/-- the method's frame g, with q thrown over it -/
def vx_W (p : Program) (l : Launch) (e : Env) (R : Room) (s : State) (m : MethodId) (args : Array Value) (below : List Frame) (meth : Method) (c : Code) (H : Heap) (locs : List Loc) (cells slots : Nat) (Q : State → Prop) (g : JFrame) (q : Addr) : Prop :=
  ∀ T : State, T.heap = H → Stand p l e R s m args below meth c T locs cells slots → ∃ t, Steps p.tables e below ((T.setTop g).pushFrame (.throwing q)) t ∧ Q t
def vx_Run (p : Program) (l : Launch) (e : Env) (R : Room) (s : State) (m : MethodId) (args : Array Value) (below : List Frame) (meth : Method) (c : Code) (H : Heap) (locs : List Loc) (cells slots mc ms : Nat) (g : JFrame) (rest : List Value) (Qa : State → Outcome → State → Prop) (XC : String → State → State → Prop) (free : Addr → Prop) : Prop :=
  ∀ T : State, T.heap = H → Stand p l e R s m args below meth c T locs cells slots →
    (∃ (v : Option Value) (st₀ t T' : State) (L : List Loc), st₀.heap = H ∧ Stand p l e R s m args below meth c T' (locs ++ L) (cells + mc) (slots + ms) ∧ (∀ q ∈ L, free q.base) ∧ T'.heap = t.heap ∧ T'.vm = t.vm ∧ Qa st₀ (.returned v) t ∧
      Goes p e below T g T' { g with pc := g.pc + 3, stack := v.toList ++ rest }) ∨
    (∃ (q : Addr) (st₀ t T' : State) (L : List Loc) (E : String) (ce : Cell), st₀.heap = H ∧ Stand p l e R s m args below meth c T' (locs ++ L) (cells + mc) (slots + ms) ∧ (∀ z ∈ L, free z.base) ∧ T'.heap = t.heap ∧ T'.vm = t.vm ∧ XC E st₀ t ∧ t.heap[q]? = some ce ∧ ce.vm = .none ∧ s.vm.findClass E = some ce.cls ∧
      Steps p.tables e below (T.setTop g) ((T'.setTop { g with stack := rest }).pushFrame (.throwing q)))
def vx_X {S : Type} (px : S → Prop) (B : String → S → State → Prop) (A : Nat → Prop) : String → State → State → Prop := fun E st t => ∃ u : S, px u ∧ B E u t ∧ va_F A st t
section Runs
variable {p : Program} {l : Launch} {e : Env} {R : Room} {s : State} {m : MethodId} {args : Array Value} {below : List Frame} {meth : Method} {c : Code} {H : Heap} {locs : List Loc} {cells slots : Nat}
variable {y : MethodName} {bytes cc : ByteArray} {maxL nL mc ms n index : Nat} {ret : Option FieldType} {ws : List Cond} {rm : Room} {Pc : Array Value → State → Prop} {Qc : Array Value → State → Outcome → State → Prop} {XC : String → State → State → Prop} {free : Addr → Prop} {Ts : List Cond} {own C : String} {b : Addr} {As rest : List Value} {g : JFrame}
theorem vx_callBack (cb : CallB R s args own index y bytes maxL ret ws rm mc ms n) (hM : vx_Met l y ws rm Pc Qc XC mc ms free) (hbl : FrameBlind Pc) : vx_Back l R p e below s args y 3 8 (PreOf R mc ms Pc) (PostOf Qc mc ms free) (vx_Post XC mc ms free) := by
  obtain ⟨hrc, hrs, hfr, hlo, hws, hcw, -, hini, -⟩ := cb
  exact vx_back (bytes := bytes) (maxL := maxL) (ret := ret) hM hbl hrc hrs hfr hlo hws hcw (fun a' U hW => word_at hW (Or.inl (by first | rfl | simp [Cond.onTables, Cond.keeps, Cond.steady])) hini)
theorem vx_runV (S : CallFix p m c cc nL s args Ts own) (hM : vx_Met l y ws rm Pc Qc XC mc ms free) (cw : CallW R s args own C index y bytes maxL ret ws rm mc ms n) (hp : PreV s H C b Pc As)
    (hg : g.method = m) (hn : As.length = n) (hsize : g.locals.size = nL) (hstack : g.stack = As.reverse ++ .ref b :: rest) (hW : 2 * g.monitorRoom + (rest.map fun v => v.category).sum ≤ 8) (hdg : decode cc g.pc = .ok (.invokevirtual index, 3)) (hf : cells + mc ≤ R.cells ∧ slots + ms ≤ R.slots) :
    vx_Run p l e R s m args below meth c H locs cells slots mc ms g rest (Qc (Value.ref b :: As).toArray) XC free := by
  have hK : vx_Back l R p e below s args y 3 8 (PreOf R mc ms Pc) (PostOf Qc mc ms free) (vx_Post XC mc ms free) := vx_callBack cw.1 hM hp.1
  obtain ⟨⟨-, -, -, -, -, -, hcode, -, hy, hlen, hl⟩, hin, hse⟩ := cw
  obtain ⟨hx, hb, hml, ho, -⟩ := S
  obtain ⟨-, ⟨cellB, hcB, hoB, hclB⟩, hPc⟩ := hp
  intro T hT X
  rcases vx_callV X hx (C := C) (bytes := bytes) (maxL := maxL) (ret := ret) ho hl hin hse hcode hy hK (by rw [hT]; exact hcB) hoB hclB hg (hsize.trans hml.symm) (argsL := As) (rest := rest) (fun sig h => hn.trans (hlen sig h)) hstack hW (by rw [hb]; exact hdg)
    (fun vm₁ hW₁ => ⟨hf.1, hf.2, hPc (T.setVm vm₁) hT hW₁⟩) with ⟨v, vm₁, ⟨U', l2, c2, s2⟩, hW₁, X', ⟨g', mk, t, L, e1, e2, hq, h1, hL, h2, h3⟩, st⟩ | ⟨q, vm₁, ⟨U', l2, c2, s2⟩, hW₁, X', ⟨g', mk, t, L, E, ce, e1, e2, hq, hce, hcv, hcl, h1, hL, h2, h3⟩, st⟩
  · dsimp only [Pt.U, Pt.locs, Pt.cells, Pt.slots] at X' e1 e2 h1 h2 h3 st
    subst h1; subst h2; subst h3
    exact Or.inl ⟨v, (T.setVm vm₁).calling g' mk (Value.ref b :: As).toArray, t, U', L, hT, X', hL, e1, e2, hq, st⟩
  · dsimp only [Pt.U, Pt.locs, Pt.cells, Pt.slots] at X' e1 e2 h1 h2 h3 st hcl
    subst h1; subst h2; subst h3
    exact Or.inr ⟨q, (T.setVm vm₁).calling g' mk (Value.ref b :: As).toArray, t, U', L, E, ce, hT, X', hL, e1, e2, hq, hce, hcv, vx_cls hW₁ hcl, st⟩
theorem vx_runS (S : CallFix p m c cc nL s args Ts own) (hM : vx_Met l y ws rm Pc Qc XC mc ms free) (cw : CallB R s args own index y bytes maxL ret ws rm mc ms n ∧ (Cond.static y).before args s = true) (hp : PreS s H Pc As)
    (hg : g.method = m) (hn : As.length = n) (hsize : g.locals.size = nL) (hstack : g.stack = As.reverse ++ rest) (hW : 2 * g.monitorRoom + (rest.map fun v => v.category).sum ≤ 8) (hdg : decode cc g.pc = .ok (.invokestatic index, 3)) (hf : cells + mc ≤ R.cells ∧ slots + ms ≤ R.slots) :
    vx_Run p l e R s m args below meth c H locs cells slots mc ms g rest (Qc As.toArray) XC free := by
  have hK : vx_Back l R p e below s args y 3 8 (PreOf R mc ms Pc) (PostOf Qc mc ms free) (vx_Post XC mc ms free) := vx_callBack cw.1 hM hp.1
  obtain ⟨⟨-, -, -, -, -, -, hcode, hini, hy, hlen, hl⟩, hstt⟩ := cw
  obtain ⟨hx, hb, hml, ho, -⟩ := S
  intro T hT X
  rcases vx_callS X hx (bytes := bytes) (maxL := maxL) (ret := ret) ho hl hstt hini hcode hy hK hg (hsize.trans hml.symm) (argsL := As) (rest := rest) (fun sig h => hn.trans (hlen sig h)) hstack hW (by rw [hb]; exact hdg)
    (fun vm₁ hW₁ => ⟨hf.1, hf.2, hp.2 (T.setVm vm₁) hT hW₁⟩) with ⟨v, vm₁, ⟨U', l2, c2, s2⟩, hW₁, X', ⟨g', mk, t, L, e1, e2, hq, h1, hL, h2, h3⟩, st⟩ | ⟨q, vm₁, ⟨U', l2, c2, s2⟩, hW₁, X', ⟨g', mk, t, L, E, ce, e1, e2, hq, hce, hcv, hcl, h1, hL, h2, h3⟩, st⟩
  · dsimp only [Pt.U, Pt.locs, Pt.cells, Pt.slots] at X' e1 e2 h1 h2 h3 st
    subst h1; subst h2; subst h3
    exact Or.inl ⟨v, (T.setVm vm₁).calling g' mk As.toArray, t, U', L, hT, X', hL, e1, e2, hq, st⟩
  · dsimp only [Pt.U, Pt.locs, Pt.cells, Pt.slots] at X' e1 e2 h1 h2 h3 st hcl
    subst h1; subst h2; subst h3
    exact Or.inr ⟨q, (T.setVm vm₁).calling g' mk As.toArray, t, U', L, E, ce, hT, X', hL, e1, e2, hq, hce, hcv, vx_cls hW₁ hcl, st⟩
end Runs
section Rows
variable {p : Program} {l : Launch} {e : Env} {R : Room} {s : State} {m : MethodId} {args : Array Value} {below : List Frame} {meth : Method} {c : Code} {H : Heap} {locs : List Loc} {cells slots : Nat} {Q : State → Prop}
variable {mc ms : Nat} {free : Addr → Prop} {A0 A1 : Nat → Prop} {H0 : Heap} {a : Array Value} {pc : Nat} {ls : Array Slot} {st0 rest : List Value}
theorem vx_keep {st₀ t T' : State} {L : List Loc} (h0 : st₀.heap = H) (e1 : T'.heap = t.heap) (hS : va_S A0 H0 H locs) (hA : ∀ q, q < H.size → A1 q → A0 q) (hf : ∀ q, free q → A0 q) (hL : ∀ q ∈ L, free q.base) (hF : va_F A1 st₀ t) :
    H.size ≤ T'.heap.size ∧ (∀ q : Nat, q < H.size → ¬ A1 q → T'.heap[q]? = H[q]?) ∧ va_S A0 H0 T'.heap (locs ++ L) := by
  obtain ⟨hz, hk⟩ := hF
  rw [h0] at hz hk
  exact ⟨by rw [e1]; exact hz, fun q h1 h2 => by rw [e1]; exact hk q h1 h2,
    ⟨Nat.le_trans hS.1 (by rw [e1]; exact hz), fun q h1 h2 => by rw [e1, hk q (Nat.lt_of_lt_of_le h1 hS.1) (fun z => h2 (hA q (Nat.lt_of_lt_of_le h1 hS.1) z))]; exact hS.2.1 q h1 h2, fun q hq => by
      rcases List.mem_append.mp hq with h | h
      · exact hS.2.2 q h
      · exact hf _ (hL q h)⟩⟩
theorem vx_calli {S SX : Type} {post : Int32 → S → Prop} {px : SX → Prop} {B : S → State → Prop} {BX : String → SX → State → Prop} {AX : Nat → Prop} (hr : vx_Run p l e R s m args below meth c H locs cells slots mc ms (F0 m pc ls st0) rest (va_Qi post B A1 a) (vx_X px BX AX) free) (hS : va_S A0 H0 H locs) (hA : ∀ q, q < H.size → A1 q → A0 q) (hf : ∀ q, free q → A0 q) (hAX : ∀ q, q < H.size → AX q → A0 q)
    (kx : ∀ (E : String) (ce : Cell) (q9 : Addr) (u : SX) (t : State) (H1 : Heap) (locs1 : List Loc), t.heap = H1 → s.vm.Alike t.vm → px u → BX E u t → H.size ≤ H1.size → (∀ q : Nat, q < H.size → ¬ AX q → H1[q]? = H[q]?) → va_S A0 H0 H1 locs1 → H1[q9]? = some ce → ce.vm = .none → s.vm.findClass E = some ce.cls → vx_W p l e R s m args below meth c H1 locs1 (cells + mc) (slots + ms) Q (F0 m pc ls rest) q9)
    (kk : ∀ (r : Int32) (u : S) (t : State) (H1 : Heap) (locs1 : List Loc), t.heap = H1 → s.vm.Alike t.vm → post r u → B u t → H.size ≤ H1.size → (∀ q : Nat, q < H.size → ¬ A1 q → H1[q]? = H[q]?) → va_S A0 H0 H1 locs1 → W p l e R s m args below meth c H1 locs1 (cells + mc) (slots + ms) Q (F0 m (pc + 3) ls (.int r :: rest))) : W p l e R s m args below meth c H locs cells slots Q (F0 m pc ls st0) := by
  intro T hT X
  rcases hr T hT X with ⟨v, st₀, t, T', L, h0, X', hL, e1, e2, ⟨⟨r, u, hv, hp, hb⟩, hF⟩, st⟩ | ⟨q, st₀, t, T', L, E, ce, h0, X', hL, e1, e2, ⟨u, hp, hb, hF⟩, hce, hcv, hcl, st⟩
  · cases hv
    obtain ⟨k1, k2, k3⟩ := vx_keep h0 e1 hS hA hf hL hF
    obtain ⟨t2, a1, b1⟩ := kk r u t T'.heap (locs ++ L) e1.symm (by rw [← e2]; exact X'.warmed.alike) hp hb k1 k2 k3 T' rfl X'
    exact ⟨t2, st t2 a1, b1⟩
  · obtain ⟨k1, k2, k3⟩ := vx_keep h0 e1 hS hAX hf hL hF
    obtain ⟨t2, a1, b1⟩ := kx E ce q u t T'.heap (locs ++ L) e1.symm (by rw [← e2]; exact X'.warmed.alike) hp hb k1 k2 k3 (by rw [e1]; exact hce) hcv hcl T' rfl X'
    exact ⟨t2, st.trans a1, b1⟩
theorem vx_calll {S SX : Type} {post : Int64 → S → Prop} {px : SX → Prop} {B : S → State → Prop} {BX : String → SX → State → Prop} {AX : Nat → Prop} (hr : vx_Run p l e R s m args below meth c H locs cells slots mc ms (F0 m pc ls st0) rest (va_Ql post B A1 a) (vx_X px BX AX) free) (hS : va_S A0 H0 H locs) (hA : ∀ q, q < H.size → A1 q → A0 q) (hf : ∀ q, free q → A0 q) (hAX : ∀ q, q < H.size → AX q → A0 q)
    (kx : ∀ (E : String) (ce : Cell) (q9 : Addr) (u : SX) (t : State) (H1 : Heap) (locs1 : List Loc), t.heap = H1 → s.vm.Alike t.vm → px u → BX E u t → H.size ≤ H1.size → (∀ q : Nat, q < H.size → ¬ AX q → H1[q]? = H[q]?) → va_S A0 H0 H1 locs1 → H1[q9]? = some ce → ce.vm = .none → s.vm.findClass E = some ce.cls → vx_W p l e R s m args below meth c H1 locs1 (cells + mc) (slots + ms) Q (F0 m pc ls rest) q9)
    (kk : ∀ (r : Int64) (u : S) (t : State) (H1 : Heap) (locs1 : List Loc), t.heap = H1 → s.vm.Alike t.vm → post r u → B u t → H.size ≤ H1.size → (∀ q : Nat, q < H.size → ¬ A1 q → H1[q]? = H[q]?) → va_S A0 H0 H1 locs1 → W p l e R s m args below meth c H1 locs1 (cells + mc) (slots + ms) Q (F0 m (pc + 3) ls (.long r :: rest))) : W p l e R s m args below meth c H locs cells slots Q (F0 m pc ls st0) := by
  intro T hT X
  rcases hr T hT X with ⟨v, st₀, t, T', L, h0, X', hL, e1, e2, ⟨⟨r, u, hv, hp, hb⟩, hF⟩, st⟩ | ⟨q, st₀, t, T', L, E, ce, h0, X', hL, e1, e2, ⟨u, hp, hb, hF⟩, hce, hcv, hcl, st⟩
  · cases hv
    obtain ⟨k1, k2, k3⟩ := vx_keep h0 e1 hS hA hf hL hF
    obtain ⟨t2, a1, b1⟩ := kk r u t T'.heap (locs ++ L) e1.symm (by rw [← e2]; exact X'.warmed.alike) hp hb k1 k2 k3 T' rfl X'
    exact ⟨t2, st t2 a1, b1⟩
  · obtain ⟨k1, k2, k3⟩ := vx_keep h0 e1 hS hAX hf hL hF
    obtain ⟨t2, a1, b1⟩ := kx E ce q u t T'.heap (locs ++ L) e1.symm (by rw [← e2]; exact X'.warmed.alike) hp hb k1 k2 k3 (by rw [e1]; exact hce) hcv hcl T' rfl X'
    exact ⟨t2, st.trans a1, b1⟩
theorem vx_callf {S SX : Type} {post : UInt32 → S → Prop} {px : SX → Prop} {B : S → State → Prop} {BX : String → SX → State → Prop} {AX : Nat → Prop} (hr : vx_Run p l e R s m args below meth c H locs cells slots mc ms (F0 m pc ls st0) rest (va_Qf post B A1 a) (vx_X px BX AX) free) (hS : va_S A0 H0 H locs) (hA : ∀ q, q < H.size → A1 q → A0 q) (hf : ∀ q, free q → A0 q) (hAX : ∀ q, q < H.size → AX q → A0 q)
    (kx : ∀ (E : String) (ce : Cell) (q9 : Addr) (u : SX) (t : State) (H1 : Heap) (locs1 : List Loc), t.heap = H1 → s.vm.Alike t.vm → px u → BX E u t → H.size ≤ H1.size → (∀ q : Nat, q < H.size → ¬ AX q → H1[q]? = H[q]?) → va_S A0 H0 H1 locs1 → H1[q9]? = some ce → ce.vm = .none → s.vm.findClass E = some ce.cls → vx_W p l e R s m args below meth c H1 locs1 (cells + mc) (slots + ms) Q (F0 m pc ls rest) q9)
    (kk : ∀ (r : UInt32) (u : S) (t : State) (H1 : Heap) (locs1 : List Loc), t.heap = H1 → s.vm.Alike t.vm → post r u → B u t → H.size ≤ H1.size → (∀ q : Nat, q < H.size → ¬ A1 q → H1[q]? = H[q]?) → va_S A0 H0 H1 locs1 → W p l e R s m args below meth c H1 locs1 (cells + mc) (slots + ms) Q (F0 m (pc + 3) ls (.float r :: rest))) : W p l e R s m args below meth c H locs cells slots Q (F0 m pc ls st0) := by
  intro T hT X
  rcases hr T hT X with ⟨v, st₀, t, T', L, h0, X', hL, e1, e2, ⟨⟨r, u, hv, hp, hb⟩, hF⟩, st⟩ | ⟨q, st₀, t, T', L, E, ce, h0, X', hL, e1, e2, ⟨u, hp, hb, hF⟩, hce, hcv, hcl, st⟩
  · cases hv
    obtain ⟨k1, k2, k3⟩ := vx_keep h0 e1 hS hA hf hL hF
    obtain ⟨t2, a1, b1⟩ := kk r u t T'.heap (locs ++ L) e1.symm (by rw [← e2]; exact X'.warmed.alike) hp hb k1 k2 k3 T' rfl X'
    exact ⟨t2, st t2 a1, b1⟩
  · obtain ⟨k1, k2, k3⟩ := vx_keep h0 e1 hS hAX hf hL hF
    obtain ⟨t2, a1, b1⟩ := kx E ce q u t T'.heap (locs ++ L) e1.symm (by rw [← e2]; exact X'.warmed.alike) hp hb k1 k2 k3 (by rw [e1]; exact hce) hcv hcl T' rfl X'
    exact ⟨t2, st.trans a1, b1⟩
theorem vx_calld {S SX : Type} {post : UInt64 → S → Prop} {px : SX → Prop} {B : S → State → Prop} {BX : String → SX → State → Prop} {AX : Nat → Prop} (hr : vx_Run p l e R s m args below meth c H locs cells slots mc ms (F0 m pc ls st0) rest (va_Qd post B A1 a) (vx_X px BX AX) free) (hS : va_S A0 H0 H locs) (hA : ∀ q, q < H.size → A1 q → A0 q) (hf : ∀ q, free q → A0 q) (hAX : ∀ q, q < H.size → AX q → A0 q)
    (kx : ∀ (E : String) (ce : Cell) (q9 : Addr) (u : SX) (t : State) (H1 : Heap) (locs1 : List Loc), t.heap = H1 → s.vm.Alike t.vm → px u → BX E u t → H.size ≤ H1.size → (∀ q : Nat, q < H.size → ¬ AX q → H1[q]? = H[q]?) → va_S A0 H0 H1 locs1 → H1[q9]? = some ce → ce.vm = .none → s.vm.findClass E = some ce.cls → vx_W p l e R s m args below meth c H1 locs1 (cells + mc) (slots + ms) Q (F0 m pc ls rest) q9)
    (kk : ∀ (r : UInt64) (u : S) (t : State) (H1 : Heap) (locs1 : List Loc), t.heap = H1 → s.vm.Alike t.vm → post r u → B u t → H.size ≤ H1.size → (∀ q : Nat, q < H.size → ¬ A1 q → H1[q]? = H[q]?) → va_S A0 H0 H1 locs1 → W p l e R s m args below meth c H1 locs1 (cells + mc) (slots + ms) Q (F0 m (pc + 3) ls (.double r :: rest))) : W p l e R s m args below meth c H locs cells slots Q (F0 m pc ls st0) := by
  intro T hT X
  rcases hr T hT X with ⟨v, st₀, t, T', L, h0, X', hL, e1, e2, ⟨⟨r, u, hv, hp, hb⟩, hF⟩, st⟩ | ⟨q, st₀, t, T', L, E, ce, h0, X', hL, e1, e2, ⟨u, hp, hb, hF⟩, hce, hcv, hcl, st⟩
  · cases hv
    obtain ⟨k1, k2, k3⟩ := vx_keep h0 e1 hS hA hf hL hF
    obtain ⟨t2, a1, b1⟩ := kk r u t T'.heap (locs ++ L) e1.symm (by rw [← e2]; exact X'.warmed.alike) hp hb k1 k2 k3 T' rfl X'
    exact ⟨t2, st t2 a1, b1⟩
  · obtain ⟨k1, k2, k3⟩ := vx_keep h0 e1 hS hAX hf hL hF
    obtain ⟨t2, a1, b1⟩ := kx E ce q u t T'.heap (locs ++ L) e1.symm (by rw [← e2]; exact X'.warmed.alike) hp hb k1 k2 k3 (by rw [e1]; exact hce) hcv hcl T' rfl X'
    exact ⟨t2, st.trans a1, b1⟩
theorem vx_callv {S SX : Type} {post : S → Prop} {px : SX → Prop} {B : S → State → Prop} {BX : String → SX → State → Prop} {AX : Nat → Prop} (hr : vx_Run p l e R s m args below meth c H locs cells slots mc ms (F0 m pc ls st0) rest (va_Qv post B A1 a) (vx_X px BX AX) free) (hS : va_S A0 H0 H locs) (hA : ∀ q, q < H.size → A1 q → A0 q) (hf : ∀ q, free q → A0 q) (hAX : ∀ q, q < H.size → AX q → A0 q)
    (kx : ∀ (E : String) (ce : Cell) (q9 : Addr) (u : SX) (t : State) (H1 : Heap) (locs1 : List Loc), t.heap = H1 → s.vm.Alike t.vm → px u → BX E u t → H.size ≤ H1.size → (∀ q : Nat, q < H.size → ¬ AX q → H1[q]? = H[q]?) → va_S A0 H0 H1 locs1 → H1[q9]? = some ce → ce.vm = .none → s.vm.findClass E = some ce.cls → vx_W p l e R s m args below meth c H1 locs1 (cells + mc) (slots + ms) Q (F0 m pc ls rest) q9)
    (kk : ∀ (u : S) (t : State) (H1 : Heap) (locs1 : List Loc), t.heap = H1 → s.vm.Alike t.vm → post u → B u t → H.size ≤ H1.size → (∀ q : Nat, q < H.size → ¬ A1 q → H1[q]? = H[q]?) → va_S A0 H0 H1 locs1 → W p l e R s m args below meth c H1 locs1 (cells + mc) (slots + ms) Q (F0 m (pc + 3) ls (rest))) : W p l e R s m args below meth c H locs cells slots Q (F0 m pc ls st0) := by
  intro T hT X
  rcases hr T hT X with ⟨v, st₀, t, T', L, h0, X', hL, e1, e2, ⟨⟨u, hv, hp, hb⟩, hF⟩, st⟩ | ⟨q, st₀, t, T', L, E, ce, h0, X', hL, e1, e2, ⟨u, hp, hb, hF⟩, hce, hcv, hcl, st⟩
  · cases hv
    obtain ⟨k1, k2, k3⟩ := vx_keep h0 e1 hS hA hf hL hF
    obtain ⟨t2, a1, b1⟩ := kk u t T'.heap (locs ++ L) e1.symm (by rw [← e2]; exact X'.warmed.alike) hp hb k1 k2 k3 T' rfl X'
    exact ⟨t2, st t2 a1, b1⟩
  · obtain ⟨k1, k2, k3⟩ := vx_keep h0 e1 hS hAX hf hL hF
    obtain ⟨t2, a1, b1⟩ := kx E ce q u t T'.heap (locs ++ L) e1.symm (by rw [← e2]; exact X'.warmed.alike) hp hb k1 k2 k3 (by rw [e1]; exact hce) hcv hcl T' rfl X'
    exact ⟨t2, st.trans a1, b1⟩
/-- caught by the row x of this method's table; the rows ahead don't take it -/
theorem vx_catch {own name : String} {E : String} {ce : Cell} {q : Addr} (hown : s.vm.findClass own = some m.cls) (pre : List ExceptionTableEntry) (x : ExceptionTableEntry) (suf : List ExceptionTableEntry) (hsplit : c.exceptionTable.toList = pre ++ x :: suf)
    (hpass : ∀ z ∈ pre, covers z pc = false ∨ (z.catchType ≠ 0 ∧ ∃ nm : String, (Cond.classLink own z.catchType nm).before args s = true ∧ va_Nc E nm s)) (hx : covers x pc = true) (h0 : x.catchType ≠ 0)
    (hlink : (Cond.classLink own x.catchType name).before args s = true) (hcast : (Cond.castable E name).before args s = true) (hcell : H[q]? = some ce) (hv : ce.vm = .none) (hcl : s.vm.findClass E = some ce.cls)
    (kk : W p l e R s m args below meth c H locs cells slots Q (F0 m x.handlerPc ls [.ref q])) : vx_W p l e R s m args below meth c H locs cells slots Q (F0 m pc ls rest) q := by
  intro T hT X
  have hpl : e.platform.magicAccessors = ({} : Platform).magicAccessors := by rw [X.admits.platform]
  obtain ⟨c3, c4, hc3, hc4, hasg⟩ := Cond.castable_spec hcast
  cases Option.some.inj (hc3.symm.trans hcl)
  obtain ⟨c5, hc5, hcl5⟩ := Cond.classLink_spec hown hlink e.platform hpl
  cases Option.some.inj (hc4.symm.trans hc5)
  obtain ⟨vm', X', st⟩ := X.thenCaughtThrough q (g := F0 m pc ls rest) rfl (Steps.refl _) (by rw [hT]; exact hcell) (by rw [hv]; rfl) (by obtain ⟨k9, h9, -⟩ := Vm.findClass_spec hcl; exact ⟨k9, h9⟩) pre x suf hsplit
    (fun z hz => by
      rcases hpass z hz with h | ⟨hz0, nm, hl1, hn1⟩
      · exact Or.inl h
      · obtain ⟨c6, hc6, hcl6⟩ := Cond.classLink_spec hown hl1 e.platform hpl
        obtain ⟨a8, b8, h1, h2, h3⟩ := hn1
        cases Option.some.inj (h1.symm.trans hcl)
        cases Option.some.inj (h2.symm.trans hc6)
        exact Or.inr ⟨hz0, _, hcl6, h3⟩) hx (Or.inr ⟨h0, c4, hcl5, hasg⟩)
  obtain ⟨t, a1, b1⟩ := kk (T.setVm vm') hT X'
  exact ⟨t, st.trans a1, b1⟩
end Rows
section Ends
variable {p : Program} {l : Launch} {e : Env} {R : Room} {s : State} {m : MethodId} {args : Array Value} {below : List Frame} {meth : Method} {c : Code} {H : Heap} {locs : List Loc} {cells slots : Nat} {Q : State → Prop}
variable {mc ms : Nat} {free : Addr → Prop} {A0 A1 : Nat → Prop} {H0 : Heap} {a : Array Value} {ls : Array Slot} {st0 rest : List Value}
variable {Qc : Array Value → State → Outcome → State → Prop} {XC : String → State → State → Prop}
/-- what a body that may throw owes at its end -/
def vx_MQ (below : List Frame) (Qc : Array Value → State → Outcome → State → Prop) (XC : String → State → State → Prop) (a : Array Value) (s : State) (mc ms : Nat) (free : Addr → Prop) : State → Prop := fun t =>
  ∃ o, t.status = .running ∧ Ended t below o ∧ vx_Q Qc XC mc ms free a s o t
theorem vx_ret {g : JFrame} {mc ms : Nat} (k : W p l e R s m args below meth c H locs cells slots (MQ below Qc args s mc ms free) g) : W p l e R s m args below meth c H locs cells slots (vx_MQ below Qc XC args s mc ms free) g := by
  intro T hT X
  obtain ⟨t, a1, o, b1, b2, b3, b4⟩ := k T hT X
  exact ⟨t, a1, o, b1, b2, Or.inl ⟨b3, b4⟩⟩
/-- not caught here: it goes on to the caller -/
theorem vx_widen {g : JFrame} {q : Addr} {k n : Nat} (h1 : cells ≤ k) (h2 : slots ≤ n) (kk : vx_W p l e R s m args below meth c H locs k n Q g q) : vx_W p l e R s m args below meth c H locs cells slots Q g q := fun T hT X => kk T hT (stand_widen X h1 h2)
theorem vx_out {pc : Nat} {E : String} {ce : Cell} {q : Addr} {mc ms : Nat} (hout : ∀ x ∈ c.exceptionTable.toList, covers x pc = false) (hlocks : meth.locks = false) (hcell : H[q]? = some ce) (hv : ce.vm = .none) (hcl : s.vm.findClass E = some ce.cls)
    (hx : ∀ t : State, t.heap = H → s.vm.Alike t.vm → XC E s t) (hf : ∀ z ∈ locs, free z.base) (hc : cells ≤ mc) (hs : slots ≤ ms) :
    vx_W p l e R s m args below meth c H locs cells slots (vx_MQ below Qc XC args s mc ms free) (F0 m pc ls rest) q := by
  intro T hT X
  obtain ⟨st1, hrun, hend, hW, hsm⟩ := X.leaveThrown q (g := F0 m pc ls rest) rfl rfl rfl hout hlocks
  have hcell9 : (T.setFrames (.throwing q :: below)).heap[q]? = some ce := by
    show T.heap[q]? = some ce
    rw [hT]; exact hcell
  exact ⟨_, st1, .threw q, hrun, hend, Or.inr ⟨q, rfl, E, ce, locs, hx _ hT hW.alike, hcell9, hv, hcl, hW, hsm.mono hc hs, hf⟩⟩
theorem vx_frame {U : State} {k n : Nat} (h : s.sameButNew ({ U with vm := s.vm } : State) locs k n) : s.heap.size ≤ U.heap.size ∧ ∀ q : Nat, q < s.heap.size → (∀ z ∈ locs, z.base ≠ q) → U.heap[q]? = s.heap[q]? := by
  obtain ⟨-, h2, -, -, -, h6⟩ := h
  refine ⟨h2, fun q hq hz => ?_⟩
  obtain ⟨c9, e1, e2, e3, e4⟩ := h6 q _ (Array.getElem?_eq_getElem hq)
  have hs : c9.slots = (s.heap[q]).slots := Array.ext_getElem? fun i => e4 i fun hm => hz _ hm rfl
  have h9 : c9 = s.heap[q] := by
    rw [hs] at e2
    exact e2
  have e5 : U.heap[q]? = some c9 := e1
  rw [e5, h9, Array.getElem?_eq_getElem hq]
/-- the words of a throw but the four that speak of the heap -/
def vx_no (w : Cond) : Bool := decide (w ≠ .isRef (.static Bundle.tN "UNASSIGNED_STACK" Bundle.steD)) && decide (w ≠ .isRef (.static Bundle.tN "SUPPRESSED_SENTINEL" Bundle.listD)) && decide (w ≠ .laysStatic Bundle.tN "UNASSIGNED_STACK" Bundle.steD) && decide (w ≠ .laysStatic Bundle.tN "SUPPRESSED_SENTINEL" Bundle.listD)
def vx_at0 (own : String) (ic : Nat) (X : String) (names : List String) : List Cond := (Bundle.ownAtoms0 own ic X names).filter vx_no
def vx_atS (own : String) (ic : Nat) (X : String) (names : List String) : List Cond := (Bundle.ownAtoms own ic X names).filter vx_no
/-- a word that the tables alone decide, or a good one -/
def vx_ot (w : Cond) : Bool := w.onTables || goodWord w
theorem vx_ot_at {args a' : Array Value} {s U : State} {w : Cond} (hW : s.WarmedH U.vm) (hvm : s.vm = U.vm) (hg : vx_ot w = true) (h : w.before args s = true) : w.before a' U = true := by
  simp only [vx_ot, Bool.or_eq_true] at hg
  rcases hg with hg | hg
  · exact va_tabs hg hvm h
  · exact word_at hW (good_of_word hg) h
/-- a list's words: the good ones out of the method's own list, the others by premises of their own -/
theorem vx_hat {args : Array Value} {s : State} {L B : List Cond} (h1 : ∀ w ∈ L.filter goodWord, w.before args s = true) (h2 : ∀ w ∈ L.filter (fun w => !goodWord w), w ∈ B) (h3 : ∀ w ∈ B, w.before args s = true) : ∀ w ∈ L, w.before args s = true := by
  intro w hw
  by_cases g : goodWord w = true
  · exact h1 w (List.mem_filter.mpr ⟨hw, g⟩)
  · refine h3 w (h2 w (List.mem_filter.mpr ⟨hw, ?_⟩))
    show (!goodWord w) = true
    cases hgw : goodWord w
    · rfl
    · exact absurd hgw g
theorem vx_c {args : Array Value} {s : State} {w : Cond} {B : List Cond} (h : w.before args s = true) (t : ∀ w ∈ B, w.before args s = true) : ∀ w' ∈ w :: B, w'.before args s = true := fun w' h' => (List.mem_cons.mp h').elim (fun e => by rw [e]; exact h) (t w')
theorem vx_n {args : Array Value} {s : State} : ∀ w ∈ ([] : List Cond), w.before args s = true := fun _ h => nomatch h
theorem vx_own {args : Array Value} {s : State} {L : List Cond} (h1 : ∀ w ∈ L.filter vx_no, w.before args s = true)
    (hU : (Cond.isRef (.static Bundle.tN "UNASSIGNED_STACK" Bundle.steD)).before args s = true) (hN : (Cond.isRef (.static Bundle.tN "SUPPRESSED_SENTINEL" Bundle.listD)).before args s = true)
    (lU : (Cond.laysStatic Bundle.tN "UNASSIGNED_STACK" Bundle.steD).before args s = true) (lN : (Cond.laysStatic Bundle.tN "SUPPRESSED_SENTINEL" Bundle.listD).before args s = true) : ∀ w ∈ L, w.before args s = true := by
  intro w hw
  by_cases e1 : w = .isRef (.static Bundle.tN "UNASSIGNED_STACK" Bundle.steD)
  · rw [e1]; exact hU
  · by_cases e2 : w = .isRef (.static Bundle.tN "SUPPRESSED_SENTINEL" Bundle.listD)
    · rw [e2]; exact hN
    · by_cases e3 : w = .laysStatic Bundle.tN "UNASSIGNED_STACK" Bundle.steD
      · rw [e3]; exact lU
      · by_cases e4 : w = .laysStatic Bundle.tN "SUPPRESSED_SENTINEL" Bundle.listD
        · rw [e4]; exact lN
        · exact h1 w (List.mem_filter.mpr ⟨hw, by unfold vx_no; rw [decide_eq_true e1, decide_eq_true e2, decide_eq_true e3, decide_eq_true e4]; rfl⟩)
/-- where a static field lies, its class's statics cell in H -/
def vx_L (C n d : String) (A : Nat → Prop) (U : State) (H : Heap) : Prop := ∃ (c : ClassId) (k : Class) (i : Nat) (f : Field) (a : Nat) (cell : Cell), U.vm.findClass C = some c ∧ U.fieldFound? C n d = some (c, k, i, f) ∧ f.isStatic = true ∧ k.statics = some a ∧ H[a]? = some cell ∧ cell.vm.isStatics = true ∧ cell.cls = c ∧ f.slot < cell.slots.size ∧ k.staticTypes[f.slot]? = some f.type ∧ ¬ A a
theorem vx_L.moved {C n d : String} {A : Nat → Prop} {u U : State} {H : Heap} (hvm : u.vm.Alike U.vm) (h : vx_L C n d A u H) : vx_L C n d A U H := by
  obtain ⟨c, k, i, f, a, cell, h1, h2, h3, h4, h5, h6, h7, h8, h9, h10⟩ := h
  obtain ⟨k', hi', he⟩ := State.fieldFound?_setVm hvm h2
  exact ⟨c, k', i, f, a, cell, by rw [hvm.findClass]; exact h1, hi', h3, by rw [he]; exact h4, h5, h6, h7, h8, by rw [he]; exact h9, h10⟩
theorem vx_L.kept {C n d : String} {A : Nat → Prop} {U : State} {H H1 : Heap} (h : vx_L C n d A U H) (hq : ∀ a : Nat, a < H.size → ¬ A a → H1[a]? = H[a]?) : vx_L C n d A U H1 := by
  obtain ⟨c, k, i, f, a, cell, h1, h2, h3, h4, h5, h6, h7, h8, h9, h10⟩ := h
  exact ⟨c, k, i, f, a, cell, h1, h2, h3, h4, by rw [hq a (Array.getElem?_eq_some_iff.mp h5).1 h10]; exact h5, h6, h7, h8, h9, h10⟩
theorem vx_L.narrow {C n d : String} {A B : Nat → Prop} {U : State} {H : Heap} (h : vx_L C n d A U H) (hAB : ∀ q, B q → A q) : vx_L C n d B U H := by
  obtain ⟨c, k, i, f, a, cell, h1, h2, h3, h4, h5, h6, h7, h8, h9, h10⟩ := h
  exact ⟨c, k, i, f, a, cell, h1, h2, h3, h4, h5, h6, h7, h8, h9, fun z => h10 (hAB _ z)⟩
theorem vx_L.word {C n d : String} {A : Nat → Prop} {s : State} {args : Array Value} (h : vx_L C n d A s s.heap) : (Cond.laysStatic C n d).before args s = true := by
  obtain ⟨c, k, i, f, a, cell, h1, h2, h3, h4, h5, h6, h7, h8, h9, -⟩ := h
  show (Cond.laysStatic C n d).holds args s none s [] = true
  exact Cond.laysStatic_of h1 h2 h3 h4 h5 h6 h7 h8 h9
/-- .. and what it holds: null or some reference -/
def vx_Zq (C n d : String) (A : Nat → Prop) (U : State) (H : Heap) : Prop := va_Zq C n d A U H ∧ vx_L C n d A U H
theorem vx_Zq.moved {C n d : String} {A : Nat → Prop} {u U : State} {H : Heap} (hvm : u.vm.Alike U.vm) (h : vx_Zq C n d A u H) : vx_Zq C n d A U H := ⟨va_Zq.moved hvm h.1, vx_L.moved hvm h.2⟩
theorem vx_Zq.kept {C n d : String} {A : Nat → Prop} {U : State} {H H1 : Heap} (h : vx_Zq C n d A U H) (hq : ∀ a : Nat, a < H.size → ¬ A a → H1[a]? = H[a]?) : vx_Zq C n d A U H1 := ⟨va_Zq.kept h.1 hq, vx_L.kept h.2 hq⟩
theorem vx_Zq.narrow {C n d : String} {A B : Nat → Prop} {U : State} {H : Heap} (h : vx_Zq C n d A U H) (hAB : ∀ q, B q → A q) : vx_Zq C n d B U H := ⟨va_Zq.narrow h.1 hAB, vx_L.narrow h.2 hAB⟩
theorem vx_Zqof {args : Array Value} {s : State} {C n d : String} {A : Nat → Prop} (hl : (Cond.laysStatic C n d).before args s = true) (hini : (Cond.initialized C).before args s = true) (h : (Cond.isRef (.static C n d)).before args s = true) (hA : ∀ a : Nat, a < s.heap.size → ¬ A a) : vx_Zq C n d A s s.heap := by
  refine ⟨va_Zqof hl hini h hA, ?_⟩
  obtain ⟨c, k, i, f, a, cell, h1, h2, h3, h4, h5, h6, h7, h8, h9⟩ := Cond.laysStatic_spec hl
  exact ⟨c, k, i, f, a, cell, h1, h2, h3, h4, h5, h6, h7, h8, h9, hA a (Array.getElem?_eq_some_iff.mp h5).1⟩
theorem vx_isRef {C n d : String} {v : Value} {A : Nat → Prop} {s : State} {args : Array Value} (h : va_Z C n d v A s s.heap) (hv : v.isRef = true) : (Cond.isRef (.static C n d)).before args s = true := by
  obtain ⟨cf, kf, fi, f, a, cell, h1, h2, h3, h4, h5, h6, h7, -⟩ := h
  have he : (Term.static C n d).eval args s none [] s = some v := by
    simp [Term.eval, State.fieldNamed?, h1, h2, h4, h5, h6, h7]
  simp only [Cond.before, Cond.holds, Cond.value, he]
  cases v <;> simp_all [Value.isRef]
theorem vx_isRefq {C n d : String} {A : Nat → Prop} {s : State} {args : Array Value} (h : va_Zq C n d A s s.heap) : (Cond.isRef (.static C n d)).before args s = true := by
  rcases h with h | ⟨t, h⟩
  · exact vx_isRef h rfl
  · exact vx_isRef h rfl
/-- the same frame, seen from here: as if the method were called anew in this heap -/
theorem vx_rebase {T : State} (X : Stand p l e R s m args below meth c T locs cells slots) {R' : Room} (hf : R'.frames ≤ R.frames) (hl : R'.locals ≤ R.locals) (hc : cells + R'.cells ≤ R.cells) (hs : slots + R'.slots ≤ R.slots) :
    Stand p l e R' ((T.setVm s.vm).setFrames (.invoking m args :: below)) m args below meth c T [] 0 0 := by
  have htop : (T.setVm s.vm).topJava?.isSome := X.here.top
  have hF : ((T.setVm s.vm).setFrames (.invoking m args :: below)).frames = .invoking m args :: below := State.frames_setFrames _ (State.cur_lt_of_top htop)
  obtain ⟨g₀, hg0⟩ := Option.isSome_iff_exists.mp htop
  obtain ⟨r, hr⟩ := State.topJava?_eq_some.mp hg0
  have hl9 : e.platform.stackLimits (T.setVm s.vm).me = e.platform.stackLimits s.me := X.limits
  have hb9 : (T.setVm s.vm).me.stackBytes = s.me.stackBytes := X.bytes
  refine ⟨X.admits, X.cas, X.clock, hF, ?_, X.hears, X.method, X.code, X.here, X.tail, X.warmed, ?_, ?_, ?_⟩
  · have h := X.room
    have hU : ((T.setVm s.vm).setFrames (.invoking m args :: below)).localsInUse = s.localsInUse := by
      rw [State.localsInUse_invoking hF (meth := meth) (c := c) X.method X.code, State.localsInUse_invoking X.frames X.method X.code]
    simp only [State.hasRoom, Bool.and_eq_true, decide_eq_true_eq] at h ⊢
    obtain ⟨⟨⟨⟨h1, h2, h3, h4, h5, h6⟩, h7⟩, h8⟩, h9⟩ := h
    rw [X.frames, List.length_cons] at h2 h3
    have q1 := X.heapSize
    have q2 := X.used
    simp only [hF, hU, List.length_cons, State.stackLimits_setFrames, State.stackBytes_setFrames, hl9, hb9]
    refine ⟨⟨⟨⟨by omega, by omega, by omega, by omega, by omega, h6⟩, ?_⟩, ?_⟩, X.book⟩
    · show T.heap.size + R'.cells ≤ e.platform.maxCells
      omega
    · show T.slotsUsed + R'.slots ≤ e.platform.maxSlots
      omega
  · rw [State.stackLimits_setFrames]; rfl
  · rw [State.stackBytes_setFrames]; rfl
  · refine ⟨?_, Nat.le_refl _, Nat.le_refl _, ?_, ?_, fun a c9 h9 => ⟨c9, h9, rfl, rfl, fun _ _ => rfl⟩⟩
    · obtain ⟨t, ht, -⟩ := State.frames_cons hr
      show T.setVm s.vm = { ((T.setVm s.vm).setFrames (.invoking m args :: below)).setFrames (T.setVm s.vm).frames with heap := T.heap, slotsUsed := T.slotsUsed }
      rw [State.setFrames_setFrames, State.setFrames_self ht]
      rfl
    · show T.slotsUsed = T.slotsUsed + ((T.heap.toList.drop T.heap.size).map (·.slots.size)).sum
      rw [List.drop_eq_nil_of_le (Nat.le_of_eq Array.length_toList)]
      rfl
    · show ((T.heap.toList.drop T.heap.size).map (·.slots.size)).sum ≤ 0
      rw [List.drop_eq_nil_of_le (Nat.le_of_eq Array.length_toList)]
      exact Nat.le_refl _
/-- 'throw new E()': new; dup; invokespecial; athrow -/
theorem vx_throw0 {cc : ByteArray} {pc : Nat} (hexec : p.tables.exec = Jvm.exec) (hb : c.code = cc) (hl : l.stackTraces = false) {own cls : String} {names : List String} {ik ic mc ms : Nat} {A : Nat → Prop}
    (hown : s.vm.findClass own = some m.cls) (hcls : Bundle.fit cls = true) (hnames : ∀ n ∈ names, Bundle.fit n = true)
    (hk : (Cond.classLink own ik cls).before args s = true) (hini : (Cond.initialized cls).before args s = true) (hat : ∀ w ∈ vx_at0 own ic cls names, w.before args s = true)
    (hgood : ∀ w ∈ Cond.classLink own ik cls :: Cond.initialized cls :: vx_at0 own ic cls names, vx_ot w = true)
    (hU : vx_Zq Bundle.tN "UNASSIGNED_STACK" Bundle.steD A s s.heap) (hN : vx_Zq Bundle.tN "SUPPRESSED_SENTINEL" Bundle.listD A s s.heap) (hS : va_S A s.heap H locs) (hsize : ls.size = c.maxLocals)
    (d0 : decode cc pc = .ok (.new ik, 3)) (d3 : decode cc (pc + 3) = .ok (.dup, 1)) (d4 : decode cc (pc + 4) = .ok (.invokespecial ic, 3)) (d7 : decode cc (pc + 7) = .ok (.athrow, 1))
    (hout : ∀ x ∈ c.exceptionTable.toList, covers x (pc + 7) = false)
    (hRframes : names.length + 3 < R.frames) (hRlocals : (rest.map fun v => v.category).sum + (13 * (names.length + 1) + 42) ≤ R.locals) (hRcells : cells + 1 ≤ R.cells) (hRslots : slots + 6 ≤ R.slots) (hlocks : meth.locks = false)
    (hx : ∀ t : State, s.vm.Alike t.vm → H.size ≤ t.heap.size → (∀ q : Nat, q < H.size → t.heap[q]? = H[q]?) → XC cls s t)
    (hf : ∀ z ∈ locs, free z.base) (hc : cells + 1 ≤ mc) (hs : slots + 6 ≤ ms) :
    W p l e R s m args below meth c H locs cells slots (vx_MQ below Qc XC args s mc ms free) (F0 m pc ls rest) := by
  intro T hT X
  have htr : e.platform.stackTraces = false := (show e.platform.stackTraces = l.stackTraces by rw [X.admits.platform]).trans hl
  have Y := vx_rebase X (R' := { frames := R.frames, locals := R.locals, cells := 1, slots := 6 }) (Nat.le_refl _) (Nat.le_refl _) hRcells hRslots
  obtain ⟨s', hA⟩ : ∃ z, z = (T.setVm s.vm).setFrames (.invoking m args :: below) := ⟨_, rfl⟩
  rw [← hA] at Y
  have hvm : s'.vm = s.vm := by rw [hA]; rfl
  have hhp : s'.heap = H := by rw [hA]; exact hT
  have hW0 : s.WarmedH s'.vm := by rw [hvm]; exact State.WarmedH.refl s
  have hat' : ∀ w ∈ vx_at0 own ic cls names, w.before args s' = true := fun w hw => vx_ot_at hW0 hvm.symm (hgood w (List.mem_cons_of_mem _ (List.mem_cons_of_mem _ hw))) (hat w hw)
  have hk' : (Cond.classLink own ik cls).before args s' = true := vx_ot_at hW0 hvm.symm (hgood _ List.mem_cons_self) hk
  have hini' : (Cond.initialized cls).before args s' = true := vx_ot_at hW0 hvm.symm (hgood _ (List.mem_cons_of_mem _ List.mem_cons_self)) hini
  have hU' : vx_Zq Bundle.tN "UNASSIGNED_STACK" Bundle.steD A s' s'.heap := by rw [hhp]; exact vx_Zq.moved hW0.alike (hU.kept hS.2.1)
  have hN' : vx_Zq Bundle.tN "SUPPRESSED_SENTINEL" Bundle.listD A s' s'.heap := by rw [hhp]; exact vx_Zq.moved hW0.alike (hN.kept hS.2.1)
  have h : ∀ w ∈ Bundle.ownAtoms0 own ic cls names, w.before args s' = true := vx_own hat' (vx_isRefq hU'.1) (vx_isRefq hN'.1) hU'.2.word hN'.2.word
  have hown' : s'.vm.findClass own = some m.cls := by rw [hvm]; exact hown
  have hins : (Cond.instantiable cls 6).before args s' = true := h _ (by simp [Bundle.ownAtoms0])
  obtain ⟨vm₁, cX, kX, hfX, hkX, -, -, X₁, st1⟩ := Y.newCold hexec (own := own) (C := cls) (index := ik) (n := 6) hown' hk' hins hini'
    (g := F0 m pc ls rest) rfl (by rw [hb]; exact d0) (Nat.le_refl _) (Nat.le_refl _)
  generalize hT1 : (T.setVm vm₁).pushCell { cls := cX, slots := kX.instanceTypes.map defaultValue, vm := .none } = T1 at X₁ st1
  have hcat : (Value.ref T.heap.size).category = 1 := rfl
  have hcellA : T1.heap[T.heap.size]? = some (freshCell cX kX) := by rw [← hT1]; exact State.heap_pushCell_size _ _
  have d3' : decode c.code (pc + 3) = .ok (.dup, 1) := by rw [hb]; exact d3
  obtain ⟨U, hsteps, hrun, hend, hW, hsame, ce, hce, hO⟩ := X₁.ctorThrow0 hexec htr (own := own) (cls := cls) (names := names) (ic := ic) hown' hcls hnames h (fun x hx => nomatch hx) hfX hkX hcellA (by rw [hhp, hT]; exact Nat.le_refl _)
    (g := { method := m, pc := pc + 4, locals := ls, stack := .ref T.heap.size :: .ref T.heap.size :: rest, locked := none }) rfl hsize rfl rfl (rest := rest) rfl
    (by rw [hb]; exact d4) (by rw [hb]; exact d7) hout hRframes (by simp only [List.map_cons, List.sum_cons, hcat]; omega) hlocks
  obtain ⟨f1, f2⟩ := vx_frame hsame
  rw [hhp] at f1 f2
  have hWs : s.WarmedH U.vm := State.WarmedH.trans hW0 hW
  have hcl : s.vm.findClass cls = some ce.cls := by
    have h9 := hO.cls
    rw [hvm] at h9
    exact h9
  have hall : s.sameButNew ({ U with vm := s.vm } : State) locs mc ms := by
    subst hA
    obtain ⟨e1, e2⟩ := hsame
    rw [State.setFrames_setFrames] at e1
    have h2 : (T.setVm s.vm).sameButNew ({ U with vm := s.vm } : State) [] (0 + 1) (0 + 6) := ⟨e1, e2⟩
    have h3 := X.same.trans h2
    rw [List.append_nil] at h3
    exact h3.mono hc hs
  refine ⟨U, ?_, .threw T.heap.size, hrun, hend, Or.inr ⟨T.heap.size, rfl, cls, ce, locs, hx U hWs.alike f1 (fun q hq => f2 q hq (fun z hz => nomatch hz)), hce, hO.vm, hcl, hWs, hall, hf⟩⟩
  refine st1 _ ?_
  show Steps p.tables e below (T1.setTop { method := m, pc := pc + 3, locals := ls, stack := .ref T.heap.size :: rest, locked := none }) _
  jvm_step X₁.here [X₁.here.top, hexec, d3', Value.category]
  exact hsteps
/-- 'throw new E("text")': new; dup; ldc; invokespecial; athrow -/
theorem vx_throwS {cc : ByteArray} {pc : Nat} (hexec : p.tables.exec = Jvm.exec) (hb : c.code = cc) (hl : l.stackTraces = false) {own cls text : String} {names : List String} {ik is ic mc ms sa : Nat} {A : Nat → Prop}
    (hown : s.vm.findClass own = some m.cls) (hcls : Bundle.fit cls = true) (hnames : ∀ n ∈ names, Bundle.fit n = true)
    (hk : (Cond.classLink own ik cls).before args s = true) (hini : (Cond.initialized cls).before args s = true) (hstr : vk_R own is text sa s) (hat : ∀ w ∈ vx_atS own ic cls names, w.before args s = true)
    (hgood : ∀ w ∈ Cond.classLink own ik cls :: Cond.initialized cls :: vx_atS own ic cls names, vx_ot w = true)
    (hU : vx_Zq Bundle.tN "UNASSIGNED_STACK" Bundle.steD A s s.heap) (hN : vx_Zq Bundle.tN "SUPPRESSED_SENTINEL" Bundle.listD A s s.heap) (hS : va_S A s.heap H locs) (hsize : ls.size = c.maxLocals)
    (d0 : decode cc pc = .ok (.new ik, 3)) (d3 : decode cc (pc + 3) = .ok (.dup, 1)) (d4 : decode cc (pc + 4) = .ok (.ldc is, 2)) (d6 : decode cc (pc + 6) = .ok (.invokespecial ic, 3)) (d9 : decode cc (pc + 9) = .ok (.athrow, 1))
    (hout : ∀ x ∈ c.exceptionTable.toList, covers x (pc + 9) = false)
    (hRframes : names.length + 3 < R.frames) (hRlocals : (rest.map fun v => v.category).sum + (13 * (names.length + 1) + 43) ≤ R.locals) (hRcells : cells + 1 ≤ R.cells) (hRslots : slots + 6 ≤ R.slots) (hlocks : meth.locks = false)
    (hx : ∀ t : State, s.vm.Alike t.vm → H.size ≤ t.heap.size → (∀ q : Nat, q < H.size → t.heap[q]? = H[q]?) → XC cls s t)
    (hf : ∀ z ∈ locs, free z.base) (hc : cells + 1 ≤ mc) (hs : slots + 6 ≤ ms) :
    W p l e R s m args below meth c H locs cells slots (vx_MQ below Qc XC args s mc ms free) (F0 m pc ls rest) := by
  intro T hT X
  have htr : e.platform.stackTraces = false := (show e.platform.stackTraces = l.stackTraces by rw [X.admits.platform]).trans hl
  have Y := vx_rebase X (R' := { frames := R.frames, locals := R.locals, cells := 1, slots := 6 }) (Nat.le_refl _) (Nat.le_refl _) hRcells hRslots
  obtain ⟨s', hA⟩ : ∃ z, z = (T.setVm s.vm).setFrames (.invoking m args :: below) := ⟨_, rfl⟩
  rw [← hA] at Y
  have hvm : s'.vm = s.vm := by rw [hA]; rfl
  have hhp : s'.heap = H := by rw [hA]; exact hT
  have hW0 : s.WarmedH s'.vm := by rw [hvm]; exact State.WarmedH.refl s
  have hat' : ∀ w ∈ vx_atS own ic cls names, w.before args s' = true := fun w hw => vx_ot_at hW0 hvm.symm (hgood w (List.mem_cons_of_mem _ (List.mem_cons_of_mem _ hw))) (hat w hw)
  have hk' : (Cond.classLink own ik cls).before args s' = true := vx_ot_at hW0 hvm.symm (hgood _ List.mem_cons_self) hk
  have hini' : (Cond.initialized cls).before args s' = true := vx_ot_at hW0 hvm.symm (hgood _ (List.mem_cons_of_mem _ List.mem_cons_self)) hini
  have hU' : vx_Zq Bundle.tN "UNASSIGNED_STACK" Bundle.steD A s' s'.heap := by rw [hhp]; exact vx_Zq.moved hW0.alike (hU.kept hS.2.1)
  have hN' : vx_Zq Bundle.tN "SUPPRESSED_SENTINEL" Bundle.listD A s' s'.heap := by rw [hhp]; exact vx_Zq.moved hW0.alike (hN.kept hS.2.1)
  have h : ∀ w ∈ Bundle.ownAtoms own ic cls names, w.before args s' = true := vx_own hat' (vx_isRefq hU'.1) (vx_isRefq hN'.1) hU'.2.word hN'.2.word
  have hown' : s'.vm.findClass own = some m.cls := by rw [hvm]; exact hown
  have hins : (Cond.instantiable cls 6).before args s' = true := h _ (by simp [Bundle.ownAtoms])
  obtain ⟨vm₁, cX, kX, hfX, hkX, -, -, X₁, st1⟩ := Y.newCold hexec (own := own) (C := cls) (index := ik) (n := 6) hown' hk' hins hini'
    (g := F0 m pc ls rest) rfl (by rw [hb]; exact d0) (Nat.le_refl _) (Nat.le_refl _)
  generalize hT1 : (T.setVm vm₁).pushCell { cls := cX, slots := kX.instanceTypes.map defaultValue, vm := .none } = T1 at X₁ st1
  have hcat : (Value.ref T.heap.size).category = 1 := rfl
  have hcellA : T1.heap[T.heap.size]? = some (freshCell cX kX) := by rw [← hT1]; exact State.heap_pushCell_size _ _
  have d3' : decode c.code (pc + 3) = .ok (.dup, 1) := by rw [hb]; exact d3
  have d4' : decode c.code (pc + 4) = .ok (.ldc is, 2) := by rw [hb]; exact d4
  have hstr' : vk_R own is text sa s' := vk_R.warm hW0 hstr
  obtain ⟨U, hsteps, hrun, hend, hW, hsame, ce, hce, hO⟩ := X₁.ctorThrowS hexec htr (own := own) (cls := cls) (names := names) (ic := ic) hown' hcls hnames h (fun x hx => nomatch hx) hfX hkX hcellA (by rw [hhp, hT]; exact Nat.le_refl _) (msg := .ref sa) rfl
    (g := { method := m, pc := pc + 6, locals := ls, stack := .ref sa :: .ref T.heap.size :: .ref T.heap.size :: rest, locked := none }) rfl hsize rfl rfl (rest := rest) rfl
    (by rw [hb]; exact d6) (by rw [hb]; exact d9) hout hRframes (by simp only [List.map_cons, List.sum_cons, hcat]; omega) hlocks
  obtain ⟨f1, f2⟩ := vx_frame hsame
  rw [hhp] at f1 f2
  have hWs : s.WarmedH U.vm := State.WarmedH.trans hW0 hW
  have hcl : s.vm.findClass cls = some ce.cls := by
    have h9 := hO.cls
    rw [hvm] at h9
    exact h9
  have hall : s.sameButNew ({ U with vm := s.vm } : State) locs mc ms := by
    subst hA
    obtain ⟨e1, e2⟩ := hsame
    rw [State.setFrames_setFrames] at e1
    have h2 : (T.setVm s.vm).sameButNew ({ U with vm := s.vm } : State) [] (0 + 1) (0 + 6) := ⟨e1, e2⟩
    have h3 := X.same.trans h2
    rw [List.append_nil] at h3
    exact h3.mono hc hs
  refine ⟨U, ?_, .threw T.heap.size, hrun, hend, Or.inr ⟨T.heap.size, rfl, cls, ce, locs, hx U hWs.alike f1 (fun q hq => f2 q hq (fun z hz => nomatch hz)), hce, hO.vm, hcl, hWs, hall, hf⟩⟩
  refine st1 _ ?_
  show Steps p.tables e below (T1.setTop { method := m, pc := pc + 3, locals := ls, stack := .ref T.heap.size :: rest, locked := none }) _
  jvm_step X₁.here [X₁.here.top, hexec, d3', Value.category]
  exact X₁.ldcString hexec (own := own) (text := text) (index := is) (a := sa) hown' hstr'.1 hstr'.2
    (g := { method := m, pc := pc + 4, locals := ls, stack := .ref T.heap.size :: .ref T.heap.size :: rest, locked := none }) rfl d4' _ hsteps
/-- 'throw new E("text")', the text by a wide index -/
theorem vx_throwSW {cc : ByteArray} {pc : Nat} (hexec : p.tables.exec = Jvm.exec) (hb : c.code = cc) (hl : l.stackTraces = false) {own cls text : String} {names : List String} {ik is ic mc ms sa : Nat} {A : Nat → Prop}
    (hown : s.vm.findClass own = some m.cls) (hcls : Bundle.fit cls = true) (hnames : ∀ n ∈ names, Bundle.fit n = true)
    (hk : (Cond.classLink own ik cls).before args s = true) (hini : (Cond.initialized cls).before args s = true) (hstr : vk_R own is text sa s) (hat : ∀ w ∈ vx_atS own ic cls names, w.before args s = true)
    (hgood : ∀ w ∈ Cond.classLink own ik cls :: Cond.initialized cls :: vx_atS own ic cls names, vx_ot w = true)
    (hU : vx_Zq Bundle.tN "UNASSIGNED_STACK" Bundle.steD A s s.heap) (hN : vx_Zq Bundle.tN "SUPPRESSED_SENTINEL" Bundle.listD A s s.heap) (hS : va_S A s.heap H locs) (hsize : ls.size = c.maxLocals)
    (d0 : decode cc pc = .ok (.new ik, 3)) (d3 : decode cc (pc + 3) = .ok (.dup, 1)) (d4 : decode cc (pc + 4) = .ok (.ldc_w is, 3)) (d7 : decode cc (pc + 7) = .ok (.invokespecial ic, 3)) (d10 : decode cc (pc + 10) = .ok (.athrow, 1))
    (hout : ∀ x ∈ c.exceptionTable.toList, covers x (pc + 10) = false)
    (hRframes : names.length + 3 < R.frames) (hRlocals : (rest.map fun v => v.category).sum + (13 * (names.length + 1) + 43) ≤ R.locals) (hRcells : cells + 1 ≤ R.cells) (hRslots : slots + 6 ≤ R.slots) (hlocks : meth.locks = false)
    (hx : ∀ t : State, s.vm.Alike t.vm → H.size ≤ t.heap.size → (∀ q : Nat, q < H.size → t.heap[q]? = H[q]?) → XC cls s t)
    (hf : ∀ z ∈ locs, free z.base) (hc : cells + 1 ≤ mc) (hs : slots + 6 ≤ ms) :
    W p l e R s m args below meth c H locs cells slots (vx_MQ below Qc XC args s mc ms free) (F0 m pc ls rest) := by
  intro T hT X
  have htr : e.platform.stackTraces = false := (show e.platform.stackTraces = l.stackTraces by rw [X.admits.platform]).trans hl
  have Y := vx_rebase X (R' := { frames := R.frames, locals := R.locals, cells := 1, slots := 6 }) (Nat.le_refl _) (Nat.le_refl _) hRcells hRslots
  obtain ⟨s', hA⟩ : ∃ z, z = (T.setVm s.vm).setFrames (.invoking m args :: below) := ⟨_, rfl⟩
  rw [← hA] at Y
  have hvm : s'.vm = s.vm := by rw [hA]; rfl
  have hhp : s'.heap = H := by rw [hA]; exact hT
  have hW0 : s.WarmedH s'.vm := by rw [hvm]; exact State.WarmedH.refl s
  have hat' : ∀ w ∈ vx_atS own ic cls names, w.before args s' = true := fun w hw => vx_ot_at hW0 hvm.symm (hgood w (List.mem_cons_of_mem _ (List.mem_cons_of_mem _ hw))) (hat w hw)
  have hk' : (Cond.classLink own ik cls).before args s' = true := vx_ot_at hW0 hvm.symm (hgood _ List.mem_cons_self) hk
  have hini' : (Cond.initialized cls).before args s' = true := vx_ot_at hW0 hvm.symm (hgood _ (List.mem_cons_of_mem _ List.mem_cons_self)) hini
  have hU' : vx_Zq Bundle.tN "UNASSIGNED_STACK" Bundle.steD A s' s'.heap := by rw [hhp]; exact vx_Zq.moved hW0.alike (hU.kept hS.2.1)
  have hN' : vx_Zq Bundle.tN "SUPPRESSED_SENTINEL" Bundle.listD A s' s'.heap := by rw [hhp]; exact vx_Zq.moved hW0.alike (hN.kept hS.2.1)
  have h : ∀ w ∈ Bundle.ownAtoms own ic cls names, w.before args s' = true := vx_own hat' (vx_isRefq hU'.1) (vx_isRefq hN'.1) hU'.2.word hN'.2.word
  have hown' : s'.vm.findClass own = some m.cls := by rw [hvm]; exact hown
  have hins : (Cond.instantiable cls 6).before args s' = true := h _ (by simp [Bundle.ownAtoms])
  obtain ⟨vm₁, cX, kX, hfX, hkX, -, -, X₁, st1⟩ := Y.newCold hexec (own := own) (C := cls) (index := ik) (n := 6) hown' hk' hins hini'
    (g := F0 m pc ls rest) rfl (by rw [hb]; exact d0) (Nat.le_refl _) (Nat.le_refl _)
  generalize hT1 : (T.setVm vm₁).pushCell { cls := cX, slots := kX.instanceTypes.map defaultValue, vm := .none } = T1 at X₁ st1
  have hcat : (Value.ref T.heap.size).category = 1 := rfl
  have hcellA : T1.heap[T.heap.size]? = some (freshCell cX kX) := by rw [← hT1]; exact State.heap_pushCell_size _ _
  have d3' : decode c.code (pc + 3) = .ok (.dup, 1) := by rw [hb]; exact d3
  have d4' : decode c.code (pc + 4) = .ok (.ldc_w is, 3) := by rw [hb]; exact d4
  have hstr' : vk_R own is text sa s' := vk_R.warm hW0 hstr
  obtain ⟨U, hsteps, hrun, hend, hW, hsame, ce, hce, hO⟩ := X₁.ctorThrowS hexec htr (own := own) (cls := cls) (names := names) (ic := ic) hown' hcls hnames h (fun x hx => nomatch hx) hfX hkX hcellA (by rw [hhp, hT]; exact Nat.le_refl _) (msg := .ref sa) rfl
    (g := { method := m, pc := pc + 7, locals := ls, stack := .ref sa :: .ref T.heap.size :: .ref T.heap.size :: rest, locked := none }) rfl hsize rfl rfl (rest := rest) rfl
    (by rw [hb]; exact d7) (by rw [hb]; exact d10) hout hRframes (by simp only [List.map_cons, List.sum_cons, hcat]; omega) hlocks
  obtain ⟨f1, f2⟩ := vx_frame hsame
  rw [hhp] at f1 f2
  have hWs : s.WarmedH U.vm := State.WarmedH.trans hW0 hW
  have hcl : s.vm.findClass cls = some ce.cls := by
    have h9 := hO.cls
    rw [hvm] at h9
    exact h9
  have hall : s.sameButNew ({ U with vm := s.vm } : State) locs mc ms := by
    subst hA
    obtain ⟨e1, e2⟩ := hsame
    rw [State.setFrames_setFrames] at e1
    have h2 : (T.setVm s.vm).sameButNew ({ U with vm := s.vm } : State) [] (0 + 1) (0 + 6) := ⟨e1, e2⟩
    have h3 := X.same.trans h2
    rw [List.append_nil] at h3
    exact h3.mono hc hs
  refine ⟨U, ?_, .threw T.heap.size, hrun, hend, Or.inr ⟨T.heap.size, rfl, cls, ce, locs, hx U hWs.alike f1 (fun q hq => f2 q hq (fun z hz => nomatch hz)), hce, hO.vm, hcl, hWs, hall, hf⟩⟩
  refine st1 _ ?_
  show Steps p.tables e below (T1.setTop { method := m, pc := pc + 3, locals := ls, stack := .ref T.heap.size :: rest, locked := none }) _
  jvm_step X₁.here [X₁.here.top, hexec, d3', Value.category]
  exact X₁.ldcStringW hexec (own := own) (text := text) (index := is) (a := sa) hown' hstr'.1 hstr'.2
    (g := { method := m, pc := pc + 4, locals := ls, stack := .ref T.heap.size :: .ref T.heap.size :: rest, locked := none }) rfl d4' _ hsteps
end Ends
section Bodies
variable {l : Launch}
theorem vx_ofW {y : MethodName} {ws ws' : List Cond} {rm : Room} {Pc : Array Value → State → Prop} {Qc : Array Value → State → Outcome → State → Prop} {XC : String → State → State → Prop} {mc ms : Nat} {free : Addr → Prop} {cc : ByteArray} {maxL : Nat} {ret : Option FieldType}
    (hy : plainName y.cls = true) (hw : ws = Cond.code y cc maxL ret :: ws')
    (body : ∀ p e s m args below meth c s₁, BodyLoose p l y (headSpec ws rm) cc maxL ret e s m args below meth c s₁ → c.maxLocals = maxL → (∀ x ∈ c.exceptionTable.toList, False) → Pc args s →
      W p l e (headSpec ws rm).room s m args below meth c s.heap [] 0 0 (vx_MQ below Qc XC args s mc ms free) (entryFrame m args maxL)) : vx_Met l y ws rm Pc Qc XC mc ms free := by
  refine MetFree.of_bodyS (code := cc) (maxLocals := maxL) (ret := ret) hy ?_ ?_
  · intro args s m h hn
    obtain ⟨meth, c, h1, h2, h3, h4, h5, h6, -, -⟩ := Cond.code_spec hn (atoms_spec (ws := ws) h _ (by rw [hw]; exact List.mem_cons_self))
    exact ⟨meth, c, h1, h2, h3, h4, h5, h6⟩
  · intro p e s m args below meth c s₁ B hml hP _
    have hh0 : s₁.heap = s.heap := by rw [B.state]; rfl
    have ht : ∀ x ∈ c.exceptionTable.toList, False := by
      obtain ⟨meth9, c9, h1, h2, -, -, -, -, h7, -⟩ := Cond.code_spec B.named (atoms_spec (ws := ws) B.pre _ (by rw [hw]; exact List.mem_cons_self))
      cases Option.some.inj (h1.symm.trans B.method)
      cases Option.some.inj (h2.symm.trans (Stand.of_body B).code)
      intro x hx
      rw [Array.isEmpty_iff.mp h7] at hx
      cases hx
    obtain ⟨t, a1, o, b1, b2, b3⟩ := body p e s m args below meth c s₁ B hml ht hP s₁ hh0 (Stand.of_body B)
    exact ⟨t, o, a1, b1, b2, b3⟩
/-- the table of a body with handlers -/
theorem vx_table {p : Program} {x y : MethodName} {S : Spec} {cc bytes : ByteArray} {maxL maxL' : Nat} {ret ret' : Option FieldType} {e : Env} {s s₁ : State} {m : MethodId} {args : Array Value} {below : List Frame} {meth : Method} {c : Code} {hh : List (Nat × Nat × Nat × Nat)}
    (B : BodyLoose p l y S cc maxL ret e s m args below meth c s₁) (h : (Cond.codeWith y bytes maxL' ret' hh).before args s = true) : c.exceptionTable.toList = tableOf hh := by
  obtain ⟨m9, meth9, c9, hn9, h1, h2, -, -, h6, -⟩ := Cond.codeWith_spec h
  cases Option.some.inj (hn9.symm.trans B.named)
  cases Option.some.inj (h1.symm.trans B.method)
  cases Option.some.inj (h2.symm.trans (Stand.of_body B).code)
  rw [← h6, table_eq]
end Bodies
end VXA
/-! ===== END ===== -/
/-! ===== BEGIN a static call of a method with an exception table ===== -/
section VXS
variable {p : Program} {l : Launch} {e : Env} {R : Room} {s : State} {m : MethodId} {args : Array Value} {below : List Frame} {meth : Method} {c : Code} {T : State} {H : Heap} {locs : List Loc} {cells slots : Nat}
abbrev vx_CSW (R : Room) (s : State) (args : Array Value) (own : String) (index : Nat) (y : MethodName) (bytes : ByteArray) (maxL : Nat) (ret : Option FieldType) (hh : List (Nat × Nat × Nat × Nat)) (ws : List Cond) (rm : Room) (mc ms n : Nat) : Prop :=
  (rm.cells = mc ∧ rm.slots = ms ∧ rm.frames + 1 ≤ R.frames ∧ 8 + (maxL + 11) + rm.locals ≤ R.locals ∧ (∀ w ∈ ws, ∀ (a' : Array Value) (U : State), s.WarmedH U.vm → w.before a' U = true) ∧ Cond.codeWith y bytes maxL ret hh ∈ ws) ∧
  (Cond.codeWith y bytes maxL ret hh).before args s = true ∧ (Cond.initialized y.cls).before args s = true ∧ (y.cls ≠ "java/lang/invoke/MethodHandle" ∧ y.cls ≠ "java/lang/invoke/VarHandle") ∧
  (∀ sig, parseMethodDescriptor y.desc = some sig → n = sig.parameters.length) ∧ (Cond.methodLink own index y).before args s = true ∧ (Cond.static y).before args s = true
theorem vx_cwSW {own : String} {index maxL mc ms : Nat} {y : MethodName} {bytes : ByteArray} {ret : Option FieldType} {hh : List (Nat × Nat × Nat × Nat)} {Ts ws ws' : List Cond} {rm : Room} (n : Nat) (ht : ∀ w ∈ Ts, w.before args s = true) (hT : GoodIn Ts (va_wsS own index y ws)) (hw : ws = Cond.codeWith y bytes maxL ret hh :: ws') (hrc : rm.cells = mc) (hrs : rm.slots = ms)
    (hd : y.cls ≠ "java/lang/invoke/MethodHandle" ∧ y.cls ≠ "java/lang/invoke/VarHandle" ∧ (parseMethodDescriptor y.desc).map (fun d => d.parameters.length) = some n) (hR : rm.frames + 1 ≤ R.frames ∧ 8 + (maxL + 11) + rm.locals ≤ R.locals) :
    vx_CSW R s args own index y bytes maxL ret hh ws rm mc ms n := by
  have ok : ∀ w ∈ va_wsS own index y ws, w.before args s = true := fun w h => ht w (hT w h).1
  have hG : GoodIn Ts ws := fun w h => hT w (by unfold va_wsS; exact List.mem_append_right _ h)
  have hc : Cond.codeWith y bytes maxL ret hh ∈ ws := by rw [hw]; exact List.mem_cons_self
  refine ⟨⟨hrc, hrs, hR.1, hR.2, pay_in ht hG, hc⟩, ht _ (hG _ hc).1, ok _ (by simp [va_wsS]), ⟨hd.1, hd.2.1⟩, fun sig h => ?_, ok _ (by simp [va_wsS]), ok _ (by simp [va_wsS])⟩
  have h2 := hd.2.2
  rw [h] at h2
  exact (Option.some.inj h2).symm
theorem vx_callSW (X : Stand p l e R s m args below meth c T locs cells slots) (hexec : p.tables.exec = Jvm.exec) {own : String} {index : Nat} {y : MethodName} {bytes : ByteArray} {maxL : Nat} {ret : Option FieldType} {hh : List (Nat × Nat × Nat × Nat)}
    (hown : s.vm.findClass own = some m.cls) (hlink : (Cond.methodLink own index y).before args s = true) (hstat : (Cond.static y).before args s = true) (hinit : (Cond.initialized y.cls).before args s = true)
    (hcode : (Cond.codeWith y bytes maxL ret hh).before args s = true) (hy : y.cls ≠ "java/lang/invoke/MethodHandle" ∧ y.cls ≠ "java/lang/invoke/VarHandle")
    {W9 : Nat} {Pre : Pt → Array Value → Prop} {Post : Pt → Array Value → Option Value → Pt → Prop} (hK : Back l R p e below s args y 3 W9 Pre Post)
    {g : JFrame} (hg : g.method = m) (hsize : g.locals.size = c.maxLocals) {argsL rest : List Value} (hlen : ∀ sig, parseMethodDescriptor y.desc = some sig → argsL.length = sig.parameters.length)
    (hstack : g.stack = argsL.reverse ++ rest) (hW : 2 * g.monitorRoom + (rest.map fun v => v.category).sum ≤ W9) (hdg : decode c.code g.pc = .ok (.invokestatic index, 3))
    (hpre : ∀ vm₁, s.WarmedH vm₁ → Pre ⟨T.setVm vm₁, locs, cells, slots⟩ argsL.toArray) :
    ∃ (v : Option Value) (vm₁ : Vm) (B : Pt), s.WarmedH vm₁ ∧ Stand p l e R s m args below meth c B.U B.locs B.cells B.slots ∧ Post ⟨T.setVm vm₁, locs, cells, slots⟩ argsL.toArray v B ∧
      ∀ target, Steps p.tables e below (B.U.setTop { g with pc := g.pc + 3, stack := v.toList ++ rest }) target → Steps p.tables e below (T.setTop g) target := by
  obtain ⟨mk, methM, cM, hnamed, hmethM, -, -, -, -, -, -, hsigM⟩ := Cond.codeWith_spec hcode
  have hstatic : methM.isStatic = true := Cond.static_spec hnamed hmethM hstat
  obtain ⟨kP, hkP, -⟩ := className_of_methodNamed hnamed
  have hinitP : kP.init = .initialized := Cond.initialized_spec (findClass_of_methodNamed hnamed) hkP hinit
  obtain ⟨vm₁, X₁, hstep₁⟩ := X.invokestatic hexec hown hlink hnamed hmethM hstatic hkP hinitP hy (g := g) hg (argsL := argsL) (rest := rest) (hlen _ hsigM) hstack hdg
  obtain ⟨v, B, X', hpost, hsteps⟩ := hK m meth c ⟨T.setVm vm₁, locs, cells, slots⟩ { g with stack := rest } (.invokestatic index) mk argsL.toArray X₁ hg hsize hdg hW (X₁.named hnamed) (hpre vm₁ X₁.warmed)
  exact ⟨v, vm₁, B, X₁.warmed, X', hpost, fun target h => hstep₁ _ fun acts => by rw [doInvoke_state]; exact hsteps.trans h⟩
theorem vx_runSW {y : MethodName} {bytes cc : ByteArray} {maxL nL mc ms n index : Nat} {ret : Option FieldType} {hh : List (Nat × Nat × Nat × Nat)} {ws : List Cond} {rm : Room} {Pc : Array Value → State → Prop} {Qc : Array Value → State → Outcome → State → Prop} {free : Addr → Prop} {Ts : List Cond} {own : String} {As rest : List Value} {g : JFrame}
    (S : CallFix p m c cc nL s args Ts own) (hM : Met l y ws rm Pc Qc mc ms free) (cw : vx_CSW R s args own index y bytes maxL ret hh ws rm mc ms n) (hp : PreS s H Pc As)
    (hg : g.method = m) (hn : As.length = n) (hsize : g.locals.size = nL) (hstack : g.stack = As.reverse ++ rest) (hW : 2 * g.monitorRoom + (rest.map fun v => v.category).sum ≤ 8) (hdg : decode cc g.pc = .ok (.invokestatic index, 3)) (hf : cells + mc ≤ R.cells ∧ slots + ms ≤ R.slots) :
    va_Run p l e R s m args below meth c H locs cells slots mc ms g rest (Qc As.toArray) (free) := by
  obtain ⟨⟨hrc, hrs, hfr, hlo, hws, hcw⟩, hcode, hini, hy, hlen, hl, hstt⟩ := cw
  have hK : Back l R p e below s args y 3 8 (PreOf R mc ms Pc) (PostOf Qc mc ms free) := va_backW (hh := hh) (bytes := bytes) (maxL := maxL) (ret := ret) hM hp.1 hrc hrs hfr hlo hws hcw (fun a' U hW => word_at hW (Or.inl (by first | rfl | simp [Cond.onTables, Cond.keeps, Cond.steady])) hini)
  obtain ⟨hx, hb, hml, ho, -⟩ := S
  intro T hT X
  obtain ⟨v, vm₁, ⟨U', l2, c2, s2⟩, hW₁, X', ⟨g', mk, t, L, e1, e2, hq, h1, hL, h2, h3⟩, st⟩ := vx_callSW X hx (hh := hh) (bytes := bytes) (maxL := maxL) (ret := ret) ho hl hstt hini hcode hy hK hg (hsize.trans hml.symm) (argsL := As) (rest := rest) (fun sig h => hn.trans (hlen sig h)) hstack hW (by rw [hb]; exact hdg)
    (fun vm₁ hW₁ => ⟨hf.1, hf.2, hp.2 (T.setVm vm₁) hT hW₁⟩)
  dsimp only [Pt.U, Pt.locs, Pt.cells, Pt.slots] at X' e1 e2 h1 h2 h3 st
  subst h1; subst h2; subst h3
  exact ⟨v, (T.setVm vm₁).calling g' mk As.toArray, t, U', L, hT, X', hL, e1, e2, hq, st⟩
/-- not caught here, past rows that name other classes: it goes on to the caller -/
theorem vx_outP {p : Program} {l : Launch} {e : Env} {R : Room} {s : State} {m : MethodId} {args : Array Value} {below : List Frame} {meth : Method} {c : Code} {H : Heap} {locs : List Loc} {cells slots : Nat} {free : Addr → Prop} {ls : Array Slot} {rest : List Value} {Qc : Array Value → State → Outcome → State → Prop} {XC : String → State → State → Prop}
    {pc : Nat} {own E : String} {ce : Cell} {q : Addr} {mc ms : Nat} (hown : s.vm.findClass own = some m.cls) (hlocks : meth.locks = false)
    (hpass : ∀ z ∈ c.exceptionTable.toList, covers z pc = false ∨ (z.catchType ≠ 0 ∧ ∃ nm : String, (Cond.classLink own z.catchType nm).before args s = true ∧ va_Nc E nm s)) (hcell : H[q]? = some ce) (hv : ce.vm = .none) (hcl : s.vm.findClass E = some ce.cls)
    (hx : ∀ t : State, t.heap = H → s.vm.Alike t.vm → XC E s t) (hf : ∀ z ∈ locs, free z.base) (hc : cells ≤ mc) (hs : slots ≤ ms) :
    vx_W p l e R s m args below meth c H locs cells slots (vx_MQ below Qc XC args s mc ms free) (F0 m pc ls rest) q := by
  intro T hT X
  have hpl : e.platform.magicAccessors = ({} : Platform).magicAccessors := by rw [X.admits.platform]
  obtain ⟨vm', hW', X', st⟩ := X.outThrough hlocks q (g := F0 m pc ls rest) rfl rfl rfl (cell := ce) (by rw [hT]; exact hcell) (by rw [hv]; rfl)
    (by obtain ⟨k9, h9, -⟩ := Vm.findClass_spec hcl; exact ⟨k9, h9⟩) (fun z hz => by
      rcases hpass z hz with h | ⟨hz0, nm, hl1, hn1⟩
      · exact Or.inl h
      · obtain ⟨c6, hc6, hcl6⟩ := Cond.classLink_spec hown hl1 e.platform hpl
        obtain ⟨a8, b8, h1, h2, h3⟩ := hn1
        cases Option.some.inj (h1.symm.trans hcl)
        cases Option.some.inj (h2.symm.trans hc6)
        exact Or.inr ⟨hz0, _, hcl6, h3⟩)
  obtain ⟨g₀, hfr⟩ := X'.frames_eq
  have hcell9 : ((T.setVm vm').setFrames (.throwing q :: below)).heap[q]? = some ce := by
    show T.heap[q]? = some ce
    rw [hT]; exact hcell
  have hend : Ended ((T.setVm vm').setFrames (.throwing q :: below)) below (.threw q) := State.frames_setFrames _ (State.cur_lt_of_frames hfr)
  refine ⟨(T.setVm vm').setFrames (.throwing q :: below), ?_, .threw q, X'.here.running, hend, Or.inr ⟨q, rfl, E, ce, locs, hx _ hT (X'.ends _).1.alike, hcell9, hv, hcl, (X'.ends _).1, (X'.ends _).2.mono hc hs, hf⟩⟩
  rw [X.pushThrowing_eq]
  exact st
/-- a thing of a world lies in the heap -/
theorem vx_lt {D : va_G} {cl : List vw_C} {ws : va_W} {H1 : Heap} (h : va_P D cl ws H1) {k : Nat} {q : Nat × va_E} (hk : ws[k]? = some q) : q.1 < H1.size := (h k q hk).lt
end VXS
/-! ===== END ===== -/
/-! ===== BEGIN methods with a table of their own: called by a name, returning or throwing ===== -/
section VXH
/-! vx_backW, vx_callVX, vx_callSX, vx_callVW, vx_runVW, vx_runVX, vx_runSX, vx_ofWH follow the same proofs as their sisters above (Free/Laws.lean, Shelf42/LK1.lean); vx_outP calls Shelf42/NT130.lean (outThrough). -/
section
variable {l : Launch} {R : Room} {p : Program} {e : Env} {below : List Frame} {s : State} {sargs : Array Value} {y : MethodName} {len W9 : Nat}
theorem vx_backW {ws : List Cond} {rm : Room} {Pc : Array Value → State → Prop} {Qc : Array Value → State → Outcome → State → Prop} {XC : String → State → State → Prop} {mc ms : Nat} {free : Addr → Prop} {bytes : ByteArray} {maxL : Nat} {ret : Option FieldType} {hh : List (Nat × Nat × Nat × Nat)}
    (hM : vx_Met l y ws rm Pc Qc XC mc ms free) (hblind : FrameBlind Pc) (hrc : rm.cells = mc) (hrs : rm.slots = ms)
    (hframes : rm.frames + 1 ≤ R.frames) (hlocals : W9 + (maxL + 11) + rm.locals ≤ R.locals)
    (hws : ∀ w ∈ ws, ∀ a' U, s.WarmedH U.vm → w.before a' U = true) (hcode : Cond.codeWith y bytes maxL ret hh ∈ ws) (hinit : ∀ a' U, s.WarmedH U.vm → (Cond.initialized y.cls).before a' U = true) :
    vx_Back l R p e below s sargs y len W9 (PreOf R mc ms Pc) (PostOf Qc mc ms free) (vx_Post XC mc ms free) := by
  intro m meth c A g ig mk a X hg hsize hdg hW hn hp
  have h1 : (headSpec ws rm).pre.before a A.U = true := atoms_intro fun w hw => hws w hw _ _ X.warmed
  have h2 : (Cond.codeWith y bytes maxL ret hh).before a A.U = true := hws _ hcode _ _ X.warmed
  have h3 : (Cond.initialized y.cls).before a A.U = true := hinit _ _ X.warmed
  have h4 : A.cells + (headSpec ws rm).room.cells ≤ R.cells := by rw [show (headSpec ws rm).room.cells = mc from hrc]; exact hp.1
  have h5 : A.slots + (headSpec ws rm).room.slots ≤ R.slots := by rw [show (headSpec ws rm).room.slots = ms from hrs]; exact hp.2.1
  have hPc : Pc a (A.U.calling g mk a) := hblind _ _ _ _ hp.2.2
  obtain ⟨U, Ls, c0, s0⟩ := A
  dsimp only [Pt.U, Pt.locs, Pt.cells, Pt.slots] at h1 h2 h3 h4 h5 X hn hPc ⊢
  obtain ⟨m9, methY, cY, hn9, hmY, hcY, -, hlY, -⟩ := Cond.codeWith_spec h2
  cases Option.some.inj (hn9.symm.trans hn)
  obtain ⟨kY, hkY, -⟩ := className_of_methodNamed hn
  have hinitY : kY.init = .initialized := Cond.initialized_spec (findClass_of_methodNamed hn) hkY h3
  have h : At U g.method c below := by rw [hg]; exact X.here
  have hlocals9 : W9 + (maxL + 11) + (headSpec ws rm).room.locals ≤ R.locals := hlocals
  have happ : (headSpec ws rm).appliesLoose y e.platform (U.calling g mk a) = true :=
    Spec.appliesLoose_calling (g := g) h hdg hn hkY hinitY
      (X.room_calling (g := g) (R' := (headSpec ws rm).room) hsize hmY hcY hframes (by rw [hlY]; omega) h4 h5) h1
  obtain ⟨mid, hmid⟩ := h.above
  have hfr : (U.setTop g).frames = (.java g :: mid) ++ below := by rw [State.frames_setTop' g h.top, hmid]; rfl
  obtain ⟨o, s₂, hsteps, -, hend, hq⟩ := Steps.callFree hM p X.admits X.cas X.clock (acts := []) hfr happ hPc trivial
  have hq' : vx_Q Qc XC mc ms free a (U.calling g mk a) o s₂ := hq
  rw [State.frames_setTop' g h.top] at hend
  obtain ⟨g₀, hg0⟩ := Option.isSome_iff_exists.mp h.top
  obtain ⟨r, hr⟩ := State.topJava?_eq_some.mp hg0
  have hr' : (({ U with heap := s₂.heap, slotsUsed := s₂.slotsUsed } : State).setVm s₂.vm).frames = .java g₀ :: r := hr
  rcases hq' with ⟨hqc, L, hfe, hL⟩ | ⟨q, rfl, E, ce, L, hx, hce, hcv, hcl, hW₂, hsm, hL⟩
  · obtain ⟨⟨v, rfl⟩, hW₂, e2, q2, q3, q4, q5, q6⟩ := id hfe
    have e3 : s₂ = ({ (U.calling g mk a).setFrames s₂.frames with heap := s₂.heap, slotsUsed := s₂.slotsUsed } : State).setVm s₂.vm := by
      have : s₂ = ({ s₂ with vm := (U.calling g mk a).vm } : State).setVm s₂.vm := rfl
      rw [e2] at this
      exact this
    obtain ⟨c₂, i₂, len₂, hc₂, hd₂, hf₂⟩ := hend
    have hW' : U.WarmedH s₂.vm := hW₂
    have hcc : c₂ = c := by
      have h1 : s₂.code? g.method = U.code? g.method := by
        rw [State.code?_eq, State.code?_eq, hW'.alike.method?]
      exact Option.some.inj (hc₂.symm.trans (h1.trans h.code))
    subst hcc
    have hlen : len₂ = len := by rw [hdg] at hd₂; cases hd₂; rfl
    subst hlen
    have hs₂ : s₂ = (({ U with heap := s₂.heap, slotsUsed := s₂.slotsUsed } : State).setVm s₂.vm).setTop { g with pc := g.pc + len₂, stack := v.toList ++ g.stack } := by
      refine e3.trans ?_
      rw [hf₂, State.calling_eq h.top, State.setFrames_setFrames, State.setTop_of_frames _ hr', hr]
      rfl
    have hsame : U.sameButNew ({ U with heap := s₂.heap, slotsUsed := s₂.slotsUsed } : State) L mc ms := by
      refine ⟨?_, q2, q3, q4, q5, q6⟩
      obtain ⟨t, ht, -⟩ := State.frames_cons hr
      show ({ U with heap := s₂.heap, slotsUsed := s₂.slotsUsed } : State) = { U.setFrames U.frames with heap := s₂.heap, slotsUsed := s₂.slotsUsed }
      rw [State.setFrames_self ht]
    subst hg
    refine Or.inl ⟨v, ⟨(({ U with heap := s₂.heap, slotsUsed := s₂.slotsUsed } : State).setVm s₂.vm), Ls ++ L, c0 + mc, s0 + ms⟩,
      ⟨X.admits, X.cas, X.clock, X.frames, X.room, X.hears, X.method, X.code, (X.here.setHeapUsed s₂.heap s₂.slotsUsed).setVm hW'.alike, X.tail, State.WarmedH.trans X.warmed hW', X.limits, X.bytes, X.same.trans (hsame.setVm s.vm)⟩,
      ⟨g, mk, s₂, L, rfl, rfl, hqc, rfl, hL, rfl, rfl⟩, ?_⟩
    show Steps p.tables e below _ ((({ U with heap := s₂.heap, slotsUsed := s₂.slotsUsed } : State).setVm s₂.vm).setTop { g with pc := g.pc + len₂, stack := v.toList ++ g.stack })
    rw [← hs₂]
    exact hsteps
  · obtain ⟨e2, q2, q3, q4, q5, q6⟩ := id hsm
    have e3 : s₂ = ({ (U.calling g mk a).setFrames s₂.frames with heap := s₂.heap, slotsUsed := s₂.slotsUsed } : State).setVm s₂.vm := by
      have : s₂ = ({ s₂ with vm := (U.calling g mk a).vm } : State).setVm s₂.vm := rfl
      rw [e2] at this
      exact this
    have hf₂ : s₂.frames = .throwing q :: .java g :: U.frames.tail := hend
    have hW' : U.WarmedH s₂.vm := hW₂
    have hs₂ : s₂ = ((({ U with heap := s₂.heap, slotsUsed := s₂.slotsUsed } : State).setVm s₂.vm).setTop g).pushFrame (.throwing q) := by
      refine e3.trans ?_
      rw [hf₂, State.calling_eq h.top, State.setFrames_setFrames, State.pushFrame, State.frames_setTop _ hr', State.setTop_of_frames _ hr', State.setFrames_setFrames, hr]
      rfl
    have hsame : U.sameButNew ({ U with heap := s₂.heap, slotsUsed := s₂.slotsUsed } : State) L mc ms := by
      refine ⟨?_, q2, q3, q4, q5, q6⟩
      obtain ⟨t, ht, -⟩ := State.frames_cons hr
      show ({ U with heap := s₂.heap, slotsUsed := s₂.slotsUsed } : State) = { U.setFrames U.frames with heap := s₂.heap, slotsUsed := s₂.slotsUsed }
      rw [State.setFrames_self ht]
    subst hg
    refine Or.inr ⟨q, ⟨(({ U with heap := s₂.heap, slotsUsed := s₂.slotsUsed } : State).setVm s₂.vm), Ls ++ L, c0 + mc, s0 + ms⟩,
      ⟨X.admits, X.cas, X.clock, X.frames, X.room, X.hears, X.method, X.code, (X.here.setHeapUsed s₂.heap s₂.slotsUsed).setVm hW'.alike, X.tail, State.WarmedH.trans X.warmed hW', X.limits, X.bytes, X.same.trans (hsame.setVm s.vm)⟩,
      ⟨g, mk, s₂, L, E, ce, rfl, rfl, hx, hce, hcv, hcl, rfl, hL, rfl, rfl⟩, ?_⟩
    show Steps p.tables e below _ (((({ U with heap := s₂.heap, slotsUsed := s₂.slotsUsed } : State).setVm s₂.vm).setTop g).pushFrame (.throwing q))
    rw [← hs₂]
    exact hsteps
end
variable {p : Program} {l : Launch} {e : Env} {R : Room} {s : State} {m : MethodId} {args : Array Value} {below : List Frame} {meth : Method} {c : Code} {T : State} {H : Heap} {locs : List Loc} {cells slots : Nat}
theorem vx_callVX (X : Stand p l e R s m args below meth c T locs cells slots) (hexec : p.tables.exec = Jvm.exec) {own C : String} {index : Nat} {y : MethodName} {bytes : ByteArray} {maxL : Nat} {ret : Option FieldType} {hh : List (Nat × Nat × Nat × Nat)}
    (hown : s.vm.findClass own = some m.cls) (hlink : (Cond.methodLink own index y).before args s = true) (hinst : (Cond.instanceMethod y).before args s = true) (hsel : (Cond.selects C y y).before args s = true)
    (hcode : (Cond.codeWith y bytes maxL ret hh).before args s = true) (hy : y.cls ≠ "java/lang/invoke/MethodHandle" ∧ y.cls ≠ "java/lang/invoke/VarHandle")
    {W9 : Nat} {Pre : Pt → Array Value → Prop} {Post : Pt → Array Value → Option Value → Pt → Prop} {PostX : Pt → Array Value → Addr → Pt → Prop} (hK : vx_Back l R p e below s args y 3 W9 Pre Post PostX)
    {b : Addr} {cellB : Cell} (hcell : T.heap[b]? = some cellB) (hobj : cellB.vm.isStatics = false) (hcls : s.vm.findClass C = some cellB.cls)
    {g : JFrame} (hg : g.method = m) (hsize : g.locals.size = c.maxLocals) {argsL rest : List Value} (hlen : ∀ sig, parseMethodDescriptor y.desc = some sig → argsL.length = sig.parameters.length)
    (hstack : g.stack = argsL.reverse ++ .ref b :: rest) (hW : 2 * g.monitorRoom + (rest.map fun v => v.category).sum ≤ W9) (hdg : decode c.code g.pc = .ok (.invokevirtual index, 3))
    (hpre : ∀ vm₁, s.WarmedH vm₁ → Pre ⟨T.setVm vm₁, locs, cells, slots⟩ (Value.ref b :: argsL).toArray) :
    (∃ (v : Option Value) (vm₁ : Vm) (B : Pt), s.WarmedH vm₁ ∧ Stand p l e R s m args below meth c B.U B.locs B.cells B.slots ∧ Post ⟨T.setVm vm₁, locs, cells, slots⟩ (Value.ref b :: argsL).toArray v B ∧
      ∀ target, Steps p.tables e below (B.U.setTop { g with pc := g.pc + 3, stack := v.toList ++ rest }) target → Steps p.tables e below (T.setTop g) target) ∨
    (∃ (q : Addr) (vm₁ : Vm) (B : Pt), s.WarmedH vm₁ ∧ Stand p l e R s m args below meth c B.U B.locs B.cells B.slots ∧ PostX ⟨T.setVm vm₁, locs, cells, slots⟩ (Value.ref b :: argsL).toArray q B ∧
      Steps p.tables e below (T.setTop g) ((B.U.setTop { g with stack := rest }).pushFrame (.throwing q))) := by
  obtain ⟨mk, methM, hnamed, hmethM, hstM, habM⟩ := Cond.instanceMethod_spec hinst
  obtain ⟨m8, methM', cM, hn8, hmethM', -, -, -, -, -, -, hsigM⟩ := Cond.codeWith_spec hcode
  cases Option.some.inj (hn8.symm.trans hnamed)
  cases hmethM.symm.trans hmethM'
  obtain ⟨c2, r2, m2, q1, q2, q3, q4, kP, hkP, hkPi⟩ := Cond.selects_spec hsel
  cases hcls.symm.trans q1
  cases (State.methodFound?_of_named hnamed hy).symm.trans q2
  cases hnamed.symm.trans q3
  have hselP : selectMethod e.platform s.vm cellB.cls mk = .method mk := by rw [Launch.admits_selectMethod X.admits]; exact q4
  obtain ⟨vm₁, X₁, hstep₁⟩ := X.invokevirtual hexec hown hlink hnamed hmethM hstM hkP hkPi hy (a := b) (cell := cellB) hcell
    (fun z h => by rw [h] at hobj; cases hobj) hselP hmethM habM hkP hkPi (g := g) hg (argsL := argsL) (rest := rest) (hlen _ hsigM) hstack hdg
  rcases hK m meth c ⟨T.setVm vm₁, locs, cells, slots⟩ { g with stack := rest } (.invokevirtual index) mk (Value.ref b :: argsL).toArray X₁ hg hsize hdg hW (X₁.named hnamed) (hpre vm₁ X₁.warmed) with ⟨v, B, X', hpost, hsteps⟩ | ⟨q, B, X', hpost, hsteps⟩
  · exact Or.inl ⟨v, vm₁, B, X₁.warmed, X', hpost, fun target h => hstep₁ _ fun acts => by rw [doInvoke_state]; exact hsteps.trans h⟩
  · exact Or.inr ⟨q, vm₁, B, X₁.warmed, X', hpost, hstep₁ _ fun acts => by rw [doInvoke_state]; exact hsteps⟩
theorem vx_callSX (X : Stand p l e R s m args below meth c T locs cells slots) (hexec : p.tables.exec = Jvm.exec) {own : String} {index : Nat} {y : MethodName} {bytes : ByteArray} {maxL : Nat} {ret : Option FieldType} {hh : List (Nat × Nat × Nat × Nat)}
    (hown : s.vm.findClass own = some m.cls) (hlink : (Cond.methodLink own index y).before args s = true) (hstat : (Cond.static y).before args s = true) (hinit : (Cond.initialized y.cls).before args s = true)
    (hcode : (Cond.codeWith y bytes maxL ret hh).before args s = true) (hy : y.cls ≠ "java/lang/invoke/MethodHandle" ∧ y.cls ≠ "java/lang/invoke/VarHandle")
    {W9 : Nat} {Pre : Pt → Array Value → Prop} {Post : Pt → Array Value → Option Value → Pt → Prop} {PostX : Pt → Array Value → Addr → Pt → Prop} (hK : vx_Back l R p e below s args y 3 W9 Pre Post PostX)
    {g : JFrame} (hg : g.method = m) (hsize : g.locals.size = c.maxLocals) {argsL rest : List Value} (hlen : ∀ sig, parseMethodDescriptor y.desc = some sig → argsL.length = sig.parameters.length)
    (hstack : g.stack = argsL.reverse ++ rest) (hW : 2 * g.monitorRoom + (rest.map fun v => v.category).sum ≤ W9) (hdg : decode c.code g.pc = .ok (.invokestatic index, 3))
    (hpre : ∀ vm₁, s.WarmedH vm₁ → Pre ⟨T.setVm vm₁, locs, cells, slots⟩ argsL.toArray) :
    (∃ (v : Option Value) (vm₁ : Vm) (B : Pt), s.WarmedH vm₁ ∧ Stand p l e R s m args below meth c B.U B.locs B.cells B.slots ∧ Post ⟨T.setVm vm₁, locs, cells, slots⟩ argsL.toArray v B ∧
      ∀ target, Steps p.tables e below (B.U.setTop { g with pc := g.pc + 3, stack := v.toList ++ rest }) target → Steps p.tables e below (T.setTop g) target) ∨
    (∃ (q : Addr) (vm₁ : Vm) (B : Pt), s.WarmedH vm₁ ∧ Stand p l e R s m args below meth c B.U B.locs B.cells B.slots ∧ PostX ⟨T.setVm vm₁, locs, cells, slots⟩ argsL.toArray q B ∧
      Steps p.tables e below (T.setTop g) ((B.U.setTop { g with stack := rest }).pushFrame (.throwing q))) := by
  obtain ⟨mk, methM, cM, hnamed, hmethM, -, -, -, -, -, -, hsigM⟩ := Cond.codeWith_spec hcode
  have hstatic : methM.isStatic = true := Cond.static_spec hnamed hmethM hstat
  obtain ⟨kP, hkP, -⟩ := className_of_methodNamed hnamed
  have hinitP : kP.init = .initialized := Cond.initialized_spec (findClass_of_methodNamed hnamed) hkP hinit
  obtain ⟨vm₁, X₁, hstep₁⟩ := X.invokestatic hexec hown hlink hnamed hmethM hstatic hkP hinitP hy (g := g) hg (argsL := argsL) (rest := rest) (hlen _ hsigM) hstack hdg
  rcases hK m meth c ⟨T.setVm vm₁, locs, cells, slots⟩ { g with stack := rest } (.invokestatic index) mk argsL.toArray X₁ hg hsize hdg hW (X₁.named hnamed) (hpre vm₁ X₁.warmed) with ⟨v, B, X', hpost, hsteps⟩ | ⟨q, B, X', hpost, hsteps⟩
  · exact Or.inl ⟨v, vm₁, B, X₁.warmed, X', hpost, fun target h => hstep₁ _ fun acts => by rw [doInvoke_state]; exact hsteps.trans h⟩
  · exact Or.inr ⟨q, vm₁, B, X₁.warmed, X', hpost, hstep₁ _ fun acts => by rw [doInvoke_state]; exact hsteps⟩
theorem vx_callVW (X : Stand p l e R s m args below meth c T locs cells slots) (hexec : p.tables.exec = Jvm.exec) {own C : String} {index : Nat} {y : MethodName} {bytes : ByteArray} {maxL : Nat} {ret : Option FieldType} {hh : List (Nat × Nat × Nat × Nat)}
    (hown : s.vm.findClass own = some m.cls) (hlink : (Cond.methodLink own index y).before args s = true) (hinst : (Cond.instanceMethod y).before args s = true) (hsel : (Cond.selects C y y).before args s = true)
    (hcode : (Cond.codeWith y bytes maxL ret hh).before args s = true) (hy : y.cls ≠ "java/lang/invoke/MethodHandle" ∧ y.cls ≠ "java/lang/invoke/VarHandle")
    {W9 : Nat} {Pre : Pt → Array Value → Prop} {Post : Pt → Array Value → Option Value → Pt → Prop} (hK : Back l R p e below s args y 3 W9 Pre Post)
    {b : Addr} {cellB : Cell} (hcell : T.heap[b]? = some cellB) (hobj : cellB.vm.isStatics = false) (hcls : s.vm.findClass C = some cellB.cls)
    {g : JFrame} (hg : g.method = m) (hsize : g.locals.size = c.maxLocals) {argsL rest : List Value} (hlen : ∀ sig, parseMethodDescriptor y.desc = some sig → argsL.length = sig.parameters.length)
    (hstack : g.stack = argsL.reverse ++ .ref b :: rest) (hW : 2 * g.monitorRoom + (rest.map fun v => v.category).sum ≤ W9) (hdg : decode c.code g.pc = .ok (.invokevirtual index, 3))
    (hpre : ∀ vm₁, s.WarmedH vm₁ → Pre ⟨T.setVm vm₁, locs, cells, slots⟩ (Value.ref b :: argsL).toArray) :
    ∃ (v : Option Value) (vm₁ : Vm) (B : Pt), s.WarmedH vm₁ ∧ Stand p l e R s m args below meth c B.U B.locs B.cells B.slots ∧ Post ⟨T.setVm vm₁, locs, cells, slots⟩ (Value.ref b :: argsL).toArray v B ∧
      ∀ target, Steps p.tables e below (B.U.setTop { g with pc := g.pc + 3, stack := v.toList ++ rest }) target → Steps p.tables e below (T.setTop g) target := by
  obtain ⟨mk, methM, hnamed, hmethM, hstM, habM⟩ := Cond.instanceMethod_spec hinst
  obtain ⟨m8, methM', cM, hn8, hmethM', -, -, -, -, -, -, hsigM⟩ := Cond.codeWith_spec hcode
  cases Option.some.inj (hn8.symm.trans hnamed)
  cases hmethM.symm.trans hmethM'
  obtain ⟨c2, r2, m2, q1, q2, q3, q4, kP, hkP, hkPi⟩ := Cond.selects_spec hsel
  cases hcls.symm.trans q1
  cases (State.methodFound?_of_named hnamed hy).symm.trans q2
  cases hnamed.symm.trans q3
  have hselP : selectMethod e.platform s.vm cellB.cls mk = .method mk := by rw [Launch.admits_selectMethod X.admits]; exact q4
  obtain ⟨vm₁, X₁, hstep₁⟩ := X.invokevirtual hexec hown hlink hnamed hmethM hstM hkP hkPi hy (a := b) (cell := cellB) hcell
    (fun z h => by rw [h] at hobj; cases hobj) hselP hmethM habM hkP hkPi (g := g) hg (argsL := argsL) (rest := rest) (hlen _ hsigM) hstack hdg
  obtain ⟨v, B, X', hpost, hsteps⟩ := hK m meth c ⟨T.setVm vm₁, locs, cells, slots⟩ { g with stack := rest } (.invokevirtual index) mk (Value.ref b :: argsL).toArray X₁ hg hsize hdg hW (X₁.named hnamed) (hpre vm₁ X₁.warmed)
  exact ⟨v, vm₁, B, X₁.warmed, X', hpost, fun target h => hstep₁ _ fun acts => by rw [doInvoke_state]; exact hsteps.trans h⟩
abbrev vx_CVW (R : Room) (s : State) (args : Array Value) (own C : String) (index : Nat) (y : MethodName) (bytes : ByteArray) (maxL : Nat) (ret : Option FieldType) (hh : List (Nat × Nat × Nat × Nat)) (ws : List Cond) (rm : Room) (mc ms n : Nat) : Prop :=
  (rm.cells = mc ∧ rm.slots = ms ∧ rm.frames + 1 ≤ R.frames ∧ 8 + (maxL + 11) + rm.locals ≤ R.locals ∧ (∀ w ∈ ws, ∀ (a' : Array Value) (U : State), s.WarmedH U.vm → w.before a' U = true) ∧ Cond.codeWith y bytes maxL ret hh ∈ ws) ∧
  (Cond.codeWith y bytes maxL ret hh).before args s = true ∧ (Cond.initialized y.cls).before args s = true ∧ (y.cls ≠ "java/lang/invoke/MethodHandle" ∧ y.cls ≠ "java/lang/invoke/VarHandle") ∧
  (∀ sig, parseMethodDescriptor y.desc = some sig → n = sig.parameters.length) ∧ (Cond.methodLink own index y).before args s = true ∧ (Cond.instanceMethod y).before args s = true ∧ (Cond.selects C y y).before args s = true
theorem vx_cwVW {own C : String} {index maxL mc ms : Nat} {y : MethodName} {bytes : ByteArray} {ret : Option FieldType} {hh : List (Nat × Nat × Nat × Nat)} {Ts ws ws' : List Cond} {rm : Room} (n : Nat) (ht : ∀ w ∈ Ts, w.before args s = true) (hT : GoodIn Ts (wsV own index C y ws)) (hw : ws = Cond.codeWith y bytes maxL ret hh :: ws') (hrc : rm.cells = mc) (hrs : rm.slots = ms)
    (hd : y.cls = C ∧ y.cls ≠ "java/lang/invoke/MethodHandle" ∧ y.cls ≠ "java/lang/invoke/VarHandle" ∧ (parseMethodDescriptor y.desc).map (fun d => d.parameters.length) = some n) (hR : rm.frames + 1 ≤ R.frames ∧ 8 + (maxL + 11) + rm.locals ≤ R.locals) :
    vx_CVW R s args own C index y bytes maxL ret hh ws rm mc ms n := by
  obtain ⟨hC, hd⟩ := hd
  subst hC
  have ok : ∀ w ∈ wsV own index y.cls y ws, w.before args s = true := fun w h => ht w (hT w h).1
  have hG : GoodIn Ts ws := fun w h => hT w (by unfold wsV; exact List.mem_append_right _ h)
  have hc : Cond.codeWith y bytes maxL ret hh ∈ ws := by rw [hw]; exact List.mem_cons_self
  refine ⟨⟨hrc, hrs, hR.1, hR.2, pay_in ht hG, hc⟩, ht _ (hG _ hc).1, ok _ (by simp [wsV]), ⟨hd.1, hd.2.1⟩, fun sig h => ?_, ok _ (by simp [wsV]), ok _ (by simp [wsV]), ok _ (by simp [wsV])⟩
  have h2 := hd.2.2
  rw [h] at h2
  exact (Option.some.inj h2).symm
theorem vx_runVW {y : MethodName} {bytes cc : ByteArray} {maxL nL mc ms n index : Nat} {ret : Option FieldType} {hh : List (Nat × Nat × Nat × Nat)} {ws : List Cond} {rm : Room} {Pc : Array Value → State → Prop} {Qc : Array Value → State → Outcome → State → Prop} {free : Addr → Prop} {Ts : List Cond} {own C : String} {b : Addr} {As rest : List Value} {g : JFrame}
    (S : CallFix p m c cc nL s args Ts own) (hM : Met l y ws rm Pc Qc mc ms free) (cw : vx_CVW R s args own C index y bytes maxL ret hh ws rm mc ms n) (hp : PreV s H C b Pc As)
    (hg : g.method = m) (hn : As.length = n) (hsize : g.locals.size = nL) (hstack : g.stack = As.reverse ++ .ref b :: rest) (hW : 2 * g.monitorRoom + (rest.map fun v => v.category).sum ≤ 8) (hdg : decode cc g.pc = .ok (.invokevirtual index, 3)) (hf : cells + mc ≤ R.cells ∧ slots + ms ≤ R.slots) :
    va_Run p l e R s m args below meth c H locs cells slots mc ms g rest (Qc (Value.ref b :: As).toArray) free := by
  obtain ⟨⟨hrc, hrs, hfr, hlo, hws, hcw⟩, hcode, hini, hy, hlen, hl, hin, hse⟩ := cw
  have hK : Back l R p e below s args y 3 8 (PreOf R mc ms Pc) (PostOf Qc mc ms free) := va_backW (hh := hh) (bytes := bytes) (maxL := maxL) (ret := ret) hM hp.1 hrc hrs hfr hlo hws hcw (fun a' U hW => word_at hW (Or.inl (by first | rfl | simp [Cond.onTables, Cond.keeps, Cond.steady])) hini)
  obtain ⟨hx, hb, hml, ho, -⟩ := S
  obtain ⟨-, ⟨cellB, hcB, hoB, hclB⟩, hPc⟩ := hp
  intro T hT X
  obtain ⟨v, vm₁, ⟨U', l2, c2, s2⟩, hW₁, X', ⟨g', mk, t, L, e1, e2, hq, h1, hL, h2, h3⟩, st⟩ := vx_callVW X hx (C := C) (hh := hh) (bytes := bytes) (maxL := maxL) (ret := ret) ho hl hin hse hcode hy hK (by rw [hT]; exact hcB) hoB hclB hg (hsize.trans hml.symm) (argsL := As) (rest := rest) (fun sig h => hn.trans (hlen sig h)) hstack hW (by rw [hb]; exact hdg)
    (fun vm₁ hW₁ => ⟨hf.1, hf.2, hPc (T.setVm vm₁) hT hW₁⟩)
  dsimp only [Pt.U, Pt.locs, Pt.cells, Pt.slots] at X' e1 e2 h1 h2 h3 st
  subst h1; subst h2; subst h3
  exact ⟨v, (T.setVm vm₁).calling g' mk (Value.ref b :: As).toArray, t, U', L, hT, X', hL, e1, e2, hq, st⟩
section
variable {y : MethodName} {bytes cc : ByteArray} {maxL nL mc ms n index : Nat} {ret : Option FieldType} {ws : List Cond} {rm : Room} {Pc : Array Value → State → Prop} {Qc : Array Value → State → Outcome → State → Prop} {XC : String → State → State → Prop} {free : Addr → Prop} {Ts : List Cond} {own C : String} {b : Addr} {As rest : List Value} {g : JFrame}
theorem vx_runVX {hh : List (Nat × Nat × Nat × Nat)} (S : CallFix p m c cc nL s args Ts own) (hM : vx_Met l y ws rm Pc Qc XC mc ms free) (cw : vx_CVW R s args own C index y bytes maxL ret hh ws rm mc ms n) (hp : PreV s H C b Pc As)
    (hg : g.method = m) (hn : As.length = n) (hsize : g.locals.size = nL) (hstack : g.stack = As.reverse ++ .ref b :: rest) (hW : 2 * g.monitorRoom + (rest.map fun v => v.category).sum ≤ 8) (hdg : decode cc g.pc = .ok (.invokevirtual index, 3)) (hf : cells + mc ≤ R.cells ∧ slots + ms ≤ R.slots) :
    vx_Run p l e R s m args below meth c H locs cells slots mc ms g rest (Qc (Value.ref b :: As).toArray) XC free := by
  obtain ⟨⟨hrc, hrs, hfr, hlo, hws, hcw⟩, hcode, hini, hy, hlen, hl, hin, hse⟩ := cw
  have hK : vx_Back l R p e below s args y 3 8 (PreOf R mc ms Pc) (PostOf Qc mc ms free) (vx_Post XC mc ms free) := vx_backW (hh := hh) (bytes := bytes) (maxL := maxL) (ret := ret) hM hp.1 hrc hrs hfr hlo hws hcw (fun a' U hW => word_at hW (Or.inl (by first | rfl | simp [Cond.onTables, Cond.keeps, Cond.steady])) hini)
  obtain ⟨hx, hb, hml, ho, -⟩ := S
  obtain ⟨-, ⟨cellB, hcB, hoB, hclB⟩, hPc⟩ := hp
  intro T hT X
  rcases vx_callVX X hx (C := C) (hh := hh) (bytes := bytes) (maxL := maxL) (ret := ret) ho hl hin hse hcode hy hK (by rw [hT]; exact hcB) hoB hclB hg (hsize.trans hml.symm) (argsL := As) (rest := rest) (fun sig h => hn.trans (hlen sig h)) hstack hW (by rw [hb]; exact hdg)
    (fun vm₁ hW₁ => ⟨hf.1, hf.2, hPc (T.setVm vm₁) hT hW₁⟩) with ⟨v, vm₁, ⟨U', l2, c2, s2⟩, hW₁, X', ⟨g', mk, t, L, e1, e2, hq, h1, hL, h2, h3⟩, st⟩ | ⟨q, vm₁, ⟨U', l2, c2, s2⟩, hW₁, X', ⟨g', mk, t, L, E, ce, e1, e2, hq, hce, hcv, hcl, h1, hL, h2, h3⟩, st⟩
  · dsimp only [Pt.U, Pt.locs, Pt.cells, Pt.slots] at X' e1 e2 h1 h2 h3 st
    subst h1; subst h2; subst h3
    exact Or.inl ⟨v, (T.setVm vm₁).calling g' mk (Value.ref b :: As).toArray, t, U', L, hT, X', hL, e1, e2, hq, st⟩
  · dsimp only [Pt.U, Pt.locs, Pt.cells, Pt.slots] at X' e1 e2 h1 h2 h3 st hcl
    subst h1; subst h2; subst h3
    exact Or.inr ⟨q, (T.setVm vm₁).calling g' mk (Value.ref b :: As).toArray, t, U', L, E, ce, hT, X', hL, e1, e2, hq, hce, hcv, vx_cls hW₁ hcl, st⟩
theorem vx_runSX {hh : List (Nat × Nat × Nat × Nat)} (S : CallFix p m c cc nL s args Ts own) (hM : vx_Met l y ws rm Pc Qc XC mc ms free) (cw : vx_CSW R s args own index y bytes maxL ret hh ws rm mc ms n) (hp : PreS s H Pc As)
    (hg : g.method = m) (hn : As.length = n) (hsize : g.locals.size = nL) (hstack : g.stack = As.reverse ++ rest) (hW : 2 * g.monitorRoom + (rest.map fun v => v.category).sum ≤ 8) (hdg : decode cc g.pc = .ok (.invokestatic index, 3)) (hf : cells + mc ≤ R.cells ∧ slots + ms ≤ R.slots) :
    vx_Run p l e R s m args below meth c H locs cells slots mc ms g rest (Qc As.toArray) XC free := by
  obtain ⟨⟨hrc, hrs, hfr, hlo, hws, hcw⟩, hcode, hini, hy, hlen, hl, hstt⟩ := cw
  have hK : vx_Back l R p e below s args y 3 8 (PreOf R mc ms Pc) (PostOf Qc mc ms free) (vx_Post XC mc ms free) := vx_backW (hh := hh) (bytes := bytes) (maxL := maxL) (ret := ret) hM hp.1 hrc hrs hfr hlo hws hcw (fun a' U hW => word_at hW (Or.inl (by first | rfl | simp [Cond.onTables, Cond.keeps, Cond.steady])) hini)
  obtain ⟨hx, hb, hml, ho, -⟩ := S
  intro T hT X
  rcases vx_callSX X hx (hh := hh) (bytes := bytes) (maxL := maxL) (ret := ret) ho hl hstt hini hcode hy hK hg (hsize.trans hml.symm) (argsL := As) (rest := rest) (fun sig h => hn.trans (hlen sig h)) hstack hW (by rw [hb]; exact hdg)
    (fun vm₁ hW₁ => ⟨hf.1, hf.2, hp.2 (T.setVm vm₁) hT hW₁⟩) with ⟨v, vm₁, ⟨U', l2, c2, s2⟩, hW₁, X', ⟨g', mk, t, L, e1, e2, hq, h1, hL, h2, h3⟩, st⟩ | ⟨q, vm₁, ⟨U', l2, c2, s2⟩, hW₁, X', ⟨g', mk, t, L, E, ce, e1, e2, hq, hce, hcv, hcl, h1, hL, h2, h3⟩, st⟩
  · dsimp only [Pt.U, Pt.locs, Pt.cells, Pt.slots] at X' e1 e2 h1 h2 h3 st
    subst h1; subst h2; subst h3
    exact Or.inl ⟨v, (T.setVm vm₁).calling g' mk As.toArray, t, U', L, hT, X', hL, e1, e2, hq, st⟩
  · dsimp only [Pt.U, Pt.locs, Pt.cells, Pt.slots] at X' e1 e2 h1 h2 h3 st hcl
    subst h1; subst h2; subst h3
    exact Or.inr ⟨q, (T.setVm vm₁).calling g' mk As.toArray, t, U', L, E, ce, hT, X', hL, e1, e2, hq, hce, hcv, vx_cls hW₁ hcl, st⟩
end
end VXH
theorem vx_ofWH {l : Launch} {y : MethodName} {ws ws' : List Cond} {rm : Room} {Pc : Array Value → State → Prop} {Qc : Array Value → State → Outcome → State → Prop} {XC : String → State → State → Prop} {mc ms : Nat} {free : Addr → Prop} {cc : ByteArray} {maxL : Nat} {ret : Option FieldType} {hh : List (Nat × Nat × Nat × Nat)}
    (hy : plainName y.cls = true) (hw : ws = Cond.codeWith y cc maxL ret hh :: ws')
    (body : ∀ p e s m args below meth c s₁, BodyLoose p l y (headSpec ws rm) cc maxL ret e s m args below meth c s₁ → c.maxLocals = maxL → Pc args s →
      W p l e (headSpec ws rm).room s m args below meth c s.heap [] 0 0 (vx_MQ below Qc XC args s mc ms free) (entryFrame m args maxL)) : vx_Met l y ws rm Pc Qc XC mc ms free := by
  refine MetFree.of_bodyS (code := cc) (maxLocals := maxL) (ret := ret) hy ?_ ?_
  · intro args s m h hn
    obtain ⟨m9, meth, c, hn9, h1, h2, h3, h4, -, h5, h6, -⟩ := Cond.codeWith_spec (atoms_spec (ws := ws) h _ (by rw [hw]; exact List.mem_cons_self))
    cases hn.symm.trans hn9
    exact ⟨meth, c, h1, h2, h3, h4, h5, h6⟩
  · intro p e s m args below meth c s₁ B hml hP _
    have hh0 : s₁.heap = s.heap := by rw [B.state]; rfl
    obtain ⟨t, a1, o, b1, b2, b3⟩ := body p e s m args below meth c s₁ B hml hP s₁ hh0 (Stand.of_body B)
    exact ⟨t, o, a1, b1, b2, b3⟩
/-! ===== END ===== -/
end
section
/-! the classes whose objects stand in the world -/
def er_T0 : u_T := fun k => match k with
  | 0 => ("EntryRows", "persons", "LEntryRows$Persons;", true)
  | 1 => ("EntryRows", "boards", "LEntryRows$Boards;", true)
  | 2 => ("EntryRows", "safetyBoardOfTeam", "[I", true)
  | 3 => ("EntryRows", "heatOfPlace", "[I", true)
  | 4 => ("EntryRows", "second", "I", false)
  | 5 => ("EntryRows", "talliesGiven", "I", false)
  | _ => ("EntryRows", "restSeconds", "I", false)
def er_T1 : u_T := fun k => match k with
  | 0 => ("EntryRows$Persons", "board", "[I", true)
  | 1 => ("EntryRows$Persons", "tally", "[I", true)
  | 2 => ("EntryRows$Persons", "place", "[I", true)
  | 3 => ("EntryRows$Persons", "task", "[I", true)
  | 4 => ("EntryRows$Persons", "since", "[I", true)
  | 5 => ("EntryRows$Persons", "restEnd", "[I", true)
  | 6 => ("EntryRows$Persons", "workSum", "[I", true)
  | 7 => ("EntryRows$Persons", "heatSum", "[I", true)
  | 8 => ("EntryRows$Persons", "team", "[I", true)
  | 9 => ("EntryRows$Persons", "keptBoard", "[I", true)
  | _ => ("EntryRows$Persons", "mayLetRescue", "[Z", true)
def er_T2 : u_T := fun k => match k with
  | 0 => ("EntryRows$Boards", "open", "[Z", true)
  | 1 => ("EntryRows$Boards", "least", "[I", true)
  | 2 => ("EntryRows$Boards", "longest", "[I", true)
  | 3 => ("EntryRows$Boards", "safetyNeeded", "[I", true)
  | 4 => ("EntryRows$Boards", "keeper", "[I", true)
  | _ => ("EntryRows$Boards", "made", "I", false)
def er_T3 : u_T := fun k => match k with
  | 0 => ("EntryRowsModel", "thrown", "I", false)
  | 1 => ("EntryRowsModel", "now", "I", false)
  | 2 => ("EntryRowsModel", "rest", "I", false)
  | 3 => ("EntryRowsModel", "tallies", "I", false)
  | 4 => ("EntryRowsModel", "heatOf", "[I", true)
  | 5 => ("EntryRowsModel", "boards", "I", false)
  | 6 => ("EntryRowsModel", "open", "[Z", true)
  | 7 => ("EntryRowsModel", "least", "[I", true)
  | 8 => ("EntryRowsModel", "longest", "[I", true)
  | 9 => ("EntryRowsModel", "needs", "[I", true)
  | 10 => ("EntryRowsModel", "keeper", "[I", true)
  | 11 => ("EntryRowsModel", "safetyOf", "[I", true)
  | 12 => ("EntryRowsModel", "team", "[I", true)
  | 13 => ("EntryRowsModel", "may", "[Z", true)
  | 14 => ("EntryRowsModel", "on", "[I", true)
  | 15 => ("EntryRowsModel", "tally", "[I", true)
  | 16 => ("EntryRowsModel", "place", "[I", true)
  | 17 => ("EntryRowsModel", "task", "[I", true)
  | 18 => ("EntryRowsModel", "since", "[I", true)
  | 19 => ("EntryRowsModel", "rests", "[I", true)
  | 20 => ("EntryRowsModel", "work", "[I", true)
  | _ => ("EntryRowsModel", "heat", "[I", true)
abbrev er_cl : List vw_C := [("EntryRows", er_T0, 7), ("EntryRows$Persons", er_T1, 11), ("EntryRows$Boards", er_T2, 6), ("EntryRowsModel", er_T3, 22)]
end
section
/-! THE STATE as numbers: cell k's entry j (an object's int field j, an array's place j); pure words for the decompiled methods -/
abbrev er_S : Type := Nat → Nat → Int32
def er_up (σ : er_S) (k j : Nat) (v : Int32) : er_S := fun a b => if a = k ∧ b = j then v else σ a b
def er_ix (j : Int32) : Nat := j.toNatClampNeg
def er_inb (j : Int32) (n : Nat) : Bool := decide (¬ (j < 0 ∨ n ≤ j.toNatClampNeg))
def er_isb (v : Int32) : Bool := decide (v = 0 ∨ v = 1)
def er_gd {α : Type} (b : Bool) (x : Option α) : Option α := match b with
  | true => x
  | false => none
def er_bd {α β : Type} (x : Option α) (k : α → Option β) : Option β := match x with
  | some a => k a
  | none => none
def er_bw {α β : Type} (x : Option (α × er_S)) (k : α → er_S → Option β) : Option β := match x with
  | some (a, σ) => k a σ
  | none => none
def er_tb {α β : Type} (x : Option ((α ⊕ Nat) × er_S)) (k : α → er_S → Option ((β ⊕ Nat) × er_S)) : Option ((β ⊕ Nat) × er_S) := match x with
  | some (.inl a, σ) => k a σ
  | some (.inr e, σ) => some (.inr e, σ)
  | none => none
def er_tc {α β : Type} (x : Option ((α ⊕ Nat) × er_S)) (k : α → er_S → Option β) (h : Nat → er_S → Option β) : Option β := match x with
  | some (.inl a, σ) => k a σ
  | some (.inr e, σ) => h e σ
  | none => none
theorem er_gd_some {α : Type} {b : Bool} {x : Option α} {r : α} (h : er_gd b x = some r) : b = true ∧ x = some r := by
  cases b with
  | true => exact ⟨rfl, h⟩
  | false => cases h
theorem er_bd_some {α β : Type} {x : Option α} {k : α → Option β} {r : β} (h : er_bd x k = some r) : ∃ a, x = some a ∧ k a = some r := by
  cases x with
  | some a => exact ⟨a, rfl, h⟩
  | none => cases h
theorem er_bw_some {α β : Type} {x : Option (α × er_S)} {k : α → er_S → Option β} {r : β} (h : er_bw x k = some r) : ∃ a σ, x = some (a, σ) ∧ k a σ = some r := by
  cases x with
  | some q => exact ⟨q.1, q.2, rfl, h⟩
  | none => cases h
theorem er_tb_some {α β : Type} {x : Option ((α ⊕ Nat) × er_S)} {k : α → er_S → Option ((β ⊕ Nat) × er_S)} {r : (β ⊕ Nat) × er_S} (h : er_tb x k = some r) :
    (∃ a σ, x = some (.inl a, σ) ∧ k a σ = some r) ∨ ∃ e σ, x = some (.inr e, σ) ∧ r = (.inr e, σ) := by
  cases x with
  | some q =>
    obtain ⟨q1, q2⟩ := q
    cases q1 with
    | inl a => exact Or.inl ⟨a, q2, rfl, h⟩
    | inr e => exact Or.inr ⟨e, q2, rfl, (Option.some.inj h).symm⟩
  | none => cases h
theorem er_tc_some {α β : Type} {x : Option ((α ⊕ Nat) × er_S)} {k : α → er_S → Option β} {hh : Nat → er_S → Option β} {r : β} (h : er_tc x k hh = some r) :
    (∃ a σ, x = some (.inl a, σ) ∧ k a σ = some r) ∨ ∃ e σ, x = some (.inr e, σ) ∧ hh e σ = some r := by
  cases x with
  | some q =>
    obtain ⟨q1, q2⟩ := q
    cases q1 with
    | inl a => exact Or.inl ⟨a, q2, rfl, h⟩
    | inr e => exact Or.inr ⟨e, q2, rfl, h⟩
  | none => cases h
theorem er_it {α : Type} {c : Prop} {hc : Decidable c} {a b x : α} (h : (@ite α c hc a b) = x) (q : c) : a = x := by rw [if_pos q] at h; exact h
theorem er_if {α : Type} {c : Prop} {hc : Decidable c} {a b x : α} (h : (@ite α c hc a b) = x) (q : ¬ c) : b = x := by rw [if_neg q] at h; exact h
theorem er_inb_in {j : Int32} {n : Nat} (h : er_inb j n = true) : vp_in j n := of_decide_eq_true (p := ¬ (j < 0 ∨ n ≤ j.toNatClampNeg)) h
theorem er_isb_z {v : Int32} (h : er_isb v = true) : vp_nar .boolean v = v := by
  have h := of_decide_eq_true h
  rcases h with rfl | rfl <;> decide
theorem er_up_same (σ : er_S) (k j : Nat) (v : Int32) : er_up σ k j v k = upd (σ k) j v := by
  funext b
  simp [er_up, upd]
theorem er_up_other (σ : er_S) {k a : Nat} (j : Nat) (v : Int32) (h : a ≠ k) : er_up σ k j v a = σ a := by
  funext b
  simp [er_up, h]
/-! THE CELLS: 0 EntryRows, 1 Persons, 2 Boards, 3 .. 20 their rows; 21 the model, 22 .. 38 its rows; 39 the law's out; 40 the script (read apart) -/
def er_lay : Nat → (Nat × List (Option Nat)) ⊕ (Nat × Nat)
  | 0 => .inl (0, [some 1, some 2, some 3, some 4, none, none, none])
  | 1 => .inl (1, [some 5, some 6, some 7, some 8, some 9, some 10, some 11, some 12, some 13, some 14, some 15])
  | 2 => .inl (2, [some 16, some 17, some 18, some 19, some 20, none])
  | 3 => .inr (0, 16)
  | 4 => .inr (0, 6)
  | 5 => .inr (0, 40)
  | 6 => .inr (0, 40)
  | 7 => .inr (0, 40)
  | 8 => .inr (0, 40)
  | 9 => .inr (0, 40)
  | 10 => .inr (0, 40)
  | 11 => .inr (0, 40)
  | 12 => .inr (0, 40)
  | 13 => .inr (0, 40)
  | 14 => .inr (0, 40)
  | 15 => .inr (1, 40)
  | 16 => .inr (1, 8)
  | 17 => .inr (0, 8)
  | 18 => .inr (0, 8)
  | 19 => .inr (0, 8)
  | 20 => .inr (0, 8)
  | 21 => .inl (3, [none, none, none, none, some 22, none, some 23, some 24, some 25, some 26, some 27, some 28, some 29, some 30, some 31, some 32, some 33, some 34, some 35, some 36, some 37, some 38])
  | 22 => .inr (0, 6)
  | 23 => .inr (1, 8)
  | 24 => .inr (0, 8)
  | 25 => .inr (0, 8)
  | 26 => .inr (0, 8)
  | 27 => .inr (0, 8)
  | 28 => .inr (0, 16)
  | 29 => .inr (0, 40)
  | 30 => .inr (1, 40)
  | 31 => .inr (0, 40)
  | 32 => .inr (0, 40)
  | 33 => .inr (0, 40)
  | 34 => .inr (0, 40)
  | 35 => .inr (0, 40)
  | 36 => .inr (0, 40)
  | 37 => .inr (0, 40)
  | 38 => .inr (0, 40)
  | _ => .inr (2, 1)
/-- the geometry: classes' numbers and slots; the numbers of int[], boolean[], long[]; addresses; which cells are there -/
abbrev er_G : Type := va_G × (ClassId × ClassId × ClassId) × (Nat → Nat) × List Nat
abbrev er_ad (G : er_G) (k : Nat) : Nat := G.2.2.1 k
abbrev er_ks (G : er_G) : List Nat := G.2.2.2
def er_tys (G : er_G) : List (ClassId × FieldType) := [(G.2.1.1, .int), (G.2.1.2.1, .boolean), (G.2.1.2.2, .long)]
def er_cz (G : er_G) : Value → Value
  | .ref k => .ref (er_ad G k)
  | v => v
def er_fs (G : er_G) (σ : er_S) (k : Nat) : Nat → List (Option Nat) → List Value
  | _, [] => []
  | i, some t :: r => .ref (er_ad G t) :: er_fs G σ k (i + 1) r
  | i, none :: r => .int (σ k i) :: er_fs G σ k (i + 1) r
def er_ent (G : er_G) (σ : er_S) (k : Nat) : va_E := match er_lay k with
  | .inl (ci, fs) => .inr (ci, er_fs G σ k 0 fs)
  | .inr (0, n) => .inl (G.2.1.1, n, .inl (σ k))
  | .inr (1, n) => .inl (G.2.1.2.1, n, .inl (σ k))
  | .inr (_, n) => .inl (G.2.1.2.2, n, .inr (.inl (fun j => (σ k j).toInt64)))
def er_ws (G : er_G) (σ : er_S) : va_W := (er_ks G).map fun k => (er_ad G k, er_ent G σ k)
theorem er_fs_get (G : er_G) (σ : er_S) (k : Nat) : ∀ (fs : List (Option Nat)) (i j : Nat) (o : Option Nat), fs[j]? = some o → (er_fs G σ k i fs)[j]? = some (match o with | some t => .ref (er_ad G t) | none => .int (σ k (i + j))) := by
  intro fs
  induction fs with
  | nil => intro i j o h; simp at h
  | cons a r ih =>
    intro i j o h
    cases j with
    | zero =>
      simp at h
      subst h
      cases a <;> rfl
    | succ j =>
      simp at h
      have h2 := ih (i + 1) j o h
      rw [show i + 1 + j = i + (j + 1) by omega] at h2
      cases a <;> simpa [er_fs] using h2
theorem er_fs_len (G : er_G) (σ : er_S) (k : Nat) : ∀ (fs : List (Option Nat)) (i : Nat), (er_fs G σ k i fs).length = fs.length := by
  intro fs
  induction fs with
  | nil => intro i; rfl
  | cons a r ih => intro i; cases a <;> simp [er_fs, ih]
theorem er_fs_congr (G : er_G) {σ σ' : er_S} (k : Nat) : ∀ (fs : List (Option Nat)) (i : Nat), (∀ j, i ≤ j → σ k j = σ' k j) → er_fs G σ k i fs = er_fs G σ' k i fs := by
  intro fs
  induction fs with
  | nil => intro i _; rfl
  | cons a r ih =>
    intro i h
    cases a with
    | none => simp only [er_fs]; rw [h i (Nat.le_refl i), ih (i + 1) (fun j hj => h j (by omega))]
    | some t => simp only [er_fs]; rw [ih (i + 1) (fun j hj => h j (by omega))]
theorem er_fs_set (G : er_G) (σ : er_S) (k : Nat) (v : Int32) : ∀ (fs : List (Option Nat)) (i j : Nat), fs[j]? = some none → (er_fs G σ k i fs).set j (.int v) = er_fs G (er_up σ k (i + j) v) k i fs := by
  intro fs
  induction fs with
  | nil => intro i j h; simp at h
  | cons a r ih =>
    intro i j h
    cases j with
    | zero =>
      simp at h
      subst h
      simp only [er_fs, List.set_cons_zero, Nat.add_zero]
      rw [show er_up σ k i v k i = v by simp [er_up]]
      rw [er_fs_congr G k (σ := σ) (σ' := er_up σ k i v) r (i + 1) (fun j hj => by simp [er_up]; intro e; omega)]
    | succ j =>
      simp at h
      have h2 := ih (i + 1) j h
      rw [show i + 1 + j = i + (j + 1) by omega] at h2
      cases a with
      | none =>
        simp only [er_fs, List.set_cons_succ]
        rw [h2, show er_up σ k (i + (j + 1)) v k i = σ k i by simp [er_up]]
      | some t =>
        simp only [er_fs, List.set_cons_succ]
        rw [h2]
theorem er_ent_congr (G : er_G) {σ σ' : er_S} {k : Nat} (h : σ k = σ' k) : er_ent G σ k = er_ent G σ' k := by
  unfold er_ent
  split
  · rw [er_fs_congr G k _ 0 (fun j _ => by rw [h])]
  · rw [h]
  · rw [h]
  · rw [h]
theorem er_ws_at {G : er_G} {k : Nat} (hk : k ∈ er_ks G) : ∃ q0 : Nat, (er_ks G)[q0]? = some k ∧ ∀ σ : er_S, (er_ws G σ)[q0]? = some (er_ad G k, er_ent G σ k) := by
  obtain ⟨q0, h⟩ := List.getElem?_of_mem hk
  exact ⟨q0, h, fun σ => by simp [er_ws, h]⟩
theorem er_ws_set {G : er_G} (hn : (er_ks G).Nodup) {k q0 : Nat} (hq : (er_ks G)[q0]? = some k) {σ σ' : er_S} (ho : ∀ j, j ≠ k → σ' j = σ j) : (er_ws G σ).set q0 (er_ad G k, er_ent G σ' k) = er_ws G σ' := by
  apply List.ext_getElem?
  intro i
  rw [List.getElem?_set]
  by_cases hi : q0 = i
  · subst hi
    have hl : q0 < (er_ks G).length := (List.getElem?_eq_some_iff.mp hq).1
    have e2 : (er_ks G)[q0] = k := (List.getElem?_eq_some_iff.mp hq).2
    simp [er_ws, hl, e2]
  · rw [if_neg hi]
    simp only [er_ws, List.getElem?_map]
    cases hz : (er_ks G)[i]? with
    | none => rfl
    | some j =>
      have hj : j ≠ k := by
        intro e
        subst e
        have hil : i < (er_ks G).length := (List.getElem?_eq_some_iff.mp hz).1
        have hql : q0 < (er_ks G).length := (List.getElem?_eq_some_iff.mp hq).1
        have e1 : (er_ks G)[q0] = j := (List.getElem?_eq_some_iff.mp hq).2
        have e2 : (er_ks G)[i] = j := (List.getElem?_eq_some_iff.mp hz).2
        have hp := List.pairwise_iff_getElem.mp hn
        rcases Nat.lt_or_gt_of_ne hi with h | h
        · exact hp q0 i hql hil h (e1.trans e2.symm)
        · exact hp i q0 hil hql h (e2.trans e1.symm)
      simp only [Option.map_some]
      rw [er_ent_congr G (ho j hj).symm]
end
section
/-! WORDS: those of the tables that ride on warmer tables -/
def er_nest : Cond → Bool
  | .fieldLinkNest .. => true
  | .methodLinkNest .. => true
  | .declares .. => true
  | .castable .. => true
  | _ => false
def er_ok (w : Cond) : Bool := w.onTables && (w.keeps || er_nest w)
def er_tbl : List Cond := lw_tbl.filter er_ok
def er_exc : Nat → String
  | 0 => "java/lang/IllegalArgumentException"
  | 1 => "java/lang/IndexOutOfBoundsException"
  | 2 => "java/lang/IllegalStateException"
  | _ => "java/lang/UnsupportedOperationException"
/-- the texts of the throws -/
def er_strs : List (String × Nat × String) := [("EntryRows", 216, "a number outside its range"), ("EntryRows", 56, "there are as many boards as may be"), ("EntryRows", 209, "an unknown number"), ("EntryRows", 224, "not in this state"), ("EntryRows", 112, "the team has as many members as may be"), ("EntryRows", 193, "no such what")]
def er_T (U : State) : Prop := (∀ w ∈ er_tbl, va_Nw w U) ∧ (∀ q ∈ er_strs, ∃ a, vk_R q.1 q.2.1 q.2.2 a U) ∧ ∀ j k, j < 4 → k < 4 → j ≠ k → va_Nc (er_exc j) (er_exc k) U
theorem er_T.warm {s U : State} (hW : s.WarmedH U.vm) (h : er_T s) : er_T U := by
  refine ⟨?_, fun q hq => by obtain ⟨a, ha⟩ := h.2.1 q hq; exact ⟨a, vk_R.warm hW ha⟩, fun j k a b c => va_Nc.moved hW.alike (h.2.2 j k a b c)⟩
  intro w hw
  have ho : er_ok w = true := (List.mem_filter.mp hw).2
  have hz := h.1 w hw
  unfold er_ok at ho
  rw [Bool.and_eq_true, Bool.or_eq_true] at ho
  obtain ⟨h1, h2⟩ := ho
  rcases h2 with h2 | h2
  · exact va_Nw.of (A := #[]) h1 (word_at hW (Or.inl (by rw [h1, h2]; rfl)) (va_Nw.use (A := #[]) h1 hz))
  · unfold er_nest at h2
    split at h2
    · exact va_Nw.warmF hW hz
    · exact va_Nw.warmM hW hz
    · exact va_Nw.warmD hW hz
    · obtain ⟨c3, c4, h3, h4, h5⟩ := Cond.castable_spec hz
      have al := hW.alike
      rw [← al.findClass] at h3 h4
      rw [← al.assignable] at h5
      simp [va_Nw, Cond.before, Cond.holds, Cond.value, h3, h4, h5]
    · cases h2
theorem er_T.use {s : State} (h : er_T s) {w : Cond} (hw : w ∈ er_tbl) {args : Array Value} : w.before args s = true := by
  have ho : er_ok w = true := (List.mem_filter.mp hw).2
  unfold er_ok at ho
  rw [Bool.and_eq_true] at ho
  exact va_Nw.use ho.1 (h.1 w hw)
theorem er_T.same {s U : State} (h : er_T s) (e : s.vm = U.vm) : er_T U := by
  refine ⟨?_, fun q hq => by obtain ⟨a, ha⟩ := h.2.1 q hq; exact ⟨a, vk_R.same e.symm ha⟩, fun j k a b c => va_Nc.moved (by rw [← e]; exact Vm.Alike.refl _) (h.2.2 j k a b c)⟩
  intro w hw
  have ho : er_ok w = true := (List.mem_filter.mp hw).2
  unfold er_ok at ho
  rw [Bool.and_eq_true] at ho
  exact va_Nw.same ho.1 e (h.1 w hw)
/-- the two statics that a Throwable's making reads lie outside A -/
def er_Z (A : Nat → Prop) (U : State) (H : Heap) : Prop := vx_Zq Bundle.tN "UNASSIGNED_STACK" Bundle.steD A U H ∧ vx_Zq Bundle.tN "SUPPRESSED_SENTINEL" Bundle.listD A U H
theorem er_Z.moved {A : Nat → Prop} {u U : State} {H : Heap} (hvm : u.vm.Alike U.vm) (h : er_Z A u H) : er_Z A U H := ⟨vx_Zq.moved hvm h.1, vx_Zq.moved hvm h.2⟩
theorem er_Z.kept {A : Nat → Prop} {U : State} {H H1 : Heap} (h : er_Z A U H) (hq : ∀ a : Nat, a < H.size → ¬ A a → H1[a]? = H[a]?) : er_Z A U H1 := ⟨h.1.kept hq, h.2.kept hq⟩
theorem er_Z.narrow {A B : Nat → Prop} {U : State} {H : Heap} (h : er_Z A U H) (hAB : ∀ q, B q → A q) : er_Z B U H := ⟨h.1.narrow hAB, h.2.narrow hAB⟩
/-- what a walk of one method stands on -/
def er_C (p : Program) (s : State) (m : MethodId) (c : Code) (cc : ByteArray) (own : String) (G : er_G) (A : Nat → Prop) (H0 : Heap) : Prop :=
  p.tables.exec = Jvm.exec ∧ c.code = cc ∧ s.vm.findClass own = some m.cls ∧ er_T s ∧ va_K G.1 er_cl (er_tys G) s ∧ (er_ks G).Nodup ∧ (∀ q, H0.size ≤ q → A q) ∧ er_Z A s H0
def er_al (G : er_G) : Nat → List (Option Value) → List (Nat × Value)
  | _, [] => []
  | i, none :: r => er_al G (i + 1) r
  | i, some v :: r => (i, er_cz G v) :: er_al G (i + 1) r
def er_lk : List (Option Value) → Nat → Option Value
  | [], _ => none
  | a :: _, 0 => a
  | _ :: r, i + 1 => er_lk r i
def er_st : List (Option Value) → Nat → Value → List (Option Value)
  | [], _, _ => []
  | _ :: r, 0, v => some v :: r
  | a :: r, i + 1, v => a :: er_st r i v
theorem er_al_mem (G : er_G) : ∀ (lv : List (Option Value)) (i j : Nat) (v : Value), er_lk lv j = some v → (i + j, er_cz G v) ∈ er_al G i lv := by
  intro lv
  induction lv with
  | nil => intro i j v h; cases h
  | cons a r ih =>
    intro i j v h
    cases j with
    | zero =>
      have h : a = some v := h
      subst h
      exact List.mem_cons_self
    | succ j =>
      have h2 := ih (i + 1) j v h
      rw [show i + 1 + j = i + (j + 1) by omega] at h2
      cases a with
      | none => exact h2
      | some w => exact List.mem_cons_of_mem _ h2
theorem er_al_inv (G : er_G) : ∀ (lv : List (Option Value)) (i : Nat) (q : Nat × Value), q ∈ er_al G i lv → ∃ j v, q = (i + j, er_cz G v) ∧ er_lk lv j = some v := by
  intro lv
  induction lv with
  | nil => intro i q h; cases h
  | cons a r ih =>
    intro i q h
    cases a with
    | none =>
      obtain ⟨j, v, e, h2⟩ := ih (i + 1) q h
      exact ⟨j + 1, v, by rw [e]; congr 1; omega, h2⟩
    | some w =>
      rcases List.mem_cons.mp h with h | h
      · exact ⟨0, w, h, rfl⟩
      · obtain ⟨j, v, e, h2⟩ := ih (i + 1) q h
        exact ⟨j + 1, v, by rw [e]; congr 1; omega, h2⟩
theorem er_lk_st : ∀ (lv : List (Option Value)) (i j : Nat) (v w : Value), er_lk (er_st lv i v) j = some w → (j = i ∧ w = v) ∨ (j ≠ i ∧ er_lk lv j = some w) := by
  intro lv
  induction lv with
  | nil => intro i j v w h; cases h
  | cons a r ih =>
    intro i j v w h
    cases i with
    | zero =>
      cases j with
      | zero => exact Or.inl ⟨rfl, (Option.some.inj h).symm⟩
      | succ j => exact Or.inr ⟨by omega, h⟩
    | succ i =>
      cases j with
      | zero => exact Or.inr ⟨by omega, h⟩
      | succ j =>
        rcases ih i j v w h with ⟨e1, e2⟩ | ⟨e1, e2⟩
        · exact Or.inl ⟨by omega, e2⟩
        · exact Or.inr ⟨by omega, e2⟩
theorem er_st_len : ∀ (lv : List (Option Value)) (i : Nat) (v : Value), (er_st lv i v).length = lv.length := by
  intro lv
  induction lv with
  | nil => intro i v; rfl
  | cons a r ih =>
    intro i v
    cases i with
    | zero => rfl
    | succ i => simp [er_st, ih]
/-- fewer locals are told -/
def er_le : List (Option Value) → List (Option Value) → Prop
  | [], [] => True
  | none :: r, _ :: t => er_le r t
  | some v :: r, some w :: t => v = w ∧ er_le r t
  | _, _ => False
theorem er_le_len : ∀ (a b : List (Option Value)), er_le a b → a.length = b.length := by
  intro a
  induction a with
  | nil => intro b h; cases b with | nil => rfl | cons => cases h
  | cons x r ih =>
    intro b h
    cases b with
    | nil => cases x <;> cases h
    | cons y t =>
      cases x with
      | none => simp [ih t h]
      | some v =>
        cases y with
        | none => cases h
        | some w => simp [ih t h.2]
theorem er_le_lk : ∀ (a b : List (Option Value)), er_le a b → ∀ (j : Nat) (v : Value), er_lk a j = some v → er_lk b j = some v := by
  intro a
  induction a with
  | nil => intro b _ j v h; cases h
  | cons x r ih =>
    intro b h j v hj
    cases b with
    | nil => cases x <;> cases h
    | cons y t =>
      cases x with
      | none =>
        cases j with
        | zero => cases hj
        | succ j => exact ih t h j v hj
      | some v' =>
        cases y with
        | none => cases h
        | some w =>
          cases j with
          | zero =>
            have hj : some v' = some v := hj
            show some w = some v
            rw [← h.1]
            exact hj
          | succ j => exact ih t h.2 j v hj
theorem er_has_le {G : er_G} {ls : Array Slot} {a b : List (Option Value)} (h : er_le a b) (hl : lv_has ls b.length (er_al G 0 b)) : lv_has ls a.length (er_al G 0 a) := by
  obtain ⟨h1, h2, h3⟩ := hl
  refine ⟨by rw [er_le_len a b h]; exact h1, h2, fun q hq => ?_⟩
  obtain ⟨j, v, e, hj⟩ := er_al_inv G a 0 q hq
  subst e
  exact h3 _ (er_al_mem G b 0 j v (er_le_lk a b h j v hj))
theorem er_cat {G : er_G} {v : Value} (h : v.category = 1) : (er_cz G v).category = 1 := by
  cases v <;> first | exact h | rfl
theorem er_has_st {G : er_G} {ls : Array Slot} {lv lv' : List (Option Value)} {i : Nat} {v : Value} (hl : lv_has ls lv.length (er_al G 0 lv)) (hc : ∀ j w, er_lk lv j = some w → w.category = 1) (hi : i < lv.length) (hv : v.category = 1) (hs : er_st lv i v = lv') :
    ∃ ls', storeLocals ls i (er_cz G v) = some ls' ∧ lv_has ls' lv'.length (er_al G 0 lv') := by
  subst hs
  obtain ⟨ls', e, h1, h2, h3⟩ := lv_store1 (v := er_cz G v) hl hi (er_cat hv)
  refine ⟨ls', e, by rw [er_st_len]; exact h1, h2, fun q hq => ?_⟩
  obtain ⟨j, w, e2, hj⟩ := er_al_inv G _ 0 q hq
  subst e2
  rcases er_lk_st lv i j v w hj with ⟨a1, a2⟩ | ⟨a1, a2⟩
  · subst a1; subst a2
    simpa using h3 (j, er_cz G w) List.mem_cons_self
  · refine h3 _ (List.mem_cons_of_mem _ (List.mem_filter.mpr ⟨er_al_mem G lv 0 j w a2, ?_⟩))
    have : (er_cz G w).category = 1 := er_cat (hc j w a2)
    simp [this, a1]
/-- no local takes two slots -/
def er_c1 : List (Option Value) → Bool
  | [] => true
  | none :: r => er_c1 r
  | some v :: r => (v.category == 1) && er_c1 r
theorem er_c1_lk : ∀ (lv : List (Option Value)), er_c1 lv = true → ∀ (j : Nat) (w : Value), er_lk lv j = some w → w.category = 1 := by
  intro lv
  induction lv with
  | nil => intro _ j w h; cases h
  | cons a r ih =>
    intro h j w hj
    cases a with
    | none =>
      cases j with
      | zero => cases hj
      | succ j => exact ih h j w hj
    | some v =>
      have h : ((v.category == 1) && er_c1 r) = true := h
      rw [Bool.and_eq_true] at h
      cases j with
      | zero =>
        have hj : some v = some w := hj
        cases hj
        exact eq_of_beq h.1
      | succ j => exact ih h.2 j w hj
section ERJ
variable {p : Program} {l : Launch} {e : Env} {R : Room} {s : State} {m : MethodId} {args : Array Value} {below : List Frame} {meth : Method} {c : Code} {Q : State → Prop} {G : er_G} {A : Nat → Prop} {H0 : Heap} {kc ks : Nat} {σ : er_S} {pc : Nat} {lv lv' : List (Option Value)} {st : List Value} {cc : ByteArray} {own : String}
/-- THE JUDGEMENT: from every heap that holds σ, with the locals lv (where told) and the stack st, the machine comes to Q -/
def er_J (p : Program) (l : Launch) (e : Env) (R : Room) (s : State) (m : MethodId) (args : Array Value) (below : List Frame) (meth : Method) (c : Code) (G : er_G) (A : Nat → Prop) (H0 : Heap) (Q : State → Prop) (kc ks : Nat) (σ : er_S) (pc : Nat) (lv : List (Option Value)) (st : List Value) : Prop :=
  ∀ (H : Heap) (locs : List Loc) (ls : Array Slot), va_P G.1 er_cl (er_ws G σ) H → va_D A (er_ws G σ) → va_S A H0 H locs → lv_has ls lv.length (er_al G 0 lv) → W p l e R s m args below meth c H locs kc ks Q (F0 m pc ls (st.map (er_cz G)))
theorem ej_le (h : er_le lv' lv) (k : er_J p l e R s m args below meth c G A H0 Q kc ks σ pc lv' st) : er_J p l e R s m args below meth c G A H0 Q kc ks σ pc lv st :=
  fun H locs ls hP hD hS hl => k H locs ls hP hD hS (er_has_le h hl)
theorem ej_iconst (C : er_C p s m c cc own G A H0) {n : Int} {v : Int32} (hd : decode cc pc = .ok (.iconst n, 1)) (hv : Int32.ofInt n = v) (k : er_J p l e R s m args below meth c G A H0 Q kc ks σ (pc + 1) lv (.int v :: st)) : er_J p l e R s m args below meth c G A H0 Q kc ks σ pc lv st :=
  fun H locs ls hP hD hS hl => lv_iconst C.1 C.2.1 hd hv (k H locs ls hP hD hS hl)
theorem ej_bipush (C : er_C p s m c cc own G A H0) {n : Int} {v : Int32} (hd : decode cc pc = .ok (.bipush n, 2)) (hv : (Int8.ofInt n).toInt32 = v) (k : er_J p l e R s m args below meth c G A H0 Q kc ks σ (pc + 2) lv (.int v :: st)) : er_J p l e R s m args below meth c G A H0 Q kc ks σ pc lv st :=
  fun H locs ls hP hD hS hl => lv_bipush C.1 C.2.1 hd hv (k H locs ls hP hD hS hl)
theorem ej_sipush (C : er_C p s m c cc own G A H0) {n : Int} {v : Int32} (hd : decode cc pc = .ok (.sipush n, 3)) (hv : (Int16.ofInt n).toInt32 = v) (k : er_J p l e R s m args below meth c G A H0 Q kc ks σ (pc + 3) lv (.int v :: st)) : er_J p l e R s m args below meth c G A H0 Q kc ks σ pc lv st :=
  fun H locs ls hP hD hS hl => lv_sipush C.1 C.2.1 hd hv (k H locs ls hP hD hS hl)
theorem ej_ldc (C : er_C p s m c cc own G A H0) {index : Nat} {v : Int32} (hw : Cond.constant own index v ∈ er_tbl) (hd : decode cc pc = .ok (.ldc index, 2)) (k : er_J p l e R s m args below meth c G A H0 Q kc ks σ (pc + 2) lv (.int v :: st)) : er_J p l e R s m args below meth c G A H0 Q kc ks σ pc lv st :=
  fun H locs ls hP hD hS hl => lv_ldc C.1 C.2.1 C.2.2.1 (C.2.2.2.1.use hw) hd (k H locs ls hP hD hS hl)
theorem er_has_lk {ls : Array Slot} (hl : lv_has ls lv.length (er_al G 0 lv)) {i : Nat} {v : Value} (hv : er_lk lv i = some v) : ls[i]? = some (.val (er_cz G v)) := by
  have h := hl.2.2 _ (er_al_mem G lv 0 i v hv)
  simpa using h
theorem ej_iload_n (C : er_C p s m c cc own G A H0) {i : Fin 4} {x : Int32} (hd : decode cc pc = .ok (.iload_n i, 1)) (hv : er_lk lv i.val = some (.int x)) (k : er_J p l e R s m args below meth c G A H0 Q kc ks σ (pc + 1) lv (.int x :: st)) : er_J p l e R s m args below meth c G A H0 Q kc ks σ pc lv st :=
  fun H locs ls hP hD hS hl => lv_iload_n C.1 C.2.1 hd rfl (er_has_lk hl hv) (k H locs ls hP hD hS hl)
theorem ej_iload (C : er_C p s m c cc own G A H0) {i : Nat} {x : Int32} (hd : decode cc pc = .ok (.iload i, 2)) (hv : er_lk lv i = some (.int x)) (k : er_J p l e R s m args below meth c G A H0 Q kc ks σ (pc + 2) lv (.int x :: st)) : er_J p l e R s m args below meth c G A H0 Q kc ks σ pc lv st :=
  fun H locs ls hP hD hS hl => lv_iload C.1 C.2.1 hd (er_has_lk hl hv) (k H locs ls hP hD hS hl)
theorem ej_aload_n (C : er_C p s m c cc own G A H0) {i : Fin 4} {x : Nat} (hd : decode cc pc = .ok (.aload_n i, 1)) (hv : er_lk lv i.val = some (.ref x)) (k : er_J p l e R s m args below meth c G A H0 Q kc ks σ (pc + 1) lv (.ref x :: st)) : er_J p l e R s m args below meth c G A H0 Q kc ks σ pc lv st :=
  fun H locs ls hP hD hS hl => lv_aload_n C.1 C.2.1 hd rfl (er_has_lk hl hv) (k H locs ls hP hD hS hl)
theorem ej_aload (C : er_C p s m c cc own G A H0) {i : Nat} {x : Nat} (hd : decode cc pc = .ok (.aload i, 2)) (hv : er_lk lv i = some (.ref x)) (k : er_J p l e R s m args below meth c G A H0 Q kc ks σ (pc + 2) lv (.ref x :: st)) : er_J p l e R s m args below meth c G A H0 Q kc ks σ pc lv st :=
  fun H locs ls hP hD hS hl => lv_aload C.1 C.2.1 hd (er_has_lk hl hv) (k H locs ls hP hD hS hl)
theorem er_al_int (hc : er_c1 lv = true) {ls : Array Slot} {i : Nat} {x : Int32} (hl : lv_has ls lv.length (er_al G 0 lv)) (hs : er_st lv i (.int x) = lv') (q : Nat × Value) (hq : q ∈ er_al G 0 lv') : q ∈ (i, Value.int x) :: (er_al G 0 lv).filter (fun q => !(q.1 == i) && !(q.1 + 1 == i && q.2.category == 2)) := by
  subst hs
  obtain ⟨j, w, e2, hj⟩ := er_al_inv G _ 0 q hq
  subst e2
  rcases er_lk_st lv i j (.int x) w hj with ⟨a1, a2⟩ | ⟨a1, a2⟩
  · subst a1; subst a2
    have : (0 + j, er_cz G (Value.int x)) = (j, Value.int x) := by rw [Nat.zero_add]; rfl
    rw [this]
    exact List.mem_cons_self
  · refine List.mem_cons_of_mem _ (List.mem_filter.mpr ⟨er_al_mem G lv 0 j w a2, ?_⟩)
    have : (er_cz G w).category = 1 := er_cat (er_c1_lk lv hc j w a2)
    simp [this, a1]
theorem er_keep (hc : er_c1 lv = true) {ls ls' : Array Slot} {i : Nat} {x : Int32} (hl : lv_has ls lv.length (er_al G 0 lv)) (hs : er_st lv i (.int x) = lv') (h : lv_has ls' lv.length ((i, Value.int x) :: (er_al G 0 lv).filter (fun q => !(q.1 == i) && !(q.1 + 1 == i && q.2.category == 2)))) : lv_has ls' lv'.length (er_al G 0 lv') := by
  refine ⟨by rw [← hs, er_st_len]; exact h.1, h.2.1, fun q hq => h.2.2 q (er_al_int hc hl hs q hq)⟩
theorem ej_istore_n (C : er_C p s m c cc own G A H0) {i : Fin 4} {x : Int32} (hd : decode cc pc = .ok (.istore_n i, 1)) (hc : er_c1 lv = true) (hi : Nat.blt i.val lv.length = true) (hs : er_st lv i.val (.int x) = lv') (k : er_J p l e R s m args below meth c G A H0 Q kc ks σ (pc + 1) lv' st) : er_J p l e R s m args below meth c G A H0 Q kc ks σ pc lv (.int x :: st) :=
  fun H locs ls hP hD hS hl => lv_istore_n C.1 C.2.1 hd rfl hl (Nat.le_of_ble_eq_true hi) rfl (fun ls' hl' => k H locs ls' hP hD hS (er_keep hc hl hs hl'))
theorem ej_istore (C : er_C p s m c cc own G A H0) {i : Nat} {x : Int32} (hd : decode cc pc = .ok (.istore i, 2)) (hc : er_c1 lv = true) (hi : Nat.blt i lv.length = true) (hs : er_st lv i (.int x) = lv') (k : er_J p l e R s m args below meth c G A H0 Q kc ks σ (pc + 2) lv' st) : er_J p l e R s m args below meth c G A H0 Q kc ks σ pc lv (.int x :: st) :=
  fun H locs ls hP hD hS hl => lv_istore C.1 C.2.1 hd hl (Nat.le_of_ble_eq_true hi) rfl (fun ls' hl' => k H locs ls' hP hD hS (er_keep hc hl hs hl'))
theorem ej_iinc (C : er_C p s m c cc own G A H0) {i : Nat} {n : Int} {x v : Int32} (hd : decode cc pc = .ok (.iinc i n, 3)) (hc : er_c1 lv = true) (hi : Nat.blt i lv.length = true) (hx : er_lk lv i = some (.int x)) (hv : x + Int32.ofInt n = v) (hs : er_st lv i (.int v) = lv') (k : er_J p l e R s m args below meth c G A H0 Q kc ks σ (pc + 3) lv' st) : er_J p l e R s m args below meth c G A H0 Q kc ks σ pc lv st :=
  fun H locs ls hP hD hS hl => by
    obtain ⟨q, hq⟩ := List.getElem?_of_mem (er_al_mem G lv 0 i (.int x) hx)
    rw [Nat.zero_add] at hq
    exact lv_iinc C.1 C.2.1 hd hl (k := q) (x := x) hq hv (Nat.le_of_ble_eq_true hi) rfl (fun ls' hl' => k H locs ls' hP hD hS (er_keep hc hl hs hl'))
theorem ej_iadd (C : er_C p s m c cc own G A H0) {x y : Int32} (hd : decode cc pc = .ok (.iadd, 1)) (k : er_J p l e R s m args below meth c G A H0 Q kc ks σ (pc + 1) lv (.int (x + y) :: st)) : er_J p l e R s m args below meth c G A H0 Q kc ks σ pc lv (.int y :: .int x :: st) :=
  fun H locs ls hP hD hS hl => lv_iadd C.1 C.2.1 hd (k H locs ls hP hD hS hl)
theorem ej_isub (C : er_C p s m c cc own G A H0) {x y : Int32} (hd : decode cc pc = .ok (.isub, 1)) (k : er_J p l e R s m args below meth c G A H0 Q kc ks σ (pc + 1) lv (.int (x - y) :: st)) : er_J p l e R s m args below meth c G A H0 Q kc ks σ pc lv (.int y :: .int x :: st) :=
  fun H locs ls hP hD hS hl => lv_isub C.1 C.2.1 hd (k H locs ls hP hD hS hl)
theorem ej_imul (C : er_C p s m c cc own G A H0) {x y : Int32} (hd : decode cc pc = .ok (.imul, 1)) (k : er_J p l e R s m args below meth c G A H0 Q kc ks σ (pc + 1) lv (.int (x * y) :: st)) : er_J p l e R s m args below meth c G A H0 Q kc ks σ pc lv (.int y :: .int x :: st) :=
  fun H locs ls hP hD hS hl => lv_imul C.1 C.2.1 hd (k H locs ls hP hD hS hl)
theorem ej_iand (C : er_C p s m c cc own G A H0) {x y : Int32} (hd : decode cc pc = .ok (.iand, 1)) (k : er_J p l e R s m args below meth c G A H0 Q kc ks σ (pc + 1) lv (.int (x &&& y) :: st)) : er_J p l e R s m args below meth c G A H0 Q kc ks σ pc lv (.int y :: .int x :: st) :=
  fun H locs ls hP hD hS hl => lv_iand C.1 C.2.1 hd (k H locs ls hP hD hS hl)
theorem ej_ior (C : er_C p s m c cc own G A H0) {x y : Int32} (hd : decode cc pc = .ok (.ior, 1)) (k : er_J p l e R s m args below meth c G A H0 Q kc ks σ (pc + 1) lv (.int (x ||| y) :: st)) : er_J p l e R s m args below meth c G A H0 Q kc ks σ pc lv (.int y :: .int x :: st) :=
  fun H locs ls hP hD hS hl => lv_ior C.1 C.2.1 hd (k H locs ls hP hD hS hl)
theorem ej_ixor (C : er_C p s m c cc own G A H0) {x y : Int32} (hd : decode cc pc = .ok (.ixor, 1)) (k : er_J p l e R s m args below meth c G A H0 Q kc ks σ (pc + 1) lv (.int (x ^^^ y) :: st)) : er_J p l e R s m args below meth c G A H0 Q kc ks σ pc lv (.int y :: .int x :: st) :=
  fun H locs ls hP hD hS hl => lv_ixor C.1 C.2.1 hd (k H locs ls hP hD hS hl)
theorem ej_irem (C : er_C p s m c cc own G A H0) {x y : Int32} (hd : decode cc pc = .ok (.irem, 1)) (hne : ¬ y = 0) (k : er_J p l e R s m args below meth c G A H0 Q kc ks σ (pc + 1) lv (.int (x - x / y * y) :: st)) : er_J p l e R s m args below meth c G A H0 Q kc ks σ pc lv (.int y :: .int x :: st) :=
  fun H locs ls hP hD hS hl => lv_irem C.1 C.2.1 hd hne (k H locs ls hP hD hS hl)
theorem ej_ineg (C : er_C p s m c cc own G A H0) {x : Int32} (hd : decode cc pc = .ok (.ineg, 1)) (k : er_J p l e R s m args below meth c G A H0 Q kc ks σ (pc + 1) lv (.int (-x) :: st)) : er_J p l e R s m args below meth c G A H0 Q kc ks σ pc lv (.int x :: st) :=
  fun H locs ls hP hD hS hl => lv_ineg C.1 C.2.1 hd (k H locs ls hP hD hS hl)
theorem ej_ishl (C : er_C p s m c cc own G A H0) {x y : Int32} (hd : decode cc pc = .ok (.ishl, 1)) (k : er_J p l e R s m args below meth c G A H0 Q kc ks σ (pc + 1) lv (.int (x <<< (y &&& 31)) :: st)) : er_J p l e R s m args below meth c G A H0 Q kc ks σ pc lv (.int y :: .int x :: st) :=
  fun H locs ls hP hD hS hl => lv_ishl C.1 C.2.1 hd (k H locs ls hP hD hS hl)
theorem ej_iushr (C : er_C p s m c cc own G A H0) {x y : Int32} (hd : decode cc pc = .ok (.iushr, 1)) (k : er_J p l e R s m args below meth c G A H0 Q kc ks σ (pc + 1) lv (.int ((x.toUInt32 >>> (y.toUInt32 &&& Int32.toUInt32 31)).toInt32) :: st)) : er_J p l e R s m args below meth c G A H0 Q kc ks σ pc lv (.int y :: .int x :: st) :=
  fun H locs ls hP hD hS hl => lv_iushr C.1 C.2.1 hd rfl (k H locs ls hP hD hS hl)
theorem ej_i2l (C : er_C p s m c cc own G A H0) {x : Int32} (hd : decode cc pc = .ok (.i2l, 1)) (k : er_J p l e R s m args below meth c G A H0 Q kc ks σ (pc + 1) lv (.long x.toInt64 :: st)) : er_J p l e R s m args below meth c G A H0 Q kc ks σ pc lv (.int x :: st) :=
  fun H locs ls hP hD hS hl => lv_i2l C.1 C.2.1 hd rfl (k H locs ls hP hD hS hl)
theorem ej_lcmp (C : er_C p s m c cc own G A H0) {x y : Int64} (hd : decode cc pc = .ok (.lcmp, 1)) (k : er_J p l e R s m args below meth c G A H0 Q kc ks σ (pc + 1) lv (.int (lg_cmp x y) :: st)) : er_J p l e R s m args below meth c G A H0 Q kc ks σ pc lv (.long y :: .long x :: st) :=
  fun H locs ls hP hD hS hl => W.lcmp C.1 C.2.1 hd (k H locs ls hP hD hS hl)
theorem ej_dup (C : er_C p s m c cc own G A H0) {v : Value} (hd : decode cc pc = .ok (.dup, 1)) (hv : v.category = 1) (k : er_J p l e R s m args below meth c G A H0 Q kc ks σ (pc + 1) lv (v :: v :: st)) : er_J p l e R s m args below meth c G A H0 Q kc ks σ pc lv (v :: st) :=
  fun H locs ls hP hD hS hl => lv_dup C.1 C.2.1 hd (er_cat hv) (k H locs ls hP hD hS hl)
theorem ej_dup2 (C : er_C p s m c cc own G A H0) {v w : Value} (hd : decode cc pc = .ok (.dup2, 1)) (hv : v.category = 1) (hw : w.category = 1) (k : er_J p l e R s m args below meth c G A H0 Q kc ks σ (pc + 1) lv (v :: w :: v :: w :: st)) : er_J p l e R s m args below meth c G A H0 Q kc ks σ pc lv (v :: w :: st) :=
  fun H locs ls hP hD hS hl => lv_dup2_11 C.1 C.2.1 hd (er_cat hv) (er_cat hw) (k H locs ls hP hD hS hl)
theorem ej_goto (C : er_C p s m c cc own G A H0) {off : Int} {tgt : Nat} (hd : decode cc pc = .ok (.goto off, 3)) (ht : (pc : Int) + off = (tgt : Int)) (k : er_J p l e R s m args below meth c G A H0 Q kc ks σ tgt lv st) : er_J p l e R s m args below meth c G A H0 Q kc ks σ pc lv st :=
  fun H locs ls hP hD hS hl => lv_goto C.1 C.2.1 hd ht (k H locs ls hP hD hS hl)
theorem ej_if_eq (C : er_C p s m c cc own G A H0) {x : Int32} {off : Int} {tgt : Nat} (hd : decode cc pc = .ok (.ifCond .eq off, 3)) (ht : (pc : Int) + off = (tgt : Int)) (kt : x = 0 → er_J p l e R s m args below meth c G A H0 Q kc ks σ tgt lv st) (kf : ¬ x = 0 → er_J p l e R s m args below meth c G A H0 Q kc ks σ (pc + 3) lv st) : er_J p l e R s m args below meth c G A H0 Q kc ks σ pc lv (.int x :: st) :=
  fun H locs ls hP hD hS hl => lv_if_eq C.1 C.2.1 hd ht (fun q => kt q H locs ls hP hD hS hl) (fun q => kf q H locs ls hP hD hS hl)
theorem ej_icmp_eq (C : er_C p s m c cc own G A H0) {x y : Int32} {off : Int} {tgt : Nat} (hd : decode cc pc = .ok (.if_icmp .eq off, 3)) (ht : (pc : Int) + off = (tgt : Int)) (kt : x = y → er_J p l e R s m args below meth c G A H0 Q kc ks σ tgt lv st) (kf : ¬ x = y → er_J p l e R s m args below meth c G A H0 Q kc ks σ (pc + 3) lv st) : er_J p l e R s m args below meth c G A H0 Q kc ks σ pc lv (.int y :: .int x :: st) :=
  fun H locs ls hP hD hS hl => lv_icmp_eq C.1 C.2.1 hd ht (fun q => kt q H locs ls hP hD hS hl) (fun q => kf q H locs ls hP hD hS hl)
theorem ej_if_ne (C : er_C p s m c cc own G A H0) {x : Int32} {off : Int} {tgt : Nat} (hd : decode cc pc = .ok (.ifCond .ne off, 3)) (ht : (pc : Int) + off = (tgt : Int)) (kt : ¬ x = 0 → er_J p l e R s m args below meth c G A H0 Q kc ks σ tgt lv st) (kf : x = 0 → er_J p l e R s m args below meth c G A H0 Q kc ks σ (pc + 3) lv st) : er_J p l e R s m args below meth c G A H0 Q kc ks σ pc lv (.int x :: st) :=
  fun H locs ls hP hD hS hl => lv_if_ne C.1 C.2.1 hd ht (fun q => kt q H locs ls hP hD hS hl) (fun q => kf q H locs ls hP hD hS hl)
theorem ej_icmp_ne (C : er_C p s m c cc own G A H0) {x y : Int32} {off : Int} {tgt : Nat} (hd : decode cc pc = .ok (.if_icmp .ne off, 3)) (ht : (pc : Int) + off = (tgt : Int)) (kt : ¬ x = y → er_J p l e R s m args below meth c G A H0 Q kc ks σ tgt lv st) (kf : x = y → er_J p l e R s m args below meth c G A H0 Q kc ks σ (pc + 3) lv st) : er_J p l e R s m args below meth c G A H0 Q kc ks σ pc lv (.int y :: .int x :: st) :=
  fun H locs ls hP hD hS hl => lv_icmp_ne C.1 C.2.1 hd ht (fun q => kt q H locs ls hP hD hS hl) (fun q => kf q H locs ls hP hD hS hl)
theorem ej_if_lt (C : er_C p s m c cc own G A H0) {x : Int32} {off : Int} {tgt : Nat} (hd : decode cc pc = .ok (.ifCond .lt off, 3)) (ht : (pc : Int) + off = (tgt : Int)) (kt : x < 0 → er_J p l e R s m args below meth c G A H0 Q kc ks σ tgt lv st) (kf : ¬ x < 0 → er_J p l e R s m args below meth c G A H0 Q kc ks σ (pc + 3) lv st) : er_J p l e R s m args below meth c G A H0 Q kc ks σ pc lv (.int x :: st) :=
  fun H locs ls hP hD hS hl => lv_if_lt C.1 C.2.1 hd ht (fun q => kt q H locs ls hP hD hS hl) (fun q => kf q H locs ls hP hD hS hl)
theorem ej_icmp_lt (C : er_C p s m c cc own G A H0) {x y : Int32} {off : Int} {tgt : Nat} (hd : decode cc pc = .ok (.if_icmp .lt off, 3)) (ht : (pc : Int) + off = (tgt : Int)) (kt : x < y → er_J p l e R s m args below meth c G A H0 Q kc ks σ tgt lv st) (kf : ¬ x < y → er_J p l e R s m args below meth c G A H0 Q kc ks σ (pc + 3) lv st) : er_J p l e R s m args below meth c G A H0 Q kc ks σ pc lv (.int y :: .int x :: st) :=
  fun H locs ls hP hD hS hl => lv_icmp_lt C.1 C.2.1 hd ht (fun q => kt q H locs ls hP hD hS hl) (fun q => kf q H locs ls hP hD hS hl)
theorem ej_if_ge (C : er_C p s m c cc own G A H0) {x : Int32} {off : Int} {tgt : Nat} (hd : decode cc pc = .ok (.ifCond .ge off, 3)) (ht : (pc : Int) + off = (tgt : Int)) (kt : 0 ≤ x → er_J p l e R s m args below meth c G A H0 Q kc ks σ tgt lv st) (kf : ¬ 0 ≤ x → er_J p l e R s m args below meth c G A H0 Q kc ks σ (pc + 3) lv st) : er_J p l e R s m args below meth c G A H0 Q kc ks σ pc lv (.int x :: st) :=
  fun H locs ls hP hD hS hl => lv_if_ge C.1 C.2.1 hd ht (fun q => kt q H locs ls hP hD hS hl) (fun q => kf q H locs ls hP hD hS hl)
theorem ej_icmp_ge (C : er_C p s m c cc own G A H0) {x y : Int32} {off : Int} {tgt : Nat} (hd : decode cc pc = .ok (.if_icmp .ge off, 3)) (ht : (pc : Int) + off = (tgt : Int)) (kt : y ≤ x → er_J p l e R s m args below meth c G A H0 Q kc ks σ tgt lv st) (kf : ¬ y ≤ x → er_J p l e R s m args below meth c G A H0 Q kc ks σ (pc + 3) lv st) : er_J p l e R s m args below meth c G A H0 Q kc ks σ pc lv (.int y :: .int x :: st) :=
  fun H locs ls hP hD hS hl => lv_icmp_ge C.1 C.2.1 hd ht (fun q => kt q H locs ls hP hD hS hl) (fun q => kf q H locs ls hP hD hS hl)
theorem ej_if_gt (C : er_C p s m c cc own G A H0) {x : Int32} {off : Int} {tgt : Nat} (hd : decode cc pc = .ok (.ifCond .gt off, 3)) (ht : (pc : Int) + off = (tgt : Int)) (kt : 0 < x → er_J p l e R s m args below meth c G A H0 Q kc ks σ tgt lv st) (kf : ¬ 0 < x → er_J p l e R s m args below meth c G A H0 Q kc ks σ (pc + 3) lv st) : er_J p l e R s m args below meth c G A H0 Q kc ks σ pc lv (.int x :: st) :=
  fun H locs ls hP hD hS hl => lv_if_gt C.1 C.2.1 hd ht (fun q => kt q H locs ls hP hD hS hl) (fun q => kf q H locs ls hP hD hS hl)
theorem ej_icmp_gt (C : er_C p s m c cc own G A H0) {x y : Int32} {off : Int} {tgt : Nat} (hd : decode cc pc = .ok (.if_icmp .gt off, 3)) (ht : (pc : Int) + off = (tgt : Int)) (kt : y < x → er_J p l e R s m args below meth c G A H0 Q kc ks σ tgt lv st) (kf : ¬ y < x → er_J p l e R s m args below meth c G A H0 Q kc ks σ (pc + 3) lv st) : er_J p l e R s m args below meth c G A H0 Q kc ks σ pc lv (.int y :: .int x :: st) :=
  fun H locs ls hP hD hS hl => lv_icmp_gt C.1 C.2.1 hd ht (fun q => kt q H locs ls hP hD hS hl) (fun q => kf q H locs ls hP hD hS hl)
theorem ej_if_le (C : er_C p s m c cc own G A H0) {x : Int32} {off : Int} {tgt : Nat} (hd : decode cc pc = .ok (.ifCond .le off, 3)) (ht : (pc : Int) + off = (tgt : Int)) (kt : x ≤ 0 → er_J p l e R s m args below meth c G A H0 Q kc ks σ tgt lv st) (kf : ¬ x ≤ 0 → er_J p l e R s m args below meth c G A H0 Q kc ks σ (pc + 3) lv st) : er_J p l e R s m args below meth c G A H0 Q kc ks σ pc lv (.int x :: st) :=
  fun H locs ls hP hD hS hl => lv_if_le C.1 C.2.1 hd ht (fun q => kt q H locs ls hP hD hS hl) (fun q => kf q H locs ls hP hD hS hl)
theorem ej_icmp_le (C : er_C p s m c cc own G A H0) {x y : Int32} {off : Int} {tgt : Nat} (hd : decode cc pc = .ok (.if_icmp .le off, 3)) (ht : (pc : Int) + off = (tgt : Int)) (kt : x ≤ y → er_J p l e R s m args below meth c G A H0 Q kc ks σ tgt lv st) (kf : ¬ x ≤ y → er_J p l e R s m args below meth c G A H0 Q kc ks σ (pc + 3) lv st) : er_J p l e R s m args below meth c G A H0 Q kc ks σ pc lv (.int y :: .int x :: st) :=
  fun H locs ls hP hD hS hl => lv_icmp_le C.1 C.2.1 hd ht (fun q => kt q H locs ls hP hD hS hl) (fun q => kf q H locs ls hP hD hS hl)
end ERJ
end
section
/-! reads and writes of the cells -/
/-- the pool's entry idx of the class own is the field i of the class number ci -/
def er_F (own : String) (idx ci i : Nat) : Prop := ∃ (C : String) (T : u_T) (N : Nat), er_cl[ci]? = some (C, T, N) ∧ i < N ∧ (∀ w ∈ u_ws C T N, w ∈ er_tbl) ∧ (T i).1 = C ∧ (Cond.fieldLink own idx C (T i).2.1 (T i).2.2.1 ∈ er_tbl ∨ ∃ host, Cond.fieldLinkNest own idx C (T i).2.1 (T i).2.2.1 host ∈ er_tbl)
/-- the same, an int field that may be written -/
def er_Fp (own : String) (idx ci i : Nat) : Prop := ∃ (C : String) (T : u_T) (N : Nat) (ty : Nat → FieldType), er_cl[ci]? = some (C, T, N) ∧ i < N ∧ (∀ w ∈ u_ws C T N, w ∈ er_tbl) ∧ (T i).1 = C ∧ Cond.fieldLink own idx C (T i).2.1 (T i).2.2.1 ∈ er_tbl ∧ (T i).2.2.2 = false ∧ parseFieldDescriptor (T i).2.2.1 = some .int ∧ (∀ k, k < N → parseFieldDescriptor (T k).2.2.1 = some (ty k)) ∧ (∀ a, a < N → ∀ b, b < N → a ≠ b → (T a).2.1 ≠ (T b).2.1)
section ERH
variable {p : Program} {l : Launch} {e : Env} {R : Room} {s : State} {m : MethodId} {args : Array Value} {below : List Frame} {meth : Method} {c : Code} {Q : State → Prop} {G : er_G} {A : Nat → Prop} {H0 : Heap} {kc ks : Nat} {σ : er_S} {pc : Nat} {lv lv' : List (Option Value)} {st : List Value} {cc : ByteArray} {own : String}
theorem er_obj {k ci : Nat} {fs : List (Option Nat)} (hk : k ∈ er_ks G) (hy : er_lay k = .inl (ci, fs)) : ∃ q0 : Nat, (er_ks G)[q0]? = some k ∧ ∀ σ : er_S, (er_ws G σ)[q0]? = some (er_ad G k, .inr (ci, er_fs G σ k 0 fs)) := by
  obtain ⟨q0, hq, hw⟩ := er_ws_at hk
  refine ⟨q0, hq, fun σ => ?_⟩
  rw [hw σ]
  simp only [er_ent, hy]
theorem ej_getr (C : er_C p s m c cc own G A H0) {k ci i t idx : Nat} {fs : List (Option Nat)} (hk : k ∈ er_ks G) (hy : er_lay k = .inl (ci, fs)) (hf : fs[i]? = some (some t)) (hF : er_F own idx ci i) (hd : decode cc pc = .ok (.getfield idx, 3)) (kk : er_J p l e R s m args below meth c G A H0 Q kc ks σ (pc + 3) lv (.ref t :: st)) : er_J p l e R s m args below meth c G A H0 Q kc ks σ pc lv (.ref k :: st) := by
  intro H locs ls hP hD hS hl
  obtain ⟨C0, T, N, h1, h2, h3, h4, h5⟩ := hF
  obtain ⟨q0, -, hw⟩ := er_obj (G := G) hk hy
  have hv := er_fs_get G σ k fs 0 i _ hf
  rcases h5 with h5 | ⟨host, h5⟩
  · exact va_get (D := G.1) (ci := ci) (C := C0) (T := T) (N := N) (ref := C0) C.1 C.2.1 (fun w hw => C.2.2.2.1.use hw) h3 C.2.2.1 C.2.2.2.2.1 hP q0 (hw σ) h1 i h2 (C.2.2.2.1.use h5) (fun x hx => by rw [h4] at hx; exact hx) hv hd (kk H locs ls hP hD hS hl)
  · exact va_getN (D := G.1) (ci := ci) (C := C0) (T := T) (N := N) (ref := C0) C.1 C.2.1 (fun w hw => C.2.2.2.1.use hw) h3 C.2.2.1 C.2.2.2.2.1 hP q0 (hw σ) h1 i h2 (C.2.2.2.1.use h5) (fun x hx => by rw [h4] at hx; exact hx) hv hd (kk H locs ls hP hD hS hl)
theorem ej_geti (C : er_C p s m c cc own G A H0) {k ci i idx : Nat} {fs : List (Option Nat)} (hk : k ∈ er_ks G) (hy : er_lay k = .inl (ci, fs)) (hf : fs[i]? = some none) (hF : er_F own idx ci i) (hd : decode cc pc = .ok (.getfield idx, 3)) (kk : er_J p l e R s m args below meth c G A H0 Q kc ks σ (pc + 3) lv (.int (σ k i) :: st)) : er_J p l e R s m args below meth c G A H0 Q kc ks σ pc lv (.ref k :: st) := by
  intro H locs ls hP hD hS hl
  obtain ⟨C0, T, N, h1, h2, h3, h4, h5⟩ := hF
  obtain ⟨q0, -, hw⟩ := er_obj (G := G) hk hy
  have hv := er_fs_get G σ k fs 0 i _ hf
  rw [Nat.zero_add] at hv
  rcases h5 with h5 | ⟨host, h5⟩
  · exact va_get (D := G.1) (ci := ci) (C := C0) (T := T) (N := N) (ref := C0) C.1 C.2.1 (fun w hw => C.2.2.2.1.use hw) h3 C.2.2.1 C.2.2.2.2.1 hP q0 (hw σ) h1 i h2 (C.2.2.2.1.use h5) (fun x hx => by rw [h4] at hx; exact hx) hv hd (kk H locs ls hP hD hS hl)
  · exact va_getN (D := G.1) (ci := ci) (C := C0) (T := T) (N := N) (ref := C0) C.1 C.2.1 (fun w hw => C.2.2.2.1.use hw) h3 C.2.2.1 C.2.2.2.2.1 hP q0 (hw σ) h1 i h2 (C.2.2.2.1.use h5) (fun x hx => by rw [h4] at hx; exact hx) hv hd (kk H locs ls hP hD hS hl)
theorem ej_puti (C : er_C p s m c cc own G A H0) {k ci i idx : Nat} {fs : List (Option Nat)} {v : Int32} (hk : k ∈ er_ks G) (hy : er_lay k = .inl (ci, fs)) (hf : fs[i]? = some none) (hF : er_Fp own idx ci i) (hd : decode cc pc = .ok (.putfield idx, 3)) (kk : er_J p l e R s m args below meth c G A H0 Q kc ks (er_up σ k i v) (pc + 3) lv st) : er_J p l e R s m args below meth c G A H0 Q kc ks σ pc lv (.int v :: .ref k :: st) := by
  intro H locs ls hP hD hS hl
  obtain ⟨C0, T, N, ty, h1, h2, h3, h4, h5, h6, h7, h8, h9⟩ := hF
  obtain ⟨q0, hq, hw⟩ := er_obj (G := G) hk hy
  have hlen : i < (er_fs G σ k 0 fs).length := by rw [er_fs_len]; exact (List.getElem?_eq_some_iff.mp hf).1
  have hset : (er_ws G σ).set q0 (er_ad G k, .inr (ci, (er_fs G σ k 0 fs).set i (.int v))) = er_ws G (er_up σ k i v) := by
    rw [er_fs_set G σ k v fs 0 i hf, Nat.zero_add, ← er_ws_set C.2.2.2.2.2.1 hq (σ := σ) (σ' := er_up σ k i v) (fun j hj => er_up_other σ i v hj)]
    simp only [er_ent, hy]
  refine va_put (D := G.1) (ci := ci) (C := C0) (T := T) (N := N) (ref := C0) (ty := .int) (v := .int v) C.1 C.2.1 (fun w hw => C.2.2.2.1.use hw) h3 ty h8 h9 C.2.2.1 C.2.2.2.2.1 hP hD hS q0 (hw σ) h1 i h2 (C.2.2.2.1.use h5) (fun x hx => by rw [h4] at hx; exact hx) h6 h7 rfl rfl hlen hd (fun H1 locs1 hP1 hD1 hS1 => ?_)
  rw [hset] at hP1 hD1
  exact kk H1 locs1 ls hP1 hD1 hS1 hl
theorem ej_iald (C : er_C p s m c cc own G A H0) {k n : Nat} {j : Int32} (hk : k ∈ er_ks G) (hy : er_lay k = .inr (0, n)) (hin : er_inb j n = true) (hd : decode cc pc = .ok (.iaload, 1)) (kk : er_J p l e R s m args below meth c G A H0 Q kc ks σ (pc + 1) lv (.int (σ k (er_ix j)) :: st)) : er_J p l e R s m args below meth c G A H0 Q kc ks σ pc lv (.int j :: .ref k :: st) := by
  intro H locs ls hP hD hS hl
  obtain ⟨q0, hq, hw⟩ := er_ws_at (G := G) hk
  have he : (er_ws G σ)[q0]? = some (er_ad G k, .inl (G.2.1.1, n, .inl (σ k))) := by rw [hw σ]; simp only [er_ent, hy]
  exact va_iald C.1 C.2.1 C.2.2.2.2.1 hP q0 0 he rfl (er_inb_in hin) hd (kk H locs ls hP hD hS hl)
theorem ej_zald (C : er_C p s m c cc own G A H0) {k n : Nat} {j : Int32} (hk : k ∈ er_ks G) (hy : er_lay k = .inr (1, n)) (hin : er_inb j n = true) (hd : decode cc pc = .ok (.baload, 1)) (kk : er_J p l e R s m args below meth c G A H0 Q kc ks σ (pc + 1) lv (.int (σ k (er_ix j)) :: st)) : er_J p l e R s m args below meth c G A H0 Q kc ks σ pc lv (.int j :: .ref k :: st) := by
  intro H locs ls hP hD hS hl
  obtain ⟨q0, hq, hw⟩ := er_ws_at (G := G) hk
  have he : (er_ws G σ)[q0]? = some (er_ad G k, .inl (G.2.1.2.1, n, .inl (σ k))) := by rw [hw σ]; simp only [er_ent, hy]
  exact va_zald C.1 C.2.1 C.2.2.2.2.1 hP q0 1 he rfl (er_inb_in hin) hd (kk H locs ls hP hD hS hl)
theorem ej_lald (C : er_C p s m c cc own G A H0) {k n : Nat} {j : Int32} (hk : k ∈ er_ks G) (hy : er_lay k = .inr (2, n)) (hin : er_inb j n = true) (hd : decode cc pc = .ok (.laload, 1)) (kk : er_J p l e R s m args below meth c G A H0 Q kc ks σ (pc + 1) lv (.long (σ k (er_ix j)).toInt64 :: st)) : er_J p l e R s m args below meth c G A H0 Q kc ks σ pc lv (.int j :: .ref k :: st) := by
  intro H locs ls hP hD hS hl
  obtain ⟨q0, hq, hw⟩ := er_ws_at (G := G) hk
  have he : (er_ws G σ)[q0]? = some (er_ad G k, .inl (G.2.1.2.2, n, .inr (.inl (fun j => (σ k j).toInt64)))) := by rw [hw σ]; simp only [er_ent, hy]
  exact va_lald C.1 C.2.1 C.2.2.2.2.1 hP q0 2 he rfl (er_inb_in hin) hd (kk H locs ls hP hD hS hl)
theorem ej_iast (C : er_C p s m c cc own G A H0) {k n : Nat} {j v : Int32} (hk : k ∈ er_ks G) (hy : er_lay k = .inr (0, n)) (hin : er_inb j n = true) (hd : decode cc pc = .ok (.iastore, 1)) (kk : er_J p l e R s m args below meth c G A H0 Q kc ks (er_up σ k (er_ix j) v) (pc + 1) lv st) : er_J p l e R s m args below meth c G A H0 Q kc ks σ pc lv (.int v :: .int j :: .ref k :: st) := by
  intro H locs ls hP hD hS hl
  obtain ⟨q0, hq, hw⟩ := er_ws_at (G := G) hk
  have he : (er_ws G σ)[q0]? = some (er_ad G k, .inl (G.2.1.1, n, .inl (σ k))) := by rw [hw σ]; simp only [er_ent, hy]
  have hset : (er_ws G σ).set q0 (er_ad G k, .inl (G.2.1.1, n, .inl (upd (σ k) j.toNatClampNeg v))) = er_ws G (er_up σ k (er_ix j) v) := by
    rw [← er_ws_set C.2.2.2.2.2.1 hq (σ := σ) (σ' := er_up σ k (er_ix j) v) (fun i hi => er_up_other σ _ v hi)]
    simp only [er_ent, hy, er_up_same, er_ix]
  refine va_iast C.1 C.2.1 C.2.2.2.2.1 hP hD hS q0 0 he rfl (er_inb_in hin) hd (fun H1 locs1 hP1 hD1 hS1 => ?_)
  rw [hset] at hP1 hD1
  exact kk H1 locs1 ls hP1 hD1 hS1 hl
theorem ej_zast (C : er_C p s m c cc own G A H0) {k n : Nat} {j v : Int32} (hk : k ∈ er_ks G) (hy : er_lay k = .inr (1, n)) (hin : er_inb j n = true) (hb : er_isb v = true) (hd : decode cc pc = .ok (.bastore, 1)) (kk : er_J p l e R s m args below meth c G A H0 Q kc ks (er_up σ k (er_ix j) v) (pc + 1) lv st) : er_J p l e R s m args below meth c G A H0 Q kc ks σ pc lv (.int v :: .int j :: .ref k :: st) := by
  intro H locs ls hP hD hS hl
  obtain ⟨q0, hq, hw⟩ := er_ws_at (G := G) hk
  have he : (er_ws G σ)[q0]? = some (er_ad G k, .inl (G.2.1.2.1, n, .inl (σ k))) := by rw [hw σ]; simp only [er_ent, hy]
  have hset : (er_ws G σ).set q0 (er_ad G k, .inl (G.2.1.2.1, n, .inl (upd (σ k) j.toNatClampNeg (vp_nar .boolean v)))) = er_ws G (er_up σ k (er_ix j) v) := by
    rw [← er_ws_set C.2.2.2.2.2.1 hq (σ := σ) (σ' := er_up σ k (er_ix j) v) (fun i hi => er_up_other σ _ v hi), er_isb_z hb]
    simp only [er_ent, hy, er_up_same, er_ix]
  refine va_zast C.1 C.2.1 C.2.2.2.2.1 hP hD hS q0 1 he rfl (er_inb_in hin) hd (fun H1 locs1 hP1 hD1 hS1 => ?_)
  rw [hset] at hP1 hD1
  exact kk H1 locs1 ls hP1 hD1 hS1 hl
theorem ej_last (C : er_C p s m c cc own G A H0) {k n : Nat} {j v : Int32} (hk : k ∈ er_ks G) (hy : er_lay k = .inr (2, n)) (hin : er_inb j n = true) (hd : decode cc pc = .ok (.lastore, 1)) (kk : er_J p l e R s m args below meth c G A H0 Q kc ks (er_up σ k (er_ix j) v) (pc + 1) lv st) : er_J p l e R s m args below meth c G A H0 Q kc ks σ pc lv (.long v.toInt64 :: .int j :: .ref k :: st) := by
  intro H locs ls hP hD hS hl
  obtain ⟨q0, hq, hw⟩ := er_ws_at (G := G) hk
  have he : (er_ws G σ)[q0]? = some (er_ad G k, .inl (G.2.1.2.2, n, .inr (.inl (fun j => (σ k j).toInt64)))) := by rw [hw σ]; simp only [er_ent, hy]
  have hset : (er_ws G σ).set q0 (er_ad G k, .inl (G.2.1.2.2, n, .inr (.inl (vp_updL (fun j => (σ k j).toInt64) j.toNatClampNeg v.toInt64)))) = er_ws G (er_up σ k (er_ix j) v) := by
    rw [← er_ws_set C.2.2.2.2.2.1 hq (σ := σ) (σ' := er_up σ k (er_ix j) v) (fun i hi => er_up_other σ _ v hi)]
    have hu : vp_updL (fun j => (σ k j).toInt64) j.toNatClampNeg v.toInt64 = fun i => (er_up σ k (er_ix j) v k i).toInt64 := by
      funext i
      by_cases hi : i = j.toNatClampNeg
      · subst hi
        simp [vp_updL, er_up, er_ix]
      · simp [vp_updL, er_up, er_ix, hi]
    rw [hu]
    simp only [er_ent, hy]
  refine va_last C.1 C.2.1 C.2.2.2.2.1 hP hD hS q0 2 he rfl (er_inb_in hin) hd (fun H1 locs1 hP1 hD1 hS1 => ?_)
  rw [hset] at hP1 hD1
  exact kk H1 locs1 ls hP1 hD1 hS1 hl
theorem ej_tin (C : er_C p s m c cc own G A H0) {dflt lo hi : Int} {offs : Array Int} {len : Nat} {x v : Int32} {off : Int} {tgt : Nat} (hd : decode cc pc = .ok (.tableswitch dflt lo hi offs, len)) (hx : x = v) (h1 : ¬ v.toInt < lo) (h2 : ¬ hi < v.toInt) (ho : offs[(v.toInt - lo).toNat]? = some off) (ht : (pc : Int) + off = (tgt : Int)) (k : er_J p l e R s m args below meth c G A H0 Q kc ks σ tgt lv st) : er_J p l e R s m args below meth c G A H0 Q kc ks σ pc lv (.int x :: st) :=
  fun H locs ls hP hD hS hl => by
    subst hx
    exact lv_tableIn C.1 C.2.1 hd h1 h2 ho ht (k H locs ls hP hD hS hl)
theorem ej_tout (C : er_C p s m c cc own G A H0) {dflt lo hi : Int} {offs : Array Int} {len : Nat} {x : Int32} {tgt : Nat} (hd : decode cc pc = .ok (.tableswitch dflt lo hi offs, len)) (h : x.toInt < lo ∨ hi < x.toInt) (ht : (pc : Int) + dflt = (tgt : Int)) (k : er_J p l e R s m args below meth c G A H0 Q kc ks σ tgt lv st) : er_J p l e R s m args below meth c G A H0 Q kc ks σ pc lv (.int x :: st) :=
  fun H locs ls hP hD hS hl => lv_tableOut C.1 C.2.1 hd h ht (k H locs ls hP hD hS hl)
end ERH
end
section
/-! contracts of methods that return or throw; calls -/
abbrev er_R : Type := (Option Value ⊕ Nat) × er_S
/-- which cells a method may change: the world's, and new ones -/
def er_A (G : er_G) (sz : Nat) : Nat → Prop := fun q => (∃ k, k ∈ er_ks G ∧ q = er_ad G k) ∨ sz ≤ q
def er_out (r : Option Value ⊕ Nat) (st : State) (o : Outcome) (t : State) : Prop := match r with
  | .inl v => o = .returned v
  | .inr k => ∃ (a : Addr) (cell : Cell), o = .threw a ∧ t.heap[a]? = some cell ∧ cell.vm = .none ∧ st.vm.findClass (er_exc k) = some cell.cls
def er_FE (A : Nat → Prop) (st t : State) (nc ns : Nat) : Prop := ∃ L : List Loc, st.WarmedH t.vm ∧ st.sameButNew ({ t with vm := st.vm } : State) L nc ns ∧ ∀ q ∈ L, A q.base
def er_Qc (G : er_G) (sz nc ns : Nat) (r : er_R) : Array Value → State → Outcome → State → Prop := fun _ st o t =>
  er_out r.1 st o t ∧ va_P G.1 er_cl (er_ws G r.2) t.heap ∧ va_F (er_A G sz) st t ∧ er_FE (er_A G sz) st t nc ns
def er_Pc (G : er_G) (sz : Nat) (As : List Value) (σ : er_S) : Array Value → State → Prop := fun v U =>
  v = (As.map (er_cz G)).toArray ∧ U.heap.size = sz ∧ va_P G.1 er_cl (er_ws G σ) U.heap ∧ va_D (fun _ => True) (er_ws G σ) ∧ va_K G.1 er_cl (er_tys G) U ∧ er_T U ∧ (er_ks G).Nodup ∧ er_Z (er_A G sz) U U.heap
/-- THE CONTRACT: called with As in σ, y ends as r says; its room: fr frames, lo words, nc cells of ns slots -/
def er_Con (l : Launch) (y : MethodName) (w : Cond) (fr lo nc ns : Nat) (G : er_G) (As : List Value) (σ : er_S) (r : er_R) : Prop :=
  ∀ sz : Nat, MetFree l y (headSpec [w] { frames := fr, cells := nc, slots := ns, locals := lo }) (er_Pc G sz As σ) (fun _ _ _ _ _ => True) (er_Qc G sz nc ns r)
def er_fin (below : List Frame) (G : er_G) (s : State) (nc ns : Nat) (r : er_R) : State → Prop := fun t => ∃ o, t.status = .running ∧ Ended t below o ∧ er_Qc G s.heap.size nc ns r #[] s o t
theorem er_D_ad {G : er_G} {σ : er_S} {A B : Nat → Prop} (h : va_D A (er_ws G σ)) (hB : ∀ k, k ∈ er_ks G → B (er_ad G k)) (σ' : er_S) : va_D B (er_ws G σ') := by
  have key : ∀ (τ : er_S) (i : Nat) (q : Nat × va_E), (er_ws G τ)[i]? = some q → ∃ k, (er_ks G)[i]? = some k ∧ q.1 = er_ad G k := by
    intro τ i q hq
    simp only [er_ws, List.getElem?_map] at hq
    cases hz : (er_ks G)[i]? with
    | none => rw [hz] at hq; cases hq
    | some k => rw [hz] at hq; cases hq; exact ⟨k, rfl, rfl⟩
  refine ⟨fun i j x y hx hy e => ?_, fun i q hq => ?_⟩
  · obtain ⟨k1, a1, b1⟩ := key σ' i x hx
    obtain ⟨k2, a2, b2⟩ := key σ' j y hy
    refine h.1 i j (er_ad G k1, er_ent G σ k1) (er_ad G k2, er_ent G σ k2) (by simp [er_ws, a1]) (by simp [er_ws, a2]) ?_
    rw [← b1, ← b2]
    exact e
  · obtain ⟨k, a1, b1⟩ := key σ' i q hq
    rw [b1]
    exact hB k (List.mem_of_getElem? a1)
theorem er_D_of {G : er_G} {σ : er_S} {A : Nat → Prop} (h : va_D A (er_ws G σ)) {k : Nat} (hk : k ∈ er_ks G) : A (er_ad G k) := by
  obtain ⟨q0, -, hw⟩ := er_ws_at hk
  exact h.2 q0 _ (hw σ)
/-- the locals with which a method begins -/
def er_lv0 (As : List Value) (n : Nat) : List (Option Value) := As.map some ++ List.replicate (n - As.length) none
theorem er_al_none (G : er_G) : ∀ (k i : Nat), er_al G i (List.replicate k none) = [] := by
  intro k
  induction k with
  | zero => intro i; rfl
  | succ k ih => intro i; exact ih (i + 1)
theorem er_al_args (G : er_G) (k : Nat) : ∀ (As : List Value) (i : Nat), (∀ v ∈ As, v.category = 1) → er_al G i (As.map some ++ List.replicate k none) = lv_args i (As.map (er_cz G)) := by
  intro As
  induction As with
  | nil => intro i _; exact er_al_none G k i
  | cons a r ih =>
    intro i h
    have h1 : (er_cz G a).category = 1 := er_cat (h a List.mem_cons_self)
    simp only [List.map_cons, List.cons_append, er_al, lv_args]
    rw [if_neg (by rw [h1]; decide), ih (i + 1) (fun v hv => h v (List.mem_cons_of_mem _ hv))]
theorem er_sl_len (vs : List Value) (h : ∀ v ∈ vs, v.category = 1) : (lg_sl vs).length = vs.length := by
  induction vs with
  | nil => rfl
  | cons a r ih =>
    have h1 : a.category = 1 := h a List.mem_cons_self
    have h2 := ih (fun v hv => h v (List.mem_cons_of_mem _ hv))
    simp only [lg_sl, List.flatMap_cons, List.length_append, List.length_cons] at h2 ⊢
    rw [if_neg (by rw [h1]; decide)]
    simp only [List.length_cons, List.length_nil]
    omega
theorem er_entry (G : er_G) (As : List Value) {n : Nat} (h1 : ∀ v ∈ As, v.category = 1) (hn : As.length ≤ n) : lv_has ((lg_sl (As.map (er_cz G)) ++ List.replicate (n - (lg_sl (As.map (er_cz G))).length) Slot.unset).toArray) (er_lv0 As n).length (er_al G 0 (er_lv0 As n)) := by
  have hc : ∀ v ∈ As.map (er_cz G), v.category = 1 := by
    intro v hv
    obtain ⟨w, hw, rfl⟩ := List.mem_map.mp hv
    exact er_cat (h1 w hw)
  have hlen : (lg_sl (As.map (er_cz G))).length ≤ n := by rw [er_sl_len _ hc, List.length_map]; exact hn
  have h := lv_entry (As.map (er_cz G)) (n := n) hlen
  have e1 : (er_lv0 As n).length = n := by simp [er_lv0]; omega
  rw [e1, er_lv0, er_al_args G _ As 0 h1]
  exact h
/-- a contract out of the walk of the method's body -/
theorem er_ofJ {l : Launch} {y : MethodName} {cc : ByteArray} {maxL : Nat} {ret : Option FieldType} {hh : List (Nat × Nat × Nat × Nat)} {w : Cond} {fr lo nc ns : Nat} {G : er_G} {As : List Value} {σ : er_S} {r : er_R} {lv0 : List (Option Value)} (hy : plainFor y = true) (hlv : er_lv0 As maxL = lv0) (hw : w = .code y cc maxL ret ∨ w = .codeWith y cc maxL ret hh) (h1 : ∀ v ∈ As, v.category = 1) (hn : As.length ≤ maxL)
    (body : ∀ (p : Program) (e : Env) (s : State) (m : MethodId) (args : Array Value) (below : List Frame) (meth : Method) (c : Code), l.admits e → er_C p s m c cc y.cls G (er_A G s.heap.size) s.heap → meth.sig.returnType = ret → meth.locks = false → c.maxLocals = maxL → w.before args s = true → s.methodNamed? y = some m → s.vm.method? m = some meth → meth.code = some c →
      er_J p l e { frames := fr, cells := nc, slots := ns, locals := lo } s m args below meth c G (er_A G s.heap.size) s.heap (er_fin below G s nc ns r) 0 0 σ 0 lv0 []) : er_Con l y w fr lo nc ns G As σ r := by
  intro sz
  subst hlv
  refine MetFree.of_bodySF (code := cc) (maxLocals := maxL) (ret := ret) hy ?_ ?_
  · intro args s m h hn
    have hb := atoms_spec (ws := [w]) h _ List.mem_cons_self
    rcases hw with rfl | rfl
    · obtain ⟨meth, c, h1, h2, h3, h4, h5, h6, -, -⟩ := Cond.code_spec hn hb
      exact ⟨meth, c, h1, h2, h3, h4, h5, h6⟩
    · obtain ⟨m9, meth, c, hn9, h1, h2, h3, h4, -, h5, h6, -⟩ := Cond.codeWith_spec hb
      cases hn.symm.trans hn9
      exact ⟨meth, c, h1, h2, h3, h4, h5, h6⟩
  · intro p e s m args below meth c s₁ B hml hP _
    obtain ⟨rfl, hsz, hP, hD, hK, hT, hnd, hZ⟩ := hP
    subst hsz
    have hh0 : s₁.heap = s.heap := by rw [B.state]; rfl
    have X := Stand.of_body B
    have hwb := atoms_spec (ws := [w]) B.pre _ List.mem_cons_self
    have hC : er_C p s m c cc y.cls G (er_A G s.heap.size) s.heap := ⟨B.exec, B.bytes, findClass_of_methodNamed B.named, hT, hK, hnd, fun q h => Or.inr h, hZ⟩
    have hJ := body p e s m _ below meth c B.admits hC B.returns B.notSynchronized hml hwb B.named B.method X.code
    have hl := er_entry G As (n := maxL) h1 hn
    have hD2 : va_D (er_A G s.heap.size) (er_ws G σ) := er_D_ad hD (fun k hk => Or.inl ⟨k, hk, rfl⟩) σ
    have K := hJ s.heap [] _ hP hD2 va_S.rf hl
    rw [List.map_nil, ← lg_entry_eq] at K
    obtain ⟨t, a1, o, b1, b2, b3⟩ := K s₁ hh0 X
    exact ⟨t, o, a1, b1, b2, b3⟩
section ERC
variable {p : Program} {l : Launch} {e : Env} {R : Room} {s : State} {m : MethodId} {args : Array Value} {below : List Frame} {meth : Method} {c : Code} {Q : State → Prop} {G : er_G} {A : Nat → Prop} {H0 : Heap} {kc ks nc ns : Nat} {σ σ' : er_S} {pc : Nat} {lv lv' : List (Option Value)} {st : List Value} {cc : ByteArray} {own : String}
theorem er_wm {H : Heap} {locs : List Loc} {g : JFrame} {Q' : State → Prop} (h : ∀ t, Q t → Q' t) (k : W p l e R s m args below meth c H locs kc ks Q g) : W p l e R s m args below meth c H locs kc ks Q' g := by
  intro T hT X
  obtain ⟨t, a, b⟩ := k T hT X
  exact ⟨t, a, h t b⟩
theorem er_mq {H : Heap} {locs : List Loc} {v : Option Value} (hS : va_S (er_A G s.heap.size) s.heap H locs) (hP : va_P G.1 er_cl (er_ws G σ) H) (h1 : kc ≤ nc) (h2 : ks ≤ ns) (t : State) (h : MQ below (fun _ _ o t => o = .returned v ∧ t.heap = H) args s kc ks (er_A G s.heap.size) t) : er_fin below G s nc ns (.inl v, σ) t := by
  obtain ⟨o, a1, a2, ⟨rfl, a3⟩, L, ⟨-, a4, a5⟩, a6⟩ := h
  refine ⟨.returned v, a1, a2, rfl, by rw [a3]; exact hP, hS.F a3, L, a4, ?_, a6⟩
  exact a5.mono h1 h2
theorem ej_iret {v : Int32} (C : er_C p s m c cc own G (er_A G s.heap.size) s.heap) (hr : meth.sig.returnType = some .int) (hlocks : meth.locks = false) (h1 : kc ≤ nc) (h2 : ks ≤ ns) (hd : decode cc pc = .ok (.ireturn, 1)) : er_J p l e R s m args below meth c G (er_A G s.heap.size) s.heap (er_fin below G s nc ns (.inl (some (.int v)), σ)) kc ks σ pc lv [.int v] :=
  fun H locs ls hP hD hS hl => er_wm (fun t h => er_mq (v := some (.int v)) hS hP h1 h2 t h) (W.iret C.1 C.2.1 hr (fun t ht _ => ⟨rfl, ht⟩) hS.2.2 hd hlocks)
theorem ej_zret {v : Int32} (C : er_C p s m c cc own G (er_A G s.heap.size) s.heap) (hr : meth.sig.returnType = some .boolean) (hlocks : meth.locks = false) (h1 : kc ≤ nc) (h2 : ks ≤ ns) (hv : er_isb v = true) (hd : decode cc pc = .ok (.ireturn, 1)) : er_J p l e R s m args below meth c G (er_A G s.heap.size) s.heap (er_fin below G s nc ns (.inl (some (.int v)), σ)) kc ks σ pc lv [.int v] :=
  fun H locs ls hP hD hS hl => er_wm (fun t h => er_mq (v := some (.int v)) hS hP h1 h2 t h) (W.zret C.1 C.2.1 hr (by have h := of_decide_eq_true hv; rcases h with rfl | rfl <;> rfl) (fun t ht _ => ⟨rfl, ht⟩) hS.2.2 hd hlocks)
theorem ej_vret (C : er_C p s m c cc own G (er_A G s.heap.size) s.heap) (hr : meth.sig.returnType = none) (hlocks : meth.locks = false) (h1 : kc ≤ nc) (h2 : ks ≤ ns) (hd : decode cc pc = .ok (.return_, 1)) : er_J p l e R s m args below meth c G (er_A G s.heap.size) s.heap (er_fin below G s nc ns (.inl none, σ)) kc ks σ pc lv [] :=
  fun H locs ls hP hD hS hl => er_wm (fun t h => er_mq (v := none) hS hP h1 h2 t h) (W.vret C.1 C.2.1 hr (fun t ht _ => ⟨rfl, ht⟩) hS.2.2 hd hlocks)
/-- the call instruction enters y with the arguments a -/
def er_Ent (p : Program) (l : Launch) (e : Env) (R : Room) (s : State) (m : MethodId) (args : Array Value) (below : List Frame) (meth : Method) (c : Code) (kc ks : Nat) (H : Heap) (locs : List Loc) (g : JFrame) (rest : List Value) (y : MethodName) (a : Array Value) : Prop :=
  ∀ T : State, T.heap = H → Stand p l e R s m args below meth c T locs kc ks → ∃ (vm₁ : Vm) (mk : MethodId), Stand p l e R s m args below meth c (T.setVm vm₁) locs kc ks ∧ s.methodNamed? y = some mk ∧ ∀ target, (∀ acts, Steps p.tables e below (doInvoke e ((T.setVm vm₁).setTop { g with stack := rest }) acts mk a).1 target) → Steps p.tables e below (T.setTop g) target
/-- what the tables say of a callee -/
def er_Cal (y : MethodName) (w : Cond) (maxL n : Nat) : Prop := w ∈ er_tbl ∧ Cond.initialized y.cls ∈ er_tbl ∧ (y.cls ≠ "java/lang/invoke/MethodHandle" ∧ y.cls ≠ "java/lang/invoke/VarHandle") ∧ (parseMethodDescriptor y.desc).map (fun d => d.parameters.length) = some n ∧ ∃ (bytes : ByteArray) (ret : Option FieldType) (hh : List (Nat × Nat × Nat × Nat)), w = .code y bytes maxL ret ∨ w = .codeWith y bytes maxL ret hh
theorem er_Cal.spec {y : MethodName} {w : Cond} {maxL n : Nat} (h : er_Cal y w maxL n) {a : Array Value} {U : State} (hb : w.before a U = true) : ∃ (mk : MethodId) (methY : Method) (cY : Code), U.methodNamed? y = some mk ∧ U.vm.method? mk = some methY ∧ methY.code = some cY ∧ cY.maxLocals = maxL ∧ parseMethodDescriptor y.desc = some methY.sig := by
  obtain ⟨-, -, -, -, bytes, ret, hh, rfl | rfl⟩ := h
  · obtain ⟨mk, hn⟩ := Cond.code_named hb
    obtain ⟨meth, c, h1, h2, h3, h4, h5, h6, -, h8⟩ := Cond.code_spec hn hb
    exact ⟨mk, meth, c, hn, h1, h2, h4, h8⟩
  · obtain ⟨m9, meth, c, hn9, h1, h2, h3, h4, -, h5, h6, h8⟩ := Cond.codeWith_spec hb
    exact ⟨m9, meth, c, hn9, h1, h2, h4, h8⟩
theorem er_siteS (C : er_C p s m c cc own G A H0) {y : MethodName} {w : Cond} {maxL n idx : Nat} (hc : er_Cal y w maxL n) (hl : Cond.methodLink own idx y ∈ er_tbl) (hst : Cond.static y ∈ er_tbl) {H : Heap} {locs : List Loc} {ls : Array Slot} {As rest : List Value} (hn : As.length = n) (hd : decode cc pc = .ok (.invokestatic idx, 3)) :
    er_Ent p l e R s m args below meth c kc ks H locs (F0 m pc ls (As.reverse ++ rest)) rest y As.toArray := by
  intro T hT X
  obtain ⟨mk, methY, cY, h1, h2, h3, h4, h5⟩ := hc.spec (a := args) (C.2.2.2.1.use hc.1)
  have hstatic : methY.isStatic = true := Cond.static_spec h1 h2 (C.2.2.2.1.use (args := args) hst)
  obtain ⟨kP, hkP, -⟩ := className_of_methodNamed h1
  have hinitP : kP.init = .initialized := Cond.initialized_spec (findClass_of_methodNamed h1) hkP (C.2.2.2.1.use (args := args) hc.2.1)
  have hlen : As.length = methY.sig.parameters.length := by
    have h := hc.2.2.2.1
    rw [h5] at h
    rw [hn]
    exact (Option.some.inj h).symm
  obtain ⟨vm₁, X₁, hstep₁⟩ := X.invokestatic C.1 C.2.2.1 (C.2.2.2.1.use hl) h1 h2 hstatic hkP hinitP hc.2.2.1 (g := F0 m pc ls (As.reverse ++ rest)) rfl (argsL := As) (rest := rest) hlen rfl (by rw [C.2.1]; exact hd)
  exact ⟨vm₁, mk, X₁, h1, hstep₁⟩
theorem er_siteV (C : er_C p s m c cc own G A H0) {y : MethodName} {w : Cond} {maxL n idx : Nat} {K : String} (hc : er_Cal y w maxL n) (hl : Cond.methodLink own idx y ∈ er_tbl ∨ ∃ host, Cond.methodLinkNest own idx y host ∈ er_tbl) (hin : Cond.instanceMethod y ∈ er_tbl) (hse : Cond.selects K y y ∈ er_tbl) {H : Heap} {locs : List Loc} {ls : Array Slot} {b : Nat} (hcell : ∃ cellB : Cell, H[b]? = some cellB ∧ cellB.vm.isStatics = false ∧ s.vm.findClass K = some cellB.cls) {As rest : List Value} (hn : As.length = n) (hd : decode cc pc = .ok (.invokevirtual idx, 3)) :
    er_Ent p l e R s m args below meth c kc ks H locs (F0 m pc ls (As.reverse ++ .ref b :: rest)) rest y (Value.ref b :: As).toArray := by
  intro T hT X
  obtain ⟨cellB, hcB, hoB, hclB⟩ := hcell
  obtain ⟨mk, methY, cY, h1, h2, h3, h4, h5⟩ := hc.spec (a := args) (C.2.2.2.1.use hc.1)
  obtain ⟨mk', methM, hnamed, hmethM, hstM, habM⟩ := Cond.instanceMethod_spec (C.2.2.2.1.use (args := args) hin)
  cases h1.symm.trans hnamed
  cases h2.symm.trans hmethM
  obtain ⟨c2, r2, m2, q1, q2, q3, q4, kP, hkP, hkPi⟩ := Cond.selects_spec (C.2.2.2.1.use (args := args) hse)
  cases hclB.symm.trans q1
  cases (State.methodFound?_of_named hnamed hc.2.2.1).symm.trans q2
  cases hnamed.symm.trans q3
  have hselP : selectMethod e.platform s.vm cellB.cls mk = .method mk := by rw [Launch.admits_selectMethod X.admits]; exact q4
  have hlen : As.length = methY.sig.parameters.length := by
    have h := hc.2.2.2.1
    rw [h5] at h
    rw [hn]
    exact (Option.some.inj h).symm
  rcases hl with hl | ⟨host, hl⟩
  · obtain ⟨vm₁, X₁, hstep₁⟩ := X.invokevirtual C.1 C.2.2.1 (C.2.2.2.1.use hl) hnamed hmethM hstM hkP hkPi hc.2.2.1 (a := b) (cell := cellB) (by rw [hT]; exact hcB)
      (fun z h => by rw [h] at hoB; cases hoB) hselP hmethM habM hkP hkPi (g := F0 m pc ls (As.reverse ++ .ref b :: rest)) rfl (argsL := As) (rest := rest) hlen rfl (by rw [C.2.1]; exact hd)
    exact ⟨vm₁, mk, X₁, h1, hstep₁⟩
  · obtain ⟨vm₁, X₁, hstep₁⟩ := X.invokevirtualNest C.1 C.2.2.1 (C.2.2.2.1.use hl) hnamed hmethM hstM hkP hkPi hc.2.2.1 (a := b) (cell := cellB) (by rw [hT]; exact hcB)
      (fun z h => by rw [h] at hoB; cases hoB) hselP hmethM habM hkP hkPi (g := F0 m pc ls (As.reverse ++ .ref b :: rest)) rfl (argsL := As) (rest := rest) hlen rfl (by rw [C.2.1]; exact hd)
    exact ⟨vm₁, mk, X₁, h1, hstep₁⟩
/-- the callee runs: its end, whatever it is -/
theorem er_runs {y : MethodName} {w : Cond} {maxL n fr lo : Nat} {As : List Value} {r : er_R} {H : Heap} {locs : List Loc} {ls : Array Slot} {st0 rest : List Value} {a : Array Value} (C : er_C p s m c cc own G A H0) (hM : er_Con l y w fr lo nc ns G As σ r) (hc : er_Cal y w maxL n) (ha : a = (As.map (er_cz G)).toArray) (hE : er_Ent p l e R s m args below meth c kc ks H locs (F0 m pc ls st0) rest y a)
    (hml : c.maxLocals = ls.size) {ig : Instr} (hd : decode cc pc = .ok (ig, 3)) (hR : fr + 1 ≤ R.frames ∧ 8 + (maxL + 11) + lo ≤ R.locals ∧ kc + nc ≤ R.cells ∧ ks + ns ≤ R.slots) (hcat : (rest.map fun v => v.category).sum ≤ 8) (hP : va_P G.1 er_cl (er_ws G σ) H) (hD : va_D A (er_ws G σ)) (hS : va_S A H0 H locs) :
    ∀ T : State, T.heap = H → Stand p l e R s m args below meth c T locs kc ks → ∃ (T1 : State) (mk : MethodId) (o : Outcome) (t : State), T1.heap = H ∧ Stand p l e R s m args below meth c T1 locs kc ks ∧ er_Qc G H.size nc ns r a (T1.calling (F0 m pc ls rest) mk a) o t ∧ Ended t (.java (F0 m pc ls rest) :: below) o ∧ ∀ target, Steps p.tables e below t target → Steps p.tables e below (T.setTop (F0 m pc ls st0)) target := by
  intro T hT X
  obtain ⟨vm₁, mk, X₁, hnm, hgo⟩ := hE T hT X
  have hT1 : er_T (T.setVm vm₁) := C.2.2.2.1.warm X₁.warmed
  obtain ⟨mk', methY, cY, h1, h2, h3, h4, h5⟩ := hc.spec (a := a) (U := T.setVm vm₁) (hT1.use hc.1)
  have hn2 := X₁.named hnm
  cases h1.symm.trans hn2
  obtain ⟨kY, hkY, -⟩ := className_of_methodNamed h1
  have hinitY : kY.init = .initialized := Cond.initialized_spec (findClass_of_methodNamed h1) hkY (hT1.use (args := a) hc.2.1)
  have hmon : (F0 m pc ls rest).monitorRoom = 0 := rfl
  have happ : (headSpec [w] { frames := fr, cells := nc, slots := ns, locals := lo }).appliesLoose y e.platform ((T.setVm vm₁).calling (F0 m pc ls rest) mk a) = true :=
    Spec.appliesLoose_calling (g := F0 m pc ls rest) X₁.here (by rw [C.2.1]; exact hd) h1 hkY hinitY
      (X₁.room_calling (g := F0 m pc ls rest) (R' := { frames := fr, cells := nc, slots := ns, locals := lo }) hml.symm h2 h3 hR.1 (by
        show 2 * (F0 m pc ls rest).monitorRoom + (rest.map fun v => v.category).sum + (cY.maxLocals + 11) + lo ≤ R.locals
        rw [h4, hmon]; have := hR.2.1; omega) hR.2.2.1 hR.2.2.2) (atoms_intro (ws := [w]) (fun z hz => by rw [List.mem_singleton.mp hz]; exact hT1.use hc.1))
  obtain ⟨mid, hmid⟩ := X₁.here.above
  have hfr : ((T.setVm vm₁).setTop (F0 m pc ls rest)).frames = (.java (F0 m pc ls rest) :: mid) ++ below := by rw [State.frames_setTop' _ X₁.here.top, hmid]; rfl
  have hZ : er_Z (er_A G H.size) ((T.setVm vm₁).calling (F0 m pc ls rest) mk a) ((T.setVm vm₁).calling (F0 m pc ls rest) mk a).heap := by
    have h1 : er_Z A s H := C.2.2.2.2.2.2.2.kept hS.2.1
    have h2 : er_Z (er_A G H.size) s H := h1.narrow (fun q h => by
      rcases h with ⟨k, hk, rfl⟩ | h
      · exact er_D_of hD hk
      · exact C.2.2.2.2.2.2.1 q (Nat.le_trans hS.1 h))
    have h3 : ((T.setVm vm₁).calling (F0 m pc ls rest) mk a).heap = H := hT
    rw [h3]
    exact er_Z.moved (u := s) (U := (T.setVm vm₁).calling (F0 m pc ls rest) mk a) X₁.warmed.alike h2
  have hPc : er_Pc G H.size As σ a ((T.setVm vm₁).calling (F0 m pc ls rest) mk a) :=
    ⟨ha, by show T.heap.size = H.size; rw [hT], by show va_P G.1 er_cl (er_ws G σ) T.heap; rw [hT]; exact hP, er_D_ad hD (fun _ _ => trivial) σ, va_K.moved (u := s) (U := (T.setVm vm₁).calling (F0 m pc ls rest) mk a) X₁.warmed.alike C.2.2.2.2.1, hT1.same rfl, C.2.2.2.2.2.1, hZ⟩
  obtain ⟨o, t, hsteps, -, hend, hq⟩ := Steps.callFree (hM H.size) p X₁.admits X₁.cas X₁.clock (acts := []) hfr happ hPc trivial
  rw [State.frames_setTop' _ X₁.here.top, X₁.tail] at hend
  exact ⟨T.setVm vm₁, mk, o, t, hT, X₁, hq, hend, fun target h => hgo _ (fun acts => by rw [doInvoke_state]; exact hsteps.trans h)⟩
theorem er_S_join {H H1 : Heap} {locs L : List Loc} {sz : Nat} (hS : va_S A H0 H locs) (hA : ∀ q, H0.size ≤ q → A q) (hD : va_D A (er_ws G σ)) (hF1 : H.size ≤ H1.size) (hF2 : ∀ q : Nat, q < H.size → ¬ er_A G H.size q → H1[q]? = H[q]?) (hL : ∀ q ∈ L, er_A G H.size q.base) : va_S A H0 H1 (locs ++ L) := by
  have hin : ∀ q, er_A G H.size q → A q := by
    intro q h
    rcases h with ⟨k, hk, rfl⟩ | h
    · exact er_D_of hD hk
    · exact hA q (Nat.le_trans hS.1 h)
  refine ⟨Nat.le_trans hS.1 hF1, fun q h1 h2 => ?_, fun q hq => ?_⟩
  · rw [hF2 q (Nat.lt_of_lt_of_le h1 hS.1) (fun h => h2 (hin q h))]
    exact hS.2.1 q h1 h2
  · rcases List.mem_append.mp hq with h | h
    · exact hS.2.2 q h
    · exact hin _ (hL q h)
/-- a call that comes back -/
theorem er_back {y : MethodName} {w : Cond} {maxL n fr lo : Nat} {As : List Value} {v : Option Value} {H : Heap} {locs : List Loc} {ls : Array Slot} {st0 rest : List Value} {a : Array Value} (C : er_C p s m c cc own G A H0) (hM : er_Con l y w fr lo nc ns G As σ (.inl v, σ')) (hc : er_Cal y w maxL n) (ha : a = (As.map (er_cz G)).toArray) (hE : er_Ent p l e R s m args below meth c kc ks H locs (F0 m pc ls st0) rest y a)
    (hml : c.maxLocals = ls.size) {ig : Instr} (hd : decode cc pc = .ok (ig, 3)) (hR : fr + 1 ≤ R.frames ∧ 8 + (maxL + 11) + lo ≤ R.locals ∧ kc + nc ≤ R.cells ∧ ks + ns ≤ R.slots) (hcat : (rest.map fun v => v.category).sum ≤ 8) (hP : va_P G.1 er_cl (er_ws G σ) H) (hD : va_D A (er_ws G σ)) (hS : va_S A H0 H locs)
    (kk : ∀ (H1 : Heap) (locs1 : List Loc), va_P G.1 er_cl (er_ws G σ') H1 → va_D A (er_ws G σ') → va_S A H0 H1 locs1 → W p l e R s m args below meth c H1 locs1 (kc + nc) (ks + ns) Q (F0 m (pc + 3) ls (v.toList ++ rest))) : W p l e R s m args below meth c H locs kc ks Q (F0 m pc ls st0) := by
  intro T hT X
  obtain ⟨T1, mk, o, t, hT1, X1, ⟨hout, hP1, ⟨hz, hk⟩, L, hW, hsm, hL⟩, hend, hgo⟩ := er_runs C hM hc ha hE hml hd hR hcat hP hD hS T hT X
  have hout : o = .returned v := hout
  subst hout
  obtain ⟨T', X', -, -, ht⟩ := X1.outOf (g := F0 m pc ls rest) rfl (by rw [C.2.1]; exact hd) hend hW hsm
  have hh : T'.heap = t.heap := by rw [ht]; rfl
  have hz : H.size ≤ t.heap.size := by rw [← hT1]; exact hz
  have hk : ∀ q : Nat, q < H.size → ¬ er_A G H.size q → t.heap[q]? = H[q]? := fun q h1 h2 => by
    have := hk q (by show q < T1.heap.size; rw [hT1]; exact h1) h2
    rw [this]; show T1.heap[q]? = H[q]?; rw [hT1]
  obtain ⟨t2, a1, b1⟩ := kk t.heap (locs ++ L) hP1 (er_D_ad hD (fun k hk => er_D_of hD hk) σ') (er_S_join (sz := H.size) hS C.2.2.2.2.2.2.1 hD hz hk hL) T' hh X'
  refine ⟨t2, hgo t2 ?_, b1⟩
  rw [ht]
  exact a1
end ERC
end
section
section ERD
variable {p : Program} {l : Launch} {e : Env} {R : Room} {s : State} {m : MethodId} {args : Array Value} {below : List Frame} {meth : Method} {c : Code} {Q : State → Prop} {G : er_G} {A : Nat → Prop} {H0 : Heap} {kc ks nc ns : Nat} {σ σ' : er_S} {pc : Nat} {lv lv' : List (Option Value)} {st : List Value} {cc : ByteArray} {own : String}
theorem er_cats (G : er_G) (rest : List Value) : ((rest.map (er_cz G)).map fun v => v.category).sum = (rest.map fun v => v.category).sum := by
  induction rest with
  | nil => rfl
  | cons a r ih =>
    simp only [List.map_cons, List.sum_cons]
    rw [ih]
    congr 1
    cases a <;> rfl
theorem er_mapst (G : er_G) {As rest : List Value} (hs : st = As.reverse ++ rest) : st.map (er_cz G) = (As.map (er_cz G)).reverse ++ rest.map (er_cz G) := by
  subst hs
  rw [List.map_append, List.map_reverse]
/-- invokestatic, an int comes back -/
theorem ej_cs_i {y : MethodName} {w : Cond} {maxL n fr lo idx : Nat} {v : Int32} (C : er_C p s m c cc own G A H0) (As rest : List Value) (hM : er_Con l y w fr lo nc ns G As σ (.inl (some (.int v)), σ')) (hc : er_Cal y w maxL n) (hl : Cond.methodLink own idx y ∈ er_tbl) (hst : Cond.static y ∈ er_tbl) (hn : As.length = n) (hml : c.maxLocals = lv.length) (hd : decode cc pc = .ok (.invokestatic idx, 3)) (hR : fr + 1 ≤ R.frames ∧ 8 + (maxL + 11) + lo ≤ R.locals ∧ kc + nc ≤ R.cells ∧ ks + ns ≤ R.slots) (hcat : (rest.map fun v => v.category).sum ≤ 8) (hs : st = As.reverse ++ rest)
    (kk : er_J p l e R s m args below meth c G A H0 Q (kc + nc) (ks + ns) σ' (pc + 3) lv (.int v :: rest)) : er_J p l e R s m args below meth c G A H0 Q kc ks σ pc lv st := by
  intro H locs ls hP hD hS hl'
  rw [er_mapst G hs]
  exact er_back C hM hc rfl (er_siteS C hc hl hst (As := As.map (er_cz G)) (rest := rest.map (er_cz G)) (by rw [List.length_map]; exact hn) hd) (hml.trans hl'.1.symm) hd hR (by rw [er_cats]; exact hcat) hP hD hS (fun H1 locs1 hP1 hD1 hS1 => kk H1 locs1 ls hP1 hD1 hS1 hl')
/-- invokestatic, void -/
theorem ej_cs_v {y : MethodName} {w : Cond} {maxL n fr lo idx : Nat} (C : er_C p s m c cc own G A H0) (As rest : List Value) (hM : er_Con l y w fr lo nc ns G As σ (.inl none, σ')) (hc : er_Cal y w maxL n) (hl : Cond.methodLink own idx y ∈ er_tbl) (hst : Cond.static y ∈ er_tbl) (hn : As.length = n) (hml : c.maxLocals = lv.length) (hd : decode cc pc = .ok (.invokestatic idx, 3)) (hR : fr + 1 ≤ R.frames ∧ 8 + (maxL + 11) + lo ≤ R.locals ∧ kc + nc ≤ R.cells ∧ ks + ns ≤ R.slots) (hcat : (rest.map fun v => v.category).sum ≤ 8) (hs : st = As.reverse ++ rest)
    (kk : er_J p l e R s m args below meth c G A H0 Q (kc + nc) (ks + ns) σ' (pc + 3) lv rest) : er_J p l e R s m args below meth c G A H0 Q kc ks σ pc lv st := by
  intro H locs ls hP hD hS hl'
  rw [er_mapst G hs]
  exact er_back C hM hc rfl (er_siteS C hc hl hst (As := As.map (er_cz G)) (rest := rest.map (er_cz G)) (by rw [List.length_map]; exact hn) hd) (hml.trans hl'.1.symm) hd hR (by rw [er_cats]; exact hcat) hP hD hS (fun H1 locs1 hP1 hD1 hS1 => kk H1 locs1 ls hP1 hD1 hS1 hl')
theorem er_recv (C : er_C p s m c cc own G A H0) {H : Heap} {k ci : Nat} {fs : List (Option Nat)} {q : vw_C} (hk : k ∈ er_ks G) (hy : er_lay k = .inl (ci, fs)) (hq : er_cl[ci]? = some q) (hP : va_P G.1 er_cl (er_ws G σ) H) : ∃ cellB : Cell, H[er_ad G k]? = some cellB ∧ cellB.vm.isStatics = false ∧ s.vm.findClass q.1 = some cellB.cls := by
  obtain ⟨q0, -, hw⟩ := er_obj (G := G) hk hy
  exact va_recv C.2.2.2.2.1 hP hq (hw σ)
/-- invokevirtual on the cell k, an int comes back -/
theorem ej_cv_i {y : MethodName} {w : Cond} {maxL n fr lo idx k ci : Nat} {fs : List (Option Nat)} {q : vw_C} {v : Int32} (C : er_C p s m c cc own G A H0) (As rest : List Value) (hM : er_Con l y w fr lo nc ns G (.ref k :: As) σ (.inl (some (.int v)), σ')) (hc : er_Cal y w maxL n) (hl : Cond.methodLink own idx y ∈ er_tbl ∨ ∃ host, Cond.methodLinkNest own idx y host ∈ er_tbl) (hin : Cond.instanceMethod y ∈ er_tbl) (hk : k ∈ er_ks G) (hy : er_lay k = .inl (ci, fs)) (hq : er_cl[ci]? = some q) (hse : Cond.selects q.1 y y ∈ er_tbl) (hn : As.length = n) (hml : c.maxLocals = lv.length) (hd : decode cc pc = .ok (.invokevirtual idx, 3)) (hR : fr + 1 ≤ R.frames ∧ 8 + (maxL + 11) + lo ≤ R.locals ∧ kc + nc ≤ R.cells ∧ ks + ns ≤ R.slots) (hcat : (rest.map fun v => v.category).sum ≤ 8) (hs : st = As.reverse ++ .ref k :: rest)
    (kk : er_J p l e R s m args below meth c G A H0 Q (kc + nc) (ks + ns) σ' (pc + 3) lv (.int v :: rest)) : er_J p l e R s m args below meth c G A H0 Q kc ks σ pc lv st := by
  intro H locs ls hP hD hS hl'
  rw [er_mapst G hs]
  exact er_back C hM hc rfl (er_siteV C hc hl hin hse (er_recv C hk hy hq hP) (As := As.map (er_cz G)) (rest := rest.map (er_cz G)) (by rw [List.length_map]; exact hn) hd) (hml.trans hl'.1.symm) hd hR (by rw [er_cats]; exact hcat) hP hD hS (fun H1 locs1 hP1 hD1 hS1 => kk H1 locs1 ls hP1 hD1 hS1 hl')
/-- invokevirtual on the cell k, void -/
theorem ej_cv_v {y : MethodName} {w : Cond} {maxL n fr lo idx k ci : Nat} {fs : List (Option Nat)} {q : vw_C} (C : er_C p s m c cc own G A H0) (As rest : List Value) (hM : er_Con l y w fr lo nc ns G (.ref k :: As) σ (.inl none, σ')) (hc : er_Cal y w maxL n) (hl : Cond.methodLink own idx y ∈ er_tbl ∨ ∃ host, Cond.methodLinkNest own idx y host ∈ er_tbl) (hin : Cond.instanceMethod y ∈ er_tbl) (hk : k ∈ er_ks G) (hy : er_lay k = .inl (ci, fs)) (hq : er_cl[ci]? = some q) (hse : Cond.selects q.1 y y ∈ er_tbl) (hn : As.length = n) (hml : c.maxLocals = lv.length) (hd : decode cc pc = .ok (.invokevirtual idx, 3)) (hR : fr + 1 ≤ R.frames ∧ 8 + (maxL + 11) + lo ≤ R.locals ∧ kc + nc ≤ R.cells ∧ ks + ns ≤ R.slots) (hcat : (rest.map fun v => v.category).sum ≤ 8) (hs : st = As.reverse ++ .ref k :: rest)
    (kk : er_J p l e R s m args below meth c G A H0 Q (kc + nc) (ks + ns) σ' (pc + 3) lv rest) : er_J p l e R s m args below meth c G A H0 Q kc ks σ pc lv st := by
  intro H locs ls hP hD hS hl'
  rw [er_mapst G hs]
  exact er_back C hM hc rfl (er_siteV C hc hl hin hse (er_recv C hk hy hq hP) (As := As.map (er_cz G)) (rest := rest.map (er_cz G)) (by rw [List.length_map]; exact hn) hd) (hml.trans hl'.1.symm) hd hR (by rw [er_cats]; exact hcat) hP hD hS (fun H1 locs1 hP1 hD1 hS1 => kk H1 locs1 ls hP1 hD1 hS1 hl')
/-- a callee throws, and no handler of this method covers the call: this method throws it -/
theorem er_pass {y : MethodName} {w : Cond} {maxL n fr lo j NC NS : Nat} {As : List Value} {H : Heap} {locs : List Loc} {ls : Array Slot} {st0 rest : List Value} {a : Array Value} (C : er_C p s m c cc own G (er_A G s.heap.size) s.heap) (hM : er_Con l y w fr lo nc ns G As σ (.inr j, σ')) (hc : er_Cal y w maxL n) (ha : a = (As.map (er_cz G)).toArray) (hE : er_Ent p l e R s m args below meth c kc ks H locs (F0 m pc ls st0) rest y a)
    (hml : c.maxLocals = ls.size) {ig : Instr} (hd : decode cc pc = .ok (ig, 3)) (hR : fr + 1 ≤ R.frames ∧ 8 + (maxL + 11) + lo ≤ R.locals ∧ kc + nc ≤ R.cells ∧ ks + ns ≤ R.slots) (hcat : (rest.map fun v => v.category).sum ≤ 8) (hlocks : meth.locks = false) (hout : ∀ x ∈ c.exceptionTable.toList, covers x pc = false) (hN : kc + nc ≤ NC ∧ ks + ns ≤ NS) (hP : va_P G.1 er_cl (er_ws G σ) H) (hD : va_D (er_A G s.heap.size) (er_ws G σ)) (hS : va_S (er_A G s.heap.size) s.heap H locs) :
    W p l e R s m args below meth c H locs kc ks (er_fin below G s NC NS (.inr j, σ')) (F0 m pc ls st0) := by
  intro T hT X
  obtain ⟨T1, mk, o, t, hT1, X1, ⟨hou, hP1, ⟨hz, hk⟩, L, hW, hsm, hL⟩, hend, hgo⟩ := er_runs C hM hc ha hE hml hd hR hcat hP hD hS T hT X
  obtain ⟨x, cell, ho, hcell, hvm, hfc⟩ := hou
  subst ho
  obtain ⟨T', X', -, -, ht⟩ := X1.outOfThrown (g := F0 m pc ls rest) rfl hend hW hsm
  have hh : T'.heap = t.heap := by rw [ht, Stand.throwing_heap]
  have hz : H.size ≤ t.heap.size := by rw [← hT1]; exact hz
  have hk : ∀ q : Nat, q < H.size → ¬ er_A G H.size q → t.heap[q]? = H[q]? := fun q h1 h2 => by
    have := hk q (by show q < T1.heap.size; rw [hT1]; exact h1) h2
    rw [this]; show T1.heap[q]? = H[q]?; rw [hT1]
  have hS1 := er_S_join (sz := H.size) hS C.2.2.2.2.2.2.1 hD hz hk hL
  obtain ⟨g1, g2, g3, g4, g5⟩ := X'.leaveThrown x (g := F0 m pc ls rest) rfl rfl rfl hout hlocks
  refine ⟨T'.setFrames (.throwing x :: below), hgo _ ?_, .threw x, g2, g3, ⟨x, cell, rfl, ?_, hvm, ?_⟩, ?_, ?_, locs ++ L, g4, g5.mono hN.1 hN.2, hS1.2.2⟩
  · rw [ht]; exact g1
  · show T'.heap[x]? = some cell
    rw [hh]; exact hcell
  · have h1 : T1.vm.findClass (er_exc j) = some cell.cls := hfc
    rw [← X1.warmed.alike.findClass]
    exact h1
  · show va_P G.1 er_cl (er_ws G σ') T'.heap
    rw [hh]; exact hP1
  · refine va_S.F (H := t.heap) hS1 ?_
    show T'.heap = t.heap
    exact hh
theorem ej_cs_t {y : MethodName} {w : Cond} {maxL n fr lo idx j NC NS : Nat} (C : er_C p s m c cc own G (er_A G s.heap.size) s.heap) (As rest : List Value) (hM : er_Con l y w fr lo nc ns G As σ (.inr j, σ')) (hc : er_Cal y w maxL n) (hl : Cond.methodLink own idx y ∈ er_tbl) (hst : Cond.static y ∈ er_tbl) (hn : As.length = n) (hml : c.maxLocals = lv.length) (hd : decode cc pc = .ok (.invokestatic idx, 3)) (hR : fr + 1 ≤ R.frames ∧ 8 + (maxL + 11) + lo ≤ R.locals ∧ kc + nc ≤ R.cells ∧ ks + ns ≤ R.slots) (hcat : (rest.map fun v => v.category).sum ≤ 8) (hs : st = As.reverse ++ rest) (hlocks : meth.locks = false) (hout : ∀ x ∈ c.exceptionTable.toList, covers x pc = false) (hN : kc + nc ≤ NC ∧ ks + ns ≤ NS) :
    er_J p l e R s m args below meth c G (er_A G s.heap.size) s.heap (er_fin below G s NC NS (.inr j, σ')) kc ks σ pc lv st := by
  intro H locs ls hP hD hS hl'
  rw [er_mapst G hs]
  exact er_pass C hM hc rfl (er_siteS C hc hl hst (As := As.map (er_cz G)) (rest := rest.map (er_cz G)) (by rw [List.length_map]; exact hn) hd) (hml.trans hl'.1.symm) hd hR (by rw [er_cats]; exact hcat) hlocks hout hN hP hD hS
theorem ej_cv_t {y : MethodName} {w : Cond} {maxL n fr lo idx k ci j NC NS : Nat} {fs : List (Option Nat)} {q : vw_C} (C : er_C p s m c cc own G (er_A G s.heap.size) s.heap) (As rest : List Value) (hM : er_Con l y w fr lo nc ns G (.ref k :: As) σ (.inr j, σ')) (hc : er_Cal y w maxL n) (hl : Cond.methodLink own idx y ∈ er_tbl ∨ ∃ host, Cond.methodLinkNest own idx y host ∈ er_tbl) (hin : Cond.instanceMethod y ∈ er_tbl) (hk : k ∈ er_ks G) (hy : er_lay k = .inl (ci, fs)) (hq : er_cl[ci]? = some q) (hse : Cond.selects q.1 y y ∈ er_tbl) (hn : As.length = n) (hml : c.maxLocals = lv.length) (hd : decode cc pc = .ok (.invokevirtual idx, 3)) (hR : fr + 1 ≤ R.frames ∧ 8 + (maxL + 11) + lo ≤ R.locals ∧ kc + nc ≤ R.cells ∧ ks + ns ≤ R.slots) (hcat : (rest.map fun v => v.category).sum ≤ 8) (hs : st = As.reverse ++ .ref k :: rest) (hlocks : meth.locks = false) (hout : ∀ x ∈ c.exceptionTable.toList, covers x pc = false) (hN : kc + nc ≤ NC ∧ ks + ns ≤ NS) :
    er_J p l e R s m args below meth c G (er_A G s.heap.size) s.heap (er_fin below G s NC NS (.inr j, σ')) kc ks σ pc lv st := by
  intro H locs ls hP hD hS hl'
  rw [er_mapst G hs]
  exact er_pass C hM hc rfl (er_siteV C hc hl hin hse (er_recv C hk hy hq hP) (As := As.map (er_cz G)) (rest := rest.map (er_cz G)) (by rw [List.length_map]; exact hn) hd) (hml.trans hl'.1.symm) hd hR (by rw [er_cats]; exact hcat) hlocks hout hN hP hD hS
end ERD
/-- the cells lo .. hi-1 are there -/
def er_Pr (G : er_G) (lo hi : Nat) : Prop := ∀ k, Nat.ble lo k = true → Nat.blt k hi = true → k ∈ er_ks G
theorem er_none (G : er_G) : er_Pr G 0 0 := fun k _ h => by
  have h : k < 0 := Nat.le_of_ble_eq_true h
  omega
theorem er_sub {G : er_G} {lo hi lo' hi' : Nat} (h1 : Nat.ble lo lo' = true) (h2 : Nat.ble hi' hi = true) (h : er_Pr G lo hi) : er_Pr G lo' hi' := fun k a b => h k (Nat.ble_eq_true_of_le (Nat.le_trans (Nat.le_of_ble_eq_true h1) (Nat.le_of_ble_eq_true a))) (Nat.ble_eq_true_of_le (Nat.le_trans (Nat.le_of_ble_eq_true b) (Nat.le_of_ble_eq_true h2)))
/-- what the walk of a method without handlers stands on -/
def er_B (p : Program) (s : State) (m : MethodId) (c : Code) (meth : Method) (cc : ByteArray) (own : String) (G : er_G) (ret : Option FieldType) (maxL lo hi : Nat) : Prop :=
  er_C p s m c cc own G (er_A G s.heap.size) s.heap ∧ meth.sig.returnType = ret ∧ meth.locks = false ∧ c.maxLocals = maxL ∧ er_Pr G lo hi ∧ ∀ pc, ∀ x ∈ c.exceptionTable.toList, covers x pc = false
theorem er_at {p : Program} {s : State} {m : MethodId} {c : Code} {meth : Method} {cc : ByteArray} {own : String} {G : er_G} {ret : Option FieldType} {maxL lo hi : Nat} (B : er_B p s m c meth cc own G ret maxL lo hi) (k : Nat) (h1 : Nat.ble lo k = true) (h2 : Nat.blt k hi = true) : k ∈ er_ks G := B.2.2.2.2.1 k h1 h2
theorem er_pr {p : Program} {s : State} {m : MethodId} {c : Code} {meth : Method} {cc : ByteArray} {own : String} {G : er_G} {ret : Option FieldType} {maxL lo hi : Nat} (B : er_B p s m c meth cc own G ret maxL lo hi) : er_Pr G lo hi := B.2.2.2.2.1
theorem er_noh {y : MethodName} {cc : ByteArray} {maxL : Nat} {ret : Option FieldType} {args : Array Value} {s : State} {m : MethodId} {meth : Method} {c : Code} (hw : (Cond.code y cc maxL ret).before args s = true) (hnm : s.methodNamed? y = some m) (hm : s.vm.method? m = some meth) (hcd : meth.code = some c) : ∀ pc, ∀ x ∈ c.exceptionTable.toList, covers x pc = false := by
  obtain ⟨meth', c', h1, h2, -, -, -, -, he, -⟩ := Cond.code_spec hnm hw
  cases hm.symm.trans h1
  cases hcd.symm.trans h2
  exact fun pc => covers_of_empty he pc
def er_nc {α : Type} : α ⊕ Nat → Nat
  | .inl _ => 0
  | .inr _ => 1
def er_ns {α : Type} : α ⊕ Nat → Nat
  | .inl _ => 0
  | .inr _ => 6
def er_cvi (r : (Int32 ⊕ Nat) × er_S) : er_R := match r.1 with
  | .inl v => (.inl (some (.int v)), r.2)
  | .inr k => (.inr k, r.2)
def er_cvu (r : (Unit ⊕ Nat) × er_S) : er_R := match r.1 with
  | .inl _ => (.inl none, r.2)
  | .inr k => (.inr k, r.2)
end
section
/-! 'throw new E("text")' in a method without a handler for it -/
theorem er_go_P {D : va_G} {cl : List vw_C} {ws : va_W} {H H1 : Heap} (h : va_P D cl ws H) (hq : ∀ q : Nat, q < H.size → H1[q]? = H[q]?) : va_P D cl ws H1 := fun k q hk => (h k q hk).kept (hq q.1 (h k q hk).lt)
theorem ej_throw {p : Program} {l : Launch} {e : Env} {R : Room} {s : State} {m : MethodId} {args : Array Value} {below : List Frame} {meth : Method} {c : Code} {G : er_G} {σ : er_S} {pc : Nat} {lv : List (Option Value)} {st : List Value} {cc : ByteArray} {own : String} (C : er_C p s m c cc own G (er_A G s.heap.size) s.heap) (hl : l.stackTraces = false) (j : Nat) {text : String} {names : List String} {ik is ic : Nat}
    (hcls : Bundle.fit (er_exc j) = true) (hnames : ∀ n ∈ names, Bundle.fit n = true) (hk : Cond.classLink own ik (er_exc j) ∈ er_tbl) (hini : Cond.initialized (er_exc j) ∈ er_tbl) (hstr : (own, is, text) ∈ er_strs) (hat : ∀ w ∈ vx_atS own ic (er_exc j) names, w ∈ er_tbl)
    (hml : c.maxLocals = lv.length) (d0 : decode cc pc = .ok (.new ik, 3)) (d3 : decode cc (pc + 3) = .ok (.dup, 1)) (d4 : decode cc (pc + 4) = .ok (.ldc is, 2)) (d6 : decode cc (pc + 6) = .ok (.invokespecial ic, 3)) (d9 : decode cc (pc + 9) = .ok (.athrow, 1))
    (hout : ∀ x ∈ c.exceptionTable.toList, covers x (pc + 9) = false) (hRframes : names.length + 3 < R.frames) (hRlocals : (st.map fun v => v.category).sum + (13 * (names.length + 1) + 43) ≤ R.locals) (hRcells : 1 ≤ R.cells) (hRslots : 6 ≤ R.slots) (hlocks : meth.locks = false) :
    er_J p l e R s m args below meth c G (er_A G s.heap.size) s.heap (er_fin below G s 1 6 (.inr j, σ)) 0 0 σ pc lv st := by
  intro H locs ls hP hD hS hl'
  obtain ⟨sa, hsa⟩ := C.2.2.2.1.2.1 _ hstr
  have hok : ∀ w ∈ er_tbl, vx_ot w = true := fun w hw => by
    have ho : er_ok w = true := (List.mem_filter.mp hw).2
    unfold er_ok at ho
    rw [Bool.and_eq_true] at ho
    unfold vx_ot
    rw [ho.1]; rfl
  have K := vx_throwS (Qc := fun _ _ _ _ => False) (XC := fun E st t => E = er_exc j ∧ H.size ≤ t.heap.size ∧ ∀ q : Nat, q < H.size → t.heap[q]? = H[q]?) (free := er_A G s.heap.size) (below := below) (args := args) (p := p) (e := e) (R := R) (locs := locs) (cells := 0) (slots := 0) (rest := st.map (er_cz G)) (mc := 1) (ms := 6)
    C.1 C.2.1 hl C.2.2.1 hcls hnames (C.2.2.2.1.use hk) (C.2.2.2.1.use hini) hsa (fun w hw => C.2.2.2.1.use (hat w hw))
    (fun w hw => by
      rcases List.mem_cons.mp hw with rfl | hw
      · exact hok _ hk
      · rcases List.mem_cons.mp hw with rfl | hw
        · exact hok _ hini
        · exact hok _ (hat w hw))
    C.2.2.2.2.2.2.2.1 C.2.2.2.2.2.2.2.2 hS (hl'.1.trans hml.symm) d0 d3 d4 d6 d9 hout hRframes (by rw [er_cats]; exact hRlocals) (by omega) (by omega) hlocks (fun t _ h1 h2 => ⟨rfl, h1, h2⟩) hS.2.2 (Nat.le_refl 1) (Nat.le_refl 6)
  refine er_wm (fun t h => ?_) K
  obtain ⟨o, a1, a2, h | ⟨q, rfl, E, ce, L, ⟨rfl, x1, x2⟩, x3, x4, x5, x6, x7, x8⟩⟩ := h
  · exact h.1.elim
  · refine ⟨.threw q, a1, a2, ⟨q, ce, rfl, x3, x4, x5⟩, er_go_P hP x2, ⟨Nat.le_trans hS.1 x1, fun z h1 h2 => ?_⟩, L, x6, x7, x8⟩
    rw [x2 z (Nat.lt_of_lt_of_le h1 hS.1)]
    exact hS.2.1 z h1 h2
end
section
/-! names: printed by wip/gen/names.py out of javap and the tables -/
theorem er_mt {i : Nat} {w : Cond} (h : tables_1[i]? = some w) (ho : er_ok w = true) : w ∈ er_tbl := List.mem_filter.mpr ⟨List.mem_append_right _ (List.mem_of_getElem? h), ho⟩
theorem er_ms {i : Nat} {w : Cond} (h : (k2_sels lw_privs)[i]? = some w) (ho : er_ok w = true) : w ∈ er_tbl := List.mem_filter.mpr ⟨List.mem_append_left _ (List.mem_of_getElem? h), ho⟩
theorem er_i0 : ∀ w ∈ u_ws "EntryRows" er_T0 7, w ∈ er_tbl := by decide +kernel
def er_ty0 : Nat → FieldType := fun k => match k with
  | 0 => .object "EntryRows$Persons"
  | 1 => .object "EntryRows$Boards"
  | 2 => .array .int
  | 3 => .array .int
  | 4 => .int
  | 5 => .int
  | _ => .int
theorem er_nm0 : ∀ a, a < 7 → ∀ b, b < 7 → a ≠ b → (er_T0 a).2.1 ≠ (er_T0 b).2.1 := by decide +kernel
theorem er_tyok0 : ∀ k, k < 7 → parseFieldDescriptor (er_T0 k).2.2.1 = some (er_ty0 k) := by decide +kernel
theorem er_i1 : ∀ w ∈ u_ws "EntryRows$Persons" er_T1 11, w ∈ er_tbl := by decide +kernel
def er_ty1 : Nat → FieldType := fun k => match k with
  | 0 => .array .int
  | 1 => .array .int
  | 2 => .array .int
  | 3 => .array .int
  | 4 => .array .int
  | 5 => .array .int
  | 6 => .array .int
  | 7 => .array .int
  | 8 => .array .int
  | 9 => .array .int
  | _ => .array .boolean
theorem er_nm1 : ∀ a, a < 11 → ∀ b, b < 11 → a ≠ b → (er_T1 a).2.1 ≠ (er_T1 b).2.1 := by decide +kernel
theorem er_tyok1 : ∀ k, k < 11 → parseFieldDescriptor (er_T1 k).2.2.1 = some (er_ty1 k) := by decide +kernel
theorem er_i2 : ∀ w ∈ u_ws "EntryRows$Boards" er_T2 6, w ∈ er_tbl := by decide +kernel
def er_ty2 : Nat → FieldType := fun k => match k with
  | 0 => .array .boolean
  | 1 => .array .int
  | 2 => .array .int
  | 3 => .array .int
  | 4 => .array .int
  | _ => .int
theorem er_nm2 : ∀ a, a < 6 → ∀ b, b < 6 → a ≠ b → (er_T2 a).2.1 ≠ (er_T2 b).2.1 := by decide +kernel
theorem er_tyok2 : ∀ k, k < 6 → parseFieldDescriptor (er_T2 k).2.2.1 = some (er_ty2 k) := by decide +kernel
theorem er_i3 : ∀ w ∈ u_ws "EntryRowsModel" er_T3 22, w ∈ er_tbl := by decide +kernel
def er_ty3 : Nat → FieldType := fun k => match k with
  | 0 => .int
  | 1 => .int
  | 2 => .int
  | 3 => .int
  | 4 => .array .int
  | 5 => .int
  | 6 => .array .boolean
  | 7 => .array .int
  | 8 => .array .int
  | 9 => .array .int
  | 10 => .array .int
  | 11 => .array .int
  | 12 => .array .int
  | 13 => .array .boolean
  | 14 => .array .int
  | 15 => .array .int
  | 16 => .array .int
  | 17 => .array .int
  | 18 => .array .int
  | 19 => .array .int
  | 20 => .array .int
  | _ => .array .int
theorem er_nm3 : ∀ a, a < 22 → ∀ b, b < 22 → a ≠ b → (er_T3 a).2.1 ≠ (er_T3 b).2.1 := by decide +kernel
theorem er_tyok3 : ∀ k, k < 22 → parseFieldDescriptor (er_T3 k).2.2.1 = some (er_ty3 k) := by decide +kernel
abbrev y_J_min : MethodName := ⟨"java/lang/Math", "min", "(II)I"⟩
abbrev b_J_min : ByteArray := prog_11_method_69_code
abbrev w_J_min : Cond := .code y_J_min b_J_min 2 (some .int)
theorem cal_J_min : er_Cal y_J_min w_J_min 2 2 := ⟨er_mt (i := 468) (by decide +kernel) rfl, er_mt (i := 13) (by decide +kernel) rfl, ⟨by decide, by decide⟩, by decide +kernel, b_J_min, (some .int), [], Or.inl rfl⟩
theorem st_J_min : Cond.static y_J_min ∈ er_tbl := er_mt (i := 467) (by decide +kernel) rfl
theorem d_J_min_0 : decode b_J_min 0 = .ok (.iload_n 0, 1) := by decide +kernel
theorem d_J_min_1 : decode b_J_min 1 = .ok (.iload_n 1, 1) := by decide +kernel
theorem d_J_min_2 : decode b_J_min 2 = .ok (.if_icmp .gt 7, 3) := by decide +kernel
theorem d_J_min_5 : decode b_J_min 5 = .ok (.iload_n 0, 1) := by decide +kernel
theorem d_J_min_6 : decode b_J_min 6 = .ok (.goto 4, 3) := by decide +kernel
theorem d_J_min_9 : decode b_J_min 9 = .ok (.iload_n 1, 1) := by decide +kernel
theorem d_J_min_10 : decode b_J_min 10 = .ok (.ireturn, 1) := by decide +kernel
abbrev y_E_requireRange : MethodName := ⟨"EntryRows", "requireRange", "(III)V"⟩
abbrev b_E_requireRange : ByteArray := prog_1_method_26_code
abbrev w_E_requireRange : Cond := .code y_E_requireRange b_E_requireRange 3 none
theorem cal_E_requireRange : er_Cal y_E_requireRange w_E_requireRange 3 3 := ⟨er_mt (i := 144) (by decide +kernel) rfl, er_mt (i := 1) (by decide +kernel) rfl, ⟨by decide, by decide⟩, by decide +kernel, b_E_requireRange, none, [], Or.inl rfl⟩
theorem st_E_requireRange : Cond.static y_E_requireRange ∈ er_tbl := er_mt (i := 143) (by decide +kernel) rfl
theorem d_E_requireRange_0 : decode b_E_requireRange 0 = .ok (.iload_n 0, 1) := by decide +kernel
theorem d_E_requireRange_1 : decode b_E_requireRange 1 = .ok (.iload_n 1, 1) := by decide +kernel
theorem d_E_requireRange_2 : decode b_E_requireRange 2 = .ok (.if_icmp .lt 8, 3) := by decide +kernel
theorem d_E_requireRange_5 : decode b_E_requireRange 5 = .ok (.iload_n 0, 1) := by decide +kernel
theorem d_E_requireRange_6 : decode b_E_requireRange 6 = .ok (.iload_n 2, 1) := by decide +kernel
theorem d_E_requireRange_7 : decode b_E_requireRange 7 = .ok (.if_icmp .le 13, 3) := by decide +kernel
theorem d_E_requireRange_10 : decode b_E_requireRange 10 = .ok (.new 214, 3) := by decide +kernel
theorem d_E_requireRange_13 : decode b_E_requireRange 13 = .ok (.dup, 1) := by decide +kernel
theorem d_E_requireRange_14 : decode b_E_requireRange 14 = .ok (.ldc 216, 2) := by decide +kernel
theorem d_E_requireRange_16 : decode b_E_requireRange 16 = .ok (.invokespecial 218, 3) := by decide +kernel
theorem d_E_requireRange_19 : decode b_E_requireRange 19 = .ok (.athrow, 1) := by decide +kernel
theorem d_E_requireRange_20 : decode b_E_requireRange 20 = .ok (.return_, 1) := by decide +kernel
theorem at_E_218 : ∀ w ∈ vx_atS "EntryRows" 218 (er_exc 1) ["java/lang/RuntimeException", "java/lang/Exception"], w ∈ er_tbl := by decide +kernel
abbrev y_B_hasRoom : MethodName := ⟨"EntryRows$Boards", "hasRoom", "()Z"⟩
abbrev b_B_hasRoom : ByteArray := prog_2_method_3_code
abbrev w_B_hasRoom : Cond := .code y_B_hasRoom b_B_hasRoom 1 (some .boolean)
theorem cal_B_hasRoom : er_Cal y_B_hasRoom w_B_hasRoom 1 0 := ⟨er_mt (i := 217) (by decide +kernel) rfl, er_mt (i := 4) (by decide +kernel) rfl, ⟨by decide, by decide⟩, by decide +kernel, b_B_hasRoom, (some .boolean), [], Or.inl rfl⟩
theorem in_B_hasRoom : Cond.instanceMethod y_B_hasRoom ∈ er_tbl := er_mt (i := 216) (by decide +kernel) rfl
theorem se_B_hasRoom : Cond.selects "EntryRows$Boards" y_B_hasRoom y_B_hasRoom ∈ er_tbl := er_ms (i := 1) (by decide +kernel) rfl
theorem d_B_hasRoom_0 : decode b_B_hasRoom 0 = .ok (.aload_n 0, 1) := by decide +kernel
theorem d_B_hasRoom_1 : decode b_B_hasRoom 1 = .ok (.getfield 28, 3) := by decide +kernel
theorem d_B_hasRoom_4 : decode b_B_hasRoom 4 = .ok (.bipush 8, 2) := by decide +kernel
theorem d_B_hasRoom_6 : decode b_B_hasRoom 6 = .ok (.if_icmp .ge 7, 3) := by decide +kernel
theorem d_B_hasRoom_9 : decode b_B_hasRoom 9 = .ok (.iconst 1, 1) := by decide +kernel
theorem d_B_hasRoom_10 : decode b_B_hasRoom 10 = .ok (.goto 4, 3) := by decide +kernel
theorem d_B_hasRoom_13 : decode b_B_hasRoom 13 = .ok (.iconst 0, 1) := by decide +kernel
theorem d_B_hasRoom_14 : decode b_B_hasRoom 14 = .ok (.ireturn, 1) := by decide +kernel
theorem fl_B_28 : er_F "EntryRows$Boards" 28 2 5 := ⟨_, er_T2, 6, rfl, by decide, er_i2, rfl, Or.inl (er_mt (i := 96) (by decide +kernel) rfl)⟩
abbrev y_B_make : MethodName := ⟨"EntryRows$Boards", "make", "(III)I"⟩
abbrev b_B_make : ByteArray := prog_2_method_4_code
abbrev w_B_make : Cond := .code y_B_make b_B_make 5 (some .int)
theorem cal_B_make : er_Cal y_B_make w_B_make 5 3 := ⟨er_mt (i := 237) (by decide +kernel) rfl, er_mt (i := 4) (by decide +kernel) rfl, ⟨by decide, by decide⟩, by decide +kernel, b_B_make, (some .int), [], Or.inl rfl⟩
theorem in_B_make : Cond.instanceMethod y_B_make ∈ er_tbl := er_mt (i := 236) (by decide +kernel) rfl
theorem se_B_make : Cond.selects "EntryRows$Boards" y_B_make y_B_make ∈ er_tbl := er_ms (i := 2) (by decide +kernel) rfl
theorem d_B_make_0 : decode b_B_make 0 = .ok (.aload_n 0, 1) := by decide +kernel
theorem d_B_make_1 : decode b_B_make 1 = .ok (.getfield 28, 3) := by decide +kernel
theorem d_B_make_4 : decode b_B_make 4 = .ok (.istore 4, 2) := by decide +kernel
theorem d_B_make_6 : decode b_B_make 6 = .ok (.aload_n 0, 1) := by decide +kernel
theorem d_B_make_7 : decode b_B_make 7 = .ok (.getfield 9, 3) := by decide +kernel
theorem d_B_make_10 : decode b_B_make 10 = .ok (.iload 4, 2) := by decide +kernel
theorem d_B_make_12 : decode b_B_make 12 = .ok (.iconst 1, 1) := by decide +kernel
theorem d_B_make_13 : decode b_B_make 13 = .ok (.bastore, 1) := by decide +kernel
theorem d_B_make_14 : decode b_B_make 14 = .ok (.aload_n 0, 1) := by decide +kernel
theorem d_B_make_15 : decode b_B_make 15 = .ok (.getfield 15, 3) := by decide +kernel
theorem d_B_make_18 : decode b_B_make 18 = .ok (.iload 4, 2) := by decide +kernel
theorem d_B_make_20 : decode b_B_make 20 = .ok (.iload_n 1, 1) := by decide +kernel
theorem d_B_make_21 : decode b_B_make 21 = .ok (.iastore, 1) := by decide +kernel
theorem d_B_make_22 : decode b_B_make 22 = .ok (.aload_n 0, 1) := by decide +kernel
theorem d_B_make_23 : decode b_B_make 23 = .ok (.getfield 19, 3) := by decide +kernel
theorem d_B_make_26 : decode b_B_make 26 = .ok (.iload 4, 2) := by decide +kernel
theorem d_B_make_28 : decode b_B_make 28 = .ok (.iload_n 2, 1) := by decide +kernel
theorem d_B_make_29 : decode b_B_make 29 = .ok (.iastore, 1) := by decide +kernel
theorem d_B_make_30 : decode b_B_make 30 = .ok (.aload_n 0, 1) := by decide +kernel
theorem d_B_make_31 : decode b_B_make 31 = .ok (.getfield 22, 3) := by decide +kernel
theorem d_B_make_34 : decode b_B_make 34 = .ok (.iload 4, 2) := by decide +kernel
theorem d_B_make_36 : decode b_B_make 36 = .ok (.iload_n 3, 1) := by decide +kernel
theorem d_B_make_37 : decode b_B_make 37 = .ok (.iastore, 1) := by decide +kernel
theorem d_B_make_38 : decode b_B_make 38 = .ok (.aload_n 0, 1) := by decide +kernel
theorem d_B_make_39 : decode b_B_make 39 = .ok (.dup, 1) := by decide +kernel
theorem d_B_make_40 : decode b_B_make 40 = .ok (.getfield 28, 3) := by decide +kernel
theorem d_B_make_43 : decode b_B_make 43 = .ok (.iconst 1, 1) := by decide +kernel
theorem d_B_make_44 : decode b_B_make 44 = .ok (.iadd, 1) := by decide +kernel
theorem d_B_make_45 : decode b_B_make 45 = .ok (.putfield 28, 3) := by decide +kernel
theorem d_B_make_48 : decode b_B_make 48 = .ok (.iload 4, 2) := by decide +kernel
theorem d_B_make_50 : decode b_B_make 50 = .ok (.ireturn, 1) := by decide +kernel
theorem fl_B_9 : er_F "EntryRows$Boards" 9 2 0 := ⟨_, er_T2, 6, rfl, by decide, er_i2, rfl, Or.inl (er_mt (i := 86) (by decide +kernel) rfl)⟩
theorem fl_B_15 : er_F "EntryRows$Boards" 15 2 1 := ⟨_, er_T2, 6, rfl, by decide, er_i2, rfl, Or.inl (er_mt (i := 88) (by decide +kernel) rfl)⟩
theorem fl_B_19 : er_F "EntryRows$Boards" 19 2 2 := ⟨_, er_T2, 6, rfl, by decide, er_i2, rfl, Or.inl (er_mt (i := 90) (by decide +kernel) rfl)⟩
theorem fl_B_22 : er_F "EntryRows$Boards" 22 2 3 := ⟨_, er_T2, 6, rfl, by decide, er_i2, rfl, Or.inl (er_mt (i := 92) (by decide +kernel) rfl)⟩
theorem fp_B_28 : er_Fp "EntryRows$Boards" 28 2 5 := ⟨_, er_T2, 6, er_ty2, rfl, by decide, er_i2, rfl, er_mt (i := 96) (by decide +kernel) rfl, rfl, by decide +kernel, er_tyok2, er_nm2⟩
abbrev y_E_board : MethodName := ⟨"EntryRows", "board", "(III)I"⟩
abbrev b_E_board : ByteArray := prog_1_method_2_code
abbrev w_E_board : Cond := .code y_E_board b_E_board 4 (some .int)
theorem cal_E_board : er_Cal y_E_board w_E_board 4 3 := ⟨er_mt (i := 141) (by decide +kernel) rfl, er_mt (i := 1) (by decide +kernel) rfl, ⟨by decide, by decide⟩, by decide +kernel, b_E_board, (some .int), [], Or.inl rfl⟩
theorem in_E_board : Cond.instanceMethod y_E_board ∈ er_tbl := er_mt (i := 139) (by decide +kernel) rfl
theorem se_E_board : Cond.selects "EntryRows" y_E_board y_E_board ∈ er_tbl := er_mt (i := 140) (by decide +kernel) rfl
theorem d_E_board_0 : decode b_E_board 0 = .ok (.iload_n 1, 1) := by decide +kernel
theorem d_E_board_1 : decode b_E_board 1 = .ok (.iconst 1, 1) := by decide +kernel
theorem d_E_board_2 : decode b_E_board 2 = .ok (.bipush 6, 2) := by decide +kernel
theorem d_E_board_4 : decode b_E_board 4 = .ok (.invokestatic 46, 3) := by decide +kernel
theorem d_E_board_7 : decode b_E_board 7 = .ok (.iload_n 2, 1) := by decide +kernel
theorem d_E_board_8 : decode b_E_board 8 = .ok (.iconst 1, 1) := by decide +kernel
theorem d_E_board_9 : decode b_E_board 9 = .ok (.sipush 10000, 3) := by decide +kernel
theorem d_E_board_12 : decode b_E_board 12 = .ok (.invokestatic 46, 3) := by decide +kernel
theorem d_E_board_15 : decode b_E_board 15 = .ok (.iload_n 3, 1) := by decide +kernel
theorem d_E_board_16 : decode b_E_board 16 = .ok (.iconst 0, 1) := by decide +kernel
theorem d_E_board_17 : decode b_E_board 17 = .ok (.iconst 3, 1) := by decide +kernel
theorem d_E_board_18 : decode b_E_board 18 = .ok (.invokestatic 46, 3) := by decide +kernel
theorem d_E_board_21 : decode b_E_board 21 = .ok (.aload_n 0, 1) := by decide +kernel
theorem d_E_board_22 : decode b_E_board 22 = .ok (.getfield 19, 3) := by decide +kernel
theorem d_E_board_25 : decode b_E_board 25 = .ok (.invokevirtual 50, 3) := by decide +kernel
theorem d_E_board_28 : decode b_E_board 28 = .ok (.ifCond .ne 13, 3) := by decide +kernel
theorem d_E_board_31 : decode b_E_board 31 = .ok (.new 54, 3) := by decide +kernel
theorem d_E_board_34 : decode b_E_board 34 = .ok (.dup, 1) := by decide +kernel
theorem d_E_board_35 : decode b_E_board 35 = .ok (.ldc 56, 2) := by decide +kernel
theorem d_E_board_37 : decode b_E_board 37 = .ok (.invokespecial 58, 3) := by decide +kernel
theorem d_E_board_40 : decode b_E_board 40 = .ok (.athrow, 1) := by decide +kernel
theorem d_E_board_41 : decode b_E_board 41 = .ok (.aload_n 0, 1) := by decide +kernel
theorem d_E_board_42 : decode b_E_board 42 = .ok (.getfield 19, 3) := by decide +kernel
theorem d_E_board_45 : decode b_E_board 45 = .ok (.iload_n 1, 1) := by decide +kernel
theorem d_E_board_46 : decode b_E_board 46 = .ok (.iload_n 2, 1) := by decide +kernel
theorem d_E_board_47 : decode b_E_board 47 = .ok (.iload_n 3, 1) := by decide +kernel
theorem d_E_board_48 : decode b_E_board 48 = .ok (.invokevirtual 61, 3) := by decide +kernel
theorem d_E_board_51 : decode b_E_board 51 = .ok (.ireturn, 1) := by decide +kernel
theorem lk_E_46 : Cond.methodLink "EntryRows" 46 y_E_requireRange ∈ er_tbl := er_mt (i := 142) (by decide +kernel) rfl
theorem fl_E_19 : er_F "EntryRows" 19 0 1 := ⟨_, er_T0, 7, rfl, by decide, er_i0, rfl, Or.inl (er_mt (i := 112) (by decide +kernel) rfl)⟩
theorem lk_E_50 : Cond.methodLink "EntryRows" 50 y_B_hasRoom ∈ er_tbl ∨ ∃ host, Cond.methodLinkNest "EntryRows" 50 y_B_hasRoom host ∈ er_tbl := Or.inr ⟨"EntryRows", er_mt (i := 214) (by decide +kernel) rfl⟩
theorem at_E_58 : ∀ w ∈ vx_atS "EntryRows" 58 (er_exc 3) ["java/lang/RuntimeException", "java/lang/Exception"], w ∈ er_tbl := by decide +kernel
theorem lk_E_61 : Cond.methodLink "EntryRows" 61 y_B_make ∈ er_tbl ∨ ∃ host, Cond.methodLinkNest "EntryRows" 61 y_B_make host ∈ er_tbl := Or.inr ⟨"EntryRows", er_mt (i := 234) (by decide +kernel) rfl⟩
abbrev y_B_has : MethodName := ⟨"EntryRows$Boards", "has", "(I)Z"⟩
abbrev b_B_has : ByteArray := prog_2_method_2_code
abbrev w_B_has : Cond := .code y_B_has b_B_has 2 (some .boolean)
theorem cal_B_has : er_Cal y_B_has w_B_has 2 1 := ⟨er_mt (i := 254) (by decide +kernel) rfl, er_mt (i := 4) (by decide +kernel) rfl, ⟨by decide, by decide⟩, by decide +kernel, b_B_has, (some .boolean), [], Or.inl rfl⟩
theorem in_B_has : Cond.instanceMethod y_B_has ∈ er_tbl := er_mt (i := 253) (by decide +kernel) rfl
theorem se_B_has : Cond.selects "EntryRows$Boards" y_B_has y_B_has ∈ er_tbl := er_ms (i := 4) (by decide +kernel) rfl
theorem d_B_has_0 : decode b_B_has 0 = .ok (.iload_n 1, 1) := by decide +kernel
theorem d_B_has_1 : decode b_B_has 1 = .ok (.ifCond .lt 15, 3) := by decide +kernel
theorem d_B_has_4 : decode b_B_has 4 = .ok (.iload_n 1, 1) := by decide +kernel
theorem d_B_has_5 : decode b_B_has 5 = .ok (.aload_n 0, 1) := by decide +kernel
theorem d_B_has_6 : decode b_B_has 6 = .ok (.getfield 28, 3) := by decide +kernel
theorem d_B_has_9 : decode b_B_has 9 = .ok (.if_icmp .ge 7, 3) := by decide +kernel
theorem d_B_has_12 : decode b_B_has 12 = .ok (.iconst 1, 1) := by decide +kernel
theorem d_B_has_13 : decode b_B_has 13 = .ok (.goto 4, 3) := by decide +kernel
theorem d_B_has_16 : decode b_B_has 16 = .ok (.iconst 0, 1) := by decide +kernel
theorem d_B_has_17 : decode b_B_has 17 = .ok (.ireturn, 1) := by decide +kernel
abbrev y_E_requireKnown : MethodName := ⟨"EntryRows", "requireKnown", "(Z)V"⟩
abbrev b_E_requireKnown : ByteArray := prog_1_method_22_code
abbrev w_E_requireKnown : Cond := .code y_E_requireKnown b_E_requireKnown 1 none
theorem cal_E_requireKnown : er_Cal y_E_requireKnown w_E_requireKnown 1 1 := ⟨er_mt (i := 257) (by decide +kernel) rfl, er_mt (i := 1) (by decide +kernel) rfl, ⟨by decide, by decide⟩, by decide +kernel, b_E_requireKnown, none, [], Or.inl rfl⟩
theorem st_E_requireKnown : Cond.static y_E_requireKnown ∈ er_tbl := er_mt (i := 256) (by decide +kernel) rfl
theorem d_E_requireKnown_0 : decode b_E_requireKnown 0 = .ok (.iload_n 0, 1) := by decide +kernel
theorem d_E_requireKnown_1 : decode b_E_requireKnown 1 = .ok (.ifCond .ne 13, 3) := by decide +kernel
theorem d_E_requireKnown_4 : decode b_E_requireKnown 4 = .ok (.new 191, 3) := by decide +kernel
theorem d_E_requireKnown_7 : decode b_E_requireKnown 7 = .ok (.dup, 1) := by decide +kernel
theorem d_E_requireKnown_8 : decode b_E_requireKnown 8 = .ok (.ldc 209, 2) := by decide +kernel
theorem d_E_requireKnown_10 : decode b_E_requireKnown 10 = .ok (.invokespecial 195, 3) := by decide +kernel
theorem d_E_requireKnown_13 : decode b_E_requireKnown 13 = .ok (.athrow, 1) := by decide +kernel
theorem d_E_requireKnown_14 : decode b_E_requireKnown 14 = .ok (.return_, 1) := by decide +kernel
theorem at_E_195 : ∀ w ∈ vx_atS "EntryRows" 195 (er_exc 0) ["java/lang/RuntimeException", "java/lang/Exception"], w ∈ er_tbl := by decide +kernel
abbrev y_E_requireBoard : MethodName := ⟨"EntryRows", "requireBoard", "(I)V"⟩
abbrev b_E_requireBoard : ByteArray := prog_1_method_25_code
abbrev w_E_requireBoard : Cond := .code y_E_requireBoard b_E_requireBoard 2 none
theorem cal_E_requireBoard : er_Cal y_E_requireBoard w_E_requireBoard 2 1 := ⟨er_mt (i := 250) (by decide +kernel) rfl, er_mt (i := 1) (by decide +kernel) rfl, ⟨by decide, by decide⟩, by decide +kernel, b_E_requireBoard, none, [], Or.inl rfl⟩
theorem in_E_requireBoard : Cond.instanceMethod y_E_requireBoard ∈ er_tbl := er_mt (i := 249) (by decide +kernel) rfl
theorem se_E_requireBoard : Cond.selects "EntryRows" y_E_requireBoard y_E_requireBoard ∈ er_tbl := er_ms (i := 3) (by decide +kernel) rfl
theorem d_E_requireBoard_0 : decode b_E_requireBoard 0 = .ok (.aload_n 0, 1) := by decide +kernel
theorem d_E_requireBoard_1 : decode b_E_requireBoard 1 = .ok (.getfield 19, 3) := by decide +kernel
theorem d_E_requireBoard_4 : decode b_E_requireBoard 4 = .ok (.iload_n 1, 1) := by decide +kernel
theorem d_E_requireBoard_5 : decode b_E_requireBoard 5 = .ok (.invokevirtual 211, 3) := by decide +kernel
theorem d_E_requireBoard_8 : decode b_E_requireBoard 8 = .ok (.invokestatic 99, 3) := by decide +kernel
theorem d_E_requireBoard_11 : decode b_E_requireBoard 11 = .ok (.return_, 1) := by decide +kernel
theorem lk_E_211 : Cond.methodLink "EntryRows" 211 y_B_has ∈ er_tbl ∨ ∃ host, Cond.methodLinkNest "EntryRows" 211 y_B_has host ∈ er_tbl := Or.inr ⟨"EntryRows", er_mt (i := 251) (by decide +kernel) rfl⟩
theorem lk_E_99 : Cond.methodLink "EntryRows" 99 y_E_requireKnown ∈ er_tbl := er_mt (i := 255) (by decide +kernel) rfl
abbrev y_E_isPerson : MethodName := ⟨"EntryRows", "isPerson", "(I)Z"⟩
abbrev b_E_isPerson : ByteArray := prog_1_method_20_code
abbrev w_E_isPerson : Cond := .code y_E_isPerson b_E_isPerson 1 (some .boolean)
theorem cal_E_isPerson : er_Cal y_E_isPerson w_E_isPerson 1 1 := ⟨er_mt (i := 279) (by decide +kernel) rfl, er_mt (i := 1) (by decide +kernel) rfl, ⟨by decide, by decide⟩, by decide +kernel, b_E_isPerson, (some .boolean), [], Or.inl rfl⟩
theorem st_E_isPerson : Cond.static y_E_isPerson ∈ er_tbl := er_mt (i := 278) (by decide +kernel) rfl
theorem d_E_isPerson_0 : decode b_E_isPerson 0 = .ok (.iload_n 0, 1) := by decide +kernel
theorem d_E_isPerson_1 : decode b_E_isPerson 1 = .ok (.ifCond .lt 13, 3) := by decide +kernel
theorem d_E_isPerson_4 : decode b_E_isPerson 4 = .ok (.iload_n 0, 1) := by decide +kernel
theorem d_E_isPerson_5 : decode b_E_isPerson 5 = .ok (.bipush 40, 2) := by decide +kernel
theorem d_E_isPerson_7 : decode b_E_isPerson 7 = .ok (.if_icmp .ge 7, 3) := by decide +kernel
theorem d_E_isPerson_10 : decode b_E_isPerson 10 = .ok (.iconst 1, 1) := by decide +kernel
theorem d_E_isPerson_11 : decode b_E_isPerson 11 = .ok (.goto 4, 3) := by decide +kernel
theorem d_E_isPerson_14 : decode b_E_isPerson 14 = .ok (.iconst 0, 1) := by decide +kernel
theorem d_E_isPerson_15 : decode b_E_isPerson 15 = .ok (.ireturn, 1) := by decide +kernel
abbrev y_E_requirePerson : MethodName := ⟨"EntryRows", "requirePerson", "(I)V"⟩
abbrev b_E_requirePerson : ByteArray := prog_1_method_23_code
abbrev w_E_requirePerson : Cond := .code y_E_requirePerson b_E_requirePerson 1 none
theorem cal_E_requirePerson : er_Cal y_E_requirePerson w_E_requirePerson 1 1 := ⟨er_mt (i := 276) (by decide +kernel) rfl, er_mt (i := 1) (by decide +kernel) rfl, ⟨by decide, by decide⟩, by decide +kernel, b_E_requirePerson, none, [], Or.inl rfl⟩
theorem st_E_requirePerson : Cond.static y_E_requirePerson ∈ er_tbl := er_mt (i := 275) (by decide +kernel) rfl
theorem d_E_requirePerson_0 : decode b_E_requirePerson 0 = .ok (.iload_n 0, 1) := by decide +kernel
theorem d_E_requirePerson_1 : decode b_E_requirePerson 1 = .ok (.invokestatic 173, 3) := by decide +kernel
theorem d_E_requirePerson_4 : decode b_E_requirePerson 4 = .ok (.invokestatic 99, 3) := by decide +kernel
theorem d_E_requirePerson_7 : decode b_E_requirePerson 7 = .ok (.return_, 1) := by decide +kernel
theorem lk_E_173 : Cond.methodLink "EntryRows" 173 y_E_isPerson ∈ er_tbl := er_mt (i := 277) (by decide +kernel) rfl
abbrev y_E_requireState : MethodName := ⟨"EntryRows", "requireState", "(Z)V"⟩
abbrev b_E_requireState : ByteArray := prog_1_method_28_code
abbrev w_E_requireState : Cond := .code y_E_requireState b_E_requireState 1 none
theorem cal_E_requireState : er_Cal y_E_requireState w_E_requireState 1 1 := ⟨er_mt (i := 286) (by decide +kernel) rfl, er_mt (i := 1) (by decide +kernel) rfl, ⟨by decide, by decide⟩, by decide +kernel, b_E_requireState, none, [], Or.inl rfl⟩
theorem st_E_requireState : Cond.static y_E_requireState ∈ er_tbl := er_mt (i := 285) (by decide +kernel) rfl
theorem d_E_requireState_0 : decode b_E_requireState 0 = .ok (.iload_n 0, 1) := by decide +kernel
theorem d_E_requireState_1 : decode b_E_requireState 1 = .ok (.ifCond .ne 13, 3) := by decide +kernel
theorem d_E_requireState_4 : decode b_E_requireState 4 = .ok (.new 222, 3) := by decide +kernel
theorem d_E_requireState_7 : decode b_E_requireState 7 = .ok (.dup, 1) := by decide +kernel
theorem d_E_requireState_8 : decode b_E_requireState 8 = .ok (.ldc 224, 2) := by decide +kernel
theorem d_E_requireState_10 : decode b_E_requireState 10 = .ok (.invokespecial 226, 3) := by decide +kernel
theorem d_E_requireState_13 : decode b_E_requireState 13 = .ok (.athrow, 1) := by decide +kernel
theorem d_E_requireState_14 : decode b_E_requireState 14 = .ok (.return_, 1) := by decide +kernel
theorem at_E_226 : ∀ w ∈ vx_atS "EntryRows" 226 (er_exc 2) ["java/lang/RuntimeException", "java/lang/Exception"], w ∈ er_tbl := by decide +kernel
abbrev y_E_requireOpen : MethodName := ⟨"EntryRows", "requireOpen", "(I)V"⟩
abbrev b_E_requireOpen : ByteArray := prog_1_method_29_code
abbrev w_E_requireOpen : Cond := .code y_E_requireOpen b_E_requireOpen 2 none
theorem cal_E_requireOpen : er_Cal y_E_requireOpen w_E_requireOpen 2 1 := ⟨er_mt (i := 283) (by decide +kernel) rfl, er_mt (i := 1) (by decide +kernel) rfl, ⟨by decide, by decide⟩, by decide +kernel, b_E_requireOpen, none, [], Or.inl rfl⟩
theorem in_E_requireOpen : Cond.instanceMethod y_E_requireOpen ∈ er_tbl := er_mt (i := 282) (by decide +kernel) rfl
theorem se_E_requireOpen : Cond.selects "EntryRows" y_E_requireOpen y_E_requireOpen ∈ er_tbl := er_ms (i := 5) (by decide +kernel) rfl
theorem d_E_requireOpen_0 : decode b_E_requireOpen 0 = .ok (.aload_n 0, 1) := by decide +kernel
theorem d_E_requireOpen_1 : decode b_E_requireOpen 1 = .ok (.getfield 19, 3) := by decide +kernel
theorem d_E_requireOpen_4 : decode b_E_requireOpen 4 = .ok (.getfield 196, 3) := by decide +kernel
theorem d_E_requireOpen_7 : decode b_E_requireOpen 7 = .ok (.iload_n 1, 1) := by decide +kernel
theorem d_E_requireOpen_8 : decode b_E_requireOpen 8 = .ok (.baload, 1) := by decide +kernel
theorem d_E_requireOpen_9 : decode b_E_requireOpen 9 = .ok (.invokestatic 81, 3) := by decide +kernel
theorem d_E_requireOpen_12 : decode b_E_requireOpen 12 = .ok (.return_, 1) := by decide +kernel
theorem fl_E_196 : er_F "EntryRows" 196 2 0 := ⟨_, er_T2, 6, rfl, by decide, er_i2, rfl, Or.inr ⟨"EntryRows", er_mt (i := 87) (by decide +kernel) rfl⟩⟩
theorem lk_E_81 : Cond.methodLink "EntryRows" 81 y_E_requireState ∈ er_tbl := er_mt (i := 284) (by decide +kernel) rfl
abbrev y_P_isInside : MethodName := ⟨"EntryRows$Persons", "isInside", "(I)Z"⟩
abbrev b_P_isInside : ByteArray := prog_3_method_2_code
abbrev w_P_isInside : Cond := .code y_P_isInside b_P_isInside 2 (some .boolean)
theorem cal_P_isInside : er_Cal y_P_isInside w_P_isInside 2 1 := ⟨er_mt (i := 310) (by decide +kernel) rfl, er_mt (i := 2) (by decide +kernel) rfl, ⟨by decide, by decide⟩, by decide +kernel, b_P_isInside, (some .boolean), [], Or.inl rfl⟩
theorem in_P_isInside : Cond.instanceMethod y_P_isInside ∈ er_tbl := er_mt (i := 309) (by decide +kernel) rfl
theorem se_P_isInside : Cond.selects "EntryRows$Persons" y_P_isInside y_P_isInside ∈ er_tbl := er_ms (i := 7) (by decide +kernel) rfl
theorem d_P_isInside_0 : decode b_P_isInside 0 = .ok (.aload_n 0, 1) := by decide +kernel
theorem d_P_isInside_1 : decode b_P_isInside 1 = .ok (.getfield 9, 3) := by decide +kernel
theorem d_P_isInside_4 : decode b_P_isInside 4 = .ok (.iload_n 1, 1) := by decide +kernel
theorem d_P_isInside_5 : decode b_P_isInside 5 = .ok (.iaload, 1) := by decide +kernel
theorem d_P_isInside_6 : decode b_P_isInside 6 = .ok (.iconst (-1), 1) := by decide +kernel
theorem d_P_isInside_7 : decode b_P_isInside 7 = .ok (.if_icmp .eq 7, 3) := by decide +kernel
theorem d_P_isInside_10 : decode b_P_isInside 10 = .ok (.iconst 1, 1) := by decide +kernel
theorem d_P_isInside_11 : decode b_P_isInside 11 = .ok (.goto 4, 3) := by decide +kernel
theorem d_P_isInside_14 : decode b_P_isInside 14 = .ok (.iconst 0, 1) := by decide +kernel
theorem d_P_isInside_15 : decode b_P_isInside 15 = .ok (.ireturn, 1) := by decide +kernel
theorem fl_P_9 : er_F "EntryRows$Persons" 9 1 0 := ⟨_, er_T1, 11, rfl, by decide, er_i1, rfl, Or.inl (er_mt (i := 32) (by decide +kernel) rfl)⟩
abbrev y_E_requireOutside : MethodName := ⟨"EntryRows", "requireOutside", "(I)V"⟩
abbrev b_E_requireOutside : ByteArray := prog_1_method_30_code
abbrev w_E_requireOutside : Cond := .code y_E_requireOutside b_E_requireOutside 2 none
theorem cal_E_requireOutside : er_Cal y_E_requireOutside w_E_requireOutside 2 1 := ⟨er_mt (i := 306) (by decide +kernel) rfl, er_mt (i := 1) (by decide +kernel) rfl, ⟨by decide, by decide⟩, by decide +kernel, b_E_requireOutside, none, [], Or.inl rfl⟩
theorem in_E_requireOutside : Cond.instanceMethod y_E_requireOutside ∈ er_tbl := er_mt (i := 305) (by decide +kernel) rfl
theorem se_E_requireOutside : Cond.selects "EntryRows" y_E_requireOutside y_E_requireOutside ∈ er_tbl := er_ms (i := 6) (by decide +kernel) rfl
theorem d_E_requireOutside_0 : decode b_E_requireOutside 0 = .ok (.aload_n 0, 1) := by decide +kernel
theorem d_E_requireOutside_1 : decode b_E_requireOutside 1 = .ok (.getfield 10, 3) := by decide +kernel
theorem d_E_requireOutside_4 : decode b_E_requireOutside 4 = .ok (.iload_n 1, 1) := by decide +kernel
theorem d_E_requireOutside_5 : decode b_E_requireOutside 5 = .ok (.invokevirtual 142, 3) := by decide +kernel
theorem d_E_requireOutside_8 : decode b_E_requireOutside 8 = .ok (.ifCond .ne 7, 3) := by decide +kernel
theorem d_E_requireOutside_11 : decode b_E_requireOutside 11 = .ok (.iconst 1, 1) := by decide +kernel
theorem d_E_requireOutside_12 : decode b_E_requireOutside 12 = .ok (.goto 4, 3) := by decide +kernel
theorem d_E_requireOutside_15 : decode b_E_requireOutside 15 = .ok (.iconst 0, 1) := by decide +kernel
theorem d_E_requireOutside_16 : decode b_E_requireOutside 16 = .ok (.invokestatic 81, 3) := by decide +kernel
theorem d_E_requireOutside_19 : decode b_E_requireOutside 19 = .ok (.return_, 1) := by decide +kernel
theorem fl_E_10 : er_F "EntryRows" 10 0 0 := ⟨_, er_T0, 7, rfl, by decide, er_i0, rfl, Or.inl (er_mt (i := 111) (by decide +kernel) rfl)⟩
theorem lk_E_142 : Cond.methodLink "EntryRows" 142 y_P_isInside ∈ er_tbl ∨ ∃ host, Cond.methodLinkNest "EntryRows" 142 y_P_isInside host ∈ er_tbl := Or.inr ⟨"EntryRows", er_mt (i := 307) (by decide +kernel) rfl⟩
abbrev y_E_dropKeeper : MethodName := ⟨"EntryRows", "dropKeeper", "(I)V"⟩
abbrev b_E_dropKeeper : ByteArray := prog_1_method_35_code
abbrev w_E_dropKeeper : Cond := .code y_E_dropKeeper b_E_dropKeeper 3 none
theorem cal_E_dropKeeper : er_Cal y_E_dropKeeper w_E_dropKeeper 3 1 := ⟨er_mt (i := 314) (by decide +kernel) rfl, er_mt (i := 1) (by decide +kernel) rfl, ⟨by decide, by decide⟩, by decide +kernel, b_E_dropKeeper, none, [], Or.inl rfl⟩
theorem in_E_dropKeeper : Cond.instanceMethod y_E_dropKeeper ∈ er_tbl := er_mt (i := 313) (by decide +kernel) rfl
theorem se_E_dropKeeper : Cond.selects "EntryRows" y_E_dropKeeper y_E_dropKeeper ∈ er_tbl := er_ms (i := 8) (by decide +kernel) rfl
theorem d_E_dropKeeper_0 : decode b_E_dropKeeper 0 = .ok (.aload_n 0, 1) := by decide +kernel
theorem d_E_dropKeeper_1 : decode b_E_dropKeeper 1 = .ok (.getfield 19, 3) := by decide +kernel
theorem d_E_dropKeeper_4 : decode b_E_dropKeeper 4 = .ok (.getfield 88, 3) := by decide +kernel
theorem d_E_dropKeeper_7 : decode b_E_dropKeeper 7 = .ok (.iload_n 1, 1) := by decide +kernel
theorem d_E_dropKeeper_8 : decode b_E_dropKeeper 8 = .ok (.iaload, 1) := by decide +kernel
theorem d_E_dropKeeper_9 : decode b_E_dropKeeper 9 = .ok (.istore_n 2, 1) := by decide +kernel
theorem d_E_dropKeeper_10 : decode b_E_dropKeeper 10 = .ok (.iload_n 2, 1) := by decide +kernel
theorem d_E_dropKeeper_11 : decode b_E_dropKeeper 11 = .ok (.invokestatic 173, 3) := by decide +kernel
theorem d_E_dropKeeper_14 : decode b_E_dropKeeper 14 = .ok (.ifCond .eq 13, 3) := by decide +kernel
theorem d_E_dropKeeper_17 : decode b_E_dropKeeper 17 = .ok (.aload_n 0, 1) := by decide +kernel
theorem d_E_dropKeeper_18 : decode b_E_dropKeeper 18 = .ok (.getfield 10, 3) := by decide +kernel
theorem d_E_dropKeeper_21 : decode b_E_dropKeeper 21 = .ok (.getfield 78, 3) := by decide +kernel
theorem d_E_dropKeeper_24 : decode b_E_dropKeeper 24 = .ok (.iload_n 2, 1) := by decide +kernel
theorem d_E_dropKeeper_25 : decode b_E_dropKeeper 25 = .ok (.iconst (-1), 1) := by decide +kernel
theorem d_E_dropKeeper_26 : decode b_E_dropKeeper 26 = .ok (.iastore, 1) := by decide +kernel
theorem d_E_dropKeeper_27 : decode b_E_dropKeeper 27 = .ok (.aload_n 0, 1) := by decide +kernel
theorem d_E_dropKeeper_28 : decode b_E_dropKeeper 28 = .ok (.getfield 19, 3) := by decide +kernel
theorem d_E_dropKeeper_31 : decode b_E_dropKeeper 31 = .ok (.getfield 88, 3) := by decide +kernel
theorem d_E_dropKeeper_34 : decode b_E_dropKeeper 34 = .ok (.iload_n 1, 1) := by decide +kernel
theorem d_E_dropKeeper_35 : decode b_E_dropKeeper 35 = .ok (.iconst (-1), 1) := by decide +kernel
theorem d_E_dropKeeper_36 : decode b_E_dropKeeper 36 = .ok (.iastore, 1) := by decide +kernel
theorem d_E_dropKeeper_37 : decode b_E_dropKeeper 37 = .ok (.return_, 1) := by decide +kernel
theorem fl_E_88 : er_F "EntryRows" 88 2 4 := ⟨_, er_T2, 6, rfl, by decide, er_i2, rfl, Or.inr ⟨"EntryRows", er_mt (i := 95) (by decide +kernel) rfl⟩⟩
theorem fl_E_78 : er_F "EntryRows" 78 1 9 := ⟨_, er_T1, 11, rfl, by decide, er_i1, rfl, Or.inr ⟨"EntryRows", er_mt (i := 51) (by decide +kernel) rfl⟩⟩
abbrev y_E_keep : MethodName := ⟨"EntryRows", "keep", "(II)V"⟩
abbrev b_E_keep : ByteArray := prog_1_method_3_code
abbrev w_E_keep : Cond := .code y_E_keep b_E_keep 3 none
theorem cal_E_keep : er_Cal y_E_keep w_E_keep 3 2 := ⟨er_mt (i := 246) (by decide +kernel) rfl, er_mt (i := 1) (by decide +kernel) rfl, ⟨by decide, by decide⟩, by decide +kernel, b_E_keep, none, [], Or.inl rfl⟩
theorem in_E_keep : Cond.instanceMethod y_E_keep ∈ er_tbl := er_mt (i := 244) (by decide +kernel) rfl
theorem se_E_keep : Cond.selects "EntryRows" y_E_keep y_E_keep ∈ er_tbl := er_mt (i := 245) (by decide +kernel) rfl
theorem d_E_keep_0 : decode b_E_keep 0 = .ok (.aload_n 0, 1) := by decide +kernel
theorem d_E_keep_1 : decode b_E_keep 1 = .ok (.iload_n 1, 1) := by decide +kernel
theorem d_E_keep_2 : decode b_E_keep 2 = .ok (.invokevirtual 65, 3) := by decide +kernel
theorem d_E_keep_5 : decode b_E_keep 5 = .ok (.iload_n 2, 1) := by decide +kernel
theorem d_E_keep_6 : decode b_E_keep 6 = .ok (.invokestatic 69, 3) := by decide +kernel
theorem d_E_keep_9 : decode b_E_keep 9 = .ok (.aload_n 0, 1) := by decide +kernel
theorem d_E_keep_10 : decode b_E_keep 10 = .ok (.iload_n 1, 1) := by decide +kernel
theorem d_E_keep_11 : decode b_E_keep 11 = .ok (.invokevirtual 72, 3) := by decide +kernel
theorem d_E_keep_14 : decode b_E_keep 14 = .ok (.aload_n 0, 1) := by decide +kernel
theorem d_E_keep_15 : decode b_E_keep 15 = .ok (.iload_n 2, 1) := by decide +kernel
theorem d_E_keep_16 : decode b_E_keep 16 = .ok (.invokevirtual 75, 3) := by decide +kernel
theorem d_E_keep_19 : decode b_E_keep 19 = .ok (.aload_n 0, 1) := by decide +kernel
theorem d_E_keep_20 : decode b_E_keep 20 = .ok (.getfield 10, 3) := by decide +kernel
theorem d_E_keep_23 : decode b_E_keep 23 = .ok (.getfield 78, 3) := by decide +kernel
theorem d_E_keep_26 : decode b_E_keep 26 = .ok (.iload_n 2, 1) := by decide +kernel
theorem d_E_keep_27 : decode b_E_keep 27 = .ok (.iaload, 1) := by decide +kernel
theorem d_E_keep_28 : decode b_E_keep 28 = .ok (.iconst (-1), 1) := by decide +kernel
theorem d_E_keep_29 : decode b_E_keep 29 = .ok (.if_icmp .ne 7, 3) := by decide +kernel
theorem d_E_keep_32 : decode b_E_keep 32 = .ok (.iconst 1, 1) := by decide +kernel
theorem d_E_keep_33 : decode b_E_keep 33 = .ok (.goto 4, 3) := by decide +kernel
theorem d_E_keep_36 : decode b_E_keep 36 = .ok (.iconst 0, 1) := by decide +kernel
theorem d_E_keep_37 : decode b_E_keep 37 = .ok (.invokestatic 81, 3) := by decide +kernel
theorem d_E_keep_40 : decode b_E_keep 40 = .ok (.aload_n 0, 1) := by decide +kernel
theorem d_E_keep_41 : decode b_E_keep 41 = .ok (.iload_n 1, 1) := by decide +kernel
theorem d_E_keep_42 : decode b_E_keep 42 = .ok (.invokevirtual 85, 3) := by decide +kernel
theorem d_E_keep_45 : decode b_E_keep 45 = .ok (.aload_n 0, 1) := by decide +kernel
theorem d_E_keep_46 : decode b_E_keep 46 = .ok (.getfield 19, 3) := by decide +kernel
theorem d_E_keep_49 : decode b_E_keep 49 = .ok (.getfield 88, 3) := by decide +kernel
theorem d_E_keep_52 : decode b_E_keep 52 = .ok (.iload_n 1, 1) := by decide +kernel
theorem d_E_keep_53 : decode b_E_keep 53 = .ok (.iload_n 2, 1) := by decide +kernel
theorem d_E_keep_54 : decode b_E_keep 54 = .ok (.iastore, 1) := by decide +kernel
theorem d_E_keep_55 : decode b_E_keep 55 = .ok (.aload_n 0, 1) := by decide +kernel
theorem d_E_keep_56 : decode b_E_keep 56 = .ok (.getfield 10, 3) := by decide +kernel
theorem d_E_keep_59 : decode b_E_keep 59 = .ok (.getfield 78, 3) := by decide +kernel
theorem d_E_keep_62 : decode b_E_keep 62 = .ok (.iload_n 2, 1) := by decide +kernel
theorem d_E_keep_63 : decode b_E_keep 63 = .ok (.iload_n 1, 1) := by decide +kernel
theorem d_E_keep_64 : decode b_E_keep 64 = .ok (.iastore, 1) := by decide +kernel
theorem d_E_keep_65 : decode b_E_keep 65 = .ok (.return_, 1) := by decide +kernel
theorem lk_E_65 : Cond.methodLink "EntryRows" 65 y_E_requireBoard ∈ er_tbl ∨ ∃ host, Cond.methodLinkNest "EntryRows" 65 y_E_requireBoard host ∈ er_tbl := Or.inl (er_mt (i := 247) (by decide +kernel) rfl)
theorem lk_E_69 : Cond.methodLink "EntryRows" 69 y_E_requirePerson ∈ er_tbl := er_mt (i := 274) (by decide +kernel) rfl
theorem lk_E_72 : Cond.methodLink "EntryRows" 72 y_E_requireOpen ∈ er_tbl ∨ ∃ host, Cond.methodLinkNest "EntryRows" 72 y_E_requireOpen host ∈ er_tbl := Or.inl (er_mt (i := 280) (by decide +kernel) rfl)
theorem lk_E_75 : Cond.methodLink "EntryRows" 75 y_E_requireOutside ∈ er_tbl ∨ ∃ host, Cond.methodLinkNest "EntryRows" 75 y_E_requireOutside host ∈ er_tbl := Or.inl (er_mt (i := 303) (by decide +kernel) rfl)
theorem lk_E_85 : Cond.methodLink "EntryRows" 85 y_E_dropKeeper ∈ er_tbl ∨ ∃ host, Cond.methodLinkNest "EntryRows" 85 y_E_dropKeeper host ∈ er_tbl := Or.inl (er_mt (i := 311) (by decide +kernel) rfl)
abbrev y_E_right : MethodName := ⟨"EntryRows", "right", "(IZ)V"⟩
abbrev b_E_right : ByteArray := prog_1_method_4_code
abbrev w_E_right : Cond := .code y_E_right b_E_right 3 none
theorem cal_E_right : er_Cal y_E_right w_E_right 3 2 := ⟨er_mt (i := 321) (by decide +kernel) rfl, er_mt (i := 1) (by decide +kernel) rfl, ⟨by decide, by decide⟩, by decide +kernel, b_E_right, none, [], Or.inl rfl⟩
theorem in_E_right : Cond.instanceMethod y_E_right ∈ er_tbl := er_mt (i := 319) (by decide +kernel) rfl
theorem se_E_right : Cond.selects "EntryRows" y_E_right y_E_right ∈ er_tbl := er_mt (i := 320) (by decide +kernel) rfl
theorem d_E_right_0 : decode b_E_right 0 = .ok (.iload_n 1, 1) := by decide +kernel
theorem d_E_right_1 : decode b_E_right 1 = .ok (.invokestatic 69, 3) := by decide +kernel
theorem d_E_right_4 : decode b_E_right 4 = .ok (.aload_n 0, 1) := by decide +kernel
theorem d_E_right_5 : decode b_E_right 5 = .ok (.getfield 10, 3) := by decide +kernel
theorem d_E_right_8 : decode b_E_right 8 = .ok (.getfield 91, 3) := by decide +kernel
theorem d_E_right_11 : decode b_E_right 11 = .ok (.iload_n 1, 1) := by decide +kernel
theorem d_E_right_12 : decode b_E_right 12 = .ok (.iload_n 2, 1) := by decide +kernel
theorem d_E_right_13 : decode b_E_right 13 = .ok (.bastore, 1) := by decide +kernel
theorem d_E_right_14 : decode b_E_right 14 = .ok (.return_, 1) := by decide +kernel
theorem fl_E_91 : er_F "EntryRows" 91 1 10 := ⟨_, er_T1, 11, rfl, by decide, er_i1, rfl, Or.inr ⟨"EntryRows", er_mt (i := 53) (by decide +kernel) rfl⟩⟩
abbrev y_E_rest : MethodName := ⟨"EntryRows", "rest", "(I)V"⟩
abbrev b_E_rest : ByteArray := prog_1_method_5_code
abbrev w_E_rest : Cond := .code y_E_rest b_E_rest 2 none
theorem cal_E_rest : er_Cal y_E_rest w_E_rest 2 1 := ⟨er_mt (i := 328) (by decide +kernel) rfl, er_mt (i := 1) (by decide +kernel) rfl, ⟨by decide, by decide⟩, by decide +kernel, b_E_rest, none, [], Or.inl rfl⟩
theorem in_E_rest : Cond.instanceMethod y_E_rest ∈ er_tbl := er_mt (i := 326) (by decide +kernel) rfl
theorem se_E_rest : Cond.selects "EntryRows" y_E_rest y_E_rest ∈ er_tbl := er_mt (i := 327) (by decide +kernel) rfl
theorem d_E_rest_0 : decode b_E_rest 0 = .ok (.iload_n 1, 1) := by decide +kernel
theorem d_E_rest_1 : decode b_E_rest 1 = .ok (.iconst 0, 1) := by decide +kernel
theorem d_E_rest_2 : decode b_E_rest 2 = .ok (.sipush 10000, 3) := by decide +kernel
theorem d_E_rest_5 : decode b_E_rest 5 = .ok (.invokestatic 46, 3) := by decide +kernel
theorem d_E_rest_8 : decode b_E_rest 8 = .ok (.aload_n 0, 1) := by decide +kernel
theorem d_E_rest_9 : decode b_E_rest 9 = .ok (.iload_n 1, 1) := by decide +kernel
theorem d_E_rest_10 : decode b_E_rest 10 = .ok (.putfield 37, 3) := by decide +kernel
theorem d_E_rest_13 : decode b_E_rest 13 = .ok (.return_, 1) := by decide +kernel
theorem fp_E_37 : er_Fp "EntryRows" 37 0 6 := ⟨_, er_T0, 7, er_ty0, rfl, by decide, er_i0, rfl, er_mt (i := 117) (by decide +kernel) rfl, rfl, by decide +kernel, er_tyok0, er_nm0⟩
abbrev y_E_isPlace : MethodName := ⟨"EntryRows", "isPlace", "(I)Z"⟩
abbrev b_E_isPlace : ByteArray := prog_1_method_21_code
abbrev w_E_isPlace : Cond := .code y_E_isPlace b_E_isPlace 1 (some .boolean)
theorem cal_E_isPlace : er_Cal y_E_isPlace w_E_isPlace 1 1 := ⟨er_mt (i := 338) (by decide +kernel) rfl, er_mt (i := 1) (by decide +kernel) rfl, ⟨by decide, by decide⟩, by decide +kernel, b_E_isPlace, (some .boolean), [], Or.inl rfl⟩
theorem st_E_isPlace : Cond.static y_E_isPlace ∈ er_tbl := er_mt (i := 337) (by decide +kernel) rfl
theorem d_E_isPlace_0 : decode b_E_isPlace 0 = .ok (.iload_n 0, 1) := by decide +kernel
theorem d_E_isPlace_1 : decode b_E_isPlace 1 = .ok (.ifCond .lt 13, 3) := by decide +kernel
theorem d_E_isPlace_4 : decode b_E_isPlace 4 = .ok (.iload_n 0, 1) := by decide +kernel
theorem d_E_isPlace_5 : decode b_E_isPlace 5 = .ok (.bipush 6, 2) := by decide +kernel
theorem d_E_isPlace_7 : decode b_E_isPlace 7 = .ok (.if_icmp .ge 7, 3) := by decide +kernel
theorem d_E_isPlace_10 : decode b_E_isPlace 10 = .ok (.iconst 1, 1) := by decide +kernel
theorem d_E_isPlace_11 : decode b_E_isPlace 11 = .ok (.goto 4, 3) := by decide +kernel
theorem d_E_isPlace_14 : decode b_E_isPlace 14 = .ok (.iconst 0, 1) := by decide +kernel
theorem d_E_isPlace_15 : decode b_E_isPlace 15 = .ok (.ireturn, 1) := by decide +kernel
abbrev y_E_heat : MethodName := ⟨"EntryRows", "heat", "(II)V"⟩
abbrev b_E_heat : ByteArray := prog_1_method_6_code
abbrev w_E_heat : Cond := .code y_E_heat b_E_heat 3 none
theorem cal_E_heat : er_Cal y_E_heat w_E_heat 3 2 := ⟨er_mt (i := 335) (by decide +kernel) rfl, er_mt (i := 1) (by decide +kernel) rfl, ⟨by decide, by decide⟩, by decide +kernel, b_E_heat, none, [], Or.inl rfl⟩
theorem in_E_heat : Cond.instanceMethod y_E_heat ∈ er_tbl := er_mt (i := 333) (by decide +kernel) rfl
theorem se_E_heat : Cond.selects "EntryRows" y_E_heat y_E_heat ∈ er_tbl := er_mt (i := 334) (by decide +kernel) rfl
theorem d_E_heat_0 : decode b_E_heat 0 = .ok (.iload_n 1, 1) := by decide +kernel
theorem d_E_heat_1 : decode b_E_heat 1 = .ok (.invokestatic 95, 3) := by decide +kernel
theorem d_E_heat_4 : decode b_E_heat 4 = .ok (.invokestatic 99, 3) := by decide +kernel
theorem d_E_heat_7 : decode b_E_heat 7 = .ok (.iload_n 2, 1) := by decide +kernel
theorem d_E_heat_8 : decode b_E_heat 8 = .ok (.iconst 0, 1) := by decide +kernel
theorem d_E_heat_9 : decode b_E_heat 9 = .ok (.bipush 100, 2) := by decide +kernel
theorem d_E_heat_11 : decode b_E_heat 11 = .ok (.invokestatic 46, 3) := by decide +kernel
theorem d_E_heat_14 : decode b_E_heat 14 = .ok (.aload_n 0, 1) := by decide +kernel
theorem d_E_heat_15 : decode b_E_heat 15 = .ok (.getfield 27, 3) := by decide +kernel
theorem d_E_heat_18 : decode b_E_heat 18 = .ok (.iload_n 1, 1) := by decide +kernel
theorem d_E_heat_19 : decode b_E_heat 19 = .ok (.iload_n 2, 1) := by decide +kernel
theorem d_E_heat_20 : decode b_E_heat 20 = .ok (.iastore, 1) := by decide +kernel
theorem d_E_heat_21 : decode b_E_heat 21 = .ok (.return_, 1) := by decide +kernel
theorem lk_E_95 : Cond.methodLink "EntryRows" 95 y_E_isPlace ∈ er_tbl := er_mt (i := 336) (by decide +kernel) rfl
theorem fl_E_27 : er_F "EntryRows" 27 0 3 := ⟨_, er_T0, 7, rfl, by decide, er_i0, rfl, Or.inl (er_mt (i := 114) (by decide +kernel) rfl)⟩
abbrev y_E_requireTeam : MethodName := ⟨"EntryRows", "requireTeam", "(I)V"⟩
abbrev b_E_requireTeam : ByteArray := prog_1_method_24_code
abbrev w_E_requireTeam : Cond := .code y_E_requireTeam b_E_requireTeam 1 none
theorem cal_E_requireTeam : er_Cal y_E_requireTeam w_E_requireTeam 1 1 := ⟨er_mt (i := 348) (by decide +kernel) rfl, er_mt (i := 1) (by decide +kernel) rfl, ⟨by decide, by decide⟩, by decide +kernel, b_E_requireTeam, none, [], Or.inl rfl⟩
theorem st_E_requireTeam : Cond.static y_E_requireTeam ∈ er_tbl := er_mt (i := 347) (by decide +kernel) rfl
theorem d_E_requireTeam_0 : decode b_E_requireTeam 0 = .ok (.iload_n 0, 1) := by decide +kernel
theorem d_E_requireTeam_1 : decode b_E_requireTeam 1 = .ok (.ifCond .lt 13, 3) := by decide +kernel
theorem d_E_requireTeam_4 : decode b_E_requireTeam 4 = .ok (.iload_n 0, 1) := by decide +kernel
theorem d_E_requireTeam_5 : decode b_E_requireTeam 5 = .ok (.bipush 16, 2) := by decide +kernel
theorem d_E_requireTeam_7 : decode b_E_requireTeam 7 = .ok (.if_icmp .ge 7, 3) := by decide +kernel
theorem d_E_requireTeam_10 : decode b_E_requireTeam 10 = .ok (.iconst 1, 1) := by decide +kernel
theorem d_E_requireTeam_11 : decode b_E_requireTeam 11 = .ok (.goto 4, 3) := by decide +kernel
theorem d_E_requireTeam_14 : decode b_E_requireTeam 14 = .ok (.iconst 0, 1) := by decide +kernel
theorem d_E_requireTeam_15 : decode b_E_requireTeam 15 = .ok (.invokestatic 99, 3) := by decide +kernel
theorem d_E_requireTeam_18 : decode b_E_requireTeam 18 = .ok (.return_, 1) := by decide +kernel
abbrev y_P_sizeOfTeam : MethodName := ⟨"EntryRows$Persons", "sizeOfTeam", "(I)I"⟩
abbrev b_P_sizeOfTeam : ByteArray := prog_3_method_4_code
abbrev w_P_sizeOfTeam : Cond := .code y_P_sizeOfTeam b_P_sizeOfTeam 4 (some .int)
theorem cal_P_sizeOfTeam : er_Cal y_P_sizeOfTeam w_P_sizeOfTeam 4 1 := ⟨er_mt (i := 352) (by decide +kernel) rfl, er_mt (i := 2) (by decide +kernel) rfl, ⟨by decide, by decide⟩, by decide +kernel, b_P_sizeOfTeam, (some .int), [], Or.inl rfl⟩
theorem in_P_sizeOfTeam : Cond.instanceMethod y_P_sizeOfTeam ∈ er_tbl := er_mt (i := 351) (by decide +kernel) rfl
theorem se_P_sizeOfTeam : Cond.selects "EntryRows$Persons" y_P_sizeOfTeam y_P_sizeOfTeam ∈ er_tbl := er_ms (i := 9) (by decide +kernel) rfl
theorem d_P_sizeOfTeam_0 : decode b_P_sizeOfTeam 0 = .ok (.iconst 0, 1) := by decide +kernel
theorem d_P_sizeOfTeam_1 : decode b_P_sizeOfTeam 1 = .ok (.istore_n 2, 1) := by decide +kernel
theorem d_P_sizeOfTeam_2 : decode b_P_sizeOfTeam 2 = .ok (.iconst 0, 1) := by decide +kernel
theorem d_P_sizeOfTeam_3 : decode b_P_sizeOfTeam 3 = .ok (.istore_n 3, 1) := by decide +kernel
theorem d_P_sizeOfTeam_4 : decode b_P_sizeOfTeam 4 = .ok (.iload_n 3, 1) := by decide +kernel
theorem d_P_sizeOfTeam_5 : decode b_P_sizeOfTeam 5 = .ok (.bipush 40, 2) := by decide +kernel
theorem d_P_sizeOfTeam_7 : decode b_P_sizeOfTeam 7 = .ok (.if_icmp .ge 22, 3) := by decide +kernel
theorem d_P_sizeOfTeam_10 : decode b_P_sizeOfTeam 10 = .ok (.aload_n 0, 1) := by decide +kernel
theorem d_P_sizeOfTeam_11 : decode b_P_sizeOfTeam 11 = .ok (.getfield 36, 3) := by decide +kernel
theorem d_P_sizeOfTeam_14 : decode b_P_sizeOfTeam 14 = .ok (.iload_n 3, 1) := by decide +kernel
theorem d_P_sizeOfTeam_15 : decode b_P_sizeOfTeam 15 = .ok (.iaload, 1) := by decide +kernel
theorem d_P_sizeOfTeam_16 : decode b_P_sizeOfTeam 16 = .ok (.iload_n 1, 1) := by decide +kernel
theorem d_P_sizeOfTeam_17 : decode b_P_sizeOfTeam 17 = .ok (.if_icmp .ne 6, 3) := by decide +kernel
theorem d_P_sizeOfTeam_20 : decode b_P_sizeOfTeam 20 = .ok (.iinc 2 1, 3) := by decide +kernel
theorem d_P_sizeOfTeam_23 : decode b_P_sizeOfTeam 23 = .ok (.iinc 3 1, 3) := by decide +kernel
theorem d_P_sizeOfTeam_26 : decode b_P_sizeOfTeam 26 = .ok (.goto (-22), 3) := by decide +kernel
theorem d_P_sizeOfTeam_29 : decode b_P_sizeOfTeam 29 = .ok (.iload_n 2, 1) := by decide +kernel
theorem d_P_sizeOfTeam_30 : decode b_P_sizeOfTeam 30 = .ok (.ireturn, 1) := by decide +kernel
theorem fl_P_36 : er_F "EntryRows$Persons" 36 1 8 := ⟨_, er_T1, 11, rfl, by decide, er_i1, rfl, Or.inl (er_mt (i := 48) (by decide +kernel) rfl)⟩
abbrev y_E_member : MethodName := ⟨"EntryRows", "member", "(IIZ)I"⟩
abbrev b_E_member : ByteArray := prog_1_method_7_code
abbrev w_E_member : Cond := .code y_E_member b_E_member 4 (some .int)
theorem cal_E_member : er_Cal y_E_member w_E_member 4 3 := ⟨er_mt (i := 345) (by decide +kernel) rfl, er_mt (i := 1) (by decide +kernel) rfl, ⟨by decide, by decide⟩, by decide +kernel, b_E_member, (some .int), [], Or.inl rfl⟩
theorem in_E_member : Cond.instanceMethod y_E_member ∈ er_tbl := er_mt (i := 343) (by decide +kernel) rfl
theorem se_E_member : Cond.selects "EntryRows" y_E_member y_E_member ∈ er_tbl := er_mt (i := 344) (by decide +kernel) rfl
theorem d_E_member_0 : decode b_E_member 0 = .ok (.iload_n 1, 1) := by decide +kernel
theorem d_E_member_1 : decode b_E_member 1 = .ok (.invokestatic 102, 3) := by decide +kernel
theorem d_E_member_4 : decode b_E_member 4 = .ok (.iload_n 2, 1) := by decide +kernel
theorem d_E_member_5 : decode b_E_member 5 = .ok (.invokestatic 69, 3) := by decide +kernel
theorem d_E_member_8 : decode b_E_member 8 = .ok (.aload_n 0, 1) := by decide +kernel
theorem d_E_member_9 : decode b_E_member 9 = .ok (.getfield 10, 3) := by decide +kernel
theorem d_E_member_12 : decode b_E_member 12 = .ok (.getfield 105, 3) := by decide +kernel
theorem d_E_member_15 : decode b_E_member 15 = .ok (.iload_n 2, 1) := by decide +kernel
theorem d_E_member_16 : decode b_E_member 16 = .ok (.iaload, 1) := by decide +kernel
theorem d_E_member_17 : decode b_E_member 17 = .ok (.iload_n 3, 1) := by decide +kernel
theorem d_E_member_18 : decode b_E_member 18 = .ok (.ifCond .eq 7, 3) := by decide +kernel
theorem d_E_member_21 : decode b_E_member 21 = .ok (.iconst (-1), 1) := by decide +kernel
theorem d_E_member_22 : decode b_E_member 22 = .ok (.goto 4, 3) := by decide +kernel
theorem d_E_member_25 : decode b_E_member 25 = .ok (.iload_n 1, 1) := by decide +kernel
theorem d_E_member_26 : decode b_E_member 26 = .ok (.if_icmp .ne 7, 3) := by decide +kernel
theorem d_E_member_29 : decode b_E_member 29 = .ok (.iconst 1, 1) := by decide +kernel
theorem d_E_member_30 : decode b_E_member 30 = .ok (.goto 4, 3) := by decide +kernel
theorem d_E_member_33 : decode b_E_member 33 = .ok (.iconst 0, 1) := by decide +kernel
theorem d_E_member_34 : decode b_E_member 34 = .ok (.invokestatic 81, 3) := by decide +kernel
theorem d_E_member_37 : decode b_E_member 37 = .ok (.aload_n 0, 1) := by decide +kernel
theorem d_E_member_38 : decode b_E_member 38 = .ok (.iload_n 2, 1) := by decide +kernel
theorem d_E_member_39 : decode b_E_member 39 = .ok (.invokevirtual 75, 3) := by decide +kernel
theorem d_E_member_42 : decode b_E_member 42 = .ok (.iload_n 3, 1) := by decide +kernel
theorem d_E_member_43 : decode b_E_member 43 = .ok (.ifCond .eq 26, 3) := by decide +kernel
theorem d_E_member_46 : decode b_E_member 46 = .ok (.aload_n 0, 1) := by decide +kernel
theorem d_E_member_47 : decode b_E_member 47 = .ok (.getfield 10, 3) := by decide +kernel
theorem d_E_member_50 : decode b_E_member 50 = .ok (.iload_n 1, 1) := by decide +kernel
theorem d_E_member_51 : decode b_E_member 51 = .ok (.invokevirtual 108, 3) := by decide +kernel
theorem d_E_member_54 : decode b_E_member 54 = .ok (.bipush 6, 2) := by decide +kernel
theorem d_E_member_56 : decode b_E_member 56 = .ok (.if_icmp .lt 13, 3) := by decide +kernel
theorem d_E_member_59 : decode b_E_member 59 = .ok (.new 54, 3) := by decide +kernel
theorem d_E_member_62 : decode b_E_member 62 = .ok (.dup, 1) := by decide +kernel
theorem d_E_member_63 : decode b_E_member 63 = .ok (.ldc 112, 2) := by decide +kernel
theorem d_E_member_65 : decode b_E_member 65 = .ok (.invokespecial 58, 3) := by decide +kernel
theorem d_E_member_68 : decode b_E_member 68 = .ok (.athrow, 1) := by decide +kernel
theorem d_E_member_69 : decode b_E_member 69 = .ok (.aload_n 0, 1) := by decide +kernel
theorem d_E_member_70 : decode b_E_member 70 = .ok (.getfield 10, 3) := by decide +kernel
theorem d_E_member_73 : decode b_E_member 73 = .ok (.getfield 105, 3) := by decide +kernel
theorem d_E_member_76 : decode b_E_member 76 = .ok (.iload_n 2, 1) := by decide +kernel
theorem d_E_member_77 : decode b_E_member 77 = .ok (.iload_n 3, 1) := by decide +kernel
theorem d_E_member_78 : decode b_E_member 78 = .ok (.ifCond .eq 7, 3) := by decide +kernel
theorem d_E_member_81 : decode b_E_member 81 = .ok (.iload_n 1, 1) := by decide +kernel
theorem d_E_member_82 : decode b_E_member 82 = .ok (.goto 4, 3) := by decide +kernel
theorem d_E_member_85 : decode b_E_member 85 = .ok (.iconst (-1), 1) := by decide +kernel
theorem d_E_member_86 : decode b_E_member 86 = .ok (.iastore, 1) := by decide +kernel
theorem d_E_member_87 : decode b_E_member 87 = .ok (.aload_n 0, 1) := by decide +kernel
theorem d_E_member_88 : decode b_E_member 88 = .ok (.getfield 10, 3) := by decide +kernel
theorem d_E_member_91 : decode b_E_member 91 = .ok (.iload_n 1, 1) := by decide +kernel
theorem d_E_member_92 : decode b_E_member 92 = .ok (.invokevirtual 108, 3) := by decide +kernel
theorem d_E_member_95 : decode b_E_member 95 = .ok (.ireturn, 1) := by decide +kernel
theorem lk_E_102 : Cond.methodLink "EntryRows" 102 y_E_requireTeam ∈ er_tbl := er_mt (i := 346) (by decide +kernel) rfl
theorem fl_E_105 : er_F "EntryRows" 105 1 8 := ⟨_, er_T1, 11, rfl, by decide, er_i1, rfl, Or.inr ⟨"EntryRows", er_mt (i := 49) (by decide +kernel) rfl⟩⟩
theorem lk_E_108 : Cond.methodLink "EntryRows" 108 y_P_sizeOfTeam ∈ er_tbl ∨ ∃ host, Cond.methodLinkNest "EntryRows" 108 y_P_sizeOfTeam host ∈ er_tbl := Or.inr ⟨"EntryRows", er_mt (i := 349) (by decide +kernel) rfl⟩
abbrev y_P_isFree : MethodName := ⟨"EntryRows$Persons", "isFree", "(II)Z"⟩
abbrev b_P_isFree : ByteArray := prog_3_method_3_code
abbrev w_P_isFree : Cond := .code y_P_isFree b_P_isFree 3 (some .boolean)
theorem cal_P_isFree : er_Cal y_P_isFree w_P_isFree 3 2 := ⟨er_mt (i := 376) (by decide +kernel) rfl, er_mt (i := 2) (by decide +kernel) rfl, ⟨by decide, by decide⟩, by decide +kernel, b_P_isFree, (some .boolean), [], Or.inl rfl⟩
theorem in_P_isFree : Cond.instanceMethod y_P_isFree ∈ er_tbl := er_mt (i := 375) (by decide +kernel) rfl
theorem se_P_isFree : Cond.selects "EntryRows$Persons" y_P_isFree y_P_isFree ∈ er_tbl := er_ms (i := 13) (by decide +kernel) rfl
theorem d_P_isFree_0 : decode b_P_isFree 0 = .ok (.aload_n 0, 1) := by decide +kernel
theorem d_P_isFree_1 : decode b_P_isFree 1 = .ok (.iload_n 1, 1) := by decide +kernel
theorem d_P_isFree_2 : decode b_P_isFree 2 = .ok (.invokevirtual 52, 3) := by decide +kernel
theorem d_P_isFree_5 : decode b_P_isFree 5 = .ok (.ifCond .ne 27, 3) := by decide +kernel
theorem d_P_isFree_8 : decode b_P_isFree 8 = .ok (.iload_n 2, 1) := by decide +kernel
theorem d_P_isFree_9 : decode b_P_isFree 9 = .ok (.aload_n 0, 1) := by decide +kernel
theorem d_P_isFree_10 : decode b_P_isFree 10 = .ok (.getfield 27, 3) := by decide +kernel
theorem d_P_isFree_13 : decode b_P_isFree 13 = .ok (.iload_n 1, 1) := by decide +kernel
theorem d_P_isFree_14 : decode b_P_isFree 14 = .ok (.iaload, 1) := by decide +kernel
theorem d_P_isFree_15 : decode b_P_isFree 15 = .ok (.if_icmp .lt 17, 3) := by decide +kernel
theorem d_P_isFree_18 : decode b_P_isFree 18 = .ok (.aload_n 0, 1) := by decide +kernel
theorem d_P_isFree_19 : decode b_P_isFree 19 = .ok (.getfield 39, 3) := by decide +kernel
theorem d_P_isFree_22 : decode b_P_isFree 22 = .ok (.iload_n 1, 1) := by decide +kernel
theorem d_P_isFree_23 : decode b_P_isFree 23 = .ok (.iaload, 1) := by decide +kernel
theorem d_P_isFree_24 : decode b_P_isFree 24 = .ok (.iconst (-1), 1) := by decide +kernel
theorem d_P_isFree_25 : decode b_P_isFree 25 = .ok (.if_icmp .ne 7, 3) := by decide +kernel
theorem d_P_isFree_28 : decode b_P_isFree 28 = .ok (.iconst 1, 1) := by decide +kernel
theorem d_P_isFree_29 : decode b_P_isFree 29 = .ok (.goto 4, 3) := by decide +kernel
theorem d_P_isFree_32 : decode b_P_isFree 32 = .ok (.iconst 0, 1) := by decide +kernel
theorem d_P_isFree_33 : decode b_P_isFree 33 = .ok (.ireturn, 1) := by decide +kernel
theorem lk_P_52 : Cond.methodLink "EntryRows$Persons" 52 y_P_isInside ∈ er_tbl ∨ ∃ host, Cond.methodLinkNest "EntryRows$Persons" 52 y_P_isInside host ∈ er_tbl := Or.inl (er_mt (i := 377) (by decide +kernel) rfl)
theorem fl_P_27 : er_F "EntryRows$Persons" 27 1 5 := ⟨_, er_T1, 11, rfl, by decide, er_i1, rfl, Or.inl (er_mt (i := 42) (by decide +kernel) rfl)⟩
theorem fl_P_39 : er_F "EntryRows$Persons" 39 1 9 := ⟨_, er_T1, 11, rfl, by decide, er_i1, rfl, Or.inl (er_mt (i := 50) (by decide +kernel) rfl)⟩
abbrev y_P_isTeamReady : MethodName := ⟨"EntryRows$Persons", "isTeamReady", "(III)Z"⟩
abbrev b_P_isTeamReady : ByteArray := prog_3_method_5_code
abbrev w_P_isTeamReady : Cond := .code y_P_isTeamReady b_P_isTeamReady 5 (some .boolean)
theorem cal_P_isTeamReady : er_Cal y_P_isTeamReady w_P_isTeamReady 5 3 := ⟨er_mt (i := 372) (by decide +kernel) rfl, er_mt (i := 2) (by decide +kernel) rfl, ⟨by decide, by decide⟩, by decide +kernel, b_P_isTeamReady, (some .boolean), [], Or.inl rfl⟩
theorem in_P_isTeamReady : Cond.instanceMethod y_P_isTeamReady ∈ er_tbl := er_mt (i := 371) (by decide +kernel) rfl
theorem se_P_isTeamReady : Cond.selects "EntryRows$Persons" y_P_isTeamReady y_P_isTeamReady ∈ er_tbl := er_ms (i := 12) (by decide +kernel) rfl
theorem d_P_isTeamReady_0 : decode b_P_isTeamReady 0 = .ok (.iconst 0, 1) := by decide +kernel
theorem d_P_isTeamReady_1 : decode b_P_isTeamReady 1 = .ok (.istore 4, 2) := by decide +kernel
theorem d_P_isTeamReady_3 : decode b_P_isTeamReady 3 = .ok (.iload 4, 2) := by decide +kernel
theorem d_P_isTeamReady_5 : decode b_P_isTeamReady 5 = .ok (.bipush 40, 2) := by decide +kernel
theorem d_P_isTeamReady_7 : decode b_P_isTeamReady 7 = .ok (.if_icmp .ge 32, 3) := by decide +kernel
theorem d_P_isTeamReady_10 : decode b_P_isTeamReady 10 = .ok (.aload_n 0, 1) := by decide +kernel
theorem d_P_isTeamReady_11 : decode b_P_isTeamReady 11 = .ok (.getfield 36, 3) := by decide +kernel
theorem d_P_isTeamReady_14 : decode b_P_isTeamReady 14 = .ok (.iload 4, 2) := by decide +kernel
theorem d_P_isTeamReady_16 : decode b_P_isTeamReady 16 = .ok (.iaload, 1) := by decide +kernel
theorem d_P_isTeamReady_17 : decode b_P_isTeamReady 17 = .ok (.iload_n 1, 1) := by decide +kernel
theorem d_P_isTeamReady_18 : decode b_P_isTeamReady 18 = .ok (.if_icmp .ne 15, 3) := by decide +kernel
theorem d_P_isTeamReady_21 : decode b_P_isTeamReady 21 = .ok (.aload_n 0, 1) := by decide +kernel
theorem d_P_isTeamReady_22 : decode b_P_isTeamReady 22 = .ok (.iload 4, 2) := by decide +kernel
theorem d_P_isTeamReady_24 : decode b_P_isTeamReady 24 = .ok (.iload_n 3, 1) := by decide +kernel
theorem d_P_isTeamReady_25 : decode b_P_isTeamReady 25 = .ok (.invokevirtual 56, 3) := by decide +kernel
theorem d_P_isTeamReady_28 : decode b_P_isTeamReady 28 = .ok (.ifCond .ne 5, 3) := by decide +kernel
theorem d_P_isTeamReady_31 : decode b_P_isTeamReady 31 = .ok (.iconst 0, 1) := by decide +kernel
theorem d_P_isTeamReady_32 : decode b_P_isTeamReady 32 = .ok (.ireturn, 1) := by decide +kernel
theorem d_P_isTeamReady_33 : decode b_P_isTeamReady 33 = .ok (.iinc 4 1, 3) := by decide +kernel
theorem d_P_isTeamReady_36 : decode b_P_isTeamReady 36 = .ok (.goto (-33), 3) := by decide +kernel
theorem d_P_isTeamReady_39 : decode b_P_isTeamReady 39 = .ok (.aload_n 0, 1) := by decide +kernel
theorem d_P_isTeamReady_40 : decode b_P_isTeamReady 40 = .ok (.iload_n 1, 1) := by decide +kernel
theorem d_P_isTeamReady_41 : decode b_P_isTeamReady 41 = .ok (.invokevirtual 60, 3) := by decide +kernel
theorem d_P_isTeamReady_44 : decode b_P_isTeamReady 44 = .ok (.iload_n 2, 1) := by decide +kernel
theorem d_P_isTeamReady_45 : decode b_P_isTeamReady 45 = .ok (.if_icmp .lt 7, 3) := by decide +kernel
theorem d_P_isTeamReady_48 : decode b_P_isTeamReady 48 = .ok (.iconst 1, 1) := by decide +kernel
theorem d_P_isTeamReady_49 : decode b_P_isTeamReady 49 = .ok (.goto 4, 3) := by decide +kernel
theorem d_P_isTeamReady_52 : decode b_P_isTeamReady 52 = .ok (.iconst 0, 1) := by decide +kernel
theorem d_P_isTeamReady_53 : decode b_P_isTeamReady 53 = .ok (.ireturn, 1) := by decide +kernel
theorem lk_P_56 : Cond.methodLink "EntryRows$Persons" 56 y_P_isFree ∈ er_tbl ∨ ∃ host, Cond.methodLinkNest "EntryRows$Persons" 56 y_P_isFree host ∈ er_tbl := Or.inl (er_mt (i := 373) (by decide +kernel) rfl)
theorem lk_P_60 : Cond.methodLink "EntryRows$Persons" 60 y_P_sizeOfTeam ∈ er_tbl ∨ ∃ host, Cond.methodLinkNest "EntryRows$Persons" 60 y_P_sizeOfTeam host ∈ er_tbl := Or.inl (er_mt (i := 378) (by decide +kernel) rfl)
abbrev y_E_isReady : MethodName := ⟨"EntryRows", "isReady", "(II)Z"⟩
abbrev b_E_isReady : ByteArray := prog_1_method_31_code
abbrev w_E_isReady : Cond := .code y_E_isReady b_E_isReady 3 (some .boolean)
theorem cal_E_isReady : er_Cal y_E_isReady w_E_isReady 3 2 := ⟨er_mt (i := 368) (by decide +kernel) rfl, er_mt (i := 1) (by decide +kernel) rfl, ⟨by decide, by decide⟩, by decide +kernel, b_E_isReady, (some .boolean), [], Or.inl rfl⟩
theorem in_E_isReady : Cond.instanceMethod y_E_isReady ∈ er_tbl := er_mt (i := 367) (by decide +kernel) rfl
theorem se_E_isReady : Cond.selects "EntryRows" y_E_isReady y_E_isReady ∈ er_tbl := er_ms (i := 11) (by decide +kernel) rfl
theorem d_E_isReady_0 : decode b_E_isReady 0 = .ok (.aload_n 0, 1) := by decide +kernel
theorem d_E_isReady_1 : decode b_E_isReady 1 = .ok (.getfield 10, 3) := by decide +kernel
theorem d_E_isReady_4 : decode b_E_isReady 4 = .ok (.iload_n 1, 1) := by decide +kernel
theorem d_E_isReady_5 : decode b_E_isReady 5 = .ok (.aload_n 0, 1) := by decide +kernel
theorem d_E_isReady_6 : decode b_E_isReady 6 = .ok (.getfield 19, 3) := by decide +kernel
theorem d_E_isReady_9 : decode b_E_isReady 9 = .ok (.getfield 227, 3) := by decide +kernel
theorem d_E_isReady_12 : decode b_E_isReady 12 = .ok (.iload_n 2, 1) := by decide +kernel
theorem d_E_isReady_13 : decode b_E_isReady 13 = .ok (.iaload, 1) := by decide +kernel
theorem d_E_isReady_14 : decode b_E_isReady 14 = .ok (.aload_n 0, 1) := by decide +kernel
theorem d_E_isReady_15 : decode b_E_isReady 15 = .ok (.getfield 30, 3) := by decide +kernel
theorem d_E_isReady_18 : decode b_E_isReady 18 = .ok (.invokevirtual 230, 3) := by decide +kernel
theorem d_E_isReady_21 : decode b_E_isReady 21 = .ok (.ireturn, 1) := by decide +kernel
theorem fl_E_227 : er_F "EntryRows" 227 2 1 := ⟨_, er_T2, 6, rfl, by decide, er_i2, rfl, Or.inr ⟨"EntryRows", er_mt (i := 89) (by decide +kernel) rfl⟩⟩
theorem fl_E_30 : er_F "EntryRows" 30 0 4 := ⟨_, er_T0, 7, rfl, by decide, er_i0, rfl, Or.inl (er_mt (i := 115) (by decide +kernel) rfl)⟩
theorem lk_E_230 : Cond.methodLink "EntryRows" 230 y_P_isTeamReady ∈ er_tbl ∨ ∃ host, Cond.methodLinkNest "EntryRows" 230 y_P_isTeamReady host ∈ er_tbl := Or.inr ⟨"EntryRows", er_mt (i := 369) (by decide +kernel) rfl⟩
abbrev y_E_readySafetyTeams : MethodName := ⟨"EntryRows", "readySafetyTeams", "(II)I"⟩
abbrev b_E_readySafetyTeams : ByteArray := prog_1_method_33_code
abbrev w_E_readySafetyTeams : Cond := .code y_E_readySafetyTeams b_E_readySafetyTeams 5 (some .int)
theorem cal_E_readySafetyTeams : er_Cal y_E_readySafetyTeams w_E_readySafetyTeams 5 2 := ⟨er_mt (i := 364) (by decide +kernel) rfl, er_mt (i := 1) (by decide +kernel) rfl, ⟨by decide, by decide⟩, by decide +kernel, b_E_readySafetyTeams, (some .int), [], Or.inl rfl⟩
theorem in_E_readySafetyTeams : Cond.instanceMethod y_E_readySafetyTeams ∈ er_tbl := er_mt (i := 363) (by decide +kernel) rfl
theorem se_E_readySafetyTeams : Cond.selects "EntryRows" y_E_readySafetyTeams y_E_readySafetyTeams ∈ er_tbl := er_ms (i := 10) (by decide +kernel) rfl
theorem d_E_readySafetyTeams_0 : decode b_E_readySafetyTeams 0 = .ok (.iconst 0, 1) := by decide +kernel
theorem d_E_readySafetyTeams_1 : decode b_E_readySafetyTeams 1 = .ok (.istore_n 3, 1) := by decide +kernel
theorem d_E_readySafetyTeams_2 : decode b_E_readySafetyTeams 2 = .ok (.iconst 0, 1) := by decide +kernel
theorem d_E_readySafetyTeams_3 : decode b_E_readySafetyTeams 3 = .ok (.istore 4, 2) := by decide +kernel
theorem d_E_readySafetyTeams_5 : decode b_E_readySafetyTeams 5 = .ok (.iload 4, 2) := by decide +kernel
theorem d_E_readySafetyTeams_7 : decode b_E_readySafetyTeams 7 = .ok (.bipush 16, 2) := by decide +kernel
theorem d_E_readySafetyTeams_9 : decode b_E_readySafetyTeams 9 = .ok (.if_icmp .ge 39, 3) := by decide +kernel
theorem d_E_readySafetyTeams_12 : decode b_E_readySafetyTeams 12 = .ok (.iload 4, 2) := by decide +kernel
theorem d_E_readySafetyTeams_14 : decode b_E_readySafetyTeams 14 = .ok (.iload_n 2, 1) := by decide +kernel
theorem d_E_readySafetyTeams_15 : decode b_E_readySafetyTeams 15 = .ok (.if_icmp .eq 27, 3) := by decide +kernel
theorem d_E_readySafetyTeams_18 : decode b_E_readySafetyTeams 18 = .ok (.aload_n 0, 1) := by decide +kernel
theorem d_E_readySafetyTeams_19 : decode b_E_readySafetyTeams 19 = .ok (.getfield 23, 3) := by decide +kernel
theorem d_E_readySafetyTeams_22 : decode b_E_readySafetyTeams 22 = .ok (.iload 4, 2) := by decide +kernel
theorem d_E_readySafetyTeams_24 : decode b_E_readySafetyTeams 24 = .ok (.iaload, 1) := by decide +kernel
theorem d_E_readySafetyTeams_25 : decode b_E_readySafetyTeams 25 = .ok (.iload_n 1, 1) := by decide +kernel
theorem d_E_readySafetyTeams_26 : decode b_E_readySafetyTeams 26 = .ok (.if_icmp .ne 16, 3) := by decide +kernel
theorem d_E_readySafetyTeams_29 : decode b_E_readySafetyTeams 29 = .ok (.aload_n 0, 1) := by decide +kernel
theorem d_E_readySafetyTeams_30 : decode b_E_readySafetyTeams 30 = .ok (.iload 4, 2) := by decide +kernel
theorem d_E_readySafetyTeams_32 : decode b_E_readySafetyTeams 32 = .ok (.iload_n 1, 1) := by decide +kernel
theorem d_E_readySafetyTeams_33 : decode b_E_readySafetyTeams 33 = .ok (.invokevirtual 118, 3) := by decide +kernel
theorem d_E_readySafetyTeams_36 : decode b_E_readySafetyTeams 36 = .ok (.ifCond .eq 6, 3) := by decide +kernel
theorem d_E_readySafetyTeams_39 : decode b_E_readySafetyTeams 39 = .ok (.iinc 3 1, 3) := by decide +kernel
theorem d_E_readySafetyTeams_42 : decode b_E_readySafetyTeams 42 = .ok (.iinc 4 1, 3) := by decide +kernel
theorem d_E_readySafetyTeams_45 : decode b_E_readySafetyTeams 45 = .ok (.goto (-40), 3) := by decide +kernel
theorem d_E_readySafetyTeams_48 : decode b_E_readySafetyTeams 48 = .ok (.iload_n 3, 1) := by decide +kernel
theorem d_E_readySafetyTeams_49 : decode b_E_readySafetyTeams 49 = .ok (.ireturn, 1) := by decide +kernel
theorem fl_E_23 : er_F "EntryRows" 23 0 2 := ⟨_, er_T0, 7, rfl, by decide, er_i0, rfl, Or.inl (er_mt (i := 113) (by decide +kernel) rfl)⟩
theorem lk_E_118 : Cond.methodLink "EntryRows" 118 y_E_isReady ∈ er_tbl ∨ ∃ host, Cond.methodLinkNest "EntryRows" 118 y_E_isReady host ∈ er_tbl := Or.inl (er_mt (i := 365) (by decide +kernel) rfl)
abbrev y_E_safety : MethodName := ⟨"EntryRows", "safety", "(IIZ)I"⟩
abbrev b_E_safety : ByteArray := prog_1_method_8_code
abbrev w_E_safety : Cond := .code y_E_safety b_E_safety 4 (some .int)
theorem cal_E_safety : er_Cal y_E_safety w_E_safety 4 3 := ⟨er_mt (i := 360) (by decide +kernel) rfl, er_mt (i := 1) (by decide +kernel) rfl, ⟨by decide, by decide⟩, by decide +kernel, b_E_safety, (some .int), [], Or.inl rfl⟩
theorem in_E_safety : Cond.instanceMethod y_E_safety ∈ er_tbl := er_mt (i := 358) (by decide +kernel) rfl
theorem se_E_safety : Cond.selects "EntryRows" y_E_safety y_E_safety ∈ er_tbl := er_mt (i := 359) (by decide +kernel) rfl
theorem d_E_safety_0 : decode b_E_safety 0 = .ok (.aload_n 0, 1) := by decide +kernel
theorem d_E_safety_1 : decode b_E_safety 1 = .ok (.iload_n 1, 1) := by decide +kernel
theorem d_E_safety_2 : decode b_E_safety 2 = .ok (.invokevirtual 65, 3) := by decide +kernel
theorem d_E_safety_5 : decode b_E_safety 5 = .ok (.iload_n 2, 1) := by decide +kernel
theorem d_E_safety_6 : decode b_E_safety 6 = .ok (.invokestatic 102, 3) := by decide +kernel
theorem d_E_safety_9 : decode b_E_safety 9 = .ok (.aload_n 0, 1) := by decide +kernel
theorem d_E_safety_10 : decode b_E_safety 10 = .ok (.iload_n 1, 1) := by decide +kernel
theorem d_E_safety_11 : decode b_E_safety 11 = .ok (.invokevirtual 72, 3) := by decide +kernel
theorem d_E_safety_14 : decode b_E_safety 14 = .ok (.aload_n 0, 1) := by decide +kernel
theorem d_E_safety_15 : decode b_E_safety 15 = .ok (.getfield 23, 3) := by decide +kernel
theorem d_E_safety_18 : decode b_E_safety 18 = .ok (.iload_n 2, 1) := by decide +kernel
theorem d_E_safety_19 : decode b_E_safety 19 = .ok (.iaload, 1) := by decide +kernel
theorem d_E_safety_20 : decode b_E_safety 20 = .ok (.iload_n 3, 1) := by decide +kernel
theorem d_E_safety_21 : decode b_E_safety 21 = .ok (.ifCond .eq 7, 3) := by decide +kernel
theorem d_E_safety_24 : decode b_E_safety 24 = .ok (.iconst (-1), 1) := by decide +kernel
theorem d_E_safety_25 : decode b_E_safety 25 = .ok (.goto 4, 3) := by decide +kernel
theorem d_E_safety_28 : decode b_E_safety 28 = .ok (.iload_n 1, 1) := by decide +kernel
theorem d_E_safety_29 : decode b_E_safety 29 = .ok (.if_icmp .ne 7, 3) := by decide +kernel
theorem d_E_safety_32 : decode b_E_safety 32 = .ok (.iconst 1, 1) := by decide +kernel
theorem d_E_safety_33 : decode b_E_safety 33 = .ok (.goto 4, 3) := by decide +kernel
theorem d_E_safety_36 : decode b_E_safety 36 = .ok (.iconst 0, 1) := by decide +kernel
theorem d_E_safety_37 : decode b_E_safety 37 = .ok (.invokestatic 81, 3) := by decide +kernel
theorem d_E_safety_40 : decode b_E_safety 40 = .ok (.aload_n 0, 1) := by decide +kernel
theorem d_E_safety_41 : decode b_E_safety 41 = .ok (.getfield 23, 3) := by decide +kernel
theorem d_E_safety_44 : decode b_E_safety 44 = .ok (.iload_n 2, 1) := by decide +kernel
theorem d_E_safety_45 : decode b_E_safety 45 = .ok (.iload_n 3, 1) := by decide +kernel
theorem d_E_safety_46 : decode b_E_safety 46 = .ok (.ifCond .eq 7, 3) := by decide +kernel
theorem d_E_safety_49 : decode b_E_safety 49 = .ok (.iload_n 1, 1) := by decide +kernel
theorem d_E_safety_50 : decode b_E_safety 50 = .ok (.goto 4, 3) := by decide +kernel
theorem d_E_safety_53 : decode b_E_safety 53 = .ok (.iconst (-1), 1) := by decide +kernel
theorem d_E_safety_54 : decode b_E_safety 54 = .ok (.iastore, 1) := by decide +kernel
theorem d_E_safety_55 : decode b_E_safety 55 = .ok (.aload_n 0, 1) := by decide +kernel
theorem d_E_safety_56 : decode b_E_safety 56 = .ok (.iload_n 1, 1) := by decide +kernel
theorem d_E_safety_57 : decode b_E_safety 57 = .ok (.iconst (-1), 1) := by decide +kernel
theorem d_E_safety_58 : decode b_E_safety 58 = .ok (.invokevirtual 114, 3) := by decide +kernel
theorem d_E_safety_61 : decode b_E_safety 61 = .ok (.ireturn, 1) := by decide +kernel
theorem lk_E_114 : Cond.methodLink "EntryRows" 114 y_E_readySafetyTeams ∈ er_tbl ∨ ∃ host, Cond.methodLinkNest "EntryRows" 114 y_E_readySafetyTeams host ∈ er_tbl := Or.inl (er_mt (i := 361) (by decide +kernel) rfl)
abbrev y_E_isCovered : MethodName := ⟨"EntryRows", "isCovered", "(II)Z"⟩
abbrev b_E_isCovered : ByteArray := prog_1_method_32_code
abbrev w_E_isCovered : Cond := .code y_E_isCovered b_E_isCovered 3 (some .boolean)
theorem cal_E_isCovered : er_Cal y_E_isCovered w_E_isCovered 3 2 := ⟨er_mt (i := 389) (by decide +kernel) rfl, er_mt (i := 1) (by decide +kernel) rfl, ⟨by decide, by decide⟩, by decide +kernel, b_E_isCovered, (some .boolean), [], Or.inl rfl⟩
theorem in_E_isCovered : Cond.instanceMethod y_E_isCovered ∈ er_tbl := er_mt (i := 388) (by decide +kernel) rfl
theorem se_E_isCovered : Cond.selects "EntryRows" y_E_isCovered y_E_isCovered ∈ er_tbl := er_ms (i := 14) (by decide +kernel) rfl
theorem d_E_isCovered_0 : decode b_E_isCovered 0 = .ok (.aload_n 0, 1) := by decide +kernel
theorem d_E_isCovered_1 : decode b_E_isCovered 1 = .ok (.iload_n 1, 1) := by decide +kernel
theorem d_E_isCovered_2 : decode b_E_isCovered 2 = .ok (.iload_n 2, 1) := by decide +kernel
theorem d_E_isCovered_3 : decode b_E_isCovered 3 = .ok (.invokevirtual 114, 3) := by decide +kernel
theorem d_E_isCovered_6 : decode b_E_isCovered 6 = .ok (.aload_n 0, 1) := by decide +kernel
theorem d_E_isCovered_7 : decode b_E_isCovered 7 = .ok (.getfield 19, 3) := by decide +kernel
theorem d_E_isCovered_10 : decode b_E_isCovered 10 = .ok (.getfield 234, 3) := by decide +kernel
theorem d_E_isCovered_13 : decode b_E_isCovered 13 = .ok (.iload_n 1, 1) := by decide +kernel
theorem d_E_isCovered_14 : decode b_E_isCovered 14 = .ok (.iaload, 1) := by decide +kernel
theorem d_E_isCovered_15 : decode b_E_isCovered 15 = .ok (.if_icmp .lt 7, 3) := by decide +kernel
theorem d_E_isCovered_18 : decode b_E_isCovered 18 = .ok (.iconst 1, 1) := by decide +kernel
theorem d_E_isCovered_19 : decode b_E_isCovered 19 = .ok (.goto 4, 3) := by decide +kernel
theorem d_E_isCovered_22 : decode b_E_isCovered 22 = .ok (.iconst 0, 1) := by decide +kernel
theorem d_E_isCovered_23 : decode b_E_isCovered 23 = .ok (.ireturn, 1) := by decide +kernel
theorem fl_E_234 : er_F "EntryRows" 234 2 3 := ⟨_, er_T2, 6, rfl, by decide, er_i2, rfl, Or.inr ⟨"EntryRows", er_mt (i := 93) (by decide +kernel) rfl⟩⟩
abbrev y_E_keeperMayLetRescue : MethodName := ⟨"EntryRows", "keeperMayLetRescue", "(I)Z"⟩
abbrev b_E_keeperMayLetRescue : ByteArray := prog_1_method_34_code
abbrev w_E_keeperMayLetRescue : Cond := .code y_E_keeperMayLetRescue b_E_keeperMayLetRescue 3 (some .boolean)
theorem cal_E_keeperMayLetRescue : er_Cal y_E_keeperMayLetRescue w_E_keeperMayLetRescue 3 1 := ⟨er_mt (i := 393) (by decide +kernel) rfl, er_mt (i := 1) (by decide +kernel) rfl, ⟨by decide, by decide⟩, by decide +kernel, b_E_keeperMayLetRescue, (some .boolean), [], Or.inl rfl⟩
theorem in_E_keeperMayLetRescue : Cond.instanceMethod y_E_keeperMayLetRescue ∈ er_tbl := er_mt (i := 392) (by decide +kernel) rfl
theorem se_E_keeperMayLetRescue : Cond.selects "EntryRows" y_E_keeperMayLetRescue y_E_keeperMayLetRescue ∈ er_tbl := er_ms (i := 15) (by decide +kernel) rfl
theorem d_E_keeperMayLetRescue_0 : decode b_E_keeperMayLetRescue 0 = .ok (.aload_n 0, 1) := by decide +kernel
theorem d_E_keeperMayLetRescue_1 : decode b_E_keeperMayLetRescue 1 = .ok (.getfield 19, 3) := by decide +kernel
theorem d_E_keeperMayLetRescue_4 : decode b_E_keeperMayLetRescue 4 = .ok (.getfield 88, 3) := by decide +kernel
theorem d_E_keeperMayLetRescue_7 : decode b_E_keeperMayLetRescue 7 = .ok (.iload_n 1, 1) := by decide +kernel
theorem d_E_keeperMayLetRescue_8 : decode b_E_keeperMayLetRescue 8 = .ok (.iaload, 1) := by decide +kernel
theorem d_E_keeperMayLetRescue_9 : decode b_E_keeperMayLetRescue 9 = .ok (.istore_n 2, 1) := by decide +kernel
theorem d_E_keeperMayLetRescue_10 : decode b_E_keeperMayLetRescue 10 = .ok (.iload_n 2, 1) := by decide +kernel
theorem d_E_keeperMayLetRescue_11 : decode b_E_keeperMayLetRescue 11 = .ok (.invokestatic 173, 3) := by decide +kernel
theorem d_E_keeperMayLetRescue_14 : decode b_E_keeperMayLetRescue 14 = .ok (.ifCond .eq 19, 3) := by decide +kernel
theorem d_E_keeperMayLetRescue_17 : decode b_E_keeperMayLetRescue 17 = .ok (.aload_n 0, 1) := by decide +kernel
theorem d_E_keeperMayLetRescue_18 : decode b_E_keeperMayLetRescue 18 = .ok (.getfield 10, 3) := by decide +kernel
theorem d_E_keeperMayLetRescue_21 : decode b_E_keeperMayLetRescue 21 = .ok (.getfield 91, 3) := by decide +kernel
theorem d_E_keeperMayLetRescue_24 : decode b_E_keeperMayLetRescue 24 = .ok (.iload_n 2, 1) := by decide +kernel
theorem d_E_keeperMayLetRescue_25 : decode b_E_keeperMayLetRescue 25 = .ok (.baload, 1) := by decide +kernel
theorem d_E_keeperMayLetRescue_26 : decode b_E_keeperMayLetRescue 26 = .ok (.ifCond .eq 7, 3) := by decide +kernel
theorem d_E_keeperMayLetRescue_29 : decode b_E_keeperMayLetRescue 29 = .ok (.iconst 1, 1) := by decide +kernel
theorem d_E_keeperMayLetRescue_30 : decode b_E_keeperMayLetRescue 30 = .ok (.goto 4, 3) := by decide +kernel
theorem d_E_keeperMayLetRescue_33 : decode b_E_keeperMayLetRescue 33 = .ok (.iconst 0, 1) := by decide +kernel
theorem d_E_keeperMayLetRescue_34 : decode b_E_keeperMayLetRescue 34 = .ok (.ireturn, 1) := by decide +kernel
abbrev y_P_setEntry : MethodName := ⟨"EntryRows$Persons", "setEntry", "(IIIIII)V"⟩
abbrev b_P_setEntry : ByteArray := prog_3_method_6_code
abbrev w_P_setEntry : Cond := .code y_P_setEntry b_P_setEntry 7 none
theorem cal_P_setEntry : er_Cal y_P_setEntry w_P_setEntry 7 6 := ⟨er_mt (i := 397) (by decide +kernel) rfl, er_mt (i := 2) (by decide +kernel) rfl, ⟨by decide, by decide⟩, by decide +kernel, b_P_setEntry, none, [], Or.inl rfl⟩
theorem in_P_setEntry : Cond.instanceMethod y_P_setEntry ∈ er_tbl := er_mt (i := 396) (by decide +kernel) rfl
theorem se_P_setEntry : Cond.selects "EntryRows$Persons" y_P_setEntry y_P_setEntry ∈ er_tbl := er_ms (i := 16) (by decide +kernel) rfl
theorem d_P_setEntry_0 : decode b_P_setEntry 0 = .ok (.aload_n 0, 1) := by decide +kernel
theorem d_P_setEntry_1 : decode b_P_setEntry 1 = .ok (.getfield 9, 3) := by decide +kernel
theorem d_P_setEntry_4 : decode b_P_setEntry 4 = .ok (.iload_n 1, 1) := by decide +kernel
theorem d_P_setEntry_5 : decode b_P_setEntry 5 = .ok (.iload_n 2, 1) := by decide +kernel
theorem d_P_setEntry_6 : decode b_P_setEntry 6 = .ok (.iastore, 1) := by decide +kernel
theorem d_P_setEntry_7 : decode b_P_setEntry 7 = .ok (.aload_n 0, 1) := by decide +kernel
theorem d_P_setEntry_8 : decode b_P_setEntry 8 = .ok (.getfield 15, 3) := by decide +kernel
theorem d_P_setEntry_11 : decode b_P_setEntry 11 = .ok (.iload_n 1, 1) := by decide +kernel
theorem d_P_setEntry_12 : decode b_P_setEntry 12 = .ok (.iload_n 3, 1) := by decide +kernel
theorem d_P_setEntry_13 : decode b_P_setEntry 13 = .ok (.iastore, 1) := by decide +kernel
theorem d_P_setEntry_14 : decode b_P_setEntry 14 = .ok (.aload_n 0, 1) := by decide +kernel
theorem d_P_setEntry_15 : decode b_P_setEntry 15 = .ok (.getfield 21, 3) := by decide +kernel
theorem d_P_setEntry_18 : decode b_P_setEntry 18 = .ok (.iload_n 1, 1) := by decide +kernel
theorem d_P_setEntry_19 : decode b_P_setEntry 19 = .ok (.iload 4, 2) := by decide +kernel
theorem d_P_setEntry_21 : decode b_P_setEntry 21 = .ok (.iastore, 1) := by decide +kernel
theorem d_P_setEntry_22 : decode b_P_setEntry 22 = .ok (.aload_n 0, 1) := by decide +kernel
theorem d_P_setEntry_23 : decode b_P_setEntry 23 = .ok (.getfield 18, 3) := by decide +kernel
theorem d_P_setEntry_26 : decode b_P_setEntry 26 = .ok (.iload_n 1, 1) := by decide +kernel
theorem d_P_setEntry_27 : decode b_P_setEntry 27 = .ok (.iload 5, 2) := by decide +kernel
theorem d_P_setEntry_29 : decode b_P_setEntry 29 = .ok (.iastore, 1) := by decide +kernel
theorem d_P_setEntry_30 : decode b_P_setEntry 30 = .ok (.aload_n 0, 1) := by decide +kernel
theorem d_P_setEntry_31 : decode b_P_setEntry 31 = .ok (.getfield 24, 3) := by decide +kernel
theorem d_P_setEntry_34 : decode b_P_setEntry 34 = .ok (.iload_n 1, 1) := by decide +kernel
theorem d_P_setEntry_35 : decode b_P_setEntry 35 = .ok (.iload 6, 2) := by decide +kernel
theorem d_P_setEntry_37 : decode b_P_setEntry 37 = .ok (.iastore, 1) := by decide +kernel
theorem d_P_setEntry_38 : decode b_P_setEntry 38 = .ok (.return_, 1) := by decide +kernel
theorem fl_P_15 : er_F "EntryRows$Persons" 15 1 1 := ⟨_, er_T1, 11, rfl, by decide, er_i1, rfl, Or.inl (er_mt (i := 34) (by decide +kernel) rfl)⟩
theorem fl_P_21 : er_F "EntryRows$Persons" 21 1 3 := ⟨_, er_T1, 11, rfl, by decide, er_i1, rfl, Or.inl (er_mt (i := 38) (by decide +kernel) rfl)⟩
theorem fl_P_18 : er_F "EntryRows$Persons" 18 1 2 := ⟨_, er_T1, 11, rfl, by decide, er_i1, rfl, Or.inl (er_mt (i := 36) (by decide +kernel) rfl)⟩
theorem fl_P_24 : er_F "EntryRows$Persons" 24 1 4 := ⟨_, er_T1, 11, rfl, by decide, er_i1, rfl, Or.inl (er_mt (i := 40) (by decide +kernel) rfl)⟩
abbrev y_E_enter : MethodName := ⟨"EntryRows", "enter", "(IIIIZ)I"⟩
abbrev b_E_enter : ByteArray := prog_1_method_9_code
abbrev w_E_enter : Cond := .code y_E_enter b_E_enter 8 (some .int)
theorem cal_E_enter : er_Cal y_E_enter w_E_enter 8 5 := ⟨er_mt (i := 385) (by decide +kernel) rfl, er_mt (i := 1) (by decide +kernel) rfl, ⟨by decide, by decide⟩, by decide +kernel, b_E_enter, (some .int), [], Or.inl rfl⟩
theorem in_E_enter : Cond.instanceMethod y_E_enter ∈ er_tbl := er_mt (i := 383) (by decide +kernel) rfl
theorem se_E_enter : Cond.selects "EntryRows" y_E_enter y_E_enter ∈ er_tbl := er_mt (i := 384) (by decide +kernel) rfl
theorem d_E_enter_0 : decode b_E_enter 0 = .ok (.aload_n 0, 1) := by decide +kernel
theorem d_E_enter_1 : decode b_E_enter 1 = .ok (.iload_n 1, 1) := by decide +kernel
theorem d_E_enter_2 : decode b_E_enter 2 = .ok (.invokevirtual 65, 3) := by decide +kernel
theorem d_E_enter_5 : decode b_E_enter 5 = .ok (.iload_n 2, 1) := by decide +kernel
theorem d_E_enter_6 : decode b_E_enter 6 = .ok (.invokestatic 102, 3) := by decide +kernel
theorem d_E_enter_9 : decode b_E_enter 9 = .ok (.iload_n 3, 1) := by decide +kernel
theorem d_E_enter_10 : decode b_E_enter 10 = .ok (.iconst 0, 1) := by decide +kernel
theorem d_E_enter_11 : decode b_E_enter 11 = .ok (.bipush 9, 2) := by decide +kernel
theorem d_E_enter_13 : decode b_E_enter 13 = .ok (.invokestatic 46, 3) := by decide +kernel
theorem d_E_enter_16 : decode b_E_enter 16 = .ok (.iload 4, 2) := by decide +kernel
theorem d_E_enter_18 : decode b_E_enter 18 = .ok (.iconst 0, 1) := by decide +kernel
theorem d_E_enter_19 : decode b_E_enter 19 = .ok (.iconst 5, 1) := by decide +kernel
theorem d_E_enter_20 : decode b_E_enter 20 = .ok (.invokestatic 46, 3) := by decide +kernel
theorem d_E_enter_23 : decode b_E_enter 23 = .ok (.aload_n 0, 1) := by decide +kernel
theorem d_E_enter_24 : decode b_E_enter 24 = .ok (.iload_n 1, 1) := by decide +kernel
theorem d_E_enter_25 : decode b_E_enter 25 = .ok (.invokevirtual 72, 3) := by decide +kernel
theorem d_E_enter_28 : decode b_E_enter 28 = .ok (.aload_n 0, 1) := by decide +kernel
theorem d_E_enter_29 : decode b_E_enter 29 = .ok (.getfield 19, 3) := by decide +kernel
theorem d_E_enter_32 : decode b_E_enter 32 = .ok (.getfield 88, 3) := by decide +kernel
theorem d_E_enter_35 : decode b_E_enter 35 = .ok (.iload_n 1, 1) := by decide +kernel
theorem d_E_enter_36 : decode b_E_enter 36 = .ok (.iaload, 1) := by decide +kernel
theorem d_E_enter_37 : decode b_E_enter 37 = .ok (.iconst (-1), 1) := by decide +kernel
theorem d_E_enter_38 : decode b_E_enter 38 = .ok (.if_icmp .eq 7, 3) := by decide +kernel
theorem d_E_enter_41 : decode b_E_enter 41 = .ok (.iconst 1, 1) := by decide +kernel
theorem d_E_enter_42 : decode b_E_enter 42 = .ok (.goto 4, 3) := by decide +kernel
theorem d_E_enter_45 : decode b_E_enter 45 = .ok (.iconst 0, 1) := by decide +kernel
theorem d_E_enter_46 : decode b_E_enter 46 = .ok (.invokestatic 81, 3) := by decide +kernel
theorem d_E_enter_49 : decode b_E_enter 49 = .ok (.aload_n 0, 1) := by decide +kernel
theorem d_E_enter_50 : decode b_E_enter 50 = .ok (.iload_n 2, 1) := by decide +kernel
theorem d_E_enter_51 : decode b_E_enter 51 = .ok (.iload_n 1, 1) := by decide +kernel
theorem d_E_enter_52 : decode b_E_enter 52 = .ok (.invokevirtual 118, 3) := by decide +kernel
theorem d_E_enter_55 : decode b_E_enter 55 = .ok (.invokestatic 81, 3) := by decide +kernel
theorem d_E_enter_58 : decode b_E_enter 58 = .ok (.aload_n 0, 1) := by decide +kernel
theorem d_E_enter_59 : decode b_E_enter 59 = .ok (.iload_n 1, 1) := by decide +kernel
theorem d_E_enter_60 : decode b_E_enter 60 = .ok (.iload_n 2, 1) := by decide +kernel
theorem d_E_enter_61 : decode b_E_enter 61 = .ok (.invokevirtual 122, 3) := by decide +kernel
theorem d_E_enter_64 : decode b_E_enter 64 = .ok (.ifCond .ne 16, 3) := by decide +kernel
theorem d_E_enter_67 : decode b_E_enter 67 = .ok (.iload 5, 2) := by decide +kernel
theorem d_E_enter_69 : decode b_E_enter 69 = .ok (.ifCond .eq 15, 3) := by decide +kernel
theorem d_E_enter_72 : decode b_E_enter 72 = .ok (.aload_n 0, 1) := by decide +kernel
theorem d_E_enter_73 : decode b_E_enter 73 = .ok (.iload_n 1, 1) := by decide +kernel
theorem d_E_enter_74 : decode b_E_enter 74 = .ok (.invokevirtual 125, 3) := by decide +kernel
theorem d_E_enter_77 : decode b_E_enter 77 = .ok (.ifCond .eq 7, 3) := by decide +kernel
theorem d_E_enter_80 : decode b_E_enter 80 = .ok (.iconst 1, 1) := by decide +kernel
theorem d_E_enter_81 : decode b_E_enter 81 = .ok (.goto 4, 3) := by decide +kernel
theorem d_E_enter_84 : decode b_E_enter 84 = .ok (.iconst 0, 1) := by decide +kernel
theorem d_E_enter_85 : decode b_E_enter 85 = .ok (.invokestatic 81, 3) := by decide +kernel
theorem d_E_enter_88 : decode b_E_enter 88 = .ok (.aload_n 0, 1) := by decide +kernel
theorem d_E_enter_89 : decode b_E_enter 89 = .ok (.getfield 34, 3) := by decide +kernel
theorem d_E_enter_92 : decode b_E_enter 92 = .ok (.istore 6, 2) := by decide +kernel
theorem d_E_enter_94 : decode b_E_enter 94 = .ok (.iconst 0, 1) := by decide +kernel
theorem d_E_enter_95 : decode b_E_enter 95 = .ok (.istore 7, 2) := by decide +kernel
theorem d_E_enter_97 : decode b_E_enter 97 = .ok (.iload 7, 2) := by decide +kernel
theorem d_E_enter_99 : decode b_E_enter 99 = .ok (.bipush 40, 2) := by decide +kernel
theorem d_E_enter_101 : decode b_E_enter 101 = .ok (.if_icmp .ge 54, 3) := by decide +kernel
theorem d_E_enter_104 : decode b_E_enter 104 = .ok (.aload_n 0, 1) := by decide +kernel
theorem d_E_enter_105 : decode b_E_enter 105 = .ok (.getfield 10, 3) := by decide +kernel
theorem d_E_enter_108 : decode b_E_enter 108 = .ok (.getfield 105, 3) := by decide +kernel
theorem d_E_enter_111 : decode b_E_enter 111 = .ok (.iload 7, 2) := by decide +kernel
theorem d_E_enter_113 : decode b_E_enter 113 = .ok (.iaload, 1) := by decide +kernel
theorem d_E_enter_114 : decode b_E_enter 114 = .ok (.iload_n 2, 1) := by decide +kernel
theorem d_E_enter_115 : decode b_E_enter 115 = .ok (.if_icmp .ne 34, 3) := by decide +kernel
theorem d_E_enter_118 : decode b_E_enter 118 = .ok (.aload_n 0, 1) := by decide +kernel
theorem d_E_enter_119 : decode b_E_enter 119 = .ok (.getfield 10, 3) := by decide +kernel
theorem d_E_enter_122 : decode b_E_enter 122 = .ok (.iload 7, 2) := by decide +kernel
theorem d_E_enter_124 : decode b_E_enter 124 = .ok (.iload_n 1, 1) := by decide +kernel
theorem d_E_enter_125 : decode b_E_enter 125 = .ok (.aload_n 0, 1) := by decide +kernel
theorem d_E_enter_126 : decode b_E_enter 126 = .ok (.getfield 34, 3) := by decide +kernel
theorem d_E_enter_129 : decode b_E_enter 129 = .ok (.iload_n 3, 1) := by decide +kernel
theorem d_E_enter_130 : decode b_E_enter 130 = .ok (.iload 4, 2) := by decide +kernel
theorem d_E_enter_132 : decode b_E_enter 132 = .ok (.aload_n 0, 1) := by decide +kernel
theorem d_E_enter_133 : decode b_E_enter 133 = .ok (.getfield 30, 3) := by decide +kernel
theorem d_E_enter_136 : decode b_E_enter 136 = .ok (.invokevirtual 128, 3) := by decide +kernel
theorem d_E_enter_139 : decode b_E_enter 139 = .ok (.aload_n 0, 1) := by decide +kernel
theorem d_E_enter_140 : decode b_E_enter 140 = .ok (.dup, 1) := by decide +kernel
theorem d_E_enter_141 : decode b_E_enter 141 = .ok (.getfield 34, 3) := by decide +kernel
theorem d_E_enter_144 : decode b_E_enter 144 = .ok (.iconst 1, 1) := by decide +kernel
theorem d_E_enter_145 : decode b_E_enter 145 = .ok (.iadd, 1) := by decide +kernel
theorem d_E_enter_146 : decode b_E_enter 146 = .ok (.putfield 34, 3) := by decide +kernel
theorem d_E_enter_149 : decode b_E_enter 149 = .ok (.iinc 7 1, 3) := by decide +kernel
theorem d_E_enter_152 : decode b_E_enter 152 = .ok (.goto (-55), 3) := by decide +kernel
theorem d_E_enter_155 : decode b_E_enter 155 = .ok (.iload 6, 2) := by decide +kernel
theorem d_E_enter_157 : decode b_E_enter 157 = .ok (.ireturn, 1) := by decide +kernel
theorem lk_E_122 : Cond.methodLink "EntryRows" 122 y_E_isCovered ∈ er_tbl ∨ ∃ host, Cond.methodLinkNest "EntryRows" 122 y_E_isCovered host ∈ er_tbl := Or.inl (er_mt (i := 386) (by decide +kernel) rfl)
theorem lk_E_125 : Cond.methodLink "EntryRows" 125 y_E_keeperMayLetRescue ∈ er_tbl ∨ ∃ host, Cond.methodLinkNest "EntryRows" 125 y_E_keeperMayLetRescue host ∈ er_tbl := Or.inl (er_mt (i := 390) (by decide +kernel) rfl)
theorem fl_E_34 : er_F "EntryRows" 34 0 5 := ⟨_, er_T0, 7, rfl, by decide, er_i0, rfl, Or.inl (er_mt (i := 116) (by decide +kernel) rfl)⟩
theorem lk_E_128 : Cond.methodLink "EntryRows" 128 y_P_setEntry ∈ er_tbl ∨ ∃ host, Cond.methodLinkNest "EntryRows" 128 y_P_setEntry host ∈ er_tbl := Or.inr ⟨"EntryRows", er_mt (i := 394) (by decide +kernel) rfl⟩
theorem fp_E_34 : er_Fp "EntryRows" 34 0 5 := ⟨_, er_T0, 7, er_ty0, rfl, by decide, er_i0, rfl, er_mt (i := 116) (by decide +kernel) rfl, rfl, by decide +kernel, er_tyok0, er_nm0⟩
abbrev y_P_comeOut : MethodName := ⟨"EntryRows$Persons", "comeOut", "(IIII)I"⟩
abbrev b_P_comeOut : ByteArray := prog_3_method_7_code
abbrev w_P_comeOut : Cond := .code y_P_comeOut b_P_comeOut 6 (some .int)
theorem cal_P_comeOut : er_Cal y_P_comeOut w_P_comeOut 6 4 := ⟨er_mt (i := 408) (by decide +kernel) rfl, er_mt (i := 2) (by decide +kernel) rfl, ⟨by decide, by decide⟩, by decide +kernel, b_P_comeOut, (some .int), [], Or.inl rfl⟩
theorem in_P_comeOut : Cond.instanceMethod y_P_comeOut ∈ er_tbl := er_mt (i := 407) (by decide +kernel) rfl
theorem se_P_comeOut : Cond.selects "EntryRows$Persons" y_P_comeOut y_P_comeOut ∈ er_tbl := er_ms (i := 17) (by decide +kernel) rfl
theorem d_P_comeOut_0 : decode b_P_comeOut 0 = .ok (.iload_n 2, 1) := by decide +kernel
theorem d_P_comeOut_1 : decode b_P_comeOut 1 = .ok (.aload_n 0, 1) := by decide +kernel
theorem d_P_comeOut_2 : decode b_P_comeOut 2 = .ok (.getfield 24, 3) := by decide +kernel
theorem d_P_comeOut_5 : decode b_P_comeOut 5 = .ok (.iload_n 1, 1) := by decide +kernel
theorem d_P_comeOut_6 : decode b_P_comeOut 6 = .ok (.iaload, 1) := by decide +kernel
theorem d_P_comeOut_7 : decode b_P_comeOut 7 = .ok (.isub, 1) := by decide +kernel
theorem d_P_comeOut_8 : decode b_P_comeOut 8 = .ok (.istore 5, 2) := by decide +kernel
theorem d_P_comeOut_10 : decode b_P_comeOut 10 = .ok (.aload_n 0, 1) := by decide +kernel
theorem d_P_comeOut_11 : decode b_P_comeOut 11 = .ok (.getfield 30, 3) := by decide +kernel
theorem d_P_comeOut_14 : decode b_P_comeOut 14 = .ok (.iload_n 1, 1) := by decide +kernel
theorem d_P_comeOut_15 : decode b_P_comeOut 15 = .ok (.dup2, 1) := by decide +kernel
theorem d_P_comeOut_16 : decode b_P_comeOut 16 = .ok (.iaload, 1) := by decide +kernel
theorem d_P_comeOut_17 : decode b_P_comeOut 17 = .ok (.iload 5, 2) := by decide +kernel
theorem d_P_comeOut_19 : decode b_P_comeOut 19 = .ok (.iadd, 1) := by decide +kernel
theorem d_P_comeOut_20 : decode b_P_comeOut 20 = .ok (.iastore, 1) := by decide +kernel
theorem d_P_comeOut_21 : decode b_P_comeOut 21 = .ok (.aload_n 0, 1) := by decide +kernel
theorem d_P_comeOut_22 : decode b_P_comeOut 22 = .ok (.getfield 33, 3) := by decide +kernel
theorem d_P_comeOut_25 : decode b_P_comeOut 25 = .ok (.iload_n 1, 1) := by decide +kernel
theorem d_P_comeOut_26 : decode b_P_comeOut 26 = .ok (.dup2, 1) := by decide +kernel
theorem d_P_comeOut_27 : decode b_P_comeOut 27 = .ok (.iaload, 1) := by decide +kernel
theorem d_P_comeOut_28 : decode b_P_comeOut 28 = .ok (.iload 5, 2) := by decide +kernel
theorem d_P_comeOut_30 : decode b_P_comeOut 30 = .ok (.iload_n 3, 1) := by decide +kernel
theorem d_P_comeOut_31 : decode b_P_comeOut 31 = .ok (.imul, 1) := by decide +kernel
theorem d_P_comeOut_32 : decode b_P_comeOut 32 = .ok (.iadd, 1) := by decide +kernel
theorem d_P_comeOut_33 : decode b_P_comeOut 33 = .ok (.iastore, 1) := by decide +kernel
theorem d_P_comeOut_34 : decode b_P_comeOut 34 = .ok (.aload_n 0, 1) := by decide +kernel
theorem d_P_comeOut_35 : decode b_P_comeOut 35 = .ok (.getfield 27, 3) := by decide +kernel
theorem d_P_comeOut_38 : decode b_P_comeOut 38 = .ok (.iload_n 1, 1) := by decide +kernel
theorem d_P_comeOut_39 : decode b_P_comeOut 39 = .ok (.iload_n 2, 1) := by decide +kernel
theorem d_P_comeOut_40 : decode b_P_comeOut 40 = .ok (.iload 4, 2) := by decide +kernel
theorem d_P_comeOut_42 : decode b_P_comeOut 42 = .ok (.iadd, 1) := by decide +kernel
theorem d_P_comeOut_43 : decode b_P_comeOut 43 = .ok (.iastore, 1) := by decide +kernel
theorem d_P_comeOut_44 : decode b_P_comeOut 44 = .ok (.aload_n 0, 1) := by decide +kernel
theorem d_P_comeOut_45 : decode b_P_comeOut 45 = .ok (.iload_n 1, 1) := by decide +kernel
theorem d_P_comeOut_46 : decode b_P_comeOut 46 = .ok (.iconst (-1), 1) := by decide +kernel
theorem d_P_comeOut_47 : decode b_P_comeOut 47 = .ok (.iconst (-1), 1) := by decide +kernel
theorem d_P_comeOut_48 : decode b_P_comeOut 48 = .ok (.iconst (-1), 1) := by decide +kernel
theorem d_P_comeOut_49 : decode b_P_comeOut 49 = .ok (.iconst (-1), 1) := by decide +kernel
theorem d_P_comeOut_50 : decode b_P_comeOut 50 = .ok (.iconst (-1), 1) := by decide +kernel
theorem d_P_comeOut_51 : decode b_P_comeOut 51 = .ok (.invokevirtual 64, 3) := by decide +kernel
theorem d_P_comeOut_54 : decode b_P_comeOut 54 = .ok (.iload 5, 2) := by decide +kernel
theorem d_P_comeOut_56 : decode b_P_comeOut 56 = .ok (.ireturn, 1) := by decide +kernel
theorem fl_P_30 : er_F "EntryRows$Persons" 30 1 6 := ⟨_, er_T1, 11, rfl, by decide, er_i1, rfl, Or.inl (er_mt (i := 44) (by decide +kernel) rfl)⟩
theorem fl_P_33 : er_F "EntryRows$Persons" 33 1 7 := ⟨_, er_T1, 11, rfl, by decide, er_i1, rfl, Or.inl (er_mt (i := 46) (by decide +kernel) rfl)⟩
theorem lk_P_64 : Cond.methodLink "EntryRows$Persons" 64 y_P_setEntry ∈ er_tbl ∨ ∃ host, Cond.methodLinkNest "EntryRows$Persons" 64 y_P_setEntry host ∈ er_tbl := Or.inl (er_mt (i := 409) (by decide +kernel) rfl)
abbrev y_E_out : MethodName := ⟨"EntryRows", "out", "(II)I"⟩
abbrev b_E_out : ByteArray := prog_1_method_10_code
abbrev w_E_out : Cond := .code y_E_out b_E_out 5 (some .int)
theorem cal_E_out : er_Cal y_E_out w_E_out 5 2 := ⟨er_mt (i := 404) (by decide +kernel) rfl, er_mt (i := 1) (by decide +kernel) rfl, ⟨by decide, by decide⟩, by decide +kernel, b_E_out, (some .int), [], Or.inl rfl⟩
theorem in_E_out : Cond.instanceMethod y_E_out ∈ er_tbl := er_mt (i := 402) (by decide +kernel) rfl
theorem se_E_out : Cond.selects "EntryRows" y_E_out y_E_out ∈ er_tbl := er_mt (i := 403) (by decide +kernel) rfl
theorem d_E_out_0 : decode b_E_out 0 = .ok (.aload_n 0, 1) := by decide +kernel
theorem d_E_out_1 : decode b_E_out 1 = .ok (.iload_n 1, 1) := by decide +kernel
theorem d_E_out_2 : decode b_E_out 2 = .ok (.invokevirtual 65, 3) := by decide +kernel
theorem d_E_out_5 : decode b_E_out 5 = .ok (.iload_n 2, 1) := by decide +kernel
theorem d_E_out_6 : decode b_E_out 6 = .ok (.invokestatic 69, 3) := by decide +kernel
theorem d_E_out_9 : decode b_E_out 9 = .ok (.aload_n 0, 1) := by decide +kernel
theorem d_E_out_10 : decode b_E_out 10 = .ok (.getfield 10, 3) := by decide +kernel
theorem d_E_out_13 : decode b_E_out 13 = .ok (.getfield 132, 3) := by decide +kernel
theorem d_E_out_16 : decode b_E_out 16 = .ok (.iload_n 2, 1) := by decide +kernel
theorem d_E_out_17 : decode b_E_out 17 = .ok (.iaload, 1) := by decide +kernel
theorem d_E_out_18 : decode b_E_out 18 = .ok (.iload_n 1, 1) := by decide +kernel
theorem d_E_out_19 : decode b_E_out 19 = .ok (.if_icmp .ne 7, 3) := by decide +kernel
theorem d_E_out_22 : decode b_E_out 22 = .ok (.iconst 1, 1) := by decide +kernel
theorem d_E_out_23 : decode b_E_out 23 = .ok (.goto 4, 3) := by decide +kernel
theorem d_E_out_26 : decode b_E_out 26 = .ok (.iconst 0, 1) := by decide +kernel
theorem d_E_out_27 : decode b_E_out 27 = .ok (.invokestatic 81, 3) := by decide +kernel
theorem d_E_out_30 : decode b_E_out 30 = .ok (.aload_n 0, 1) := by decide +kernel
theorem d_E_out_31 : decode b_E_out 31 = .ok (.getfield 10, 3) := by decide +kernel
theorem d_E_out_34 : decode b_E_out 34 = .ok (.getfield 135, 3) := by decide +kernel
theorem d_E_out_37 : decode b_E_out 37 = .ok (.iload_n 2, 1) := by decide +kernel
theorem d_E_out_38 : decode b_E_out 38 = .ok (.iaload, 1) := by decide +kernel
theorem d_E_out_39 : decode b_E_out 39 = .ok (.istore_n 3, 1) := by decide +kernel
theorem d_E_out_40 : decode b_E_out 40 = .ok (.iload_n 3, 1) := by decide +kernel
theorem d_E_out_41 : decode b_E_out 41 = .ok (.invokestatic 95, 3) := by decide +kernel
theorem d_E_out_44 : decode b_E_out 44 = .ok (.ifCond .eq 12, 3) := by decide +kernel
theorem d_E_out_47 : decode b_E_out 47 = .ok (.aload_n 0, 1) := by decide +kernel
theorem d_E_out_48 : decode b_E_out 48 = .ok (.getfield 27, 3) := by decide +kernel
theorem d_E_out_51 : decode b_E_out 51 = .ok (.iload_n 3, 1) := by decide +kernel
theorem d_E_out_52 : decode b_E_out 52 = .ok (.iaload, 1) := by decide +kernel
theorem d_E_out_53 : decode b_E_out 53 = .ok (.goto 4, 3) := by decide +kernel
theorem d_E_out_56 : decode b_E_out 56 = .ok (.iconst 0, 1) := by decide +kernel
theorem d_E_out_57 : decode b_E_out 57 = .ok (.istore 4, 2) := by decide +kernel
theorem d_E_out_59 : decode b_E_out 59 = .ok (.aload_n 0, 1) := by decide +kernel
theorem d_E_out_60 : decode b_E_out 60 = .ok (.getfield 10, 3) := by decide +kernel
theorem d_E_out_63 : decode b_E_out 63 = .ok (.iload_n 2, 1) := by decide +kernel
theorem d_E_out_64 : decode b_E_out 64 = .ok (.aload_n 0, 1) := by decide +kernel
theorem d_E_out_65 : decode b_E_out 65 = .ok (.getfield 30, 3) := by decide +kernel
theorem d_E_out_68 : decode b_E_out 68 = .ok (.iload 4, 2) := by decide +kernel
theorem d_E_out_70 : decode b_E_out 70 = .ok (.aload_n 0, 1) := by decide +kernel
theorem d_E_out_71 : decode b_E_out 71 = .ok (.getfield 37, 3) := by decide +kernel
theorem d_E_out_74 : decode b_E_out 74 = .ok (.invokevirtual 138, 3) := by decide +kernel
theorem d_E_out_77 : decode b_E_out 77 = .ok (.ireturn, 1) := by decide +kernel
theorem fl_E_132 : er_F "EntryRows" 132 1 0 := ⟨_, er_T1, 11, rfl, by decide, er_i1, rfl, Or.inr ⟨"EntryRows", er_mt (i := 33) (by decide +kernel) rfl⟩⟩
theorem fl_E_135 : er_F "EntryRows" 135 1 2 := ⟨_, er_T1, 11, rfl, by decide, er_i1, rfl, Or.inr ⟨"EntryRows", er_mt (i := 37) (by decide +kernel) rfl⟩⟩
theorem fl_E_37 : er_F "EntryRows" 37 0 6 := ⟨_, er_T0, 7, rfl, by decide, er_i0, rfl, Or.inl (er_mt (i := 117) (by decide +kernel) rfl)⟩
theorem lk_E_138 : Cond.methodLink "EntryRows" 138 y_P_comeOut ∈ er_tbl ∨ ∃ host, Cond.methodLinkNest "EntryRows" 138 y_P_comeOut host ∈ er_tbl := Or.inr ⟨"EntryRows", er_mt (i := 405) (by decide +kernel) rfl⟩
abbrev y_E_swap : MethodName := ⟨"EntryRows", "swap", "(II)V"⟩
abbrev b_E_swap : ByteArray := prog_1_method_11_code
abbrev w_E_swap : Cond := .code y_E_swap b_E_swap 4 none
theorem cal_E_swap : er_Cal y_E_swap w_E_swap 4 2 := ⟨er_mt (i := 416) (by decide +kernel) rfl, er_mt (i := 1) (by decide +kernel) rfl, ⟨by decide, by decide⟩, by decide +kernel, b_E_swap, none, [], Or.inl rfl⟩
theorem in_E_swap : Cond.instanceMethod y_E_swap ∈ er_tbl := er_mt (i := 414) (by decide +kernel) rfl
theorem se_E_swap : Cond.selects "EntryRows" y_E_swap y_E_swap ∈ er_tbl := er_mt (i := 415) (by decide +kernel) rfl
theorem d_E_swap_0 : decode b_E_swap 0 = .ok (.iload_n 1, 1) := by decide +kernel
theorem d_E_swap_1 : decode b_E_swap 1 = .ok (.invokestatic 69, 3) := by decide +kernel
theorem d_E_swap_4 : decode b_E_swap 4 = .ok (.iload_n 2, 1) := by decide +kernel
theorem d_E_swap_5 : decode b_E_swap 5 = .ok (.invokestatic 69, 3) := by decide +kernel
theorem d_E_swap_8 : decode b_E_swap 8 = .ok (.aload_n 0, 1) := by decide +kernel
theorem d_E_swap_9 : decode b_E_swap 9 = .ok (.getfield 10, 3) := by decide +kernel
theorem d_E_swap_12 : decode b_E_swap 12 = .ok (.iload_n 1, 1) := by decide +kernel
theorem d_E_swap_13 : decode b_E_swap 13 = .ok (.invokevirtual 142, 3) := by decide +kernel
theorem d_E_swap_16 : decode b_E_swap 16 = .ok (.ifCond .eq 18, 3) := by decide +kernel
theorem d_E_swap_19 : decode b_E_swap 19 = .ok (.aload_n 0, 1) := by decide +kernel
theorem d_E_swap_20 : decode b_E_swap 20 = .ok (.getfield 10, 3) := by decide +kernel
theorem d_E_swap_23 : decode b_E_swap 23 = .ok (.iload_n 2, 1) := by decide +kernel
theorem d_E_swap_24 : decode b_E_swap 24 = .ok (.invokevirtual 142, 3) := by decide +kernel
theorem d_E_swap_27 : decode b_E_swap 27 = .ok (.ifCond .eq 7, 3) := by decide +kernel
theorem d_E_swap_30 : decode b_E_swap 30 = .ok (.iconst 1, 1) := by decide +kernel
theorem d_E_swap_31 : decode b_E_swap 31 = .ok (.goto 4, 3) := by decide +kernel
theorem d_E_swap_34 : decode b_E_swap 34 = .ok (.iconst 0, 1) := by decide +kernel
theorem d_E_swap_35 : decode b_E_swap 35 = .ok (.invokestatic 81, 3) := by decide +kernel
theorem d_E_swap_38 : decode b_E_swap 38 = .ok (.iload_n 1, 1) := by decide +kernel
theorem d_E_swap_39 : decode b_E_swap 39 = .ok (.iload_n 2, 1) := by decide +kernel
theorem d_E_swap_40 : decode b_E_swap 40 = .ok (.if_icmp .eq 7, 3) := by decide +kernel
theorem d_E_swap_43 : decode b_E_swap 43 = .ok (.iconst 1, 1) := by decide +kernel
theorem d_E_swap_44 : decode b_E_swap 44 = .ok (.goto 4, 3) := by decide +kernel
theorem d_E_swap_47 : decode b_E_swap 47 = .ok (.iconst 0, 1) := by decide +kernel
theorem d_E_swap_48 : decode b_E_swap 48 = .ok (.invokestatic 81, 3) := by decide +kernel
theorem d_E_swap_51 : decode b_E_swap 51 = .ok (.aload_n 0, 1) := by decide +kernel
theorem d_E_swap_52 : decode b_E_swap 52 = .ok (.getfield 10, 3) := by decide +kernel
theorem d_E_swap_55 : decode b_E_swap 55 = .ok (.getfield 145, 3) := by decide +kernel
theorem d_E_swap_58 : decode b_E_swap 58 = .ok (.iload_n 1, 1) := by decide +kernel
theorem d_E_swap_59 : decode b_E_swap 59 = .ok (.iaload, 1) := by decide +kernel
theorem d_E_swap_60 : decode b_E_swap 60 = .ok (.istore_n 3, 1) := by decide +kernel
theorem d_E_swap_61 : decode b_E_swap 61 = .ok (.aload_n 0, 1) := by decide +kernel
theorem d_E_swap_62 : decode b_E_swap 62 = .ok (.getfield 10, 3) := by decide +kernel
theorem d_E_swap_65 : decode b_E_swap 65 = .ok (.getfield 145, 3) := by decide +kernel
theorem d_E_swap_68 : decode b_E_swap 68 = .ok (.iload_n 1, 1) := by decide +kernel
theorem d_E_swap_69 : decode b_E_swap 69 = .ok (.aload_n 0, 1) := by decide +kernel
theorem d_E_swap_70 : decode b_E_swap 70 = .ok (.getfield 10, 3) := by decide +kernel
theorem d_E_swap_73 : decode b_E_swap 73 = .ok (.getfield 145, 3) := by decide +kernel
theorem d_E_swap_76 : decode b_E_swap 76 = .ok (.iload_n 2, 1) := by decide +kernel
theorem d_E_swap_77 : decode b_E_swap 77 = .ok (.iaload, 1) := by decide +kernel
theorem d_E_swap_78 : decode b_E_swap 78 = .ok (.iastore, 1) := by decide +kernel
theorem d_E_swap_79 : decode b_E_swap 79 = .ok (.aload_n 0, 1) := by decide +kernel
theorem d_E_swap_80 : decode b_E_swap 80 = .ok (.getfield 10, 3) := by decide +kernel
theorem d_E_swap_83 : decode b_E_swap 83 = .ok (.getfield 145, 3) := by decide +kernel
theorem d_E_swap_86 : decode b_E_swap 86 = .ok (.iload_n 2, 1) := by decide +kernel
theorem d_E_swap_87 : decode b_E_swap 87 = .ok (.iload_n 3, 1) := by decide +kernel
theorem d_E_swap_88 : decode b_E_swap 88 = .ok (.iastore, 1) := by decide +kernel
theorem d_E_swap_89 : decode b_E_swap 89 = .ok (.return_, 1) := by decide +kernel
theorem fl_E_145 : er_F "EntryRows" 145 1 1 := ⟨_, er_T1, 11, rfl, by decide, er_i1, rfl, Or.inr ⟨"EntryRows", er_mt (i := 35) (by decide +kernel) rfl⟩⟩
abbrev y_P_moveAll : MethodName := ⟨"EntryRows$Persons", "moveAll", "(II)V"⟩
abbrev b_P_moveAll : ByteArray := prog_3_method_10_code
abbrev w_P_moveAll : Cond := .code y_P_moveAll b_P_moveAll 4 none
theorem cal_P_moveAll : er_Cal y_P_moveAll w_P_moveAll 4 2 := ⟨er_mt (i := 427) (by decide +kernel) rfl, er_mt (i := 2) (by decide +kernel) rfl, ⟨by decide, by decide⟩, by decide +kernel, b_P_moveAll, none, [], Or.inl rfl⟩
theorem in_P_moveAll : Cond.instanceMethod y_P_moveAll ∈ er_tbl := er_mt (i := 426) (by decide +kernel) rfl
theorem se_P_moveAll : Cond.selects "EntryRows$Persons" y_P_moveAll y_P_moveAll ∈ er_tbl := er_ms (i := 18) (by decide +kernel) rfl
theorem d_P_moveAll_0 : decode b_P_moveAll 0 = .ok (.iconst 0, 1) := by decide +kernel
theorem d_P_moveAll_1 : decode b_P_moveAll 1 = .ok (.istore_n 3, 1) := by decide +kernel
theorem d_P_moveAll_2 : decode b_P_moveAll 2 = .ok (.iload_n 3, 1) := by decide +kernel
theorem d_P_moveAll_3 : decode b_P_moveAll 3 = .ok (.bipush 40, 2) := by decide +kernel
theorem d_P_moveAll_5 : decode b_P_moveAll 5 = .ok (.if_icmp .ge 26, 3) := by decide +kernel
theorem d_P_moveAll_8 : decode b_P_moveAll 8 = .ok (.aload_n 0, 1) := by decide +kernel
theorem d_P_moveAll_9 : decode b_P_moveAll 9 = .ok (.getfield 9, 3) := by decide +kernel
theorem d_P_moveAll_12 : decode b_P_moveAll 12 = .ok (.iload_n 3, 1) := by decide +kernel
theorem d_P_moveAll_13 : decode b_P_moveAll 13 = .ok (.iaload, 1) := by decide +kernel
theorem d_P_moveAll_14 : decode b_P_moveAll 14 = .ok (.iload_n 1, 1) := by decide +kernel
theorem d_P_moveAll_15 : decode b_P_moveAll 15 = .ok (.if_icmp .ne 10, 3) := by decide +kernel
theorem d_P_moveAll_18 : decode b_P_moveAll 18 = .ok (.aload_n 0, 1) := by decide +kernel
theorem d_P_moveAll_19 : decode b_P_moveAll 19 = .ok (.getfield 9, 3) := by decide +kernel
theorem d_P_moveAll_22 : decode b_P_moveAll 22 = .ok (.iload_n 3, 1) := by decide +kernel
theorem d_P_moveAll_23 : decode b_P_moveAll 23 = .ok (.iload_n 2, 1) := by decide +kernel
theorem d_P_moveAll_24 : decode b_P_moveAll 24 = .ok (.iastore, 1) := by decide +kernel
theorem d_P_moveAll_25 : decode b_P_moveAll 25 = .ok (.iinc 3 1, 3) := by decide +kernel
theorem d_P_moveAll_28 : decode b_P_moveAll 28 = .ok (.goto (-26), 3) := by decide +kernel
theorem d_P_moveAll_31 : decode b_P_moveAll 31 = .ok (.return_, 1) := by decide +kernel
abbrev y_E_shut : MethodName := ⟨"EntryRows", "shut", "(II)V"⟩
abbrev b_E_shut : ByteArray := prog_1_method_36_code
abbrev w_E_shut : Cond := .code y_E_shut b_E_shut 4 none
theorem cal_E_shut : er_Cal y_E_shut w_E_shut 4 2 := ⟨er_mt (i := 431) (by decide +kernel) rfl, er_mt (i := 1) (by decide +kernel) rfl, ⟨by decide, by decide⟩, by decide +kernel, b_E_shut, none, [], Or.inl rfl⟩
theorem in_E_shut : Cond.instanceMethod y_E_shut ∈ er_tbl := er_mt (i := 430) (by decide +kernel) rfl
theorem se_E_shut : Cond.selects "EntryRows" y_E_shut y_E_shut ∈ er_tbl := er_ms (i := 19) (by decide +kernel) rfl
theorem d_E_shut_0 : decode b_E_shut 0 = .ok (.aload_n 0, 1) := by decide +kernel
theorem d_E_shut_1 : decode b_E_shut 1 = .ok (.iload_n 1, 1) := by decide +kernel
theorem d_E_shut_2 : decode b_E_shut 2 = .ok (.invokevirtual 85, 3) := by decide +kernel
theorem d_E_shut_5 : decode b_E_shut 5 = .ok (.aload_n 0, 1) := by decide +kernel
theorem d_E_shut_6 : decode b_E_shut 6 = .ok (.getfield 19, 3) := by decide +kernel
theorem d_E_shut_9 : decode b_E_shut 9 = .ok (.getfield 196, 3) := by decide +kernel
theorem d_E_shut_12 : decode b_E_shut 12 = .ok (.iload_n 1, 1) := by decide +kernel
theorem d_E_shut_13 : decode b_E_shut 13 = .ok (.iconst 0, 1) := by decide +kernel
theorem d_E_shut_14 : decode b_E_shut 14 = .ok (.bastore, 1) := by decide +kernel
theorem d_E_shut_15 : decode b_E_shut 15 = .ok (.iconst 0, 1) := by decide +kernel
theorem d_E_shut_16 : decode b_E_shut 16 = .ok (.istore_n 3, 1) := by decide +kernel
theorem d_E_shut_17 : decode b_E_shut 17 = .ok (.iload_n 3, 1) := by decide +kernel
theorem d_E_shut_18 : decode b_E_shut 18 = .ok (.bipush 16, 2) := by decide +kernel
theorem d_E_shut_20 : decode b_E_shut 20 = .ok (.if_icmp .ge 26, 3) := by decide +kernel
theorem d_E_shut_23 : decode b_E_shut 23 = .ok (.aload_n 0, 1) := by decide +kernel
theorem d_E_shut_24 : decode b_E_shut 24 = .ok (.getfield 23, 3) := by decide +kernel
theorem d_E_shut_27 : decode b_E_shut 27 = .ok (.iload_n 3, 1) := by decide +kernel
theorem d_E_shut_28 : decode b_E_shut 28 = .ok (.iaload, 1) := by decide +kernel
theorem d_E_shut_29 : decode b_E_shut 29 = .ok (.iload_n 1, 1) := by decide +kernel
theorem d_E_shut_30 : decode b_E_shut 30 = .ok (.if_icmp .ne 10, 3) := by decide +kernel
theorem d_E_shut_33 : decode b_E_shut 33 = .ok (.aload_n 0, 1) := by decide +kernel
theorem d_E_shut_34 : decode b_E_shut 34 = .ok (.getfield 23, 3) := by decide +kernel
theorem d_E_shut_37 : decode b_E_shut 37 = .ok (.iload_n 3, 1) := by decide +kernel
theorem d_E_shut_38 : decode b_E_shut 38 = .ok (.iload_n 2, 1) := by decide +kernel
theorem d_E_shut_39 : decode b_E_shut 39 = .ok (.iastore, 1) := by decide +kernel
theorem d_E_shut_40 : decode b_E_shut 40 = .ok (.iinc 3 1, 3) := by decide +kernel
theorem d_E_shut_43 : decode b_E_shut 43 = .ok (.goto (-26), 3) := by decide +kernel
theorem d_E_shut_46 : decode b_E_shut 46 = .ok (.return_, 1) := by decide +kernel
abbrev y_P_countOn : MethodName := ⟨"EntryRows$Persons", "countOn", "(I)I"⟩
abbrev b_P_countOn : ByteArray := prog_3_method_8_code
abbrev w_P_countOn : Cond := .code y_P_countOn b_P_countOn 4 (some .int)
theorem cal_P_countOn : er_Cal y_P_countOn w_P_countOn 4 1 := ⟨er_mt (i := 435) (by decide +kernel) rfl, er_mt (i := 2) (by decide +kernel) rfl, ⟨by decide, by decide⟩, by decide +kernel, b_P_countOn, (some .int), [], Or.inl rfl⟩
theorem in_P_countOn : Cond.instanceMethod y_P_countOn ∈ er_tbl := er_mt (i := 434) (by decide +kernel) rfl
theorem se_P_countOn : Cond.selects "EntryRows$Persons" y_P_countOn y_P_countOn ∈ er_tbl := er_ms (i := 20) (by decide +kernel) rfl
theorem d_P_countOn_0 : decode b_P_countOn 0 = .ok (.iconst 0, 1) := by decide +kernel
theorem d_P_countOn_1 : decode b_P_countOn 1 = .ok (.istore_n 2, 1) := by decide +kernel
theorem d_P_countOn_2 : decode b_P_countOn 2 = .ok (.iconst 0, 1) := by decide +kernel
theorem d_P_countOn_3 : decode b_P_countOn 3 = .ok (.istore_n 3, 1) := by decide +kernel
theorem d_P_countOn_4 : decode b_P_countOn 4 = .ok (.iload_n 3, 1) := by decide +kernel
theorem d_P_countOn_5 : decode b_P_countOn 5 = .ok (.bipush 40, 2) := by decide +kernel
theorem d_P_countOn_7 : decode b_P_countOn 7 = .ok (.if_icmp .ge 22, 3) := by decide +kernel
theorem d_P_countOn_10 : decode b_P_countOn 10 = .ok (.aload_n 0, 1) := by decide +kernel
theorem d_P_countOn_11 : decode b_P_countOn 11 = .ok (.getfield 9, 3) := by decide +kernel
theorem d_P_countOn_14 : decode b_P_countOn 14 = .ok (.iload_n 3, 1) := by decide +kernel
theorem d_P_countOn_15 : decode b_P_countOn 15 = .ok (.iaload, 1) := by decide +kernel
theorem d_P_countOn_16 : decode b_P_countOn 16 = .ok (.iload_n 1, 1) := by decide +kernel
theorem d_P_countOn_17 : decode b_P_countOn 17 = .ok (.if_icmp .ne 6, 3) := by decide +kernel
theorem d_P_countOn_20 : decode b_P_countOn 20 = .ok (.iinc 2 1, 3) := by decide +kernel
theorem d_P_countOn_23 : decode b_P_countOn 23 = .ok (.iinc 3 1, 3) := by decide +kernel
theorem d_P_countOn_26 : decode b_P_countOn 26 = .ok (.goto (-22), 3) := by decide +kernel
theorem d_P_countOn_29 : decode b_P_countOn 29 = .ok (.iload_n 2, 1) := by decide +kernel
theorem d_P_countOn_30 : decode b_P_countOn 30 = .ok (.ireturn, 1) := by decide +kernel
abbrev y_E_join : MethodName := ⟨"EntryRows", "join", "(II)I"⟩
abbrev b_E_join : ByteArray := prog_1_method_12_code
abbrev w_E_join : Cond := .code y_E_join b_E_join 3 (some .int)
theorem cal_E_join : er_Cal y_E_join w_E_join 3 2 := ⟨er_mt (i := 423) (by decide +kernel) rfl, er_mt (i := 1) (by decide +kernel) rfl, ⟨by decide, by decide⟩, by decide +kernel, b_E_join, (some .int), [], Or.inl rfl⟩
theorem in_E_join : Cond.instanceMethod y_E_join ∈ er_tbl := er_mt (i := 421) (by decide +kernel) rfl
theorem se_E_join : Cond.selects "EntryRows" y_E_join y_E_join ∈ er_tbl := er_mt (i := 422) (by decide +kernel) rfl
theorem d_E_join_0 : decode b_E_join 0 = .ok (.aload_n 0, 1) := by decide +kernel
theorem d_E_join_1 : decode b_E_join 1 = .ok (.iload_n 1, 1) := by decide +kernel
theorem d_E_join_2 : decode b_E_join 2 = .ok (.invokevirtual 65, 3) := by decide +kernel
theorem d_E_join_5 : decode b_E_join 5 = .ok (.aload_n 0, 1) := by decide +kernel
theorem d_E_join_6 : decode b_E_join 6 = .ok (.iload_n 2, 1) := by decide +kernel
theorem d_E_join_7 : decode b_E_join 7 = .ok (.invokevirtual 65, 3) := by decide +kernel
theorem d_E_join_10 : decode b_E_join 10 = .ok (.aload_n 0, 1) := by decide +kernel
theorem d_E_join_11 : decode b_E_join 11 = .ok (.iload_n 1, 1) := by decide +kernel
theorem d_E_join_12 : decode b_E_join 12 = .ok (.invokevirtual 72, 3) := by decide +kernel
theorem d_E_join_15 : decode b_E_join 15 = .ok (.aload_n 0, 1) := by decide +kernel
theorem d_E_join_16 : decode b_E_join 16 = .ok (.iload_n 2, 1) := by decide +kernel
theorem d_E_join_17 : decode b_E_join 17 = .ok (.invokevirtual 72, 3) := by decide +kernel
theorem d_E_join_20 : decode b_E_join 20 = .ok (.iload_n 1, 1) := by decide +kernel
theorem d_E_join_21 : decode b_E_join 21 = .ok (.iload_n 2, 1) := by decide +kernel
theorem d_E_join_22 : decode b_E_join 22 = .ok (.if_icmp .eq 7, 3) := by decide +kernel
theorem d_E_join_25 : decode b_E_join 25 = .ok (.iconst 1, 1) := by decide +kernel
theorem d_E_join_26 : decode b_E_join 26 = .ok (.goto 4, 3) := by decide +kernel
theorem d_E_join_29 : decode b_E_join 29 = .ok (.iconst 0, 1) := by decide +kernel
theorem d_E_join_30 : decode b_E_join 30 = .ok (.invokestatic 81, 3) := by decide +kernel
theorem d_E_join_33 : decode b_E_join 33 = .ok (.aload_n 0, 1) := by decide +kernel
theorem d_E_join_34 : decode b_E_join 34 = .ok (.getfield 10, 3) := by decide +kernel
theorem d_E_join_37 : decode b_E_join 37 = .ok (.iload_n 1, 1) := by decide +kernel
theorem d_E_join_38 : decode b_E_join 38 = .ok (.iload_n 2, 1) := by decide +kernel
theorem d_E_join_39 : decode b_E_join 39 = .ok (.invokevirtual 148, 3) := by decide +kernel
theorem d_E_join_42 : decode b_E_join 42 = .ok (.aload_n 0, 1) := by decide +kernel
theorem d_E_join_43 : decode b_E_join 43 = .ok (.iload_n 1, 1) := by decide +kernel
theorem d_E_join_44 : decode b_E_join 44 = .ok (.iload_n 2, 1) := by decide +kernel
theorem d_E_join_45 : decode b_E_join 45 = .ok (.invokevirtual 152, 3) := by decide +kernel
theorem d_E_join_48 : decode b_E_join 48 = .ok (.aload_n 0, 1) := by decide +kernel
theorem d_E_join_49 : decode b_E_join 49 = .ok (.getfield 10, 3) := by decide +kernel
theorem d_E_join_52 : decode b_E_join 52 = .ok (.iload_n 2, 1) := by decide +kernel
theorem d_E_join_53 : decode b_E_join 53 = .ok (.invokevirtual 155, 3) := by decide +kernel
theorem d_E_join_56 : decode b_E_join 56 = .ok (.ireturn, 1) := by decide +kernel
theorem lk_E_148 : Cond.methodLink "EntryRows" 148 y_P_moveAll ∈ er_tbl ∨ ∃ host, Cond.methodLinkNest "EntryRows" 148 y_P_moveAll host ∈ er_tbl := Or.inr ⟨"EntryRows", er_mt (i := 424) (by decide +kernel) rfl⟩
theorem lk_E_152 : Cond.methodLink "EntryRows" 152 y_E_shut ∈ er_tbl ∨ ∃ host, Cond.methodLinkNest "EntryRows" 152 y_E_shut host ∈ er_tbl := Or.inl (er_mt (i := 428) (by decide +kernel) rfl)
theorem lk_E_155 : Cond.methodLink "EntryRows" 155 y_P_countOn ∈ er_tbl ∨ ∃ host, Cond.methodLinkNest "EntryRows" 155 y_P_countOn host ∈ er_tbl := Or.inr ⟨"EntryRows", er_mt (i := 432) (by decide +kernel) rfl⟩
abbrev y_E_close : MethodName := ⟨"EntryRows", "close", "(I)V"⟩
abbrev b_E_close : ByteArray := prog_1_method_13_code
abbrev w_E_close : Cond := .code y_E_close b_E_close 2 none
theorem cal_E_close : er_Cal y_E_close w_E_close 2 1 := ⟨er_mt (i := 442) (by decide +kernel) rfl, er_mt (i := 1) (by decide +kernel) rfl, ⟨by decide, by decide⟩, by decide +kernel, b_E_close, none, [], Or.inl rfl⟩
theorem in_E_close : Cond.instanceMethod y_E_close ∈ er_tbl := er_mt (i := 440) (by decide +kernel) rfl
theorem se_E_close : Cond.selects "EntryRows" y_E_close y_E_close ∈ er_tbl := er_mt (i := 441) (by decide +kernel) rfl
theorem d_E_close_0 : decode b_E_close 0 = .ok (.aload_n 0, 1) := by decide +kernel
theorem d_E_close_1 : decode b_E_close 1 = .ok (.iload_n 1, 1) := by decide +kernel
theorem d_E_close_2 : decode b_E_close 2 = .ok (.invokevirtual 65, 3) := by decide +kernel
theorem d_E_close_5 : decode b_E_close 5 = .ok (.aload_n 0, 1) := by decide +kernel
theorem d_E_close_6 : decode b_E_close 6 = .ok (.iload_n 1, 1) := by decide +kernel
theorem d_E_close_7 : decode b_E_close 7 = .ok (.invokevirtual 72, 3) := by decide +kernel
theorem d_E_close_10 : decode b_E_close 10 = .ok (.aload_n 0, 1) := by decide +kernel
theorem d_E_close_11 : decode b_E_close 11 = .ok (.getfield 10, 3) := by decide +kernel
theorem d_E_close_14 : decode b_E_close 14 = .ok (.iload_n 1, 1) := by decide +kernel
theorem d_E_close_15 : decode b_E_close 15 = .ok (.invokevirtual 155, 3) := by decide +kernel
theorem d_E_close_18 : decode b_E_close 18 = .ok (.ifCond .ne 7, 3) := by decide +kernel
theorem d_E_close_21 : decode b_E_close 21 = .ok (.iconst 1, 1) := by decide +kernel
theorem d_E_close_22 : decode b_E_close 22 = .ok (.goto 4, 3) := by decide +kernel
theorem d_E_close_25 : decode b_E_close 25 = .ok (.iconst 0, 1) := by decide +kernel
theorem d_E_close_26 : decode b_E_close 26 = .ok (.invokestatic 81, 3) := by decide +kernel
theorem d_E_close_29 : decode b_E_close 29 = .ok (.aload_n 0, 1) := by decide +kernel
theorem d_E_close_30 : decode b_E_close 30 = .ok (.iload_n 1, 1) := by decide +kernel
theorem d_E_close_31 : decode b_E_close 31 = .ok (.iconst (-1), 1) := by decide +kernel
theorem d_E_close_32 : decode b_E_close 32 = .ok (.invokevirtual 152, 3) := by decide +kernel
theorem d_E_close_35 : decode b_E_close 35 = .ok (.return_, 1) := by decide +kernel
abbrev y_E_isLateAt : MethodName := ⟨"EntryRows", "isLateAt", "(II)Z"⟩
abbrev b_E_isLateAt : ByteArray := prog_1_method_37_code
abbrev w_E_isLateAt : Cond := .code y_E_isLateAt b_E_isLateAt 4 (some .boolean)
theorem cal_E_isLateAt : er_Cal y_E_isLateAt w_E_isLateAt 4 2 := ⟨er_mt (i := 454) (by decide +kernel) rfl, er_mt (i := 1) (by decide +kernel) rfl, ⟨by decide, by decide⟩, by decide +kernel, b_E_isLateAt, (some .boolean), [], Or.inl rfl⟩
theorem in_E_isLateAt : Cond.instanceMethod y_E_isLateAt ∈ er_tbl := er_mt (i := 453) (by decide +kernel) rfl
theorem se_E_isLateAt : Cond.selects "EntryRows" y_E_isLateAt y_E_isLateAt ∈ er_tbl := er_ms (i := 21) (by decide +kernel) rfl
theorem d_E_isLateAt_0 : decode b_E_isLateAt 0 = .ok (.aload_n 0, 1) := by decide +kernel
theorem d_E_isLateAt_1 : decode b_E_isLateAt 1 = .ok (.getfield 10, 3) := by decide +kernel
theorem d_E_isLateAt_4 : decode b_E_isLateAt 4 = .ok (.getfield 132, 3) := by decide +kernel
theorem d_E_isLateAt_7 : decode b_E_isLateAt 7 = .ok (.iload_n 1, 1) := by decide +kernel
theorem d_E_isLateAt_8 : decode b_E_isLateAt 8 = .ok (.iaload, 1) := by decide +kernel
theorem d_E_isLateAt_9 : decode b_E_isLateAt 9 = .ok (.istore_n 3, 1) := by decide +kernel
theorem d_E_isLateAt_10 : decode b_E_isLateAt 10 = .ok (.aload_n 0, 1) := by decide +kernel
theorem d_E_isLateAt_11 : decode b_E_isLateAt 11 = .ok (.getfield 19, 3) := by decide +kernel
theorem d_E_isLateAt_14 : decode b_E_isLateAt 14 = .ok (.iload_n 3, 1) := by decide +kernel
theorem d_E_isLateAt_15 : decode b_E_isLateAt 15 = .ok (.invokevirtual 211, 3) := by decide +kernel
theorem d_E_isLateAt_18 : decode b_E_isLateAt 18 = .ok (.ifCond .eq 30, 3) := by decide +kernel
theorem d_E_isLateAt_21 : decode b_E_isLateAt 21 = .ok (.iload_n 2, 1) := by decide +kernel
theorem d_E_isLateAt_22 : decode b_E_isLateAt 22 = .ok (.aload_n 0, 1) := by decide +kernel
theorem d_E_isLateAt_23 : decode b_E_isLateAt 23 = .ok (.getfield 10, 3) := by decide +kernel
theorem d_E_isLateAt_26 : decode b_E_isLateAt 26 = .ok (.getfield 179, 3) := by decide +kernel
theorem d_E_isLateAt_29 : decode b_E_isLateAt 29 = .ok (.iload_n 1, 1) := by decide +kernel
theorem d_E_isLateAt_30 : decode b_E_isLateAt 30 = .ok (.iaload, 1) := by decide +kernel
theorem d_E_isLateAt_31 : decode b_E_isLateAt 31 = .ok (.isub, 1) := by decide +kernel
theorem d_E_isLateAt_32 : decode b_E_isLateAt 32 = .ok (.aload_n 0, 1) := by decide +kernel
theorem d_E_isLateAt_33 : decode b_E_isLateAt 33 = .ok (.getfield 19, 3) := by decide +kernel
theorem d_E_isLateAt_36 : decode b_E_isLateAt 36 = .ok (.getfield 237, 3) := by decide +kernel
theorem d_E_isLateAt_39 : decode b_E_isLateAt 39 = .ok (.iload_n 3, 1) := by decide +kernel
theorem d_E_isLateAt_40 : decode b_E_isLateAt 40 = .ok (.iaload, 1) := by decide +kernel
theorem d_E_isLateAt_41 : decode b_E_isLateAt 41 = .ok (.if_icmp .le 7, 3) := by decide +kernel
theorem d_E_isLateAt_44 : decode b_E_isLateAt 44 = .ok (.iconst 1, 1) := by decide +kernel
theorem d_E_isLateAt_45 : decode b_E_isLateAt 45 = .ok (.goto 4, 3) := by decide +kernel
theorem d_E_isLateAt_48 : decode b_E_isLateAt 48 = .ok (.iconst 0, 1) := by decide +kernel
theorem d_E_isLateAt_49 : decode b_E_isLateAt 49 = .ok (.ireturn, 1) := by decide +kernel
theorem fl_E_179 : er_F "EntryRows" 179 1 4 := ⟨_, er_T1, 11, rfl, by decide, er_i1, rfl, Or.inr ⟨"EntryRows", er_mt (i := 41) (by decide +kernel) rfl⟩⟩
theorem fl_E_237 : er_F "EntryRows" 237 2 2 := ⟨_, er_T2, 6, rfl, by decide, er_i2, rfl, Or.inr ⟨"EntryRows", er_mt (i := 91) (by decide +kernel) rfl⟩⟩
abbrev y_E_tick : MethodName := ⟨"EntryRows", "tick", "(I)I"⟩
abbrev b_E_tick : ByteArray := prog_1_method_14_code
abbrev w_E_tick : Cond := .code y_E_tick b_E_tick 5 (some .int)
theorem cal_E_tick : er_Cal y_E_tick w_E_tick 5 1 := ⟨er_mt (i := 449) (by decide +kernel) rfl, er_mt (i := 1) (by decide +kernel) rfl, ⟨by decide, by decide⟩, by decide +kernel, b_E_tick, (some .int), [], Or.inl rfl⟩
theorem in_E_tick : Cond.instanceMethod y_E_tick ∈ er_tbl := er_mt (i := 447) (by decide +kernel) rfl
theorem se_E_tick : Cond.selects "EntryRows" y_E_tick y_E_tick ∈ er_tbl := er_mt (i := 448) (by decide +kernel) rfl
theorem d_E_tick_0 : decode b_E_tick 0 = .ok (.iload_n 1, 1) := by decide +kernel
theorem d_E_tick_1 : decode b_E_tick 1 = .ok (.iconst 1, 1) := by decide +kernel
theorem d_E_tick_2 : decode b_E_tick 2 = .ok (.sipush 5000, 3) := by decide +kernel
theorem d_E_tick_5 : decode b_E_tick 5 = .ok (.invokestatic 46, 3) := by decide +kernel
theorem d_E_tick_8 : decode b_E_tick 8 = .ok (.aload_n 0, 1) := by decide +kernel
theorem d_E_tick_9 : decode b_E_tick 9 = .ok (.getfield 30, 3) := by decide +kernel
theorem d_E_tick_12 : decode b_E_tick 12 = .ok (.iload_n 1, 1) := by decide +kernel
theorem d_E_tick_13 : decode b_E_tick 13 = .ok (.iadd, 1) := by decide +kernel
theorem d_E_tick_14 : decode b_E_tick 14 = .ok (.iconst 0, 1) := by decide +kernel
theorem d_E_tick_15 : decode b_E_tick 15 = .ok (.ldc 158, 2) := by decide +kernel
theorem d_E_tick_17 : decode b_E_tick 17 = .ok (.invokestatic 46, 3) := by decide +kernel
theorem d_E_tick_20 : decode b_E_tick 20 = .ok (.aload_n 0, 1) := by decide +kernel
theorem d_E_tick_21 : decode b_E_tick 21 = .ok (.getfield 30, 3) := by decide +kernel
theorem d_E_tick_24 : decode b_E_tick 24 = .ok (.istore_n 2, 1) := by decide +kernel
theorem d_E_tick_25 : decode b_E_tick 25 = .ok (.aload_n 0, 1) := by decide +kernel
theorem d_E_tick_26 : decode b_E_tick 26 = .ok (.dup, 1) := by decide +kernel
theorem d_E_tick_27 : decode b_E_tick 27 = .ok (.getfield 30, 3) := by decide +kernel
theorem d_E_tick_30 : decode b_E_tick 30 = .ok (.iload_n 1, 1) := by decide +kernel
theorem d_E_tick_31 : decode b_E_tick 31 = .ok (.iadd, 1) := by decide +kernel
theorem d_E_tick_32 : decode b_E_tick 32 = .ok (.putfield 30, 3) := by decide +kernel
theorem d_E_tick_35 : decode b_E_tick 35 = .ok (.iconst 0, 1) := by decide +kernel
theorem d_E_tick_36 : decode b_E_tick 36 = .ok (.istore_n 3, 1) := by decide +kernel
theorem d_E_tick_37 : decode b_E_tick 37 = .ok (.iconst 0, 1) := by decide +kernel
theorem d_E_tick_38 : decode b_E_tick 38 = .ok (.istore 4, 2) := by decide +kernel
theorem d_E_tick_40 : decode b_E_tick 40 = .ok (.iload 4, 2) := by decide +kernel
theorem d_E_tick_42 : decode b_E_tick 42 = .ok (.bipush 40, 2) := by decide +kernel
theorem d_E_tick_44 : decode b_E_tick 44 = .ok (.if_icmp .ge 35, 3) := by decide +kernel
theorem d_E_tick_47 : decode b_E_tick 47 = .ok (.aload_n 0, 1) := by decide +kernel
theorem d_E_tick_48 : decode b_E_tick 48 = .ok (.iload 4, 2) := by decide +kernel
theorem d_E_tick_50 : decode b_E_tick 50 = .ok (.aload_n 0, 1) := by decide +kernel
theorem d_E_tick_51 : decode b_E_tick 51 = .ok (.getfield 30, 3) := by decide +kernel
theorem d_E_tick_54 : decode b_E_tick 54 = .ok (.invokevirtual 159, 3) := by decide +kernel
theorem d_E_tick_57 : decode b_E_tick 57 = .ok (.ifCond .eq 16, 3) := by decide +kernel
theorem d_E_tick_60 : decode b_E_tick 60 = .ok (.aload_n 0, 1) := by decide +kernel
theorem d_E_tick_61 : decode b_E_tick 61 = .ok (.iload 4, 2) := by decide +kernel
theorem d_E_tick_63 : decode b_E_tick 63 = .ok (.iload_n 2, 1) := by decide +kernel
theorem d_E_tick_64 : decode b_E_tick 64 = .ok (.invokevirtual 159, 3) := by decide +kernel
theorem d_E_tick_67 : decode b_E_tick 67 = .ok (.ifCond .ne 6, 3) := by decide +kernel
theorem d_E_tick_70 : decode b_E_tick 70 = .ok (.iinc 3 1, 3) := by decide +kernel
theorem d_E_tick_73 : decode b_E_tick 73 = .ok (.iinc 4 1, 3) := by decide +kernel
theorem d_E_tick_76 : decode b_E_tick 76 = .ok (.goto (-36), 3) := by decide +kernel
theorem d_E_tick_79 : decode b_E_tick 79 = .ok (.iload_n 3, 1) := by decide +kernel
theorem d_E_tick_80 : decode b_E_tick 80 = .ok (.ireturn, 1) := by decide +kernel
theorem k_E_158 : Cond.constant "EntryRows" 158 (999999) ∈ er_tbl := er_mt (i := 450) (by decide +kernel) rfl
theorem fp_E_30 : er_Fp "EntryRows" 30 0 4 := ⟨_, er_T0, 7, er_ty0, rfl, by decide, er_i0, rfl, er_mt (i := 115) (by decide +kernel) rfl, rfl, by decide +kernel, er_tyok0, er_nm0⟩
theorem lk_E_159 : Cond.methodLink "EntryRows" 159 y_E_isLateAt ∈ er_tbl ∨ ∃ host, Cond.methodLinkNest "EntryRows" 159 y_E_isLateAt host ∈ er_tbl := Or.inl (er_mt (i := 451) (by decide +kernel) rfl)
abbrev y_E_requireNotNegative : MethodName := ⟨"EntryRows", "requireNotNegative", "(I)V"⟩
abbrev b_E_requireNotNegative : ByteArray := prog_1_method_27_code
abbrev w_E_requireNotNegative : Cond := .code y_E_requireNotNegative b_E_requireNotNegative 1 none
theorem cal_E_requireNotNegative : er_Cal y_E_requireNotNegative w_E_requireNotNegative 1 1 := ⟨er_mt (i := 464) (by decide +kernel) rfl, er_mt (i := 1) (by decide +kernel) rfl, ⟨by decide, by decide⟩, by decide +kernel, b_E_requireNotNegative, none, [], Or.inl rfl⟩
theorem st_E_requireNotNegative : Cond.static y_E_requireNotNegative ∈ er_tbl := er_mt (i := 463) (by decide +kernel) rfl
theorem d_E_requireNotNegative_0 : decode b_E_requireNotNegative 0 = .ok (.iload_n 0, 1) := by decide +kernel
theorem d_E_requireNotNegative_1 : decode b_E_requireNotNegative 1 = .ok (.iconst 0, 1) := by decide +kernel
theorem d_E_requireNotNegative_2 : decode b_E_requireNotNegative 2 = .ok (.ldc 221, 2) := by decide +kernel
theorem d_E_requireNotNegative_4 : decode b_E_requireNotNegative 4 = .ok (.invokestatic 46, 3) := by decide +kernel
theorem d_E_requireNotNegative_7 : decode b_E_requireNotNegative 7 = .ok (.return_, 1) := by decide +kernel
theorem k_E_221 : Cond.constant "EntryRows" 221 (2147483647) ∈ er_tbl := er_mt (i := 465) (by decide +kernel) rfl
abbrev y_P_nextOn : MethodName := ⟨"EntryRows$Persons", "nextOn", "(II)I"⟩
abbrev b_P_nextOn : ByteArray := prog_3_method_11_code
abbrev w_P_nextOn : Cond := .code y_P_nextOn b_P_nextOn 6 (some .int)
theorem cal_P_nextOn : er_Cal y_P_nextOn w_P_nextOn 6 2 := ⟨er_mt (i := 472) (by decide +kernel) rfl, er_mt (i := 2) (by decide +kernel) rfl, ⟨by decide, by decide⟩, by decide +kernel, b_P_nextOn, (some .int), [], Or.inl rfl⟩
theorem in_P_nextOn : Cond.instanceMethod y_P_nextOn ∈ er_tbl := er_mt (i := 471) (by decide +kernel) rfl
theorem se_P_nextOn : Cond.selects "EntryRows$Persons" y_P_nextOn y_P_nextOn ∈ er_tbl := er_ms (i := 22) (by decide +kernel) rfl
theorem d_P_nextOn_0 : decode b_P_nextOn 0 = .ok (.iconst (-1), 1) := by decide +kernel
theorem d_P_nextOn_1 : decode b_P_nextOn 1 = .ok (.istore_n 3, 1) := by decide +kernel
theorem d_P_nextOn_2 : decode b_P_nextOn 2 = .ok (.ldc 73, 2) := by decide +kernel
theorem d_P_nextOn_4 : decode b_P_nextOn 4 = .ok (.istore 4, 2) := by decide +kernel
theorem d_P_nextOn_6 : decode b_P_nextOn 6 = .ok (.iconst 0, 1) := by decide +kernel
theorem d_P_nextOn_7 : decode b_P_nextOn 7 = .ok (.istore 5, 2) := by decide +kernel
theorem d_P_nextOn_9 : decode b_P_nextOn 9 = .ok (.iload 5, 2) := by decide +kernel
theorem d_P_nextOn_11 : decode b_P_nextOn 11 = .ok (.bipush 40, 2) := by decide +kernel
theorem d_P_nextOn_13 : decode b_P_nextOn 13 = .ok (.if_icmp .ge 55, 3) := by decide +kernel
theorem d_P_nextOn_16 : decode b_P_nextOn 16 = .ok (.aload_n 0, 1) := by decide +kernel
theorem d_P_nextOn_17 : decode b_P_nextOn 17 = .ok (.getfield 9, 3) := by decide +kernel
theorem d_P_nextOn_20 : decode b_P_nextOn 20 = .ok (.iload 5, 2) := by decide +kernel
theorem d_P_nextOn_22 : decode b_P_nextOn 22 = .ok (.iaload, 1) := by decide +kernel
theorem d_P_nextOn_23 : decode b_P_nextOn 23 = .ok (.iload_n 1, 1) := by decide +kernel
theorem d_P_nextOn_24 : decode b_P_nextOn 24 = .ok (.if_icmp .ne 38, 3) := by decide +kernel
theorem d_P_nextOn_27 : decode b_P_nextOn 27 = .ok (.aload_n 0, 1) := by decide +kernel
theorem d_P_nextOn_28 : decode b_P_nextOn 28 = .ok (.getfield 15, 3) := by decide +kernel
theorem d_P_nextOn_31 : decode b_P_nextOn 31 = .ok (.iload 5, 2) := by decide +kernel
theorem d_P_nextOn_33 : decode b_P_nextOn 33 = .ok (.iaload, 1) := by decide +kernel
theorem d_P_nextOn_34 : decode b_P_nextOn 34 = .ok (.iload_n 2, 1) := by decide +kernel
theorem d_P_nextOn_35 : decode b_P_nextOn 35 = .ok (.if_icmp .le 27, 3) := by decide +kernel
theorem d_P_nextOn_38 : decode b_P_nextOn 38 = .ok (.aload_n 0, 1) := by decide +kernel
theorem d_P_nextOn_39 : decode b_P_nextOn 39 = .ok (.getfield 15, 3) := by decide +kernel
theorem d_P_nextOn_42 : decode b_P_nextOn 42 = .ok (.iload 5, 2) := by decide +kernel
theorem d_P_nextOn_44 : decode b_P_nextOn 44 = .ok (.iaload, 1) := by decide +kernel
theorem d_P_nextOn_45 : decode b_P_nextOn 45 = .ok (.iload 4, 2) := by decide +kernel
theorem d_P_nextOn_47 : decode b_P_nextOn 47 = .ok (.if_icmp .ge 15, 3) := by decide +kernel
theorem d_P_nextOn_50 : decode b_P_nextOn 50 = .ok (.iload 5, 2) := by decide +kernel
theorem d_P_nextOn_52 : decode b_P_nextOn 52 = .ok (.istore_n 3, 1) := by decide +kernel
theorem d_P_nextOn_53 : decode b_P_nextOn 53 = .ok (.aload_n 0, 1) := by decide +kernel
theorem d_P_nextOn_54 : decode b_P_nextOn 54 = .ok (.getfield 15, 3) := by decide +kernel
theorem d_P_nextOn_57 : decode b_P_nextOn 57 = .ok (.iload 5, 2) := by decide +kernel
theorem d_P_nextOn_59 : decode b_P_nextOn 59 = .ok (.iaload, 1) := by decide +kernel
theorem d_P_nextOn_60 : decode b_P_nextOn 60 = .ok (.istore 4, 2) := by decide +kernel
theorem d_P_nextOn_62 : decode b_P_nextOn 62 = .ok (.iinc 5 1, 3) := by decide +kernel
theorem d_P_nextOn_65 : decode b_P_nextOn 65 = .ok (.goto (-56), 3) := by decide +kernel
theorem d_P_nextOn_68 : decode b_P_nextOn 68 = .ok (.iload_n 3, 1) := by decide +kernel
theorem d_P_nextOn_69 : decode b_P_nextOn 69 = .ok (.ireturn, 1) := by decide +kernel
theorem k_P_73 : Cond.constant "EntryRows$Persons" 73 (2147483647) ∈ er_tbl := er_mt (i := 473) (by decide +kernel) rfl
abbrev y_E_on : MethodName := ⟨"EntryRows", "on", "(II)I"⟩
abbrev b_E_on : ByteArray := prog_1_method_15_code
abbrev w_E_on : Cond := .code y_E_on b_E_on 6 (some .int)
theorem cal_E_on : er_Cal y_E_on w_E_on 6 2 := ⟨er_mt (i := 461) (by decide +kernel) rfl, er_mt (i := 1) (by decide +kernel) rfl, ⟨by decide, by decide⟩, by decide +kernel, b_E_on, (some .int), [], Or.inl rfl⟩
theorem in_E_on : Cond.instanceMethod y_E_on ∈ er_tbl := er_mt (i := 459) (by decide +kernel) rfl
theorem se_E_on : Cond.selects "EntryRows" y_E_on y_E_on ∈ er_tbl := er_mt (i := 460) (by decide +kernel) rfl
theorem d_E_on_0 : decode b_E_on 0 = .ok (.aload_n 0, 1) := by decide +kernel
theorem d_E_on_1 : decode b_E_on 1 = .ok (.iload_n 1, 1) := by decide +kernel
theorem d_E_on_2 : decode b_E_on 2 = .ok (.invokevirtual 65, 3) := by decide +kernel
theorem d_E_on_5 : decode b_E_on 5 = .ok (.iload_n 2, 1) := by decide +kernel
theorem d_E_on_6 : decode b_E_on 6 = .ok (.invokestatic 162, 3) := by decide +kernel
theorem d_E_on_9 : decode b_E_on 9 = .ok (.iload_n 2, 1) := by decide +kernel
theorem d_E_on_10 : decode b_E_on 10 = .ok (.bipush 40, 2) := by decide +kernel
theorem d_E_on_12 : decode b_E_on 12 = .ok (.invokestatic 165, 3) := by decide +kernel
theorem d_E_on_15 : decode b_E_on 15 = .ok (.istore_n 3, 1) := by decide +kernel
theorem d_E_on_16 : decode b_E_on 16 = .ok (.aload_n 0, 1) := by decide +kernel
theorem d_E_on_17 : decode b_E_on 17 = .ok (.getfield 10, 3) := by decide +kernel
theorem d_E_on_20 : decode b_E_on 20 = .ok (.iload_n 1, 1) := by decide +kernel
theorem d_E_on_21 : decode b_E_on 21 = .ok (.iconst (-1), 1) := by decide +kernel
theorem d_E_on_22 : decode b_E_on 22 = .ok (.invokevirtual 170, 3) := by decide +kernel
theorem d_E_on_25 : decode b_E_on 25 = .ok (.istore 4, 2) := by decide +kernel
theorem d_E_on_27 : decode b_E_on 27 = .ok (.iconst 0, 1) := by decide +kernel
theorem d_E_on_28 : decode b_E_on 28 = .ok (.istore 5, 2) := by decide +kernel
theorem d_E_on_30 : decode b_E_on 30 = .ok (.iload 5, 2) := by decide +kernel
theorem d_E_on_32 : decode b_E_on 32 = .ok (.iload_n 3, 1) := by decide +kernel
theorem d_E_on_33 : decode b_E_on 33 = .ok (.if_icmp .ge 37, 3) := by decide +kernel
theorem d_E_on_36 : decode b_E_on 36 = .ok (.iload 4, 2) := by decide +kernel
theorem d_E_on_38 : decode b_E_on 38 = .ok (.invokestatic 173, 3) := by decide +kernel
theorem d_E_on_41 : decode b_E_on 41 = .ok (.ifCond .eq 29, 3) := by decide +kernel
theorem d_E_on_44 : decode b_E_on 44 = .ok (.aload_n 0, 1) := by decide +kernel
theorem d_E_on_45 : decode b_E_on 45 = .ok (.getfield 10, 3) := by decide +kernel
theorem d_E_on_48 : decode b_E_on 48 = .ok (.iload_n 1, 1) := by decide +kernel
theorem d_E_on_49 : decode b_E_on 49 = .ok (.aload_n 0, 1) := by decide +kernel
theorem d_E_on_50 : decode b_E_on 50 = .ok (.getfield 10, 3) := by decide +kernel
theorem d_E_on_53 : decode b_E_on 53 = .ok (.getfield 145, 3) := by decide +kernel
theorem d_E_on_56 : decode b_E_on 56 = .ok (.iload 4, 2) := by decide +kernel
theorem d_E_on_58 : decode b_E_on 58 = .ok (.iaload, 1) := by decide +kernel
theorem d_E_on_59 : decode b_E_on 59 = .ok (.invokevirtual 170, 3) := by decide +kernel
theorem d_E_on_62 : decode b_E_on 62 = .ok (.istore 4, 2) := by decide +kernel
theorem d_E_on_64 : decode b_E_on 64 = .ok (.iinc 5 1, 3) := by decide +kernel
theorem d_E_on_67 : decode b_E_on 67 = .ok (.goto (-37), 3) := by decide +kernel
theorem d_E_on_70 : decode b_E_on 70 = .ok (.iload 4, 2) := by decide +kernel
theorem d_E_on_72 : decode b_E_on 72 = .ok (.ireturn, 1) := by decide +kernel
theorem lk_E_162 : Cond.methodLink "EntryRows" 162 y_E_requireNotNegative ∈ er_tbl := er_mt (i := 462) (by decide +kernel) rfl
theorem lk_E_165 : Cond.methodLink "EntryRows" 165 y_J_min ∈ er_tbl := er_mt (i := 466) (by decide +kernel) rfl
theorem lk_E_170 : Cond.methodLink "EntryRows" 170 y_P_nextOn ∈ er_tbl ∨ ∃ host, Cond.methodLinkNest "EntryRows" 170 y_P_nextOn host ∈ er_tbl := Or.inr ⟨"EntryRows", er_mt (i := 469) (by decide +kernel) rfl⟩
abbrev y_E_late : MethodName := ⟨"EntryRows", "late", "(I)I"⟩
abbrev b_E_late : ByteArray := prog_1_method_16_code
abbrev w_E_late : Cond := .code y_E_late b_E_late 4 (some .int)
theorem cal_E_late : er_Cal y_E_late w_E_late 4 1 := ⟨er_mt (i := 480) (by decide +kernel) rfl, er_mt (i := 1) (by decide +kernel) rfl, ⟨by decide, by decide⟩, by decide +kernel, b_E_late, (some .int), [], Or.inl rfl⟩
theorem in_E_late : Cond.instanceMethod y_E_late ∈ er_tbl := er_mt (i := 478) (by decide +kernel) rfl
theorem se_E_late : Cond.selects "EntryRows" y_E_late y_E_late ∈ er_tbl := er_mt (i := 479) (by decide +kernel) rfl
theorem d_E_late_0 : decode b_E_late 0 = .ok (.iload_n 1, 1) := by decide +kernel
theorem d_E_late_1 : decode b_E_late 1 = .ok (.invokestatic 162, 3) := by decide +kernel
theorem d_E_late_4 : decode b_E_late 4 = .ok (.iconst 0, 1) := by decide +kernel
theorem d_E_late_5 : decode b_E_late 5 = .ok (.istore_n 2, 1) := by decide +kernel
theorem d_E_late_6 : decode b_E_late 6 = .ok (.iconst 0, 1) := by decide +kernel
theorem d_E_late_7 : decode b_E_late 7 = .ok (.istore_n 3, 1) := by decide +kernel
theorem d_E_late_8 : decode b_E_late 8 = .ok (.iload_n 3, 1) := by decide +kernel
theorem d_E_late_9 : decode b_E_late 9 = .ok (.bipush 40, 2) := by decide +kernel
theorem d_E_late_11 : decode b_E_late 11 = .ok (.if_icmp .ge 31, 3) := by decide +kernel
theorem d_E_late_14 : decode b_E_late 14 = .ok (.aload_n 0, 1) := by decide +kernel
theorem d_E_late_15 : decode b_E_late 15 = .ok (.iload_n 3, 1) := by decide +kernel
theorem d_E_late_16 : decode b_E_late 16 = .ok (.aload_n 0, 1) := by decide +kernel
theorem d_E_late_17 : decode b_E_late 17 = .ok (.getfield 30, 3) := by decide +kernel
theorem d_E_late_20 : decode b_E_late 20 = .ok (.invokevirtual 159, 3) := by decide +kernel
theorem d_E_late_23 : decode b_E_late 23 = .ok (.ifCond .eq 13, 3) := by decide +kernel
theorem d_E_late_26 : decode b_E_late 26 = .ok (.iload_n 2, 1) := by decide +kernel
theorem d_E_late_27 : decode b_E_late 27 = .ok (.iload_n 1, 1) := by decide +kernel
theorem d_E_late_28 : decode b_E_late 28 = .ok (.if_icmp .ne 5, 3) := by decide +kernel
theorem d_E_late_31 : decode b_E_late 31 = .ok (.iload_n 3, 1) := by decide +kernel
theorem d_E_late_32 : decode b_E_late 32 = .ok (.ireturn, 1) := by decide +kernel
theorem d_E_late_33 : decode b_E_late 33 = .ok (.iinc 2 1, 3) := by decide +kernel
theorem d_E_late_36 : decode b_E_late 36 = .ok (.iinc 3 1, 3) := by decide +kernel
theorem d_E_late_39 : decode b_E_late 39 = .ok (.goto (-31), 3) := by decide +kernel
theorem d_E_late_42 : decode b_E_late 42 = .ok (.iconst (-1), 1) := by decide +kernel
theorem d_E_late_43 : decode b_E_late 43 = .ok (.ireturn, 1) := by decide +kernel
abbrev y_E_person : MethodName := ⟨"EntryRows", "person", "(II)I"⟩
abbrev b_E_person : ByteArray := prog_1_method_17_code
abbrev w_E_person : Cond := .code y_E_person b_E_person 3 (some .int)
theorem cal_E_person : er_Cal y_E_person w_E_person 3 2 := ⟨er_mt (i := 487) (by decide +kernel) rfl, er_mt (i := 1) (by decide +kernel) rfl, ⟨by decide, by decide⟩, by decide +kernel, b_E_person, (some .int), [], Or.inl rfl⟩
theorem in_E_person : Cond.instanceMethod y_E_person ∈ er_tbl := er_mt (i := 485) (by decide +kernel) rfl
theorem se_E_person : Cond.selects "EntryRows" y_E_person y_E_person ∈ er_tbl := er_mt (i := 486) (by decide +kernel) rfl
theorem d_E_person_0 : decode b_E_person 0 = .ok (.iload_n 1, 1) := by decide +kernel
theorem d_E_person_1 : decode b_E_person 1 = .ok (.invokestatic 69, 3) := by decide +kernel
theorem d_E_person_4 : decode b_E_person 4 = .ok (.iload_n 2, 1) := by decide +kernel
theorem d_E_person_5 : decode b_E_person 5 = .ok (.tableswitch 155 0 9 #[55, 65, 75, 85, 95, 105, 115, 125, 135, 145], 55) := by decide +kernel
theorem d_E_person_60 : decode b_E_person 60 = .ok (.aload_n 0, 1) := by decide +kernel
theorem d_E_person_61 : decode b_E_person 61 = .ok (.getfield 10, 3) := by decide +kernel
theorem d_E_person_64 : decode b_E_person 64 = .ok (.getfield 132, 3) := by decide +kernel
theorem d_E_person_67 : decode b_E_person 67 = .ok (.iload_n 1, 1) := by decide +kernel
theorem d_E_person_68 : decode b_E_person 68 = .ok (.iaload, 1) := by decide +kernel
theorem d_E_person_69 : decode b_E_person 69 = .ok (.ireturn, 1) := by decide +kernel
theorem d_E_person_70 : decode b_E_person 70 = .ok (.aload_n 0, 1) := by decide +kernel
theorem d_E_person_71 : decode b_E_person 71 = .ok (.getfield 10, 3) := by decide +kernel
theorem d_E_person_74 : decode b_E_person 74 = .ok (.getfield 145, 3) := by decide +kernel
theorem d_E_person_77 : decode b_E_person 77 = .ok (.iload_n 1, 1) := by decide +kernel
theorem d_E_person_78 : decode b_E_person 78 = .ok (.iaload, 1) := by decide +kernel
theorem d_E_person_79 : decode b_E_person 79 = .ok (.ireturn, 1) := by decide +kernel
theorem d_E_person_80 : decode b_E_person 80 = .ok (.aload_n 0, 1) := by decide +kernel
theorem d_E_person_81 : decode b_E_person 81 = .ok (.getfield 10, 3) := by decide +kernel
theorem d_E_person_84 : decode b_E_person 84 = .ok (.getfield 135, 3) := by decide +kernel
theorem d_E_person_87 : decode b_E_person 87 = .ok (.iload_n 1, 1) := by decide +kernel
theorem d_E_person_88 : decode b_E_person 88 = .ok (.iaload, 1) := by decide +kernel
theorem d_E_person_89 : decode b_E_person 89 = .ok (.ireturn, 1) := by decide +kernel
theorem d_E_person_90 : decode b_E_person 90 = .ok (.aload_n 0, 1) := by decide +kernel
theorem d_E_person_91 : decode b_E_person 91 = .ok (.getfield 10, 3) := by decide +kernel
theorem d_E_person_94 : decode b_E_person 94 = .ok (.getfield 176, 3) := by decide +kernel
theorem d_E_person_97 : decode b_E_person 97 = .ok (.iload_n 1, 1) := by decide +kernel
theorem d_E_person_98 : decode b_E_person 98 = .ok (.iaload, 1) := by decide +kernel
theorem d_E_person_99 : decode b_E_person 99 = .ok (.ireturn, 1) := by decide +kernel
theorem d_E_person_100 : decode b_E_person 100 = .ok (.aload_n 0, 1) := by decide +kernel
theorem d_E_person_101 : decode b_E_person 101 = .ok (.getfield 10, 3) := by decide +kernel
theorem d_E_person_104 : decode b_E_person 104 = .ok (.getfield 179, 3) := by decide +kernel
theorem d_E_person_107 : decode b_E_person 107 = .ok (.iload_n 1, 1) := by decide +kernel
theorem d_E_person_108 : decode b_E_person 108 = .ok (.iaload, 1) := by decide +kernel
theorem d_E_person_109 : decode b_E_person 109 = .ok (.ireturn, 1) := by decide +kernel
theorem d_E_person_110 : decode b_E_person 110 = .ok (.aload_n 0, 1) := by decide +kernel
theorem d_E_person_111 : decode b_E_person 111 = .ok (.getfield 10, 3) := by decide +kernel
theorem d_E_person_114 : decode b_E_person 114 = .ok (.getfield 182, 3) := by decide +kernel
theorem d_E_person_117 : decode b_E_person 117 = .ok (.iload_n 1, 1) := by decide +kernel
theorem d_E_person_118 : decode b_E_person 118 = .ok (.iaload, 1) := by decide +kernel
theorem d_E_person_119 : decode b_E_person 119 = .ok (.ireturn, 1) := by decide +kernel
theorem d_E_person_120 : decode b_E_person 120 = .ok (.aload_n 0, 1) := by decide +kernel
theorem d_E_person_121 : decode b_E_person 121 = .ok (.getfield 10, 3) := by decide +kernel
theorem d_E_person_124 : decode b_E_person 124 = .ok (.getfield 185, 3) := by decide +kernel
theorem d_E_person_127 : decode b_E_person 127 = .ok (.iload_n 1, 1) := by decide +kernel
theorem d_E_person_128 : decode b_E_person 128 = .ok (.iaload, 1) := by decide +kernel
theorem d_E_person_129 : decode b_E_person 129 = .ok (.ireturn, 1) := by decide +kernel
theorem d_E_person_130 : decode b_E_person 130 = .ok (.aload_n 0, 1) := by decide +kernel
theorem d_E_person_131 : decode b_E_person 131 = .ok (.getfield 10, 3) := by decide +kernel
theorem d_E_person_134 : decode b_E_person 134 = .ok (.getfield 188, 3) := by decide +kernel
theorem d_E_person_137 : decode b_E_person 137 = .ok (.iload_n 1, 1) := by decide +kernel
theorem d_E_person_138 : decode b_E_person 138 = .ok (.iaload, 1) := by decide +kernel
theorem d_E_person_139 : decode b_E_person 139 = .ok (.ireturn, 1) := by decide +kernel
theorem d_E_person_140 : decode b_E_person 140 = .ok (.aload_n 0, 1) := by decide +kernel
theorem d_E_person_141 : decode b_E_person 141 = .ok (.getfield 10, 3) := by decide +kernel
theorem d_E_person_144 : decode b_E_person 144 = .ok (.getfield 105, 3) := by decide +kernel
theorem d_E_person_147 : decode b_E_person 147 = .ok (.iload_n 1, 1) := by decide +kernel
theorem d_E_person_148 : decode b_E_person 148 = .ok (.iaload, 1) := by decide +kernel
theorem d_E_person_149 : decode b_E_person 149 = .ok (.ireturn, 1) := by decide +kernel
theorem d_E_person_150 : decode b_E_person 150 = .ok (.aload_n 0, 1) := by decide +kernel
theorem d_E_person_151 : decode b_E_person 151 = .ok (.getfield 10, 3) := by decide +kernel
theorem d_E_person_154 : decode b_E_person 154 = .ok (.getfield 78, 3) := by decide +kernel
theorem d_E_person_157 : decode b_E_person 157 = .ok (.iload_n 1, 1) := by decide +kernel
theorem d_E_person_158 : decode b_E_person 158 = .ok (.iaload, 1) := by decide +kernel
theorem d_E_person_159 : decode b_E_person 159 = .ok (.ireturn, 1) := by decide +kernel
theorem d_E_person_160 : decode b_E_person 160 = .ok (.new 191, 3) := by decide +kernel
theorem d_E_person_163 : decode b_E_person 163 = .ok (.dup, 1) := by decide +kernel
theorem d_E_person_164 : decode b_E_person 164 = .ok (.ldc 193, 2) := by decide +kernel
theorem d_E_person_166 : decode b_E_person 166 = .ok (.invokespecial 195, 3) := by decide +kernel
theorem d_E_person_169 : decode b_E_person 169 = .ok (.athrow, 1) := by decide +kernel
theorem fl_E_176 : er_F "EntryRows" 176 1 3 := ⟨_, er_T1, 11, rfl, by decide, er_i1, rfl, Or.inr ⟨"EntryRows", er_mt (i := 39) (by decide +kernel) rfl⟩⟩
theorem fl_E_182 : er_F "EntryRows" 182 1 5 := ⟨_, er_T1, 11, rfl, by decide, er_i1, rfl, Or.inr ⟨"EntryRows", er_mt (i := 43) (by decide +kernel) rfl⟩⟩
theorem fl_E_185 : er_F "EntryRows" 185 1 6 := ⟨_, er_T1, 11, rfl, by decide, er_i1, rfl, Or.inr ⟨"EntryRows", er_mt (i := 45) (by decide +kernel) rfl⟩⟩
theorem fl_E_188 : er_F "EntryRows" 188 1 7 := ⟨_, er_T1, 11, rfl, by decide, er_i1, rfl, Or.inr ⟨"EntryRows", er_mt (i := 47) (by decide +kernel) rfl⟩⟩
abbrev y_I_rotateLeft : MethodName := ⟨"java/lang/Integer", "rotateLeft", "(II)I"⟩
abbrev b_I_rotateLeft : ByteArray := prog_10_method_50_code
abbrev w_I_rotateLeft : Cond := .code y_I_rotateLeft b_I_rotateLeft 2 (some .int)
theorem cal_I_rotateLeft : er_Cal y_I_rotateLeft w_I_rotateLeft 2 2 := ⟨er_mt (i := 502) (by decide +kernel) rfl, er_mt (i := 14) (by decide +kernel) rfl, ⟨by decide, by decide⟩, by decide +kernel, b_I_rotateLeft, (some .int), [], Or.inl rfl⟩
theorem st_I_rotateLeft : Cond.static y_I_rotateLeft ∈ er_tbl := er_mt (i := 501) (by decide +kernel) rfl
theorem d_I_rotateLeft_0 : decode b_I_rotateLeft 0 = .ok (.iload_n 0, 1) := by decide +kernel
theorem d_I_rotateLeft_1 : decode b_I_rotateLeft 1 = .ok (.iload_n 1, 1) := by decide +kernel
theorem d_I_rotateLeft_2 : decode b_I_rotateLeft 2 = .ok (.ishl, 1) := by decide +kernel
theorem d_I_rotateLeft_3 : decode b_I_rotateLeft 3 = .ok (.iload_n 0, 1) := by decide +kernel
theorem d_I_rotateLeft_4 : decode b_I_rotateLeft 4 = .ok (.iload_n 1, 1) := by decide +kernel
theorem d_I_rotateLeft_5 : decode b_I_rotateLeft 5 = .ok (.ineg, 1) := by decide +kernel
theorem d_I_rotateLeft_6 : decode b_I_rotateLeft 6 = .ok (.iushr, 1) := by decide +kernel
theorem d_I_rotateLeft_7 : decode b_I_rotateLeft 7 = .ok (.ior, 1) := by decide +kernel
theorem d_I_rotateLeft_8 : decode b_I_rotateLeft 8 = .ok (.ireturn, 1) := by decide +kernel
abbrev y_E_sumOf : MethodName := ⟨"EntryRows", "sumOf", "(I)I"⟩
abbrev b_E_sumOf : ByteArray := prog_1_method_38_code
abbrev w_E_sumOf : Cond := .code y_E_sumOf b_E_sumOf 7 (some .int)
theorem cal_E_sumOf : er_Cal y_E_sumOf w_E_sumOf 7 1 := ⟨er_mt (i := 499) (by decide +kernel) rfl, er_mt (i := 1) (by decide +kernel) rfl, ⟨by decide, by decide⟩, by decide +kernel, b_E_sumOf, (some .int), [], Or.inl rfl⟩
theorem in_E_sumOf : Cond.instanceMethod y_E_sumOf ∈ er_tbl := er_mt (i := 498) (by decide +kernel) rfl
theorem se_E_sumOf : Cond.selects "EntryRows" y_E_sumOf y_E_sumOf ∈ er_tbl := er_ms (i := 23) (by decide +kernel) rfl
theorem d_E_sumOf_0 : decode b_E_sumOf 0 = .ok (.iconst 0, 1) := by decide +kernel
theorem d_E_sumOf_1 : decode b_E_sumOf 1 = .ok (.istore_n 2, 1) := by decide +kernel
theorem d_E_sumOf_2 : decode b_E_sumOf 2 = .ok (.aload_n 0, 1) := by decide +kernel
theorem d_E_sumOf_3 : decode b_E_sumOf 3 = .ok (.getfield 10, 3) := by decide +kernel
theorem d_E_sumOf_6 : decode b_E_sumOf 6 = .ok (.iload_n 1, 1) := by decide +kernel
theorem d_E_sumOf_7 : decode b_E_sumOf 7 = .ok (.iconst (-1), 1) := by decide +kernel
theorem d_E_sumOf_8 : decode b_E_sumOf 8 = .ok (.invokevirtual 170, 3) := by decide +kernel
theorem d_E_sumOf_11 : decode b_E_sumOf 11 = .ok (.istore_n 3, 1) := by decide +kernel
theorem d_E_sumOf_12 : decode b_E_sumOf 12 = .ok (.iconst 0, 1) := by decide +kernel
theorem d_E_sumOf_13 : decode b_E_sumOf 13 = .ok (.istore 4, 2) := by decide +kernel
theorem d_E_sumOf_15 : decode b_E_sumOf 15 = .ok (.iload 4, 2) := by decide +kernel
theorem d_E_sumOf_17 : decode b_E_sumOf 17 = .ok (.bipush 40, 2) := by decide +kernel
theorem d_E_sumOf_19 : decode b_E_sumOf 19 = .ok (.if_icmp .ge 64, 3) := by decide +kernel
theorem d_E_sumOf_22 : decode b_E_sumOf 22 = .ok (.iload_n 3, 1) := by decide +kernel
theorem d_E_sumOf_23 : decode b_E_sumOf 23 = .ok (.invokestatic 173, 3) := by decide +kernel
theorem d_E_sumOf_26 : decode b_E_sumOf 26 = .ok (.ifCond .eq 57, 3) := by decide +kernel
theorem d_E_sumOf_29 : decode b_E_sumOf 29 = .ok (.aload_n 0, 1) := by decide +kernel
theorem d_E_sumOf_30 : decode b_E_sumOf 30 = .ok (.getfield 10, 3) := by decide +kernel
theorem d_E_sumOf_33 : decode b_E_sumOf 33 = .ok (.getfield 145, 3) := by decide +kernel
theorem d_E_sumOf_36 : decode b_E_sumOf 36 = .ok (.iload_n 3, 1) := by decide +kernel
theorem d_E_sumOf_37 : decode b_E_sumOf 37 = .ok (.iaload, 1) := by decide +kernel
theorem d_E_sumOf_38 : decode b_E_sumOf 38 = .ok (.istore 5, 2) := by decide +kernel
theorem d_E_sumOf_40 : decode b_E_sumOf 40 = .ok (.iload_n 2, 1) := by decide +kernel
theorem d_E_sumOf_41 : decode b_E_sumOf 41 = .ok (.sipush 1000, 3) := by decide +kernel
theorem d_E_sumOf_44 : decode b_E_sumOf 44 = .ok (.iload_n 3, 1) := by decide +kernel
theorem d_E_sumOf_45 : decode b_E_sumOf 45 = .ok (.imul, 1) := by decide +kernel
theorem d_E_sumOf_46 : decode b_E_sumOf 46 = .ok (.iload 5, 2) := by decide +kernel
theorem d_E_sumOf_48 : decode b_E_sumOf 48 = .ok (.sipush 1000, 3) := by decide +kernel
theorem d_E_sumOf_51 : decode b_E_sumOf 51 = .ok (.irem, 1) := by decide +kernel
theorem d_E_sumOf_52 : decode b_E_sumOf 52 = .ok (.iadd, 1) := by decide +kernel
theorem d_E_sumOf_53 : decode b_E_sumOf 53 = .ok (.ixor, 1) := by decide +kernel
theorem d_E_sumOf_54 : decode b_E_sumOf 54 = .ok (.istore 6, 2) := by decide +kernel
theorem d_E_sumOf_56 : decode b_E_sumOf 56 = .ok (.iload 6, 2) := by decide +kernel
theorem d_E_sumOf_58 : decode b_E_sumOf 58 = .ok (.iconst 5, 1) := by decide +kernel
theorem d_E_sumOf_59 : decode b_E_sumOf 59 = .ok (.invokestatic 240, 3) := by decide +kernel
theorem d_E_sumOf_62 : decode b_E_sumOf 62 = .ok (.ldc 243, 2) := by decide +kernel
theorem d_E_sumOf_64 : decode b_E_sumOf 64 = .ok (.imul, 1) := by decide +kernel
theorem d_E_sumOf_65 : decode b_E_sumOf 65 = .ok (.istore_n 2, 1) := by decide +kernel
theorem d_E_sumOf_66 : decode b_E_sumOf 66 = .ok (.aload_n 0, 1) := by decide +kernel
theorem d_E_sumOf_67 : decode b_E_sumOf 67 = .ok (.getfield 10, 3) := by decide +kernel
theorem d_E_sumOf_70 : decode b_E_sumOf 70 = .ok (.iload_n 1, 1) := by decide +kernel
theorem d_E_sumOf_71 : decode b_E_sumOf 71 = .ok (.iload 5, 2) := by decide +kernel
theorem d_E_sumOf_73 : decode b_E_sumOf 73 = .ok (.invokevirtual 170, 3) := by decide +kernel
theorem d_E_sumOf_76 : decode b_E_sumOf 76 = .ok (.istore_n 3, 1) := by decide +kernel
theorem d_E_sumOf_77 : decode b_E_sumOf 77 = .ok (.iinc 4 1, 3) := by decide +kernel
theorem d_E_sumOf_80 : decode b_E_sumOf 80 = .ok (.goto (-65), 3) := by decide +kernel
theorem d_E_sumOf_83 : decode b_E_sumOf 83 = .ok (.iload_n 2, 1) := by decide +kernel
theorem d_E_sumOf_84 : decode b_E_sumOf 84 = .ok (.ireturn, 1) := by decide +kernel
theorem lk_E_240 : Cond.methodLink "EntryRows" 240 y_I_rotateLeft ∈ er_tbl := er_mt (i := 500) (by decide +kernel) rfl
theorem k_E_243 : Cond.constant "EntryRows" 243 (-2048144789) ∈ er_tbl := er_mt (i := 503) (by decide +kernel) rfl
abbrev y_E_boardAt : MethodName := ⟨"EntryRows", "boardAt", "(II)I"⟩
abbrev b_E_boardAt : ByteArray := prog_1_method_18_code
abbrev w_E_boardAt : Cond := .code y_E_boardAt b_E_boardAt 3 (some .int)
theorem cal_E_boardAt : er_Cal y_E_boardAt w_E_boardAt 3 2 := ⟨er_mt (i := 495) (by decide +kernel) rfl, er_mt (i := 1) (by decide +kernel) rfl, ⟨by decide, by decide⟩, by decide +kernel, b_E_boardAt, (some .int), [], Or.inl rfl⟩
theorem in_E_boardAt : Cond.instanceMethod y_E_boardAt ∈ er_tbl := er_mt (i := 493) (by decide +kernel) rfl
theorem se_E_boardAt : Cond.selects "EntryRows" y_E_boardAt y_E_boardAt ∈ er_tbl := er_mt (i := 494) (by decide +kernel) rfl
theorem d_E_boardAt_0 : decode b_E_boardAt 0 = .ok (.aload_n 0, 1) := by decide +kernel
theorem d_E_boardAt_1 : decode b_E_boardAt 1 = .ok (.iload_n 1, 1) := by decide +kernel
theorem d_E_boardAt_2 : decode b_E_boardAt 2 = .ok (.invokevirtual 65, 3) := by decide +kernel
theorem d_E_boardAt_5 : decode b_E_boardAt 5 = .ok (.iload_n 2, 1) := by decide +kernel
theorem d_E_boardAt_6 : decode b_E_boardAt 6 = .ok (.tableswitch 84 0 4 #[34, 52, 62, 71, 78], 34) := by decide +kernel
theorem d_E_boardAt_40 : decode b_E_boardAt 40 = .ok (.aload_n 0, 1) := by decide +kernel
theorem d_E_boardAt_41 : decode b_E_boardAt 41 = .ok (.getfield 19, 3) := by decide +kernel
theorem d_E_boardAt_44 : decode b_E_boardAt 44 = .ok (.getfield 196, 3) := by decide +kernel
theorem d_E_boardAt_47 : decode b_E_boardAt 47 = .ok (.iload_n 1, 1) := by decide +kernel
theorem d_E_boardAt_48 : decode b_E_boardAt 48 = .ok (.baload, 1) := by decide +kernel
theorem d_E_boardAt_49 : decode b_E_boardAt 49 = .ok (.ifCond .eq 7, 3) := by decide +kernel
theorem d_E_boardAt_52 : decode b_E_boardAt 52 = .ok (.iconst 1, 1) := by decide +kernel
theorem d_E_boardAt_53 : decode b_E_boardAt 53 = .ok (.goto 4, 3) := by decide +kernel
theorem d_E_boardAt_56 : decode b_E_boardAt 56 = .ok (.iconst 0, 1) := by decide +kernel
theorem d_E_boardAt_57 : decode b_E_boardAt 57 = .ok (.ireturn, 1) := by decide +kernel
theorem d_E_boardAt_58 : decode b_E_boardAt 58 = .ok (.aload_n 0, 1) := by decide +kernel
theorem d_E_boardAt_59 : decode b_E_boardAt 59 = .ok (.getfield 19, 3) := by decide +kernel
theorem d_E_boardAt_62 : decode b_E_boardAt 62 = .ok (.getfield 88, 3) := by decide +kernel
theorem d_E_boardAt_65 : decode b_E_boardAt 65 = .ok (.iload_n 1, 1) := by decide +kernel
theorem d_E_boardAt_66 : decode b_E_boardAt 66 = .ok (.iaload, 1) := by decide +kernel
theorem d_E_boardAt_67 : decode b_E_boardAt 67 = .ok (.ireturn, 1) := by decide +kernel
theorem d_E_boardAt_68 : decode b_E_boardAt 68 = .ok (.aload_n 0, 1) := by decide +kernel
theorem d_E_boardAt_69 : decode b_E_boardAt 69 = .ok (.getfield 10, 3) := by decide +kernel
theorem d_E_boardAt_72 : decode b_E_boardAt 72 = .ok (.iload_n 1, 1) := by decide +kernel
theorem d_E_boardAt_73 : decode b_E_boardAt 73 = .ok (.invokevirtual 155, 3) := by decide +kernel
theorem d_E_boardAt_76 : decode b_E_boardAt 76 = .ok (.ireturn, 1) := by decide +kernel
theorem d_E_boardAt_77 : decode b_E_boardAt 77 = .ok (.aload_n 0, 1) := by decide +kernel
theorem d_E_boardAt_78 : decode b_E_boardAt 78 = .ok (.iload_n 1, 1) := by decide +kernel
theorem d_E_boardAt_79 : decode b_E_boardAt 79 = .ok (.iconst (-1), 1) := by decide +kernel
theorem d_E_boardAt_80 : decode b_E_boardAt 80 = .ok (.invokevirtual 114, 3) := by decide +kernel
theorem d_E_boardAt_83 : decode b_E_boardAt 83 = .ok (.ireturn, 1) := by decide +kernel
theorem d_E_boardAt_84 : decode b_E_boardAt 84 = .ok (.aload_n 0, 1) := by decide +kernel
theorem d_E_boardAt_85 : decode b_E_boardAt 85 = .ok (.iload_n 1, 1) := by decide +kernel
theorem d_E_boardAt_86 : decode b_E_boardAt 86 = .ok (.invokevirtual 199, 3) := by decide +kernel
theorem d_E_boardAt_89 : decode b_E_boardAt 89 = .ok (.ireturn, 1) := by decide +kernel
theorem d_E_boardAt_90 : decode b_E_boardAt 90 = .ok (.new 191, 3) := by decide +kernel
theorem d_E_boardAt_93 : decode b_E_boardAt 93 = .ok (.dup, 1) := by decide +kernel
theorem d_E_boardAt_94 : decode b_E_boardAt 94 = .ok (.ldc 193, 2) := by decide +kernel
theorem d_E_boardAt_96 : decode b_E_boardAt 96 = .ok (.invokespecial 195, 3) := by decide +kernel
theorem d_E_boardAt_99 : decode b_E_boardAt 99 = .ok (.athrow, 1) := by decide +kernel
theorem lk_E_199 : Cond.methodLink "EntryRows" 199 y_E_sumOf ∈ er_tbl ∨ ∃ host, Cond.methodLinkNest "EntryRows" 199 y_E_sumOf host ∈ er_tbl := Or.inl (er_mt (i := 496) (by decide +kernel) rfl)
abbrev y_P_countInside : MethodName := ⟨"EntryRows$Persons", "countInside", "()I"⟩
abbrev b_P_countInside : ByteArray := prog_3_method_9_code
abbrev w_P_countInside : Cond := .code y_P_countInside b_P_countInside 1 (some .int)
theorem cal_P_countInside : er_Cal y_P_countInside w_P_countInside 1 0 := ⟨er_mt (i := 514) (by decide +kernel) rfl, er_mt (i := 2) (by decide +kernel) rfl, ⟨by decide, by decide⟩, by decide +kernel, b_P_countInside, (some .int), [], Or.inl rfl⟩
theorem in_P_countInside : Cond.instanceMethod y_P_countInside ∈ er_tbl := er_mt (i := 513) (by decide +kernel) rfl
theorem se_P_countInside : Cond.selects "EntryRows$Persons" y_P_countInside y_P_countInside ∈ er_tbl := er_ms (i := 24) (by decide +kernel) rfl
theorem d_P_countInside_0 : decode b_P_countInside 0 = .ok (.bipush 40, 2) := by decide +kernel
theorem d_P_countInside_2 : decode b_P_countInside 2 = .ok (.aload_n 0, 1) := by decide +kernel
theorem d_P_countInside_3 : decode b_P_countInside 3 = .ok (.iconst (-1), 1) := by decide +kernel
theorem d_P_countInside_4 : decode b_P_countInside 4 = .ok (.invokevirtual 68, 3) := by decide +kernel
theorem d_P_countInside_7 : decode b_P_countInside 7 = .ok (.isub, 1) := by decide +kernel
theorem d_P_countInside_8 : decode b_P_countInside 8 = .ok (.ireturn, 1) := by decide +kernel
theorem lk_P_68 : Cond.methodLink "EntryRows$Persons" 68 y_P_countOn ∈ er_tbl ∨ ∃ host, Cond.methodLinkNest "EntryRows$Persons" 68 y_P_countOn host ∈ er_tbl := Or.inl (er_mt (i := 515) (by decide +kernel) rfl)
abbrev y_B_countOpen : MethodName := ⟨"EntryRows$Boards", "countOpen", "()I"⟩
abbrev b_B_countOpen : ByteArray := prog_2_method_5_code
abbrev w_B_countOpen : Cond := .code y_B_countOpen b_B_countOpen 3 (some .int)
theorem cal_B_countOpen : er_Cal y_B_countOpen w_B_countOpen 3 0 := ⟨er_mt (i := 519) (by decide +kernel) rfl, er_mt (i := 4) (by decide +kernel) rfl, ⟨by decide, by decide⟩, by decide +kernel, b_B_countOpen, (some .int), [], Or.inl rfl⟩
theorem in_B_countOpen : Cond.instanceMethod y_B_countOpen ∈ er_tbl := er_mt (i := 518) (by decide +kernel) rfl
theorem se_B_countOpen : Cond.selects "EntryRows$Boards" y_B_countOpen y_B_countOpen ∈ er_tbl := er_ms (i := 25) (by decide +kernel) rfl
theorem d_B_countOpen_0 : decode b_B_countOpen 0 = .ok (.iconst 0, 1) := by decide +kernel
theorem d_B_countOpen_1 : decode b_B_countOpen 1 = .ok (.istore_n 1, 1) := by decide +kernel
theorem d_B_countOpen_2 : decode b_B_countOpen 2 = .ok (.iconst 0, 1) := by decide +kernel
theorem d_B_countOpen_3 : decode b_B_countOpen 3 = .ok (.istore_n 2, 1) := by decide +kernel
theorem d_B_countOpen_4 : decode b_B_countOpen 4 = .ok (.iload_n 2, 1) := by decide +kernel
theorem d_B_countOpen_5 : decode b_B_countOpen 5 = .ok (.aload_n 0, 1) := by decide +kernel
theorem d_B_countOpen_6 : decode b_B_countOpen 6 = .ok (.getfield 28, 3) := by decide +kernel
theorem d_B_countOpen_9 : decode b_B_countOpen 9 = .ok (.if_icmp .ge 21, 3) := by decide +kernel
theorem d_B_countOpen_12 : decode b_B_countOpen 12 = .ok (.aload_n 0, 1) := by decide +kernel
theorem d_B_countOpen_13 : decode b_B_countOpen 13 = .ok (.getfield 9, 3) := by decide +kernel
theorem d_B_countOpen_16 : decode b_B_countOpen 16 = .ok (.iload_n 2, 1) := by decide +kernel
theorem d_B_countOpen_17 : decode b_B_countOpen 17 = .ok (.baload, 1) := by decide +kernel
theorem d_B_countOpen_18 : decode b_B_countOpen 18 = .ok (.ifCond .eq 6, 3) := by decide +kernel
theorem d_B_countOpen_21 : decode b_B_countOpen 21 = .ok (.iinc 1 1, 3) := by decide +kernel
theorem d_B_countOpen_24 : decode b_B_countOpen 24 = .ok (.iinc 2 1, 3) := by decide +kernel
theorem d_B_countOpen_27 : decode b_B_countOpen 27 = .ok (.goto (-23), 3) := by decide +kernel
theorem d_B_countOpen_30 : decode b_B_countOpen 30 = .ok (.iload_n 1, 1) := by decide +kernel
theorem d_B_countOpen_31 : decode b_B_countOpen 31 = .ok (.ireturn, 1) := by decide +kernel
abbrev y_E_count : MethodName := ⟨"EntryRows", "count", "(I)I"⟩
abbrev b_E_count : ByteArray := prog_1_method_19_code
abbrev w_E_count : Cond := .code y_E_count b_E_count 2 (some .int)
theorem cal_E_count : er_Cal y_E_count w_E_count 2 1 := ⟨er_mt (i := 510) (by decide +kernel) rfl, er_mt (i := 1) (by decide +kernel) rfl, ⟨by decide, by decide⟩, by decide +kernel, b_E_count, (some .int), [], Or.inl rfl⟩
theorem in_E_count : Cond.instanceMethod y_E_count ∈ er_tbl := er_mt (i := 508) (by decide +kernel) rfl
theorem se_E_count : Cond.selects "EntryRows" y_E_count y_E_count ∈ er_tbl := er_mt (i := 509) (by decide +kernel) rfl
theorem d_E_count_0 : decode b_E_count 0 = .ok (.iload_n 1, 1) := by decide +kernel
theorem d_E_count_1 : decode b_E_count 1 = .ok (.tableswitch 57 0 3 #[31, 36, 44, 49], 31) := by decide +kernel
theorem d_E_count_32 : decode b_E_count 32 = .ok (.aload_n 0, 1) := by decide +kernel
theorem d_E_count_33 : decode b_E_count 33 = .ok (.getfield 30, 3) := by decide +kernel
theorem d_E_count_36 : decode b_E_count 36 = .ok (.ireturn, 1) := by decide +kernel
theorem d_E_count_37 : decode b_E_count 37 = .ok (.aload_n 0, 1) := by decide +kernel
theorem d_E_count_38 : decode b_E_count 38 = .ok (.getfield 10, 3) := by decide +kernel
theorem d_E_count_41 : decode b_E_count 41 = .ok (.invokevirtual 202, 3) := by decide +kernel
theorem d_E_count_44 : decode b_E_count 44 = .ok (.ireturn, 1) := by decide +kernel
theorem d_E_count_45 : decode b_E_count 45 = .ok (.aload_n 0, 1) := by decide +kernel
theorem d_E_count_46 : decode b_E_count 46 = .ok (.getfield 34, 3) := by decide +kernel
theorem d_E_count_49 : decode b_E_count 49 = .ok (.ireturn, 1) := by decide +kernel
theorem d_E_count_50 : decode b_E_count 50 = .ok (.aload_n 0, 1) := by decide +kernel
theorem d_E_count_51 : decode b_E_count 51 = .ok (.getfield 19, 3) := by decide +kernel
theorem d_E_count_54 : decode b_E_count 54 = .ok (.invokevirtual 206, 3) := by decide +kernel
theorem d_E_count_57 : decode b_E_count 57 = .ok (.ireturn, 1) := by decide +kernel
theorem d_E_count_58 : decode b_E_count 58 = .ok (.new 191, 3) := by decide +kernel
theorem d_E_count_61 : decode b_E_count 61 = .ok (.dup, 1) := by decide +kernel
theorem d_E_count_62 : decode b_E_count 62 = .ok (.ldc 193, 2) := by decide +kernel
theorem d_E_count_64 : decode b_E_count 64 = .ok (.invokespecial 195, 3) := by decide +kernel
theorem d_E_count_67 : decode b_E_count 67 = .ok (.athrow, 1) := by decide +kernel
theorem lk_E_202 : Cond.methodLink "EntryRows" 202 y_P_countInside ∈ er_tbl ∨ ∃ host, Cond.methodLinkNest "EntryRows" 202 y_P_countInside host ∈ er_tbl := Or.inr ⟨"EntryRows", er_mt (i := 511) (by decide +kernel) rfl⟩
theorem lk_E_206 : Cond.methodLink "EntryRows" 206 y_B_countOpen ∈ er_tbl ∨ ∃ host, Cond.methodLinkNest "EntryRows" 206 y_B_countOpen host ∈ er_tbl := Or.inr ⟨"EntryRows", er_mt (i := 516) (by decide +kernel) rfl⟩
theorem th_E_requireRange_10 {p : Program} {l : Launch} {e : Env} {s : State} {m : MethodId} {args : Array Value} {below : List Frame} {meth : Method} {c : Code} {G : er_G} {σ : er_S} {lv : List (Option Value)} (B : er_B p s m c meth b_E_requireRange "EntryRows" G (none) 3 0 21) (hl : l.admits e ∧ l.stackTraces = false) (hml : 3 = lv.length := by rfl) :
    er_J p l e { frames := 6, cells := 1, slots := 6, locals := 83 } s m args below meth c G (er_A G s.heap.size) s.heap (er_fin below G s 1 6 (.inr 1, σ)) 0 0 σ 10 lv [] :=
  ej_throw B.1 hl.2 1 (text := "a number outside its range") (names := ["java/lang/RuntimeException", "java/lang/Exception"]) (by decide) (by decide) (er_mt (i := 145) (by decide +kernel) rfl) (er_mt (i := 9) (by decide +kernel) rfl) (List.mem_of_getElem? (i := 0) rfl) at_E_218 (B.2.2.2.1.trans hml) d_E_requireRange_10 d_E_requireRange_13 d_E_requireRange_14 d_E_requireRange_16 d_E_requireRange_19 (B.2.2.2.2.2 _) (by decide) (by decide) (by decide) (by decide) B.2.2.1
theorem th_E_board_31 {p : Program} {l : Launch} {e : Env} {s : State} {m : MethodId} {args : Array Value} {below : List Frame} {meth : Method} {c : Code} {G : er_G} {σ : er_S} {lv : List (Option Value)} (B : er_B p s m c meth b_E_board "EntryRows" G (some .int) 4 0 21) (hl : l.admits e ∧ l.stackTraces = false) (hml : 4 = lv.length := by rfl) :
    er_J p l e { frames := 7, cells := 1, slots := 6, locals := 105 } s m args below meth c G (er_A G s.heap.size) s.heap (er_fin below G s 1 6 (.inr 3, σ)) 0 0 σ 31 lv [] :=
  ej_throw B.1 hl.2 3 (text := "there are as many boards as may be") (names := ["java/lang/RuntimeException", "java/lang/Exception"]) (by decide) (by decide) (er_mt (i := 218) (by decide +kernel) rfl) (er_mt (i := 10) (by decide +kernel) rfl) (List.mem_of_getElem? (i := 1) rfl) at_E_58 (B.2.2.2.1.trans hml) d_E_board_31 d_E_board_34 d_E_board_35 d_E_board_37 d_E_board_40 (B.2.2.2.2.2 _) (by decide) (by decide) (by decide) (by decide) B.2.2.1
theorem th_E_requireKnown_4 {p : Program} {l : Launch} {e : Env} {s : State} {m : MethodId} {args : Array Value} {below : List Frame} {meth : Method} {c : Code} {G : er_G} {σ : er_S} {lv : List (Option Value)} (B : er_B p s m c meth b_E_requireKnown "EntryRows" G (none) 1 0 21) (hl : l.admits e ∧ l.stackTraces = false) (hml : 1 = lv.length := by rfl) :
    er_J p l e { frames := 6, cells := 1, slots := 6, locals := 83 } s m args below meth c G (er_A G s.heap.size) s.heap (er_fin below G s 1 6 (.inr 0, σ)) 0 0 σ 4 lv [] :=
  ej_throw B.1 hl.2 0 (text := "an unknown number") (names := ["java/lang/RuntimeException", "java/lang/Exception"]) (by decide) (by decide) (er_mt (i := 258) (by decide +kernel) rfl) (er_mt (i := 11) (by decide +kernel) rfl) (List.mem_of_getElem? (i := 2) rfl) at_E_195 (B.2.2.2.1.trans hml) d_E_requireKnown_4 d_E_requireKnown_7 d_E_requireKnown_8 d_E_requireKnown_10 d_E_requireKnown_13 (B.2.2.2.2.2 _) (by decide) (by decide) (by decide) (by decide) B.2.2.1
theorem th_E_requireState_4 {p : Program} {l : Launch} {e : Env} {s : State} {m : MethodId} {args : Array Value} {below : List Frame} {meth : Method} {c : Code} {G : er_G} {σ : er_S} {lv : List (Option Value)} (B : er_B p s m c meth b_E_requireState "EntryRows" G (none) 1 0 21) (hl : l.admits e ∧ l.stackTraces = false) (hml : 1 = lv.length := by rfl) :
    er_J p l e { frames := 6, cells := 1, slots := 6, locals := 83 } s m args below meth c G (er_A G s.heap.size) s.heap (er_fin below G s 1 6 (.inr 2, σ)) 0 0 σ 4 lv [] :=
  ej_throw B.1 hl.2 2 (text := "not in this state") (names := ["java/lang/RuntimeException", "java/lang/Exception"]) (by decide) (by decide) (er_mt (i := 287) (by decide +kernel) rfl) (er_mt (i := 12) (by decide +kernel) rfl) (List.mem_of_getElem? (i := 3) rfl) at_E_226 (B.2.2.2.1.trans hml) d_E_requireState_4 d_E_requireState_7 d_E_requireState_8 d_E_requireState_10 d_E_requireState_13 (B.2.2.2.2.2 _) (by decide) (by decide) (by decide) (by decide) B.2.2.1
theorem th_E_member_59 {p : Program} {l : Launch} {e : Env} {s : State} {m : MethodId} {args : Array Value} {below : List Frame} {meth : Method} {c : Code} {G : er_G} {σ : er_S} {lv : List (Option Value)} (B : er_B p s m c meth b_E_member "EntryRows" G (some .int) 4 0 21) (hl : l.admits e ∧ l.stackTraces = false) (hml : 4 = lv.length := by rfl) :
    er_J p l e { frames := 8, cells := 1, slots := 6, locals := 124 } s m args below meth c G (er_A G s.heap.size) s.heap (er_fin below G s 1 6 (.inr 3, σ)) 0 0 σ 59 lv [] :=
  ej_throw B.1 hl.2 3 (text := "the team has as many members as may be") (names := ["java/lang/RuntimeException", "java/lang/Exception"]) (by decide) (by decide) (er_mt (i := 218) (by decide +kernel) rfl) (er_mt (i := 10) (by decide +kernel) rfl) (List.mem_of_getElem? (i := 4) rfl) at_E_58 (B.2.2.2.1.trans hml) d_E_member_59 d_E_member_62 d_E_member_63 d_E_member_65 d_E_member_68 (B.2.2.2.2.2 _) (by decide) (by decide) (by decide) (by decide) B.2.2.1
theorem th_E_person_160 {p : Program} {l : Launch} {e : Env} {s : State} {m : MethodId} {args : Array Value} {below : List Frame} {meth : Method} {c : Code} {G : er_G} {σ : er_S} {lv : List (Option Value)} (B : er_B p s m c meth b_E_person "EntryRows" G (some .int) 3 0 21) (hl : l.admits e ∧ l.stackTraces = false) (hml : 3 = lv.length := by rfl) :
    er_J p l e { frames := 8, cells := 1, slots := 6, locals := 123 } s m args below meth c G (er_A G s.heap.size) s.heap (er_fin below G s 1 6 (.inr 0, σ)) 0 0 σ 160 lv [] :=
  ej_throw B.1 hl.2 0 (text := "no such what") (names := ["java/lang/RuntimeException", "java/lang/Exception"]) (by decide) (by decide) (er_mt (i := 258) (by decide +kernel) rfl) (er_mt (i := 11) (by decide +kernel) rfl) (List.mem_of_getElem? (i := 5) rfl) at_E_195 (B.2.2.2.1.trans hml) d_E_person_160 d_E_person_163 d_E_person_164 d_E_person_166 d_E_person_169 (B.2.2.2.2.2 _) (by decide) (by decide) (by decide) (by decide) B.2.2.1
theorem th_E_boardAt_90 {p : Program} {l : Launch} {e : Env} {s : State} {m : MethodId} {args : Array Value} {below : List Frame} {meth : Method} {c : Code} {G : er_G} {σ : er_S} {lv : List (Option Value)} (B : er_B p s m c meth b_E_boardAt "EntryRows" G (some .int) 3 0 21) (hl : l.admits e ∧ l.stackTraces = false) (hml : 3 = lv.length := by rfl) :
    er_J p l e { frames := 8, cells := 1, slots := 6, locals := 124 } s m args below meth c G (er_A G s.heap.size) s.heap (er_fin below G s 1 6 (.inr 0, σ)) 0 0 σ 90 lv [] :=
  ej_throw B.1 hl.2 0 (text := "no such what") (names := ["java/lang/RuntimeException", "java/lang/Exception"]) (by decide) (by decide) (er_mt (i := 258) (by decide +kernel) rfl) (er_mt (i := 11) (by decide +kernel) rfl) (List.mem_of_getElem? (i := 5) rfl) at_E_195 (B.2.2.2.1.trans hml) d_E_boardAt_90 d_E_boardAt_93 d_E_boardAt_94 d_E_boardAt_96 d_E_boardAt_99 (B.2.2.2.2.2 _) (by decide) (by decide) (by decide) (by decide) B.2.2.1
theorem th_E_count_58 {p : Program} {l : Launch} {e : Env} {s : State} {m : MethodId} {args : Array Value} {below : List Frame} {meth : Method} {c : Code} {G : er_G} {σ : er_S} {lv : List (Option Value)} (B : er_B p s m c meth b_E_count "EntryRows" G (some .int) 2 0 21) (hl : l.admits e ∧ l.stackTraces = false) (hml : 2 = lv.length := by rfl) :
    er_J p l e { frames := 6, cells := 1, slots := 6, locals := 83 } s m args below meth c G (er_A G s.heap.size) s.heap (er_fin below G s 1 6 (.inr 0, σ)) 0 0 σ 58 lv [] :=
  ej_throw B.1 hl.2 0 (text := "no such what") (names := ["java/lang/RuntimeException", "java/lang/Exception"]) (by decide) (by decide) (er_mt (i := 258) (by decide +kernel) rfl) (er_mt (i := 11) (by decide +kernel) rfl) (List.mem_of_getElem? (i := 5) rfl) at_E_195 (B.2.2.2.1.trans hml) d_E_count_58 d_E_count_61 d_E_count_62 d_E_count_64 d_E_count_67 (B.2.2.2.2.2 _) (by decide) (by decide) (by decide) (by decide) B.2.2.1
end
section
def ef_J_min_10 (t0 : Int32) (σ : er_S) : Option Int32 := some (t0)
def ef_J_min (x0 x1 : Int32) (σ : er_S) : Option Int32 := if x1 < x0 then ef_J_min_10 x1 σ else ef_J_min_10 x0 σ
def ef_E_requireRange_10 (σ : er_S) : Option ((Unit ⊕ Nat) × er_S) := some (.inr 1, σ)
def ef_E_requireRange (x0 x1 x2 : Int32) (σ : er_S) : Option ((Unit ⊕ Nat) × er_S) := if x0 < x1 then ef_E_requireRange_10 σ else if x0 ≤ x2 then some (.inl (), σ) else ef_E_requireRange_10 σ
def ef_B_hasRoom_14 (t0 : Int32) (σ : er_S) : Option Int32 := er_gd (er_isb t0) (some (t0))
def ef_B_hasRoom (σ : er_S) : Option Int32 := if 8 ≤ (σ 2 5) then ef_B_hasRoom_14 0 σ else ef_B_hasRoom_14 1 σ
def ef_B_make (x1 x2 x3 : Int32) (σ : er_S) : Option (Int32 × er_S) := er_gd (er_inb (σ 2 5) 8) (er_gd (er_isb 1) (er_gd (er_inb (σ 2 5) 8) (er_gd (er_inb (σ 2 5) 8) (er_gd (er_inb (σ 2 5) 8) (some (σ 2 5, er_up (er_up (er_up (er_up (er_up σ 16 (er_ix (σ 2 5)) 1) 17 (er_ix (σ 2 5)) x1) 18 (er_ix (σ 2 5)) x2) 19 (er_ix (σ 2 5)) x3) 2 5 (((er_up (er_up (er_up (er_up σ 16 (er_ix (σ 2 5)) 1) 17 (er_ix (σ 2 5)) x1) 18 (er_ix (σ 2 5)) x2) 19 (er_ix (σ 2 5)) x3) 2 5) + 1)))))))
def ef_E_board (x1 x2 x3 : Int32) (σ : er_S) : Option ((Int32 ⊕ Nat) × er_S) := er_tb (ef_E_requireRange x1 1 6 σ) (fun _ g3 => er_tb (ef_E_requireRange x2 1 10000 g3) (fun _ g6 => er_tb (ef_E_requireRange x3 0 3 g6) (fun _ g9 => er_bd (ef_B_hasRoom g9) (fun v10 => if v10 = 0 then some (.inr 3, g9) else er_bw (ef_B_make x1 x2 x3 g9) (fun v13 g15 => some (.inl (v13), g15))))))
def ef_B_has_17 (t0 : Int32) (σ : er_S) : Option Int32 := er_gd (er_isb t0) (some (t0))
def ef_B_has_16 (σ : er_S) : Option Int32 := ef_B_has_17 0 σ
def ef_B_has (x1 : Int32) (σ : er_S) : Option Int32 := if x1 < 0 then ef_B_has_16 σ else if (σ 2 5) ≤ x1 then ef_B_has_16 σ else ef_B_has_17 1 σ
def ef_E_requireKnown (x0 : Int32) (σ : er_S) : Option ((Unit ⊕ Nat) × er_S) := if x0 = 0 then some (.inr 0, σ) else some (.inl (), σ)
def ef_E_requireBoard (x1 : Int32) (σ : er_S) : Option ((Unit ⊕ Nat) × er_S) := er_bd (ef_B_has x1 σ) (fun v1 => er_tb (ef_E_requireKnown v1 σ) (fun _ g5 => some (.inl (), g5)))
def ef_E_isPerson_15 (t0 : Int32) (σ : er_S) : Option Int32 := er_gd (er_isb t0) (some (t0))
def ef_E_isPerson_14 (σ : er_S) : Option Int32 := ef_E_isPerson_15 0 σ
def ef_E_isPerson (x0 : Int32) (σ : er_S) : Option Int32 := if x0 < 0 then ef_E_isPerson_14 σ else if 40 ≤ x0 then ef_E_isPerson_14 σ else ef_E_isPerson_15 1 σ
def ef_E_requirePerson (x0 : Int32) (σ : er_S) : Option ((Unit ⊕ Nat) × er_S) := er_bd (ef_E_isPerson x0 σ) (fun v1 => er_tb (ef_E_requireKnown v1 σ) (fun _ g5 => some (.inl (), g5)))
def ef_E_requireState (x0 : Int32) (σ : er_S) : Option ((Unit ⊕ Nat) × er_S) := if x0 = 0 then some (.inr 2, σ) else some (.inl (), σ)
def ef_E_requireOpen (x1 : Int32) (σ : er_S) : Option ((Unit ⊕ Nat) × er_S) := er_gd (er_inb x1 8) (er_tb (ef_E_requireState (σ 16 (er_ix x1)) σ) (fun _ g4 => some (.inl (), g4)))
def ef_P_isInside_15 (t0 : Int32) (σ : er_S) : Option Int32 := er_gd (er_isb t0) (some (t0))
def ef_P_isInside (x1 : Int32) (σ : er_S) : Option Int32 := er_gd (er_inb x1 40) (if (σ 5 (er_ix x1)) = (-1) then ef_P_isInside_15 0 σ else ef_P_isInside_15 1 σ)
def ef_E_requireOutside_16 (t0 : Int32) (σ : er_S) : Option ((Unit ⊕ Nat) × er_S) := er_tb (ef_E_requireState t0 σ) (fun _ g6 => some (.inl (), g6))
def ef_E_requireOutside (x1 : Int32) (σ : er_S) : Option ((Unit ⊕ Nat) × er_S) := er_bd (ef_P_isInside x1 σ) (fun v1 => if v1 = 0 then ef_E_requireOutside_16 1 σ else ef_E_requireOutside_16 0 σ)
def ef_E_dropKeeper_27 (x1 : Int32) (σ : er_S) : Option (Unit × er_S) := er_gd (er_inb x1 8) (some ((), er_up σ 20 (er_ix x1) (-1)))
def ef_E_dropKeeper (x1 : Int32) (σ : er_S) : Option (Unit × er_S) := er_gd (er_inb x1 8) (er_bd (ef_E_isPerson (σ 20 (er_ix x1)) σ) (fun v2 => if v2 = 0 then ef_E_dropKeeper_27 x1 σ else er_gd (er_inb (σ 20 (er_ix x1)) 40) (ef_E_dropKeeper_27 x1 (er_up σ 14 (er_ix (σ 20 (er_ix x1))) (-1)))))
def ef_E_keep_37 (x1 x2 t0 : Int32) (σ : er_S) : Option ((Unit ⊕ Nat) × er_S) := er_tb (ef_E_requireState t0 σ) (fun _ g17 => er_bw (ef_E_dropKeeper x1 g17) (fun _ g20 => er_gd (er_inb x1 8) (er_gd (er_inb x2 40) (some (.inl (), er_up (er_up g20 20 (er_ix x1) x2) 14 (er_ix x2) x1)))))
def ef_E_keep (x1 x2 : Int32) (σ : er_S) : Option ((Unit ⊕ Nat) × er_S) := er_tb (ef_E_requireBoard x1 σ) (fun _ g3 => er_tb (ef_E_requirePerson x2 g3) (fun _ g6 => er_tb (ef_E_requireOpen x1 g6) (fun _ g9 => er_tb (ef_E_requireOutside x2 g9) (fun _ g12 => er_gd (er_inb x2 40) (if (g12 14 (er_ix x2)) = (-1) then ef_E_keep_37 x1 x2 1 g12 else ef_E_keep_37 x1 x2 0 g12)))))
def ef_E_right (x1 x2 : Int32) (σ : er_S) : Option ((Unit ⊕ Nat) × er_S) := er_tb (ef_E_requirePerson x1 σ) (fun _ g3 => er_gd (er_inb x1 40) (er_gd (er_isb x2) (some (.inl (), er_up g3 15 (er_ix x1) x2))))
def ef_E_rest (x1 : Int32) (σ : er_S) : Option ((Unit ⊕ Nat) × er_S) := er_tb (ef_E_requireRange x1 0 10000 σ) (fun _ g3 => some (.inl (), er_up g3 0 6 x1))
def ef_E_isPlace_15 (t0 : Int32) (σ : er_S) : Option Int32 := er_gd (er_isb t0) (some (t0))
def ef_E_isPlace_14 (σ : er_S) : Option Int32 := ef_E_isPlace_15 0 σ
def ef_E_isPlace (x0 : Int32) (σ : er_S) : Option Int32 := if x0 < 0 then ef_E_isPlace_14 σ else if 6 ≤ x0 then ef_E_isPlace_14 σ else ef_E_isPlace_15 1 σ
def ef_E_heat (x1 x2 : Int32) (σ : er_S) : Option ((Unit ⊕ Nat) × er_S) := er_bd (ef_E_isPlace x1 σ) (fun v1 => er_tb (ef_E_requireKnown v1 σ) (fun _ g5 => er_tb (ef_E_requireRange x2 0 100 g5) (fun _ g8 => er_gd (er_inb x1 6) (some (.inl (), er_up g8 4 (er_ix x1) x2)))))
def ef_E_requireTeam_15 (t0 : Int32) (σ : er_S) : Option ((Unit ⊕ Nat) × er_S) := er_tb (ef_E_requireKnown t0 σ) (fun _ g4 => some (.inl (), g4))
def ef_E_requireTeam_14 (σ : er_S) : Option ((Unit ⊕ Nat) × er_S) := ef_E_requireTeam_15 0 σ
def ef_E_requireTeam (x0 : Int32) (σ : er_S) : Option ((Unit ⊕ Nat) × er_S) := if x0 < 0 then ef_E_requireTeam_14 σ else if 16 ≤ x0 then ef_E_requireTeam_14 σ else ef_E_requireTeam_15 1 σ
def ef_P_sizeOfTeam_4 : Nat → Int32 → Int32 → Int32 → er_S → Option Int32
  | 0, _, _, _, _ => none
  | n + 1, x1, x2, x3, σ => if 40 ≤ x3 then some (x2) else er_gd (er_inb x3 40) (if (σ 13 (er_ix x3)) = x1 then ef_P_sizeOfTeam_4 n x1 (x2 + 1) (x3 + 1) σ else ef_P_sizeOfTeam_4 n x1 x2 (x3 + 1) σ)
def ef_P_sizeOfTeam (x1 : Int32) (σ : er_S) : Option Int32 := ef_P_sizeOfTeam_4 64 x1 0 0 σ
def ef_E_member_86 (x1 t1 t2 : Int32) (σ : er_S) : Option ((Int32 ⊕ Nat) × er_S) := er_gd (er_inb t1 40) (er_bd (ef_P_sizeOfTeam x1 (er_up σ 13 (er_ix t1) t2)) (fun v19 => some (.inl (v19), er_up σ 13 (er_ix t1) t2)))
def ef_E_member_69 (x1 x2 x3 : Int32) (σ : er_S) : Option ((Int32 ⊕ Nat) × er_S) := if x3 = 0 then ef_E_member_86 x1 x2 (-1) σ else ef_E_member_86 x1 x2 x1 σ
def ef_E_member_34 (x1 x2 x3 t0 : Int32) (σ : er_S) : Option ((Int32 ⊕ Nat) × er_S) := er_tb (ef_E_requireState t0 σ) (fun _ g12 => er_tb (ef_E_requireOutside x2 g12) (fun _ g15 => if x3 = 0 then ef_E_member_69 x1 x2 x3 g15 else er_bd (ef_P_sizeOfTeam x1 g15) (fun v21 => if v21 < 6 then ef_E_member_69 x1 x2 x3 g15 else some (.inr 3, g15))))
def ef_E_member_26 (x1 x2 x3 t0 t1 : Int32) (σ : er_S) : Option ((Int32 ⊕ Nat) × er_S) := if t0 = t1 then ef_E_member_34 x1 x2 x3 1 σ else ef_E_member_34 x1 x2 x3 0 σ
def ef_E_member (x1 x2 x3 : Int32) (σ : er_S) : Option ((Int32 ⊕ Nat) × er_S) := er_tb (ef_E_requireTeam x1 σ) (fun _ g3 => er_tb (ef_E_requirePerson x2 g3) (fun _ g6 => er_gd (er_inb x2 40) (if x3 = 0 then ef_E_member_26 x1 x2 x3 (g6 13 (er_ix x2)) x1 g6 else ef_E_member_26 x1 x2 x3 (g6 13 (er_ix x2)) (-1) g6)))
def ef_P_isFree_33 (t0 : Int32) (σ : er_S) : Option Int32 := er_gd (er_isb t0) (some (t0))
def ef_P_isFree_32 (σ : er_S) : Option Int32 := ef_P_isFree_33 0 σ
def ef_P_isFree (x1 x2 : Int32) (σ : er_S) : Option Int32 := er_bd (ef_P_isInside x1 σ) (fun v1 => if v1 = 0 then er_gd (er_inb x1 40) (if x2 < (σ 10 (er_ix x1)) then ef_P_isFree_32 σ else er_gd (er_inb x1 40) (if (σ 14 (er_ix x1)) = (-1) then ef_P_isFree_33 1 σ else ef_P_isFree_32 σ)) else ef_P_isFree_32 σ)
def ef_P_isTeamReady_53 (t0 : Int32) (σ : er_S) : Option Int32 := er_gd (er_isb t0) (some (t0))
def ef_P_isTeamReady_3 : Nat → Int32 → Int32 → Int32 → Int32 → er_S → Option Int32
  | 0, _, _, _, _, _ => none
  | n + 1, x1, x2, x3, x4, σ => if 40 ≤ x4 then er_bd (ef_P_sizeOfTeam x1 σ) (fun v2 => if v2 < x2 then ef_P_isTeamReady_53 0 σ else ef_P_isTeamReady_53 1 σ) else er_gd (er_inb x4 40) (if (σ 13 (er_ix x4)) = x1 then er_bd (ef_P_isFree x4 x3 σ) (fun v8 => if v8 = 0 then er_gd (er_isb 0) (some (0)) else ef_P_isTeamReady_3 n x1 x2 x3 (x4 + 1) σ) else ef_P_isTeamReady_3 n x1 x2 x3 (x4 + 1) σ)
def ef_P_isTeamReady (x1 x2 x3 : Int32) (σ : er_S) : Option Int32 := ef_P_isTeamReady_3 64 x1 x2 x3 0 σ
def ef_E_isReady (x1 x2 : Int32) (σ : er_S) : Option Int32 := er_gd (er_inb x2 8) (er_bd (ef_P_isTeamReady x1 (σ 17 (er_ix x2)) (σ 0 4) σ) (fun v2 => er_gd (er_isb v2) (some (v2))))
def ef_E_readySafetyTeams_5 : Nat → Int32 → Int32 → Int32 → Int32 → er_S → Option Int32
  | 0, _, _, _, _, _ => none
  | n + 1, x1, x2, x3, x4, σ => if 16 ≤ x4 then some (x3) else if x4 = x2 then ef_E_readySafetyTeams_5 n x1 x2 x3 (x4 + 1) σ else er_gd (er_inb x4 16) (if (σ 3 (er_ix x4)) = x1 then er_bd (ef_E_isReady x4 x1 σ) (fun v5 => if v5 = 0 then ef_E_readySafetyTeams_5 n x1 x2 x3 (x4 + 1) σ else ef_E_readySafetyTeams_5 n x1 x2 (x3 + 1) (x4 + 1) σ) else ef_E_readySafetyTeams_5 n x1 x2 x3 (x4 + 1) σ)
def ef_E_readySafetyTeams (x1 x2 : Int32) (σ : er_S) : Option Int32 := ef_E_readySafetyTeams_5 64 x1 x2 0 0 σ
def ef_E_safety_54 (x1 t1 t2 : Int32) (σ : er_S) : Option ((Int32 ⊕ Nat) × er_S) := er_gd (er_inb t1 16) (er_bd (ef_E_readySafetyTeams x1 (-1) (er_up σ 3 (er_ix t1) t2)) (fun v18 => some (.inl (v18), er_up σ 3 (er_ix t1) t2)))
def ef_E_safety_37 (x1 x2 x3 t0 : Int32) (σ : er_S) : Option ((Int32 ⊕ Nat) × er_S) := er_tb (ef_E_requireState t0 σ) (fun _ g15 => if x3 = 0 then ef_E_safety_54 x1 x2 (-1) g15 else ef_E_safety_54 x1 x2 x1 g15)
def ef_E_safety_29 (x1 x2 x3 t0 t1 : Int32) (σ : er_S) : Option ((Int32 ⊕ Nat) × er_S) := if t0 = t1 then ef_E_safety_37 x1 x2 x3 1 σ else ef_E_safety_37 x1 x2 x3 0 σ
def ef_E_safety (x1 x2 x3 : Int32) (σ : er_S) : Option ((Int32 ⊕ Nat) × er_S) := er_tb (ef_E_requireBoard x1 σ) (fun _ g3 => er_tb (ef_E_requireTeam x2 g3) (fun _ g6 => er_tb (ef_E_requireOpen x1 g6) (fun _ g9 => er_gd (er_inb x2 16) (if x3 = 0 then ef_E_safety_29 x1 x2 x3 (g9 3 (er_ix x2)) x1 g9 else ef_E_safety_29 x1 x2 x3 (g9 3 (er_ix x2)) (-1) g9))))
def ef_E_isCovered_23 (t0 : Int32) (σ : er_S) : Option Int32 := er_gd (er_isb t0) (some (t0))
def ef_E_isCovered (x1 x2 : Int32) (σ : er_S) : Option Int32 := er_bd (ef_E_readySafetyTeams x1 x2 σ) (fun v1 => er_gd (er_inb x1 8) (if v1 < (σ 19 (er_ix x1)) then ef_E_isCovered_23 0 σ else ef_E_isCovered_23 1 σ))
def ef_E_keeperMayLetRescue_34 (t0 : Int32) (σ : er_S) : Option Int32 := er_gd (er_isb t0) (some (t0))
def ef_E_keeperMayLetRescue_33 (σ : er_S) : Option Int32 := ef_E_keeperMayLetRescue_34 0 σ
def ef_E_keeperMayLetRescue (x1 : Int32) (σ : er_S) : Option Int32 := er_gd (er_inb x1 8) (er_bd (ef_E_isPerson (σ 20 (er_ix x1)) σ) (fun v2 => if v2 = 0 then ef_E_keeperMayLetRescue_33 σ else er_gd (er_inb (σ 20 (er_ix x1)) 40) (if (σ 15 (er_ix (σ 20 (er_ix x1)))) = 0 then ef_E_keeperMayLetRescue_33 σ else ef_E_keeperMayLetRescue_34 1 σ)))
def ef_P_setEntry (x1 x2 x3 x4 x5 x6 : Int32) (σ : er_S) : Option (Unit × er_S) := er_gd (er_inb x1 40) (er_gd (er_inb x1 40) (er_gd (er_inb x1 40) (er_gd (er_inb x1 40) (er_gd (er_inb x1 40) (some ((), er_up (er_up (er_up (er_up (er_up σ 5 (er_ix x1) x2) 6 (er_ix x1) x3) 8 (er_ix x1) x4) 7 (er_ix x1) x5) 9 (er_ix x1) x6))))))
def ef_E_enter_97 : Nat → Int32 → Int32 → Int32 → Int32 → Int32 → Int32 → er_S → Option ((Int32 ⊕ Nat) × er_S)
  | 0, _, _, _, _, _, _, _ => none
  | n + 1, x1, x2, x3, x4, x6, x7, σ => if 40 ≤ x7 then some (.inl (x6), σ) else er_gd (er_inb x7 40) (if (σ 13 (er_ix x7)) = x2 then er_bw (ef_P_setEntry x7 x1 (σ 0 5) x3 x4 (σ 0 4) σ) (fun _ g37 => ef_E_enter_97 n x1 x2 x3 x4 x6 (x7 + 1) (er_up g37 0 5 ((g37 0 5) + 1))) else ef_E_enter_97 n x1 x2 x3 x4 x6 (x7 + 1) σ)
def ef_E_enter_85 (x1 x2 x3 x4 t0 : Int32) (σ : er_S) : Option ((Int32 ⊕ Nat) × er_S) := er_tb (ef_E_requireState t0 σ) (fun _ g31 => ef_E_enter_97 64 x1 x2 x3 x4 (g31 0 5) 0 g31)
def ef_E_enter_80 (x1 x2 x3 x4 : Int32) (σ : er_S) : Option ((Int32 ⊕ Nat) × er_S) := ef_E_enter_85 x1 x2 x3 x4 1 σ
def ef_E_enter_84 (x1 x2 x3 x4 : Int32) (σ : er_S) : Option ((Int32 ⊕ Nat) × er_S) := ef_E_enter_85 x1 x2 x3 x4 0 σ
def ef_E_enter_46 (x1 x2 x3 x4 x5 t0 : Int32) (σ : er_S) : Option ((Int32 ⊕ Nat) × er_S) := er_tb (ef_E_requireState t0 σ) (fun _ g20 => er_bd (ef_E_isReady x2 x1 g20) (fun v21 => er_tb (ef_E_requireState v21 g20) (fun _ g25 => er_bd (ef_E_isCovered x1 x2 g25) (fun v26 => if v26 = 0 then if x5 = 0 then ef_E_enter_84 x1 x2 x3 x4 g25 else er_bd (ef_E_keeperMayLetRescue x1 g25) (fun v40 => if v40 = 0 then ef_E_enter_84 x1 x2 x3 x4 g25 else ef_E_enter_80 x1 x2 x3 x4 g25) else ef_E_enter_80 x1 x2 x3 x4 g25))))
def ef_E_enter (x1 x2 x3 x4 x5 : Int32) (σ : er_S) : Option ((Int32 ⊕ Nat) × er_S) := er_tb (ef_E_requireBoard x1 σ) (fun _ g3 => er_tb (ef_E_requireTeam x2 g3) (fun _ g6 => er_tb (ef_E_requireRange x3 0 9 g6) (fun _ g9 => er_tb (ef_E_requireRange x4 0 5 g9) (fun _ g12 => er_tb (ef_E_requireOpen x1 g12) (fun _ g15 => er_gd (er_inb x1 8) (if (g15 20 (er_ix x1)) = (-1) then ef_E_enter_46 x1 x2 x3 x4 x5 0 g15 else ef_E_enter_46 x1 x2 x3 x4 x5 1 g15))))))
def ef_P_comeOut (x1 x2 x3 x4 : Int32) (σ : er_S) : Option (Int32 × er_S) := er_gd (er_inb x1 40) (er_gd (er_inb x1 40) (er_gd (er_inb x1 40) (er_gd (er_inb x1 40) (er_gd (er_inb x1 40) (er_gd (er_inb x1 40) (er_bw (ef_P_setEntry x1 (-1) (-1) (-1) (-1) (-1) (er_up (er_up (er_up σ 11 (er_ix x1) ((σ 11 (er_ix x1)) + (x2 - (σ 9 (er_ix x1))))) 12 (er_ix x1) (((er_up σ 11 (er_ix x1) ((σ 11 (er_ix x1)) + (x2 - (σ 9 (er_ix x1))))) 12 (er_ix x1)) + ((x2 - (σ 9 (er_ix x1))) * x3))) 10 (er_ix x1) (x2 + x4))) (fun _ g9 => some (x2 - (σ 9 (er_ix x1)), g9))))))))
def ef_E_out_57 (x2 t0 : Int32) (σ : er_S) : Option ((Int32 ⊕ Nat) × er_S) := er_bw (ef_P_comeOut x2 (σ 0 4) t0 (σ 0 6) σ) (fun v16 g18 => some (.inl (v16), g18))
def ef_E_out_27 (x2 t0 : Int32) (σ : er_S) : Option ((Int32 ⊕ Nat) × er_S) := er_tb (ef_E_requireState t0 σ) (fun _ g11 => er_gd (er_inb x2 40) (er_bd (ef_E_isPlace (g11 7 (er_ix x2)) g11) (fun v13 => if v13 = 0 then ef_E_out_57 x2 0 g11 else er_gd (er_inb (g11 7 (er_ix x2)) 6) (ef_E_out_57 x2 (g11 4 (er_ix (g11 7 (er_ix x2)))) g11))))
def ef_E_out (x1 x2 : Int32) (σ : er_S) : Option ((Int32 ⊕ Nat) × er_S) := er_tb (ef_E_requireBoard x1 σ) (fun _ g3 => er_tb (ef_E_requirePerson x2 g3) (fun _ g6 => er_gd (er_inb x2 40) (if (g6 5 (er_ix x2)) = x1 then ef_E_out_27 x2 1 g6 else ef_E_out_27 x2 0 g6)))
def ef_E_swap_48 (x1 x2 t0 : Int32) (σ : er_S) : Option ((Unit ⊕ Nat) × er_S) := er_tb (ef_E_requireState t0 σ) (fun _ g16 => er_gd (er_inb x1 40) (er_gd (er_inb x2 40) (er_gd (er_inb x1 40) (er_gd (er_inb x2 40) (some (.inl (), er_up (er_up g16 6 (er_ix x1) (g16 6 (er_ix x2))) 6 (er_ix x2) (g16 6 (er_ix x1))))))))
def ef_E_swap_35 (x1 x2 t0 : Int32) (σ : er_S) : Option ((Unit ⊕ Nat) × er_S) := er_tb (ef_E_requireState t0 σ) (fun _ g12 => if x1 = x2 then ef_E_swap_48 x1 x2 0 g12 else ef_E_swap_48 x1 x2 1 g12)
def ef_E_swap_34 (x1 x2 : Int32) (σ : er_S) : Option ((Unit ⊕ Nat) × er_S) := ef_E_swap_35 x1 x2 0 σ
def ef_E_swap (x1 x2 : Int32) (σ : er_S) : Option ((Unit ⊕ Nat) × er_S) := er_tb (ef_E_requirePerson x1 σ) (fun _ g3 => er_tb (ef_E_requirePerson x2 g3) (fun _ g6 => er_bd (ef_P_isInside x1 g6) (fun v7 => if v7 = 0 then ef_E_swap_34 x1 x2 g6 else er_bd (ef_P_isInside x2 g6) (fun v23 => if v23 = 0 then ef_E_swap_34 x1 x2 g6 else ef_E_swap_35 x1 x2 1 g6))))
def ef_P_moveAll_2 : Nat → Int32 → Int32 → Int32 → er_S → Option (Unit × er_S)
  | 0, _, _, _, _ => none
  | n + 1, x1, x2, x3, σ => if 40 ≤ x3 then some ((), σ) else er_gd (er_inb x3 40) (if (σ 5 (er_ix x3)) = x1 then er_gd (er_inb x3 40) (ef_P_moveAll_2 n x1 x2 (x3 + 1) (er_up σ 5 (er_ix x3) x2)) else ef_P_moveAll_2 n x1 x2 (x3 + 1) σ)
def ef_P_moveAll (x1 x2 : Int32) (σ : er_S) : Option (Unit × er_S) := ef_P_moveAll_2 64 x1 x2 0 σ
def ef_E_shut_17 : Nat → Int32 → Int32 → Int32 → er_S → Option (Unit × er_S)
  | 0, _, _, _, _ => none
  | n + 1, x1, x2, x3, σ => if 16 ≤ x3 then some ((), σ) else er_gd (er_inb x3 16) (if (σ 3 (er_ix x3)) = x1 then er_gd (er_inb x3 16) (ef_E_shut_17 n x1 x2 (x3 + 1) (er_up σ 3 (er_ix x3) x2)) else ef_E_shut_17 n x1 x2 (x3 + 1) σ)
def ef_E_shut (x1 x2 : Int32) (σ : er_S) : Option (Unit × er_S) := er_bw (ef_E_dropKeeper x1 σ) (fun _ g3 => er_gd (er_inb x1 8) (er_gd (er_isb 0) (ef_E_shut_17 64 x1 x2 0 (er_up g3 16 (er_ix x1) 0))))
def ef_P_countOn_4 : Nat → Int32 → Int32 → Int32 → er_S → Option Int32
  | 0, _, _, _, _ => none
  | n + 1, x1, x2, x3, σ => if 40 ≤ x3 then some (x2) else er_gd (er_inb x3 40) (if (σ 5 (er_ix x3)) = x1 then ef_P_countOn_4 n x1 (x2 + 1) (x3 + 1) σ else ef_P_countOn_4 n x1 x2 (x3 + 1) σ)
def ef_P_countOn (x1 : Int32) (σ : er_S) : Option Int32 := ef_P_countOn_4 64 x1 0 0 σ
def ef_E_join_30 (x1 x2 t0 : Int32) (σ : er_S) : Option ((Int32 ⊕ Nat) × er_S) := er_tb (ef_E_requireState t0 σ) (fun _ g16 => er_bw (ef_P_moveAll x1 x2 g16) (fun _ g19 => er_bw (ef_E_shut x1 x2 g19) (fun _ g22 => er_bd (ef_P_countOn x2 g22) (fun v23 => some (.inl (v23), g22)))))
def ef_E_join (x1 x2 : Int32) (σ : er_S) : Option ((Int32 ⊕ Nat) × er_S) := er_tb (ef_E_requireBoard x1 σ) (fun _ g3 => er_tb (ef_E_requireBoard x2 g3) (fun _ g6 => er_tb (ef_E_requireOpen x1 g6) (fun _ g9 => er_tb (ef_E_requireOpen x2 g9) (fun _ g12 => if x1 = x2 then ef_E_join_30 x1 x2 0 g12 else ef_E_join_30 x1 x2 1 g12))))
def ef_E_close_26 (x1 t0 : Int32) (σ : er_S) : Option ((Unit ⊕ Nat) × er_S) := er_tb (ef_E_requireState t0 σ) (fun _ g12 => er_bw (ef_E_shut x1 (-1) g12) (fun _ g15 => some (.inl (), g15)))
def ef_E_close (x1 : Int32) (σ : er_S) : Option ((Unit ⊕ Nat) × er_S) := er_tb (ef_E_requireBoard x1 σ) (fun _ g3 => er_tb (ef_E_requireOpen x1 g3) (fun _ g6 => er_bd (ef_P_countOn x1 g6) (fun v7 => if v7 = 0 then ef_E_close_26 x1 1 g6 else ef_E_close_26 x1 0 g6)))
def ef_E_isLateAt_49 (t0 : Int32) (σ : er_S) : Option Int32 := er_gd (er_isb t0) (some (t0))
def ef_E_isLateAt_48 (σ : er_S) : Option Int32 := ef_E_isLateAt_49 0 σ
def ef_E_isLateAt (x1 x2 : Int32) (σ : er_S) : Option Int32 := er_gd (er_inb x1 40) (er_bd (ef_B_has (σ 5 (er_ix x1)) σ) (fun v2 => if v2 = 0 then ef_E_isLateAt_48 σ else er_gd (er_inb x1 40) (er_gd (er_inb (σ 5 (er_ix x1)) 8) (if (x2 - (σ 9 (er_ix x1))) ≤ (σ 18 (er_ix (σ 5 (er_ix x1)))) then ef_E_isLateAt_48 σ else ef_E_isLateAt_49 1 σ))))
def ef_E_tick_40 : Nat → Int32 → Int32 → Int32 → er_S → Option ((Int32 ⊕ Nat) × er_S)
  | 0, _, _, _, _ => none
  | n + 1, x2, x3, x4, σ => if 40 ≤ x4 then some (.inl (x3), σ) else er_bd (ef_E_isLateAt x4 (σ 0 4) σ) (fun v8 => if v8 = 0 then ef_E_tick_40 n x2 x3 (x4 + 1) σ else er_bd (ef_E_isLateAt x4 x2 σ) (fun v11 => if v11 = 0 then ef_E_tick_40 n x2 (x3 + 1) (x4 + 1) σ else ef_E_tick_40 n x2 x3 (x4 + 1) σ))
def ef_E_tick (x1 : Int32) (σ : er_S) : Option ((Int32 ⊕ Nat) × er_S) := er_tb (ef_E_requireRange x1 1 5000 σ) (fun _ g3 => er_tb (ef_E_requireRange ((g3 0 4) + x1) 0 999999 g3) (fun _ g6 => ef_E_tick_40 64 (g6 0 4) 0 0 (er_up g6 0 4 ((g6 0 4) + x1))))
def ef_E_requireNotNegative (x0 : Int32) (σ : er_S) : Option ((Unit ⊕ Nat) × er_S) := er_tb (ef_E_requireRange x0 0 2147483647 σ) (fun _ g3 => some (.inl (), g3))
def ef_P_nextOn_9 : Nat → Int32 → Int32 → Int32 → Int32 → Int32 → er_S → Option Int32
  | 0, _, _, _, _, _, _ => none
  | n + 1, x1, x2, x3, x4, x5, σ => if 40 ≤ x5 then some (x3) else er_gd (er_inb x5 40) (if (σ 5 (er_ix x5)) = x1 then er_gd (er_inb x5 40) (if (σ 6 (er_ix x5)) ≤ x2 then ef_P_nextOn_9 n x1 x2 x3 x4 (x5 + 1) σ else er_gd (er_inb x5 40) (if x4 ≤ (σ 6 (er_ix x5)) then ef_P_nextOn_9 n x1 x2 x3 x4 (x5 + 1) σ else er_gd (er_inb x5 40) (ef_P_nextOn_9 n x1 x2 x5 (σ 6 (er_ix x5)) (x5 + 1) σ))) else ef_P_nextOn_9 n x1 x2 x3 x4 (x5 + 1) σ)
def ef_P_nextOn (x1 x2 : Int32) (σ : er_S) : Option Int32 := ef_P_nextOn_9 64 x1 x2 (-1) 2147483647 0 σ
def ef_E_on_70 (x4 : Int32) (σ : er_S) : Option ((Int32 ⊕ Nat) × er_S) := some (.inl (x4), σ)
def ef_E_on_30 : Nat → Int32 → Int32 → Int32 → Int32 → er_S → Option ((Int32 ⊕ Nat) × er_S)
  | 0, _, _, _, _, _ => none
  | n + 1, x1, x3, x4, x5, σ => if x3 ≤ x5 then ef_E_on_70 x4 σ else er_bd (ef_E_isPerson x4 σ) (fun v12 => if v12 = 0 then ef_E_on_70 x4 σ else er_gd (er_inb x4 40) (er_bd (ef_P_nextOn x1 (σ 6 (er_ix x4)) σ) (fun v16 => ef_E_on_30 n x1 x3 v16 (x5 + 1) σ)))
def ef_E_on (x1 x2 : Int32) (σ : er_S) : Option ((Int32 ⊕ Nat) × er_S) := er_tb (ef_E_requireBoard x1 σ) (fun _ g3 => er_tb (ef_E_requireNotNegative x2 g3) (fun _ g6 => er_bd (ef_J_min x2 40 g6) (fun v7 => er_bd (ef_P_nextOn x1 (-1) g6) (fun v9 => ef_E_on_30 64 x1 v7 v9 0 g6))))
def ef_E_late_8 : Nat → Int32 → Int32 → Int32 → er_S → Option ((Int32 ⊕ Nat) × er_S)
  | 0, _, _, _, _ => none
  | n + 1, x1, x2, x3, σ => if 40 ≤ x3 then some (.inl ((-1)), σ) else er_bd (ef_E_isLateAt x3 (σ 0 4) σ) (fun v5 => if v5 = 0 then ef_E_late_8 n x1 x2 (x3 + 1) σ else if x2 = x1 then some (.inl (x3), σ) else ef_E_late_8 n x1 (x2 + 1) (x3 + 1) σ)
def ef_E_late (x1 : Int32) (σ : er_S) : Option ((Int32 ⊕ Nat) × er_S) := er_tb (ef_E_requireNotNegative x1 σ) (fun _ g3 => ef_E_late_8 64 x1 0 0 g3)
def ef_E_person (x1 x2 : Int32) (σ : er_S) : Option ((Int32 ⊕ Nat) × er_S) := er_tb (ef_E_requirePerson x1 σ) (fun _ g3 => if x2 = 0 then er_gd (er_inb x1 40) (some (.inl (g3 5 (er_ix x1)), g3)) else if x2 = 1 then er_gd (er_inb x1 40) (some (.inl (g3 6 (er_ix x1)), g3)) else if x2 = 2 then er_gd (er_inb x1 40) (some (.inl (g3 7 (er_ix x1)), g3)) else if x2 = 3 then er_gd (er_inb x1 40) (some (.inl (g3 8 (er_ix x1)), g3)) else if x2 = 4 then er_gd (er_inb x1 40) (some (.inl (g3 9 (er_ix x1)), g3)) else if x2 = 5 then er_gd (er_inb x1 40) (some (.inl (g3 10 (er_ix x1)), g3)) else if x2 = 6 then er_gd (er_inb x1 40) (some (.inl (g3 11 (er_ix x1)), g3)) else if x2 = 7 then er_gd (er_inb x1 40) (some (.inl (g3 12 (er_ix x1)), g3)) else if x2 = 8 then er_gd (er_inb x1 40) (some (.inl (g3 13 (er_ix x1)), g3)) else if x2 = 9 then er_gd (er_inb x1 40) (some (.inl (g3 14 (er_ix x1)), g3)) else some (.inr 0, g3))
def ef_I_rotateLeft (x0 x1 : Int32) (σ : er_S) : Option Int32 := some ((x0 <<< (x1 &&& 31)) ||| ((x0.toUInt32 >>> (Int32.toUInt32 (-x1) &&& Int32.toUInt32 31)).toInt32))
def ef_E_sumOf_83 (x2 : Int32) (σ : er_S) : Option Int32 := some (x2)
def ef_E_sumOf_15 : Nat → Int32 → Int32 → Int32 → Int32 → er_S → Option Int32
  | 0, _, _, _, _, _ => none
  | n + 1, x1, x2, x3, x4, σ => if 40 ≤ x4 then ef_E_sumOf_83 x2 σ else er_bd (ef_E_isPerson x3 σ) (fun v4 => if v4 = 0 then ef_E_sumOf_83 x2 σ else er_gd (er_inb x3 40) (er_bd (ef_I_rotateLeft (x2 ^^^ ((1000 * x3) + ((σ 6 (er_ix x3)) - (σ 6 (er_ix x3)) / 1000 * 1000))) 5 σ) (fun v8 => er_bd (ef_P_nextOn x1 (σ 6 (er_ix x3)) σ) (fun v10 => ef_E_sumOf_15 n x1 (v8 * (-2048144789)) v10 (x4 + 1) σ))))
def ef_E_sumOf (x1 : Int32) (σ : er_S) : Option Int32 := er_bd (ef_P_nextOn x1 (-1) σ) (fun v1 => ef_E_sumOf_15 64 x1 0 v1 0 σ)
def ef_E_boardAt_57 (t0 : Int32) (σ : er_S) : Option ((Int32 ⊕ Nat) × er_S) := some (.inl (t0), σ)
def ef_E_boardAt (x1 x2 : Int32) (σ : er_S) : Option ((Int32 ⊕ Nat) × er_S) := er_tb (ef_E_requireBoard x1 σ) (fun _ g3 => if x2 = 0 then er_gd (er_inb x1 8) (if (g3 16 (er_ix x1)) = 0 then ef_E_boardAt_57 0 g3 else ef_E_boardAt_57 1 g3) else if x2 = 1 then er_gd (er_inb x1 8) (some (.inl (g3 20 (er_ix x1)), g3)) else if x2 = 2 then er_bd (ef_P_countOn x1 g3) (fun v10 => some (.inl (v10), g3)) else if x2 = 3 then er_bd (ef_E_readySafetyTeams x1 (-1) g3) (fun v13 => some (.inl (v13), g3)) else if x2 = 4 then er_bd (ef_E_sumOf x1 g3) (fun v16 => some (.inl (v16), g3)) else some (.inr 0, g3))
def ef_P_countInside (σ : er_S) : Option Int32 := er_bd (ef_P_countOn (-1) σ) (fun v1 => some (40 - v1))
def ef_B_countOpen_4 : Nat → Int32 → Int32 → er_S → Option Int32
  | 0, _, _, _ => none
  | n + 1, x1, x2, σ => if (σ 2 5) ≤ x2 then some (x1) else er_gd (er_inb x2 8) (if (σ 16 (er_ix x2)) = 0 then ef_B_countOpen_4 n x1 (x2 + 1) σ else ef_B_countOpen_4 n (x1 + 1) (x2 + 1) σ)
def ef_B_countOpen (σ : er_S) : Option Int32 := ef_B_countOpen_4 64 0 0 σ
def ef_E_count (x1 : Int32) (σ : er_S) : Option ((Int32 ⊕ Nat) × er_S) := if x1 = 0 then some (.inl (σ 0 4), σ) else if x1 = 1 then er_bd (ef_P_countInside σ) (fun v3 => some (.inl (v3), σ)) else if x1 = 2 then some (.inl (σ 0 5), σ) else if x1 = 3 then er_bd (ef_B_countOpen σ) (fun v7 => some (.inl (v7), σ)) else some (.inr 0, σ)
end
section
set_option maxRecDepth 100000 in
set_option maxHeartbeats 4000000 in
theorem ew_J_min_10 {p : Program} {l : Launch} {e : Env} {s : State} {m : MethodId} {args : Array Value} {below : List Frame} {meth : Method} {c : Code} {G : er_G} (B : er_B p s m c meth b_J_min "java/lang/Math" G (some .int) 2 0 0) (t0 : Int32) (σ : er_S) (r : Int32) (h : ef_J_min_10 t0 σ = some r) : er_J p l e { frames := 0, cells := 0, slots := 0, locals := 0 } s m args below meth c G (er_A G s.heap.size) s.heap (er_fin below G s 0 0 (.inl (some (.int r)), σ)) 0 0 σ 10 [none, none] [.int t0] := by
  unfold ef_J_min_10 at h
  cases h
  exact ej_iret B.1 B.2.1 B.2.2.1 (Nat.zero_le _) (Nat.zero_le _) d_J_min_10
set_option maxRecDepth 100000 in
set_option maxHeartbeats 4000000 in
theorem ec_J_min {l : Launch} {G : er_G} (x0 x1 : Int32) (σ : er_S) (r : Int32) (h : ef_J_min x0 x1 σ = some r) : er_Con l y_J_min w_J_min 0 0 0 0 G [.int x0, .int x1] σ ((.inl (some (.int r)), σ)) := by
  refine er_ofJ (ret := some .int) (cc := b_J_min) (maxL := 2) (lv0 := [some (.int x0), some (.int x1)]) (hh := []) (by decide +kernel) rfl (Or.inl rfl) (by intro v hv; simp only [List.mem_cons, List.not_mem_nil, or_false] at hv; rcases hv with rfl | rfl <;> rfl) (Nat.le_of_ble_eq_true rfl) ?_
  intro p e s m args below meth c hadm C hr hlk hml hw hnm hm hcd
  have B : er_B p s m c meth b_J_min "java/lang/Math" G (some .int) 2 0 0 := ⟨C, hr, hlk, hml, er_none G, er_noh hw hnm hm hcd⟩
  unfold ef_J_min at h
  refine ej_iload_n B.1 d_J_min_0 rfl ?_
  refine ej_iload_n B.1 d_J_min_1 rfl ?_
  refine ej_icmp_gt B.1 (tgt := 9) d_J_min_2 (by decide) (fun q1 => ?_) (fun q1 => ?_)
  · replace h := er_it h q1
    refine ej_iload_n B.1 d_J_min_9 rfl ?_
    exact ej_le (lv' := [none, none]) trivial (ew_J_min_10 B x1 σ _ h)
  · replace h := er_if h q1
    refine ej_iload_n B.1 d_J_min_5 rfl ?_
    refine ej_goto B.1 (tgt := 10) d_J_min_6 (by decide) ?_
    exact ej_le (lv' := [none, none]) trivial (ew_J_min_10 B x0 σ _ h)
set_option maxRecDepth 100000 in
set_option maxHeartbeats 4000000 in
theorem ew_E_requireRange_10 {p : Program} {l : Launch} {e : Env} {s : State} {m : MethodId} {args : Array Value} {below : List Frame} {meth : Method} {c : Code} {G : er_G} (hl : l.admits e ∧ l.stackTraces = false) (B : er_B p s m c meth b_E_requireRange "EntryRows" G (none) 3 0 21) (σ : er_S) (r : (Unit ⊕ Nat) × er_S) (h : ef_E_requireRange_10  σ = some r) : er_J p l e { frames := 6, cells := er_nc r.1, slots := er_ns r.1, locals := 83 } s m args below meth c G (er_A G s.heap.size) s.heap (er_fin below G s (er_nc r.1) (er_ns r.1) (er_cvu r)) 0 0 σ 10 [none, none, none] [] := by
  unfold ef_E_requireRange_10 at h
  cases h
  exact th_E_requireRange_10 B hl
set_option maxRecDepth 100000 in
set_option maxHeartbeats 4000000 in
theorem ec_E_requireRange {l : Launch} {G : er_G} (hl : l.stackTraces = false) (hE : er_Pr G 0 21) (x0 x1 x2 : Int32) (σ : er_S) (r : (Unit ⊕ Nat) × er_S) (h : ef_E_requireRange x0 x1 x2 σ = some r) : er_Con l y_E_requireRange w_E_requireRange 6 83 (er_nc r.1) (er_ns r.1) G [.int x0, .int x1, .int x2] σ (er_cvu r) := by
  refine er_ofJ (ret := none) (cc := b_E_requireRange) (maxL := 3) (lv0 := [some (.int x0), some (.int x1), some (.int x2)]) (hh := []) (by decide +kernel) rfl (Or.inl rfl) (by intro v hv; simp only [List.mem_cons, List.not_mem_nil, or_false] at hv; rcases hv with rfl | rfl | rfl <;> rfl) (Nat.le_of_ble_eq_true rfl) ?_
  intro p e s m args below meth c hadm C hr hlk hml hw hnm hm hcd
  have B : er_B p s m c meth b_E_requireRange "EntryRows" G (none) 3 0 21 := ⟨C, hr, hlk, hml, hE, er_noh hw hnm hm hcd⟩
  have hl := And.intro hadm hl
  unfold ef_E_requireRange at h
  refine ej_iload_n B.1 d_E_requireRange_0 rfl ?_
  refine ej_iload_n B.1 d_E_requireRange_1 rfl ?_
  refine ej_icmp_lt B.1 (tgt := 10) d_E_requireRange_2 (by decide) (fun q1 => ?_) (fun q1 => ?_)
  · replace h := er_it h q1
    exact ej_le (lv' := [none, none, none]) trivial (ew_E_requireRange_10 hl B σ _ h)
  · replace h := er_if h q1
    refine ej_iload_n B.1 d_E_requireRange_5 rfl ?_
    refine ej_iload_n B.1 d_E_requireRange_6 rfl ?_
    refine ej_icmp_le B.1 (tgt := 20) d_E_requireRange_7 (by decide) (fun q2 => ?_) (fun q2 => ?_)
    · replace h := er_it h q2
      cases h
      exact ej_vret B.1 B.2.1 B.2.2.1 (Nat.zero_le _) (Nat.zero_le _) d_E_requireRange_20
    · replace h := er_if h q2
      exact ej_le (lv' := [none, none, none]) trivial (ew_E_requireRange_10 hl B σ _ h)
set_option maxRecDepth 100000 in
set_option maxHeartbeats 4000000 in
theorem ew_B_hasRoom_14 {p : Program} {l : Launch} {e : Env} {s : State} {m : MethodId} {args : Array Value} {below : List Frame} {meth : Method} {c : Code} {G : er_G} (B : er_B p s m c meth b_B_hasRoom "EntryRows$Boards" G (some .boolean) 1 0 21) (t0 : Int32) (σ : er_S) (r : Int32) (h : ef_B_hasRoom_14 t0 σ = some r) : er_J p l e { frames := 0, cells := 0, slots := 0, locals := 0 } s m args below meth c G (er_A G s.heap.size) s.heap (er_fin below G s 0 0 (.inl (some (.int r)), σ)) 0 0 σ 14 [none] [.int t0] := by
  unfold ef_B_hasRoom_14 at h
  obtain ⟨e2, h⟩ := er_gd_some h
  cases h
  exact ej_zret B.1 B.2.1 B.2.2.1 (Nat.zero_le _) (Nat.zero_le _) e2 d_B_hasRoom_14
set_option maxRecDepth 100000 in
set_option maxHeartbeats 4000000 in
theorem ec_B_hasRoom {l : Launch} {G : er_G} (hE : er_Pr G 0 21) (σ : er_S) (r : Int32) (h : ef_B_hasRoom  σ = some r) : er_Con l y_B_hasRoom w_B_hasRoom 0 0 0 0 G [.ref 2] σ ((.inl (some (.int r)), σ)) := by
  refine er_ofJ (ret := some .boolean) (cc := b_B_hasRoom) (maxL := 1) (lv0 := [some (.ref 2)]) (hh := []) (by decide +kernel) rfl (Or.inl rfl) (by intro v hv; simp only [List.mem_cons, List.not_mem_nil, or_false] at hv; rcases hv with rfl <;> rfl) (Nat.le_of_ble_eq_true rfl) ?_
  intro p e s m args below meth c hadm C hr hlk hml hw hnm hm hcd
  have B : er_B p s m c meth b_B_hasRoom "EntryRows$Boards" G (some .boolean) 1 0 21 := ⟨C, hr, hlk, hml, hE, er_noh hw hnm hm hcd⟩
  unfold ef_B_hasRoom at h
  refine ej_aload_n B.1 d_B_hasRoom_0 rfl ?_
  refine ej_geti B.1 (er_at B 2 rfl rfl) rfl rfl fl_B_28 d_B_hasRoom_1 ?_
  refine ej_bipush B.1 (v := 8) d_B_hasRoom_4 (by decide +kernel) ?_
  refine ej_icmp_ge B.1 (tgt := 13) d_B_hasRoom_6 (by decide) (fun q1 => ?_) (fun q1 => ?_)
  · replace h := er_it h q1
    refine ej_iconst B.1 (v := 0) d_B_hasRoom_13 rfl ?_
    exact ej_le (lv' := [none]) trivial (ew_B_hasRoom_14 B 0 σ _ h)
  · replace h := er_if h q1
    refine ej_iconst B.1 (v := 1) d_B_hasRoom_9 rfl ?_
    refine ej_goto B.1 (tgt := 14) d_B_hasRoom_10 (by decide) ?_
    exact ej_le (lv' := [none]) trivial (ew_B_hasRoom_14 B 1 σ _ h)
set_option maxRecDepth 100000 in
set_option maxHeartbeats 4000000 in
theorem ec_B_make {l : Launch} {G : er_G} (hE : er_Pr G 0 21) (x1 x2 x3 : Int32) (σ : er_S) (r : Int32 × er_S) (h : ef_B_make x1 x2 x3 σ = some r) : er_Con l y_B_make w_B_make 0 0 0 0 G [.ref 2, .int x1, .int x2, .int x3] σ ((.inl (some (.int r.1)), r.2)) := by
  refine er_ofJ (ret := some .int) (cc := b_B_make) (maxL := 5) (lv0 := [some (.ref 2), some (.int x1), some (.int x2), some (.int x3), none]) (hh := []) (by decide +kernel) rfl (Or.inl rfl) (by intro v hv; simp only [List.mem_cons, List.not_mem_nil, or_false] at hv; rcases hv with rfl | rfl | rfl | rfl <;> rfl) (Nat.le_of_ble_eq_true rfl) ?_
  intro p e s m args below meth c hadm C hr hlk hml hw hnm hm hcd
  have B : er_B p s m c meth b_B_make "EntryRows$Boards" G (some .int) 5 0 21 := ⟨C, hr, hlk, hml, hE, er_noh hw hnm hm hcd⟩
  unfold ef_B_make at h
  refine ej_aload_n B.1 d_B_make_0 rfl ?_
  refine ej_geti B.1 (er_at B 2 rfl rfl) rfl rfl fl_B_28 d_B_make_1 ?_
  refine ej_istore B.1 (lv' := [some (.ref 2), some (.int x1), some (.int x2), some (.int x3), some (.int (σ 2 5))]) d_B_make_4 rfl rfl rfl ?_
  refine ej_aload_n B.1 d_B_make_6 rfl ?_
  refine ej_getr B.1 (er_at B 2 rfl rfl) rfl rfl fl_B_9 d_B_make_7 ?_
  refine ej_iload B.1 d_B_make_10 rfl ?_
  refine ej_iconst B.1 (v := 1) d_B_make_12 rfl ?_
  obtain ⟨e1, h⟩ := er_gd_some h
  obtain ⟨e2, h⟩ := er_gd_some h
  refine ej_zast B.1 (er_at B 16 rfl rfl) rfl e1 e2 d_B_make_13 ?_
  refine ej_aload_n B.1 d_B_make_14 rfl ?_
  refine ej_getr B.1 (er_at B 2 rfl rfl) rfl rfl fl_B_15 d_B_make_15 ?_
  refine ej_iload B.1 d_B_make_18 rfl ?_
  refine ej_iload_n B.1 d_B_make_20 rfl ?_
  obtain ⟨e3, h⟩ := er_gd_some h
  refine ej_iast B.1 (er_at B 17 rfl rfl) rfl e3 d_B_make_21 ?_
  refine ej_aload_n B.1 d_B_make_22 rfl ?_
  refine ej_getr B.1 (er_at B 2 rfl rfl) rfl rfl fl_B_19 d_B_make_23 ?_
  refine ej_iload B.1 d_B_make_26 rfl ?_
  refine ej_iload_n B.1 d_B_make_28 rfl ?_
  obtain ⟨e4, h⟩ := er_gd_some h
  refine ej_iast B.1 (er_at B 18 rfl rfl) rfl e4 d_B_make_29 ?_
  refine ej_aload_n B.1 d_B_make_30 rfl ?_
  refine ej_getr B.1 (er_at B 2 rfl rfl) rfl rfl fl_B_22 d_B_make_31 ?_
  refine ej_iload B.1 d_B_make_34 rfl ?_
  refine ej_iload_n B.1 d_B_make_36 rfl ?_
  obtain ⟨e5, h⟩ := er_gd_some h
  refine ej_iast B.1 (er_at B 19 rfl rfl) rfl e5 d_B_make_37 ?_
  refine ej_aload_n B.1 d_B_make_38 rfl ?_
  refine ej_dup B.1 d_B_make_39 rfl ?_
  refine ej_geti B.1 (er_at B 2 rfl rfl) rfl rfl fl_B_28 d_B_make_40 ?_
  refine ej_iconst B.1 (v := 1) d_B_make_43 rfl ?_
  refine ej_iadd B.1 d_B_make_44 ?_
  refine ej_puti B.1 (er_at B 2 rfl rfl) rfl rfl fp_B_28 d_B_make_45 ?_
  refine ej_iload B.1 d_B_make_48 rfl ?_
  cases h
  exact ej_iret B.1 B.2.1 B.2.2.1 (Nat.zero_le _) (Nat.zero_le _) d_B_make_50
set_option maxRecDepth 100000 in
set_option maxHeartbeats 4000000 in
theorem ec_E_board {l : Launch} {G : er_G} (hl : l.stackTraces = false) (hE : er_Pr G 0 21) (x1 x2 x3 : Int32) (σ : er_S) (r : (Int32 ⊕ Nat) × er_S) (h : ef_E_board x1 x2 x3 σ = some r) : er_Con l y_E_board w_E_board 7 105 (er_nc r.1) (er_ns r.1) G [.ref 0, .int x1, .int x2, .int x3] σ (er_cvi r) := by
  refine er_ofJ (ret := some .int) (cc := b_E_board) (maxL := 4) (lv0 := [some (.ref 0), some (.int x1), some (.int x2), some (.int x3)]) (hh := []) (by decide +kernel) rfl (Or.inl rfl) (by intro v hv; simp only [List.mem_cons, List.not_mem_nil, or_false] at hv; rcases hv with rfl | rfl | rfl | rfl <;> rfl) (Nat.le_of_ble_eq_true rfl) ?_
  intro p e s m args below meth c hadm C hr hlk hml hw hnm hm hcd
  have B : er_B p s m c meth b_E_board "EntryRows" G (some .int) 4 0 21 := ⟨C, hr, hlk, hml, hE, er_noh hw hnm hm hcd⟩
  have hl := And.intro hadm hl
  unfold ef_E_board at h
  refine ej_iload_n B.1 d_E_board_0 rfl ?_
  refine ej_iconst B.1 (v := 1) d_E_board_1 rfl ?_
  refine ej_bipush B.1 (v := 6) d_E_board_2 (by decide +kernel) ?_
  rcases er_tb_some h with ⟨v1, g3, e2, h⟩ | ⟨k18, g3, e2, h⟩
  · refine ej_cs_v (nc := 0) (ns := 0) B.1 [.int x1, .int 1, .int 6] [] (ec_E_requireRange hl.2 (er_pr B) x1 1 6 σ (.inl v1, g3) e2) cal_E_requireRange lk_E_46 st_E_requireRange rfl B.2.2.2.1 d_E_board_4 ⟨Nat.le_of_ble_eq_true rfl, Nat.le_of_ble_eq_true rfl, Nat.zero_le _, Nat.zero_le _⟩ (Nat.le_of_ble_eq_true rfl) rfl ?_
    refine ej_iload_n B.1 d_E_board_7 rfl ?_
    refine ej_iconst B.1 (v := 1) d_E_board_8 rfl ?_
    refine ej_sipush B.1 (v := 10000) d_E_board_9 (by decide +kernel) ?_
    rcases er_tb_some h with ⟨v4, g6, e5, h⟩ | ⟨k17, g6, e5, h⟩
    · refine ej_cs_v (nc := 0) (ns := 0) B.1 [.int x2, .int 1, .int 10000] [] (ec_E_requireRange hl.2 (er_pr B) x2 1 10000 g3 (.inl v4, g6) e5) cal_E_requireRange lk_E_46 st_E_requireRange rfl B.2.2.2.1 d_E_board_12 ⟨Nat.le_of_ble_eq_true rfl, Nat.le_of_ble_eq_true rfl, Nat.zero_le _, Nat.zero_le _⟩ (Nat.le_of_ble_eq_true rfl) rfl ?_
      refine ej_iload_n B.1 d_E_board_15 rfl ?_
      refine ej_iconst B.1 (v := 0) d_E_board_16 rfl ?_
      refine ej_iconst B.1 (v := 3) d_E_board_17 rfl ?_
      rcases er_tb_some h with ⟨v7, g9, e8, h⟩ | ⟨k16, g9, e8, h⟩
      · refine ej_cs_v (nc := 0) (ns := 0) B.1 [.int x3, .int 0, .int 3] [] (ec_E_requireRange hl.2 (er_pr B) x3 0 3 g6 (.inl v7, g9) e8) cal_E_requireRange lk_E_46 st_E_requireRange rfl B.2.2.2.1 d_E_board_18 ⟨Nat.le_of_ble_eq_true rfl, Nat.le_of_ble_eq_true rfl, Nat.zero_le _, Nat.zero_le _⟩ (Nat.le_of_ble_eq_true rfl) rfl ?_
        refine ej_aload_n B.1 d_E_board_21 rfl ?_
        refine ej_getr B.1 (er_at B 0 rfl rfl) rfl rfl fl_E_19 d_E_board_22 ?_
        obtain ⟨v10, e11, h⟩ := er_bd_some h
        refine ej_cv_i (nc := 0) (ns := 0) B.1 [] [] (ec_B_hasRoom (er_pr B) g9 v10 e11) cal_B_hasRoom lk_E_50 in_B_hasRoom (er_at B 2 rfl rfl) rfl rfl se_B_hasRoom rfl B.2.2.2.1 d_E_board_25 ⟨Nat.le_of_ble_eq_true rfl, Nat.le_of_ble_eq_true rfl, Nat.zero_le _, Nat.zero_le _⟩ (Nat.le_of_ble_eq_true rfl) rfl ?_
        refine ej_if_ne B.1 (tgt := 41) d_E_board_28 (by decide) (fun q12 => ?_) (fun q12 => ?_)
        · replace h := er_if h q12
          refine ej_aload_n B.1 d_E_board_41 rfl ?_
          refine ej_getr B.1 (er_at B 0 rfl rfl) rfl rfl fl_E_19 d_E_board_42 ?_
          refine ej_iload_n B.1 d_E_board_45 rfl ?_
          refine ej_iload_n B.1 d_E_board_46 rfl ?_
          refine ej_iload_n B.1 d_E_board_47 rfl ?_
          obtain ⟨v13, g15, e14, h⟩ := er_bw_some h
          refine ej_cv_i (nc := 0) (ns := 0) B.1 [.int x1, .int x2, .int x3] [] (ec_B_make (er_pr B) x1 x2 x3 g9 (v13, g15) e14) cal_B_make lk_E_61 in_B_make (er_at B 2 rfl rfl) rfl rfl se_B_make rfl B.2.2.2.1 d_E_board_48 ⟨Nat.le_of_ble_eq_true rfl, Nat.le_of_ble_eq_true rfl, Nat.zero_le _, Nat.zero_le _⟩ (Nat.le_of_ble_eq_true rfl) rfl ?_
          cases h
          exact ej_iret B.1 B.2.1 B.2.2.1 (Nat.zero_le _) (Nat.zero_le _) d_E_board_51
        · replace h := er_it h q12
          cases h
          exact th_E_board_31 B hl
      · subst h
        exact ej_cs_t (nc := 1) (ns := 6) B.1 [.int x3, .int 0, .int 3] [] (ec_E_requireRange hl.2 (er_pr B) x3 0 3 g6 (.inr k16, g9) e8) cal_E_requireRange lk_E_46 st_E_requireRange rfl B.2.2.2.1 d_E_board_18 ⟨Nat.le_of_ble_eq_true rfl, Nat.le_of_ble_eq_true rfl, Nat.le_of_ble_eq_true rfl, Nat.le_of_ble_eq_true rfl⟩ (Nat.le_of_ble_eq_true rfl) rfl B.2.2.1 (B.2.2.2.2.2 _) ⟨Nat.le_of_ble_eq_true rfl, Nat.le_of_ble_eq_true rfl⟩
    · subst h
      exact ej_cs_t (nc := 1) (ns := 6) B.1 [.int x2, .int 1, .int 10000] [] (ec_E_requireRange hl.2 (er_pr B) x2 1 10000 g3 (.inr k17, g6) e5) cal_E_requireRange lk_E_46 st_E_requireRange rfl B.2.2.2.1 d_E_board_12 ⟨Nat.le_of_ble_eq_true rfl, Nat.le_of_ble_eq_true rfl, Nat.le_of_ble_eq_true rfl, Nat.le_of_ble_eq_true rfl⟩ (Nat.le_of_ble_eq_true rfl) rfl B.2.2.1 (B.2.2.2.2.2 _) ⟨Nat.le_of_ble_eq_true rfl, Nat.le_of_ble_eq_true rfl⟩
  · subst h
    exact ej_cs_t (nc := 1) (ns := 6) B.1 [.int x1, .int 1, .int 6] [] (ec_E_requireRange hl.2 (er_pr B) x1 1 6 σ (.inr k18, g3) e2) cal_E_requireRange lk_E_46 st_E_requireRange rfl B.2.2.2.1 d_E_board_4 ⟨Nat.le_of_ble_eq_true rfl, Nat.le_of_ble_eq_true rfl, Nat.le_of_ble_eq_true rfl, Nat.le_of_ble_eq_true rfl⟩ (Nat.le_of_ble_eq_true rfl) rfl B.2.2.1 (B.2.2.2.2.2 _) ⟨Nat.le_of_ble_eq_true rfl, Nat.le_of_ble_eq_true rfl⟩
set_option maxRecDepth 100000 in
set_option maxHeartbeats 4000000 in
theorem ew_B_has_17 {p : Program} {l : Launch} {e : Env} {s : State} {m : MethodId} {args : Array Value} {below : List Frame} {meth : Method} {c : Code} {G : er_G} (B : er_B p s m c meth b_B_has "EntryRows$Boards" G (some .boolean) 2 0 21) (t0 : Int32) (σ : er_S) (r : Int32) (h : ef_B_has_17 t0 σ = some r) : er_J p l e { frames := 0, cells := 0, slots := 0, locals := 0 } s m args below meth c G (er_A G s.heap.size) s.heap (er_fin below G s 0 0 (.inl (some (.int r)), σ)) 0 0 σ 17 [none, none] [.int t0] := by
  unfold ef_B_has_17 at h
  obtain ⟨e2, h⟩ := er_gd_some h
  cases h
  exact ej_zret B.1 B.2.1 B.2.2.1 (Nat.zero_le _) (Nat.zero_le _) e2 d_B_has_17
set_option maxRecDepth 100000 in
set_option maxHeartbeats 4000000 in
theorem ew_B_has_16 {p : Program} {l : Launch} {e : Env} {s : State} {m : MethodId} {args : Array Value} {below : List Frame} {meth : Method} {c : Code} {G : er_G} (B : er_B p s m c meth b_B_has "EntryRows$Boards" G (some .boolean) 2 0 21) (σ : er_S) (r : Int32) (h : ef_B_has_16  σ = some r) : er_J p l e { frames := 0, cells := 0, slots := 0, locals := 0 } s m args below meth c G (er_A G s.heap.size) s.heap (er_fin below G s 0 0 (.inl (some (.int r)), σ)) 0 0 σ 16 [none, none] [] := by
  unfold ef_B_has_16 at h
  refine ej_iconst B.1 (v := 0) d_B_has_16 rfl ?_
  exact ej_le (lv' := [none, none]) trivial (ew_B_has_17 B 0 σ _ h)
set_option maxRecDepth 100000 in
set_option maxHeartbeats 4000000 in
theorem ec_B_has {l : Launch} {G : er_G} (hE : er_Pr G 0 21) (x1 : Int32) (σ : er_S) (r : Int32) (h : ef_B_has x1 σ = some r) : er_Con l y_B_has w_B_has 0 0 0 0 G [.ref 2, .int x1] σ ((.inl (some (.int r)), σ)) := by
  refine er_ofJ (ret := some .boolean) (cc := b_B_has) (maxL := 2) (lv0 := [some (.ref 2), some (.int x1)]) (hh := []) (by decide +kernel) rfl (Or.inl rfl) (by intro v hv; simp only [List.mem_cons, List.not_mem_nil, or_false] at hv; rcases hv with rfl | rfl <;> rfl) (Nat.le_of_ble_eq_true rfl) ?_
  intro p e s m args below meth c hadm C hr hlk hml hw hnm hm hcd
  have B : er_B p s m c meth b_B_has "EntryRows$Boards" G (some .boolean) 2 0 21 := ⟨C, hr, hlk, hml, hE, er_noh hw hnm hm hcd⟩
  unfold ef_B_has at h
  refine ej_iload_n B.1 d_B_has_0 rfl ?_
  refine ej_if_lt B.1 (tgt := 16) d_B_has_1 (by decide) (fun q1 => ?_) (fun q1 => ?_)
  · replace h := er_it h q1
    exact ej_le (lv' := [none, none]) trivial (ew_B_has_16 B σ _ h)
  · replace h := er_if h q1
    refine ej_iload_n B.1 d_B_has_4 rfl ?_
    refine ej_aload_n B.1 d_B_has_5 rfl ?_
    refine ej_geti B.1 (er_at B 2 rfl rfl) rfl rfl fl_B_28 d_B_has_6 ?_
    refine ej_icmp_ge B.1 (tgt := 16) d_B_has_9 (by decide) (fun q3 => ?_) (fun q3 => ?_)
    · replace h := er_it h q3
      exact ej_le (lv' := [none, none]) trivial (ew_B_has_16 B σ _ h)
    · replace h := er_if h q3
      refine ej_iconst B.1 (v := 1) d_B_has_12 rfl ?_
      refine ej_goto B.1 (tgt := 17) d_B_has_13 (by decide) ?_
      exact ej_le (lv' := [none, none]) trivial (ew_B_has_17 B 1 σ _ h)
set_option maxRecDepth 100000 in
set_option maxHeartbeats 4000000 in
theorem ec_E_requireKnown {l : Launch} {G : er_G} (hl : l.stackTraces = false) (hE : er_Pr G 0 21) (x0 : Int32) (σ : er_S) (r : (Unit ⊕ Nat) × er_S) (h : ef_E_requireKnown x0 σ = some r) : er_Con l y_E_requireKnown w_E_requireKnown 6 83 (er_nc r.1) (er_ns r.1) G [.int x0] σ (er_cvu r) := by
  refine er_ofJ (ret := none) (cc := b_E_requireKnown) (maxL := 1) (lv0 := [some (.int x0)]) (hh := []) (by decide +kernel) rfl (Or.inl rfl) (by intro v hv; simp only [List.mem_cons, List.not_mem_nil, or_false] at hv; rcases hv with rfl <;> rfl) (Nat.le_of_ble_eq_true rfl) ?_
  intro p e s m args below meth c hadm C hr hlk hml hw hnm hm hcd
  have B : er_B p s m c meth b_E_requireKnown "EntryRows" G (none) 1 0 21 := ⟨C, hr, hlk, hml, hE, er_noh hw hnm hm hcd⟩
  have hl := And.intro hadm hl
  unfold ef_E_requireKnown at h
  refine ej_iload_n B.1 d_E_requireKnown_0 rfl ?_
  refine ej_if_ne B.1 (tgt := 14) d_E_requireKnown_1 (by decide) (fun q1 => ?_) (fun q1 => ?_)
  · replace h := er_if h q1
    cases h
    exact ej_vret B.1 B.2.1 B.2.2.1 (Nat.zero_le _) (Nat.zero_le _) d_E_requireKnown_14
  · replace h := er_it h q1
    cases h
    exact th_E_requireKnown_4 B hl
set_option maxRecDepth 100000 in
set_option maxHeartbeats 4000000 in
theorem ec_E_requireBoard {l : Launch} {G : er_G} (hl : l.stackTraces = false) (hE : er_Pr G 0 21) (x1 : Int32) (σ : er_S) (r : (Unit ⊕ Nat) × er_S) (h : ef_E_requireBoard x1 σ = some r) : er_Con l y_E_requireBoard w_E_requireBoard 7 103 (er_nc r.1) (er_ns r.1) G [.ref 0, .int x1] σ (er_cvu r) := by
  refine er_ofJ (ret := none) (cc := b_E_requireBoard) (maxL := 2) (lv0 := [some (.ref 0), some (.int x1)]) (hh := []) (by decide +kernel) rfl (Or.inl rfl) (by intro v hv; simp only [List.mem_cons, List.not_mem_nil, or_false] at hv; rcases hv with rfl | rfl <;> rfl) (Nat.le_of_ble_eq_true rfl) ?_
  intro p e s m args below meth c hadm C hr hlk hml hw hnm hm hcd
  have B : er_B p s m c meth b_E_requireBoard "EntryRows" G (none) 2 0 21 := ⟨C, hr, hlk, hml, hE, er_noh hw hnm hm hcd⟩
  have hl := And.intro hadm hl
  unfold ef_E_requireBoard at h
  refine ej_aload_n B.1 d_E_requireBoard_0 rfl ?_
  refine ej_getr B.1 (er_at B 0 rfl rfl) rfl rfl fl_E_19 d_E_requireBoard_1 ?_
  refine ej_iload_n B.1 d_E_requireBoard_4 rfl ?_
  obtain ⟨v1, e2, h⟩ := er_bd_some h
  refine ej_cv_i (nc := 0) (ns := 0) B.1 [.int x1] [] (ec_B_has (er_pr B) x1 σ v1 e2) cal_B_has lk_E_211 in_B_has (er_at B 2 rfl rfl) rfl rfl se_B_has rfl B.2.2.2.1 d_E_requireBoard_5 ⟨Nat.le_of_ble_eq_true rfl, Nat.le_of_ble_eq_true rfl, Nat.zero_le _, Nat.zero_le _⟩ (Nat.le_of_ble_eq_true rfl) rfl ?_
  rcases er_tb_some h with ⟨v3, g5, e4, h⟩ | ⟨k6, g5, e4, h⟩
  · refine ej_cs_v (nc := 0) (ns := 0) B.1 [.int v1] [] (ec_E_requireKnown hl.2 (er_pr B) v1 σ (.inl v3, g5) e4) cal_E_requireKnown lk_E_99 st_E_requireKnown rfl B.2.2.2.1 d_E_requireBoard_8 ⟨Nat.le_of_ble_eq_true rfl, Nat.le_of_ble_eq_true rfl, Nat.zero_le _, Nat.zero_le _⟩ (Nat.le_of_ble_eq_true rfl) rfl ?_
    cases h
    exact ej_vret B.1 B.2.1 B.2.2.1 (Nat.zero_le _) (Nat.zero_le _) d_E_requireBoard_11
  · subst h
    exact ej_cs_t (nc := 1) (ns := 6) B.1 [.int v1] [] (ec_E_requireKnown hl.2 (er_pr B) v1 σ (.inr k6, g5) e4) cal_E_requireKnown lk_E_99 st_E_requireKnown rfl B.2.2.2.1 d_E_requireBoard_8 ⟨Nat.le_of_ble_eq_true rfl, Nat.le_of_ble_eq_true rfl, Nat.le_of_ble_eq_true rfl, Nat.le_of_ble_eq_true rfl⟩ (Nat.le_of_ble_eq_true rfl) rfl B.2.2.1 (B.2.2.2.2.2 _) ⟨Nat.le_of_ble_eq_true rfl, Nat.le_of_ble_eq_true rfl⟩
set_option maxRecDepth 100000 in
set_option maxHeartbeats 4000000 in
theorem ew_E_isPerson_15 {p : Program} {l : Launch} {e : Env} {s : State} {m : MethodId} {args : Array Value} {below : List Frame} {meth : Method} {c : Code} {G : er_G} (B : er_B p s m c meth b_E_isPerson "EntryRows" G (some .boolean) 1 0 21) (t0 : Int32) (σ : er_S) (r : Int32) (h : ef_E_isPerson_15 t0 σ = some r) : er_J p l e { frames := 0, cells := 0, slots := 0, locals := 0 } s m args below meth c G (er_A G s.heap.size) s.heap (er_fin below G s 0 0 (.inl (some (.int r)), σ)) 0 0 σ 15 [none] [.int t0] := by
  unfold ef_E_isPerson_15 at h
  obtain ⟨e2, h⟩ := er_gd_some h
  cases h
  exact ej_zret B.1 B.2.1 B.2.2.1 (Nat.zero_le _) (Nat.zero_le _) e2 d_E_isPerson_15
set_option maxRecDepth 100000 in
set_option maxHeartbeats 4000000 in
theorem ew_E_isPerson_14 {p : Program} {l : Launch} {e : Env} {s : State} {m : MethodId} {args : Array Value} {below : List Frame} {meth : Method} {c : Code} {G : er_G} (B : er_B p s m c meth b_E_isPerson "EntryRows" G (some .boolean) 1 0 21) (σ : er_S) (r : Int32) (h : ef_E_isPerson_14  σ = some r) : er_J p l e { frames := 0, cells := 0, slots := 0, locals := 0 } s m args below meth c G (er_A G s.heap.size) s.heap (er_fin below G s 0 0 (.inl (some (.int r)), σ)) 0 0 σ 14 [none] [] := by
  unfold ef_E_isPerson_14 at h
  refine ej_iconst B.1 (v := 0) d_E_isPerson_14 rfl ?_
  exact ej_le (lv' := [none]) trivial (ew_E_isPerson_15 B 0 σ _ h)
set_option maxRecDepth 100000 in
set_option maxHeartbeats 4000000 in
theorem ec_E_isPerson {l : Launch} {G : er_G} (hE : er_Pr G 0 21) (x0 : Int32) (σ : er_S) (r : Int32) (h : ef_E_isPerson x0 σ = some r) : er_Con l y_E_isPerson w_E_isPerson 0 0 0 0 G [.int x0] σ ((.inl (some (.int r)), σ)) := by
  refine er_ofJ (ret := some .boolean) (cc := b_E_isPerson) (maxL := 1) (lv0 := [some (.int x0)]) (hh := []) (by decide +kernel) rfl (Or.inl rfl) (by intro v hv; simp only [List.mem_cons, List.not_mem_nil, or_false] at hv; rcases hv with rfl <;> rfl) (Nat.le_of_ble_eq_true rfl) ?_
  intro p e s m args below meth c hadm C hr hlk hml hw hnm hm hcd
  have B : er_B p s m c meth b_E_isPerson "EntryRows" G (some .boolean) 1 0 21 := ⟨C, hr, hlk, hml, hE, er_noh hw hnm hm hcd⟩
  unfold ef_E_isPerson at h
  refine ej_iload_n B.1 d_E_isPerson_0 rfl ?_
  refine ej_if_lt B.1 (tgt := 14) d_E_isPerson_1 (by decide) (fun q1 => ?_) (fun q1 => ?_)
  · replace h := er_it h q1
    exact ej_le (lv' := [none]) trivial (ew_E_isPerson_14 B σ _ h)
  · replace h := er_if h q1
    refine ej_iload_n B.1 d_E_isPerson_4 rfl ?_
    refine ej_bipush B.1 (v := 40) d_E_isPerson_5 (by decide +kernel) ?_
    refine ej_icmp_ge B.1 (tgt := 14) d_E_isPerson_7 (by decide) (fun q3 => ?_) (fun q3 => ?_)
    · replace h := er_it h q3
      exact ej_le (lv' := [none]) trivial (ew_E_isPerson_14 B σ _ h)
    · replace h := er_if h q3
      refine ej_iconst B.1 (v := 1) d_E_isPerson_10 rfl ?_
      refine ej_goto B.1 (tgt := 15) d_E_isPerson_11 (by decide) ?_
      exact ej_le (lv' := [none]) trivial (ew_E_isPerson_15 B 1 σ _ h)
set_option maxRecDepth 100000 in
set_option maxHeartbeats 4000000 in
theorem ec_E_requirePerson {l : Launch} {G : er_G} (hl : l.stackTraces = false) (hE : er_Pr G 0 21) (x0 : Int32) (σ : er_S) (r : (Unit ⊕ Nat) × er_S) (h : ef_E_requirePerson x0 σ = some r) : er_Con l y_E_requirePerson w_E_requirePerson 7 103 (er_nc r.1) (er_ns r.1) G [.int x0] σ (er_cvu r) := by
  refine er_ofJ (ret := none) (cc := b_E_requirePerson) (maxL := 1) (lv0 := [some (.int x0)]) (hh := []) (by decide +kernel) rfl (Or.inl rfl) (by intro v hv; simp only [List.mem_cons, List.not_mem_nil, or_false] at hv; rcases hv with rfl <;> rfl) (Nat.le_of_ble_eq_true rfl) ?_
  intro p e s m args below meth c hadm C hr hlk hml hw hnm hm hcd
  have B : er_B p s m c meth b_E_requirePerson "EntryRows" G (none) 1 0 21 := ⟨C, hr, hlk, hml, hE, er_noh hw hnm hm hcd⟩
  have hl := And.intro hadm hl
  unfold ef_E_requirePerson at h
  refine ej_iload_n B.1 d_E_requirePerson_0 rfl ?_
  obtain ⟨v1, e2, h⟩ := er_bd_some h
  refine ej_cs_i (nc := 0) (ns := 0) B.1 [.int x0] [] (ec_E_isPerson (er_pr B) x0 σ v1 e2) cal_E_isPerson lk_E_173 st_E_isPerson rfl B.2.2.2.1 d_E_requirePerson_1 ⟨Nat.le_of_ble_eq_true rfl, Nat.le_of_ble_eq_true rfl, Nat.zero_le _, Nat.zero_le _⟩ (Nat.le_of_ble_eq_true rfl) rfl ?_
  rcases er_tb_some h with ⟨v3, g5, e4, h⟩ | ⟨k6, g5, e4, h⟩
  · refine ej_cs_v (nc := 0) (ns := 0) B.1 [.int v1] [] (ec_E_requireKnown hl.2 (er_pr B) v1 σ (.inl v3, g5) e4) cal_E_requireKnown lk_E_99 st_E_requireKnown rfl B.2.2.2.1 d_E_requirePerson_4 ⟨Nat.le_of_ble_eq_true rfl, Nat.le_of_ble_eq_true rfl, Nat.zero_le _, Nat.zero_le _⟩ (Nat.le_of_ble_eq_true rfl) rfl ?_
    cases h
    exact ej_vret B.1 B.2.1 B.2.2.1 (Nat.zero_le _) (Nat.zero_le _) d_E_requirePerson_7
  · subst h
    exact ej_cs_t (nc := 1) (ns := 6) B.1 [.int v1] [] (ec_E_requireKnown hl.2 (er_pr B) v1 σ (.inr k6, g5) e4) cal_E_requireKnown lk_E_99 st_E_requireKnown rfl B.2.2.2.1 d_E_requirePerson_4 ⟨Nat.le_of_ble_eq_true rfl, Nat.le_of_ble_eq_true rfl, Nat.le_of_ble_eq_true rfl, Nat.le_of_ble_eq_true rfl⟩ (Nat.le_of_ble_eq_true rfl) rfl B.2.2.1 (B.2.2.2.2.2 _) ⟨Nat.le_of_ble_eq_true rfl, Nat.le_of_ble_eq_true rfl⟩
set_option maxRecDepth 100000 in
set_option maxHeartbeats 4000000 in
theorem ec_E_requireState {l : Launch} {G : er_G} (hl : l.stackTraces = false) (hE : er_Pr G 0 21) (x0 : Int32) (σ : er_S) (r : (Unit ⊕ Nat) × er_S) (h : ef_E_requireState x0 σ = some r) : er_Con l y_E_requireState w_E_requireState 6 83 (er_nc r.1) (er_ns r.1) G [.int x0] σ (er_cvu r) := by
  refine er_ofJ (ret := none) (cc := b_E_requireState) (maxL := 1) (lv0 := [some (.int x0)]) (hh := []) (by decide +kernel) rfl (Or.inl rfl) (by intro v hv; simp only [List.mem_cons, List.not_mem_nil, or_false] at hv; rcases hv with rfl <;> rfl) (Nat.le_of_ble_eq_true rfl) ?_
  intro p e s m args below meth c hadm C hr hlk hml hw hnm hm hcd
  have B : er_B p s m c meth b_E_requireState "EntryRows" G (none) 1 0 21 := ⟨C, hr, hlk, hml, hE, er_noh hw hnm hm hcd⟩
  have hl := And.intro hadm hl
  unfold ef_E_requireState at h
  refine ej_iload_n B.1 d_E_requireState_0 rfl ?_
  refine ej_if_ne B.1 (tgt := 14) d_E_requireState_1 (by decide) (fun q1 => ?_) (fun q1 => ?_)
  · replace h := er_if h q1
    cases h
    exact ej_vret B.1 B.2.1 B.2.2.1 (Nat.zero_le _) (Nat.zero_le _) d_E_requireState_14
  · replace h := er_it h q1
    cases h
    exact th_E_requireState_4 B hl
set_option maxRecDepth 100000 in
set_option maxHeartbeats 4000000 in
theorem ec_E_requireOpen {l : Launch} {G : er_G} (hl : l.stackTraces = false) (hE : er_Pr G 0 21) (x1 : Int32) (σ : er_S) (r : (Unit ⊕ Nat) × er_S) (h : ef_E_requireOpen x1 σ = some r) : er_Con l y_E_requireOpen w_E_requireOpen 7 103 (er_nc r.1) (er_ns r.1) G [.ref 0, .int x1] σ (er_cvu r) := by
  refine er_ofJ (ret := none) (cc := b_E_requireOpen) (maxL := 2) (lv0 := [some (.ref 0), some (.int x1)]) (hh := []) (by decide +kernel) rfl (Or.inl rfl) (by intro v hv; simp only [List.mem_cons, List.not_mem_nil, or_false] at hv; rcases hv with rfl | rfl <;> rfl) (Nat.le_of_ble_eq_true rfl) ?_
  intro p e s m args below meth c hadm C hr hlk hml hw hnm hm hcd
  have B : er_B p s m c meth b_E_requireOpen "EntryRows" G (none) 2 0 21 := ⟨C, hr, hlk, hml, hE, er_noh hw hnm hm hcd⟩
  have hl := And.intro hadm hl
  unfold ef_E_requireOpen at h
  refine ej_aload_n B.1 d_E_requireOpen_0 rfl ?_
  refine ej_getr B.1 (er_at B 0 rfl rfl) rfl rfl fl_E_19 d_E_requireOpen_1 ?_
  refine ej_getr B.1 (er_at B 2 rfl rfl) rfl rfl fl_E_196 d_E_requireOpen_4 ?_
  refine ej_iload_n B.1 d_E_requireOpen_7 rfl ?_
  obtain ⟨e1, h⟩ := er_gd_some h
  refine ej_zald B.1 (er_at B 16 rfl rfl) rfl e1 d_E_requireOpen_8 ?_
  rcases er_tb_some h with ⟨v2, g4, e3, h⟩ | ⟨k5, g4, e3, h⟩
  · refine ej_cs_v (nc := 0) (ns := 0) B.1 [.int (σ 16 (er_ix x1))] [] (ec_E_requireState hl.2 (er_pr B) (σ 16 (er_ix x1)) σ (.inl v2, g4) e3) cal_E_requireState lk_E_81 st_E_requireState rfl B.2.2.2.1 d_E_requireOpen_9 ⟨Nat.le_of_ble_eq_true rfl, Nat.le_of_ble_eq_true rfl, Nat.zero_le _, Nat.zero_le _⟩ (Nat.le_of_ble_eq_true rfl) rfl ?_
    cases h
    exact ej_vret B.1 B.2.1 B.2.2.1 (Nat.zero_le _) (Nat.zero_le _) d_E_requireOpen_12
  · subst h
    exact ej_cs_t (nc := 1) (ns := 6) B.1 [.int (σ 16 (er_ix x1))] [] (ec_E_requireState hl.2 (er_pr B) (σ 16 (er_ix x1)) σ (.inr k5, g4) e3) cal_E_requireState lk_E_81 st_E_requireState rfl B.2.2.2.1 d_E_requireOpen_9 ⟨Nat.le_of_ble_eq_true rfl, Nat.le_of_ble_eq_true rfl, Nat.le_of_ble_eq_true rfl, Nat.le_of_ble_eq_true rfl⟩ (Nat.le_of_ble_eq_true rfl) rfl B.2.2.1 (B.2.2.2.2.2 _) ⟨Nat.le_of_ble_eq_true rfl, Nat.le_of_ble_eq_true rfl⟩
set_option maxRecDepth 100000 in
set_option maxHeartbeats 4000000 in
theorem ew_P_isInside_15 {p : Program} {l : Launch} {e : Env} {s : State} {m : MethodId} {args : Array Value} {below : List Frame} {meth : Method} {c : Code} {G : er_G} (B : er_B p s m c meth b_P_isInside "EntryRows$Persons" G (some .boolean) 2 0 21) (t0 : Int32) (σ : er_S) (r : Int32) (h : ef_P_isInside_15 t0 σ = some r) : er_J p l e { frames := 0, cells := 0, slots := 0, locals := 0 } s m args below meth c G (er_A G s.heap.size) s.heap (er_fin below G s 0 0 (.inl (some (.int r)), σ)) 0 0 σ 15 [none, none] [.int t0] := by
  unfold ef_P_isInside_15 at h
  obtain ⟨e3, h⟩ := er_gd_some h
  cases h
  exact ej_zret B.1 B.2.1 B.2.2.1 (Nat.zero_le _) (Nat.zero_le _) e3 d_P_isInside_15
set_option maxRecDepth 100000 in
set_option maxHeartbeats 4000000 in
theorem ec_P_isInside {l : Launch} {G : er_G} (hE : er_Pr G 0 21) (x1 : Int32) (σ : er_S) (r : Int32) (h : ef_P_isInside x1 σ = some r) : er_Con l y_P_isInside w_P_isInside 0 0 0 0 G [.ref 1, .int x1] σ ((.inl (some (.int r)), σ)) := by
  refine er_ofJ (ret := some .boolean) (cc := b_P_isInside) (maxL := 2) (lv0 := [some (.ref 1), some (.int x1)]) (hh := []) (by decide +kernel) rfl (Or.inl rfl) (by intro v hv; simp only [List.mem_cons, List.not_mem_nil, or_false] at hv; rcases hv with rfl | rfl <;> rfl) (Nat.le_of_ble_eq_true rfl) ?_
  intro p e s m args below meth c hadm C hr hlk hml hw hnm hm hcd
  have B : er_B p s m c meth b_P_isInside "EntryRows$Persons" G (some .boolean) 2 0 21 := ⟨C, hr, hlk, hml, hE, er_noh hw hnm hm hcd⟩
  unfold ef_P_isInside at h
  refine ej_aload_n B.1 d_P_isInside_0 rfl ?_
  refine ej_getr B.1 (er_at B 1 rfl rfl) rfl rfl fl_P_9 d_P_isInside_1 ?_
  refine ej_iload_n B.1 d_P_isInside_4 rfl ?_
  obtain ⟨e1, h⟩ := er_gd_some h
  refine ej_iald B.1 (er_at B 5 rfl rfl) rfl e1 d_P_isInside_5 ?_
  refine ej_iconst B.1 (v := (-1)) d_P_isInside_6 rfl ?_
  refine ej_icmp_eq B.1 (tgt := 14) d_P_isInside_7 (by decide) (fun q2 => ?_) (fun q2 => ?_)
  · replace h := er_it h q2
    refine ej_iconst B.1 (v := 0) d_P_isInside_14 rfl ?_
    exact ej_le (lv' := [none, none]) trivial (ew_P_isInside_15 B 0 σ _ h)
  · replace h := er_if h q2
    refine ej_iconst B.1 (v := 1) d_P_isInside_10 rfl ?_
    refine ej_goto B.1 (tgt := 15) d_P_isInside_11 (by decide) ?_
    exact ej_le (lv' := [none, none]) trivial (ew_P_isInside_15 B 1 σ _ h)
set_option maxRecDepth 100000 in
set_option maxHeartbeats 4000000 in
theorem ew_E_requireOutside_16 {p : Program} {l : Launch} {e : Env} {s : State} {m : MethodId} {args : Array Value} {below : List Frame} {meth : Method} {c : Code} {G : er_G} (hl : l.admits e ∧ l.stackTraces = false) (B : er_B p s m c meth b_E_requireOutside "EntryRows" G (none) 2 0 21) (t0 : Int32) (σ : er_S) (r : (Unit ⊕ Nat) × er_S) (h : ef_E_requireOutside_16 t0 σ = some r) : er_J p l e { frames := 7, cells := er_nc r.1, slots := er_ns r.1, locals := 103 } s m args below meth c G (er_A G s.heap.size) s.heap (er_fin below G s (er_nc r.1) (er_ns r.1) (er_cvu r)) 0 0 σ 16 [none, none] [.int t0] := by
  unfold ef_E_requireOutside_16 at h
  rcases er_tb_some h with ⟨v4, g6, e5, h⟩ | ⟨k7, g6, e5, h⟩
  · refine ej_cs_v (nc := 0) (ns := 0) B.1 [.int t0] [] (ec_E_requireState hl.2 (er_pr B) t0 σ (.inl v4, g6) e5) cal_E_requireState lk_E_81 st_E_requireState rfl B.2.2.2.1 d_E_requireOutside_16 ⟨Nat.le_of_ble_eq_true rfl, Nat.le_of_ble_eq_true rfl, Nat.zero_le _, Nat.zero_le _⟩ (Nat.le_of_ble_eq_true rfl) rfl ?_
    cases h
    exact ej_vret B.1 B.2.1 B.2.2.1 (Nat.zero_le _) (Nat.zero_le _) d_E_requireOutside_19
  · subst h
    exact ej_cs_t (nc := 1) (ns := 6) B.1 [.int t0] [] (ec_E_requireState hl.2 (er_pr B) t0 σ (.inr k7, g6) e5) cal_E_requireState lk_E_81 st_E_requireState rfl B.2.2.2.1 d_E_requireOutside_16 ⟨Nat.le_of_ble_eq_true rfl, Nat.le_of_ble_eq_true rfl, Nat.le_of_ble_eq_true rfl, Nat.le_of_ble_eq_true rfl⟩ (Nat.le_of_ble_eq_true rfl) rfl B.2.2.1 (B.2.2.2.2.2 _) ⟨Nat.le_of_ble_eq_true rfl, Nat.le_of_ble_eq_true rfl⟩
set_option maxRecDepth 100000 in
set_option maxHeartbeats 4000000 in
theorem ec_E_requireOutside {l : Launch} {G : er_G} (hl : l.stackTraces = false) (hE : er_Pr G 0 21) (x1 : Int32) (σ : er_S) (r : (Unit ⊕ Nat) × er_S) (h : ef_E_requireOutside x1 σ = some r) : er_Con l y_E_requireOutside w_E_requireOutside 7 103 (er_nc r.1) (er_ns r.1) G [.ref 0, .int x1] σ (er_cvu r) := by
  refine er_ofJ (ret := none) (cc := b_E_requireOutside) (maxL := 2) (lv0 := [some (.ref 0), some (.int x1)]) (hh := []) (by decide +kernel) rfl (Or.inl rfl) (by intro v hv; simp only [List.mem_cons, List.not_mem_nil, or_false] at hv; rcases hv with rfl | rfl <;> rfl) (Nat.le_of_ble_eq_true rfl) ?_
  intro p e s m args below meth c hadm C hr hlk hml hw hnm hm hcd
  have B : er_B p s m c meth b_E_requireOutside "EntryRows" G (none) 2 0 21 := ⟨C, hr, hlk, hml, hE, er_noh hw hnm hm hcd⟩
  have hl := And.intro hadm hl
  unfold ef_E_requireOutside at h
  refine ej_aload_n B.1 d_E_requireOutside_0 rfl ?_
  refine ej_getr B.1 (er_at B 0 rfl rfl) rfl rfl fl_E_10 d_E_requireOutside_1 ?_
  refine ej_iload_n B.1 d_E_requireOutside_4 rfl ?_
  obtain ⟨v1, e2, h⟩ := er_bd_some h
  refine ej_cv_i (nc := 0) (ns := 0) B.1 [.int x1] [] (ec_P_isInside (er_pr B) x1 σ v1 e2) cal_P_isInside lk_E_142 in_P_isInside (er_at B 1 rfl rfl) rfl rfl se_P_isInside rfl B.2.2.2.1 d_E_requireOutside_5 ⟨Nat.le_of_ble_eq_true rfl, Nat.le_of_ble_eq_true rfl, Nat.zero_le _, Nat.zero_le _⟩ (Nat.le_of_ble_eq_true rfl) rfl ?_
  refine ej_if_ne B.1 (tgt := 15) d_E_requireOutside_8 (by decide) (fun q3 => ?_) (fun q3 => ?_)
  · replace h := er_if h q3
    refine ej_iconst B.1 (v := 0) d_E_requireOutside_15 rfl ?_
    exact ej_le (lv' := [none, none]) trivial (ew_E_requireOutside_16 hl B 0 σ _ h)
  · replace h := er_it h q3
    refine ej_iconst B.1 (v := 1) d_E_requireOutside_11 rfl ?_
    refine ej_goto B.1 (tgt := 16) d_E_requireOutside_12 (by decide) ?_
    exact ej_le (lv' := [none, none]) trivial (ew_E_requireOutside_16 hl B 1 σ _ h)
set_option maxRecDepth 100000 in
set_option maxHeartbeats 4000000 in
theorem ew_E_dropKeeper_27 {p : Program} {l : Launch} {e : Env} {s : State} {m : MethodId} {args : Array Value} {below : List Frame} {meth : Method} {c : Code} {G : er_G} (B : er_B p s m c meth b_E_dropKeeper "EntryRows" G (none) 3 0 21) (x1 : Int32) (σ : er_S) (r : Unit × er_S) (h : ef_E_dropKeeper_27 x1 σ = some r) : er_J p l e { frames := 1, cells := 0, slots := 0, locals := 20 } s m args below meth c G (er_A G s.heap.size) s.heap (er_fin below G s 0 0 (.inl none, r.2)) 0 0 σ 27 [some (.ref 0), some (.int x1), none] [] := by
  unfold ef_E_dropKeeper_27 at h
  refine ej_aload_n B.1 d_E_dropKeeper_27 rfl ?_
  refine ej_getr B.1 (er_at B 0 rfl rfl) rfl rfl fl_E_19 d_E_dropKeeper_28 ?_
  refine ej_getr B.1 (er_at B 2 rfl rfl) rfl rfl fl_E_88 d_E_dropKeeper_31 ?_
  refine ej_iload_n B.1 d_E_dropKeeper_34 rfl ?_
  refine ej_iconst B.1 (v := (-1)) d_E_dropKeeper_35 rfl ?_
  obtain ⟨e5, h⟩ := er_gd_some h
  refine ej_iast B.1 (er_at B 20 rfl rfl) rfl e5 d_E_dropKeeper_36 ?_
  cases h
  exact ej_vret B.1 B.2.1 B.2.2.1 (Nat.zero_le _) (Nat.zero_le _) d_E_dropKeeper_37
set_option maxRecDepth 100000 in
set_option maxHeartbeats 4000000 in
theorem ec_E_dropKeeper {l : Launch} {G : er_G} (hE : er_Pr G 0 21) (x1 : Int32) (σ : er_S) (r : Unit × er_S) (h : ef_E_dropKeeper x1 σ = some r) : er_Con l y_E_dropKeeper w_E_dropKeeper 1 20 0 0 G [.ref 0, .int x1] σ ((.inl none, r.2)) := by
  refine er_ofJ (ret := none) (cc := b_E_dropKeeper) (maxL := 3) (lv0 := [some (.ref 0), some (.int x1), none]) (hh := []) (by decide +kernel) rfl (Or.inl rfl) (by intro v hv; simp only [List.mem_cons, List.not_mem_nil, or_false] at hv; rcases hv with rfl | rfl <;> rfl) (Nat.le_of_ble_eq_true rfl) ?_
  intro p e s m args below meth c hadm C hr hlk hml hw hnm hm hcd
  have B : er_B p s m c meth b_E_dropKeeper "EntryRows" G (none) 3 0 21 := ⟨C, hr, hlk, hml, hE, er_noh hw hnm hm hcd⟩
  unfold ef_E_dropKeeper at h
  refine ej_aload_n B.1 d_E_dropKeeper_0 rfl ?_
  refine ej_getr B.1 (er_at B 0 rfl rfl) rfl rfl fl_E_19 d_E_dropKeeper_1 ?_
  refine ej_getr B.1 (er_at B 2 rfl rfl) rfl rfl fl_E_88 d_E_dropKeeper_4 ?_
  refine ej_iload_n B.1 d_E_dropKeeper_7 rfl ?_
  obtain ⟨e1, h⟩ := er_gd_some h
  refine ej_iald B.1 (er_at B 20 rfl rfl) rfl e1 d_E_dropKeeper_8 ?_
  refine ej_istore_n B.1 (lv' := [some (.ref 0), some (.int x1), some (.int (σ 20 (er_ix x1)))]) d_E_dropKeeper_9 rfl rfl rfl ?_
  refine ej_iload_n B.1 d_E_dropKeeper_10 rfl ?_
  obtain ⟨v2, e3, h⟩ := er_bd_some h
  refine ej_cs_i (nc := 0) (ns := 0) B.1 [.int (σ 20 (er_ix x1))] [] (ec_E_isPerson (er_pr B) (σ 20 (er_ix x1)) σ v2 e3) cal_E_isPerson lk_E_173 st_E_isPerson rfl B.2.2.2.1 d_E_dropKeeper_11 ⟨Nat.le_of_ble_eq_true rfl, Nat.le_of_ble_eq_true rfl, Nat.zero_le _, Nat.zero_le _⟩ (Nat.le_of_ble_eq_true rfl) rfl ?_
  refine ej_if_eq B.1 (tgt := 27) d_E_dropKeeper_14 (by decide) (fun q4 => ?_) (fun q4 => ?_)
  · replace h := er_it h q4
    exact ej_le (lv' := [some (.ref 0), some (.int x1), none]) ⟨rfl, ⟨rfl, trivial⟩⟩ (ew_E_dropKeeper_27 B x1 σ _ h)
  · replace h := er_if h q4
    refine ej_aload_n B.1 d_E_dropKeeper_17 rfl ?_
    refine ej_getr B.1 (er_at B 0 rfl rfl) rfl rfl fl_E_10 d_E_dropKeeper_18 ?_
    refine ej_getr B.1 (er_at B 1 rfl rfl) rfl rfl fl_E_78 d_E_dropKeeper_21 ?_
    refine ej_iload_n B.1 d_E_dropKeeper_24 rfl ?_
    refine ej_iconst B.1 (v := (-1)) d_E_dropKeeper_25 rfl ?_
    obtain ⟨e6, h⟩ := er_gd_some h
    refine ej_iast B.1 (er_at B 14 rfl rfl) rfl e6 d_E_dropKeeper_26 ?_
    exact ej_le (lv' := [some (.ref 0), some (.int x1), none]) ⟨rfl, ⟨rfl, trivial⟩⟩ (ew_E_dropKeeper_27 B x1 (er_up σ 14 (er_ix (σ 20 (er_ix x1))) (-1)) _ h)
set_option maxRecDepth 100000 in
set_option maxHeartbeats 4000000 in
theorem ew_E_keep_37 {p : Program} {l : Launch} {e : Env} {s : State} {m : MethodId} {args : Array Value} {below : List Frame} {meth : Method} {c : Code} {G : er_G} (hl : l.admits e ∧ l.stackTraces = false) (B : er_B p s m c meth b_E_keep "EntryRows" G (none) 3 0 21) (x1 x2 t0 : Int32) (σ : er_S) (r : (Unit ⊕ Nat) × er_S) (h : ef_E_keep_37 x1 x2 t0 σ = some r) : er_J p l e { frames := 8, cells := er_nc r.1, slots := er_ns r.1, locals := 124 } s m args below meth c G (er_A G s.heap.size) s.heap (er_fin below G s (er_nc r.1) (er_ns r.1) (er_cvu r)) 0 0 σ 37 [some (.ref 0), some (.int x1), some (.int x2)] [.int t0] := by
  unfold ef_E_keep_37 at h
  rcases er_tb_some h with ⟨v15, g17, e16, h⟩ | ⟨k23, g17, e16, h⟩
  · refine ej_cs_v (nc := 0) (ns := 0) B.1 [.int t0] [] (ec_E_requireState hl.2 (er_pr B) t0 σ (.inl v15, g17) e16) cal_E_requireState lk_E_81 st_E_requireState rfl B.2.2.2.1 d_E_keep_37 ⟨Nat.le_of_ble_eq_true rfl, Nat.le_of_ble_eq_true rfl, Nat.zero_le _, Nat.zero_le _⟩ (Nat.le_of_ble_eq_true rfl) rfl ?_
    refine ej_aload_n B.1 d_E_keep_40 rfl ?_
    refine ej_iload_n B.1 d_E_keep_41 rfl ?_
    obtain ⟨v18, g20, e19, h⟩ := er_bw_some h
    refine ej_cv_v (nc := 0) (ns := 0) B.1 [.int x1] [] (ec_E_dropKeeper (er_pr B) x1 g17 (v18, g20) e19) cal_E_dropKeeper lk_E_85 in_E_dropKeeper (er_at B 0 rfl rfl) rfl rfl se_E_dropKeeper rfl B.2.2.2.1 d_E_keep_42 ⟨Nat.le_of_ble_eq_true rfl, Nat.le_of_ble_eq_true rfl, Nat.zero_le _, Nat.zero_le _⟩ (Nat.le_of_ble_eq_true rfl) rfl ?_
    refine ej_aload_n B.1 d_E_keep_45 rfl ?_
    refine ej_getr B.1 (er_at B 0 rfl rfl) rfl rfl fl_E_19 d_E_keep_46 ?_
    refine ej_getr B.1 (er_at B 2 rfl rfl) rfl rfl fl_E_88 d_E_keep_49 ?_
    refine ej_iload_n B.1 d_E_keep_52 rfl ?_
    refine ej_iload_n B.1 d_E_keep_53 rfl ?_
    obtain ⟨e21, h⟩ := er_gd_some h
    refine ej_iast B.1 (er_at B 20 rfl rfl) rfl e21 d_E_keep_54 ?_
    refine ej_aload_n B.1 d_E_keep_55 rfl ?_
    refine ej_getr B.1 (er_at B 0 rfl rfl) rfl rfl fl_E_10 d_E_keep_56 ?_
    refine ej_getr B.1 (er_at B 1 rfl rfl) rfl rfl fl_E_78 d_E_keep_59 ?_
    refine ej_iload_n B.1 d_E_keep_62 rfl ?_
    refine ej_iload_n B.1 d_E_keep_63 rfl ?_
    obtain ⟨e22, h⟩ := er_gd_some h
    refine ej_iast B.1 (er_at B 14 rfl rfl) rfl e22 d_E_keep_64 ?_
    cases h
    exact ej_vret B.1 B.2.1 B.2.2.1 (Nat.zero_le _) (Nat.zero_le _) d_E_keep_65
  · subst h
    exact ej_cs_t (nc := 1) (ns := 6) B.1 [.int t0] [] (ec_E_requireState hl.2 (er_pr B) t0 σ (.inr k23, g17) e16) cal_E_requireState lk_E_81 st_E_requireState rfl B.2.2.2.1 d_E_keep_37 ⟨Nat.le_of_ble_eq_true rfl, Nat.le_of_ble_eq_true rfl, Nat.le_of_ble_eq_true rfl, Nat.le_of_ble_eq_true rfl⟩ (Nat.le_of_ble_eq_true rfl) rfl B.2.2.1 (B.2.2.2.2.2 _) ⟨Nat.le_of_ble_eq_true rfl, Nat.le_of_ble_eq_true rfl⟩
set_option maxRecDepth 100000 in
set_option maxHeartbeats 4000000 in
theorem ec_E_keep {l : Launch} {G : er_G} (hl : l.stackTraces = false) (hE : er_Pr G 0 21) (x1 x2 : Int32) (σ : er_S) (r : (Unit ⊕ Nat) × er_S) (h : ef_E_keep x1 x2 σ = some r) : er_Con l y_E_keep w_E_keep 8 124 (er_nc r.1) (er_ns r.1) G [.ref 0, .int x1, .int x2] σ (er_cvu r) := by
  refine er_ofJ (ret := none) (cc := b_E_keep) (maxL := 3) (lv0 := [some (.ref 0), some (.int x1), some (.int x2)]) (hh := []) (by decide +kernel) rfl (Or.inl rfl) (by intro v hv; simp only [List.mem_cons, List.not_mem_nil, or_false] at hv; rcases hv with rfl | rfl | rfl <;> rfl) (Nat.le_of_ble_eq_true rfl) ?_
  intro p e s m args below meth c hadm C hr hlk hml hw hnm hm hcd
  have B : er_B p s m c meth b_E_keep "EntryRows" G (none) 3 0 21 := ⟨C, hr, hlk, hml, hE, er_noh hw hnm hm hcd⟩
  have hl := And.intro hadm hl
  unfold ef_E_keep at h
  refine ej_aload_n B.1 d_E_keep_0 rfl ?_
  refine ej_iload_n B.1 d_E_keep_1 rfl ?_
  rcases er_tb_some h with ⟨v1, g3, e2, h⟩ | ⟨k27, g3, e2, h⟩
  · refine ej_cv_v (nc := 0) (ns := 0) B.1 [.int x1] [] (ec_E_requireBoard hl.2 (er_pr B) x1 σ (.inl v1, g3) e2) cal_E_requireBoard lk_E_65 in_E_requireBoard (er_at B 0 rfl rfl) rfl rfl se_E_requireBoard rfl B.2.2.2.1 d_E_keep_2 ⟨Nat.le_of_ble_eq_true rfl, Nat.le_of_ble_eq_true rfl, Nat.zero_le _, Nat.zero_le _⟩ (Nat.le_of_ble_eq_true rfl) rfl ?_
    refine ej_iload_n B.1 d_E_keep_5 rfl ?_
    rcases er_tb_some h with ⟨v4, g6, e5, h⟩ | ⟨k26, g6, e5, h⟩
    · refine ej_cs_v (nc := 0) (ns := 0) B.1 [.int x2] [] (ec_E_requirePerson hl.2 (er_pr B) x2 g3 (.inl v4, g6) e5) cal_E_requirePerson lk_E_69 st_E_requirePerson rfl B.2.2.2.1 d_E_keep_6 ⟨Nat.le_of_ble_eq_true rfl, Nat.le_of_ble_eq_true rfl, Nat.zero_le _, Nat.zero_le _⟩ (Nat.le_of_ble_eq_true rfl) rfl ?_
      refine ej_aload_n B.1 d_E_keep_9 rfl ?_
      refine ej_iload_n B.1 d_E_keep_10 rfl ?_
      rcases er_tb_some h with ⟨v7, g9, e8, h⟩ | ⟨k25, g9, e8, h⟩
      · refine ej_cv_v (nc := 0) (ns := 0) B.1 [.int x1] [] (ec_E_requireOpen hl.2 (er_pr B) x1 g6 (.inl v7, g9) e8) cal_E_requireOpen lk_E_72 in_E_requireOpen (er_at B 0 rfl rfl) rfl rfl se_E_requireOpen rfl B.2.2.2.1 d_E_keep_11 ⟨Nat.le_of_ble_eq_true rfl, Nat.le_of_ble_eq_true rfl, Nat.zero_le _, Nat.zero_le _⟩ (Nat.le_of_ble_eq_true rfl) rfl ?_
        refine ej_aload_n B.1 d_E_keep_14 rfl ?_
        refine ej_iload_n B.1 d_E_keep_15 rfl ?_
        rcases er_tb_some h with ⟨v10, g12, e11, h⟩ | ⟨k24, g12, e11, h⟩
        · refine ej_cv_v (nc := 0) (ns := 0) B.1 [.int x2] [] (ec_E_requireOutside hl.2 (er_pr B) x2 g9 (.inl v10, g12) e11) cal_E_requireOutside lk_E_75 in_E_requireOutside (er_at B 0 rfl rfl) rfl rfl se_E_requireOutside rfl B.2.2.2.1 d_E_keep_16 ⟨Nat.le_of_ble_eq_true rfl, Nat.le_of_ble_eq_true rfl, Nat.zero_le _, Nat.zero_le _⟩ (Nat.le_of_ble_eq_true rfl) rfl ?_
          refine ej_aload_n B.1 d_E_keep_19 rfl ?_
          refine ej_getr B.1 (er_at B 0 rfl rfl) rfl rfl fl_E_10 d_E_keep_20 ?_
          refine ej_getr B.1 (er_at B 1 rfl rfl) rfl rfl fl_E_78 d_E_keep_23 ?_
          refine ej_iload_n B.1 d_E_keep_26 rfl ?_
          obtain ⟨e13, h⟩ := er_gd_some h
          refine ej_iald B.1 (er_at B 14 rfl rfl) rfl e13 d_E_keep_27 ?_
          refine ej_iconst B.1 (v := (-1)) d_E_keep_28 rfl ?_
          refine ej_icmp_ne B.1 (tgt := 36) d_E_keep_29 (by decide) (fun q14 => ?_) (fun q14 => ?_)
          · replace h := er_if h q14
            refine ej_iconst B.1 (v := 0) d_E_keep_36 rfl ?_
            exact ej_le (lv' := [some (.ref 0), some (.int x1), some (.int x2)]) ⟨rfl, ⟨rfl, ⟨rfl, trivial⟩⟩⟩ (ew_E_keep_37 hl B x1 x2 0 g12 _ h)
          · replace h := er_it h q14
            refine ej_iconst B.1 (v := 1) d_E_keep_32 rfl ?_
            refine ej_goto B.1 (tgt := 37) d_E_keep_33 (by decide) ?_
            exact ej_le (lv' := [some (.ref 0), some (.int x1), some (.int x2)]) ⟨rfl, ⟨rfl, ⟨rfl, trivial⟩⟩⟩ (ew_E_keep_37 hl B x1 x2 1 g12 _ h)
        · subst h
          exact ej_cv_t (nc := 1) (ns := 6) B.1 [.int x2] [] (ec_E_requireOutside hl.2 (er_pr B) x2 g9 (.inr k24, g12) e11) cal_E_requireOutside lk_E_75 in_E_requireOutside (er_at B 0 rfl rfl) rfl rfl se_E_requireOutside rfl B.2.2.2.1 d_E_keep_16 ⟨Nat.le_of_ble_eq_true rfl, Nat.le_of_ble_eq_true rfl, Nat.le_of_ble_eq_true rfl, Nat.le_of_ble_eq_true rfl⟩ (Nat.le_of_ble_eq_true rfl) rfl B.2.2.1 (B.2.2.2.2.2 _) ⟨Nat.le_of_ble_eq_true rfl, Nat.le_of_ble_eq_true rfl⟩
      · subst h
        exact ej_cv_t (nc := 1) (ns := 6) B.1 [.int x1] [] (ec_E_requireOpen hl.2 (er_pr B) x1 g6 (.inr k25, g9) e8) cal_E_requireOpen lk_E_72 in_E_requireOpen (er_at B 0 rfl rfl) rfl rfl se_E_requireOpen rfl B.2.2.2.1 d_E_keep_11 ⟨Nat.le_of_ble_eq_true rfl, Nat.le_of_ble_eq_true rfl, Nat.le_of_ble_eq_true rfl, Nat.le_of_ble_eq_true rfl⟩ (Nat.le_of_ble_eq_true rfl) rfl B.2.2.1 (B.2.2.2.2.2 _) ⟨Nat.le_of_ble_eq_true rfl, Nat.le_of_ble_eq_true rfl⟩
    · subst h
      exact ej_cs_t (nc := 1) (ns := 6) B.1 [.int x2] [] (ec_E_requirePerson hl.2 (er_pr B) x2 g3 (.inr k26, g6) e5) cal_E_requirePerson lk_E_69 st_E_requirePerson rfl B.2.2.2.1 d_E_keep_6 ⟨Nat.le_of_ble_eq_true rfl, Nat.le_of_ble_eq_true rfl, Nat.le_of_ble_eq_true rfl, Nat.le_of_ble_eq_true rfl⟩ (Nat.le_of_ble_eq_true rfl) rfl B.2.2.1 (B.2.2.2.2.2 _) ⟨Nat.le_of_ble_eq_true rfl, Nat.le_of_ble_eq_true rfl⟩
  · subst h
    exact ej_cv_t (nc := 1) (ns := 6) B.1 [.int x1] [] (ec_E_requireBoard hl.2 (er_pr B) x1 σ (.inr k27, g3) e2) cal_E_requireBoard lk_E_65 in_E_requireBoard (er_at B 0 rfl rfl) rfl rfl se_E_requireBoard rfl B.2.2.2.1 d_E_keep_2 ⟨Nat.le_of_ble_eq_true rfl, Nat.le_of_ble_eq_true rfl, Nat.le_of_ble_eq_true rfl, Nat.le_of_ble_eq_true rfl⟩ (Nat.le_of_ble_eq_true rfl) rfl B.2.2.1 (B.2.2.2.2.2 _) ⟨Nat.le_of_ble_eq_true rfl, Nat.le_of_ble_eq_true rfl⟩
set_option maxRecDepth 100000 in
set_option maxHeartbeats 4000000 in
theorem ec_E_right {l : Launch} {G : er_G} (hl : l.stackTraces = false) (hE : er_Pr G 0 21) (x1 x2 : Int32) (σ : er_S) (r : (Unit ⊕ Nat) × er_S) (h : ef_E_right x1 x2 σ = some r) : er_Con l y_E_right w_E_right 8 123 (er_nc r.1) (er_ns r.1) G [.ref 0, .int x1, .int x2] σ (er_cvu r) := by
  refine er_ofJ (ret := none) (cc := b_E_right) (maxL := 3) (lv0 := [some (.ref 0), some (.int x1), some (.int x2)]) (hh := []) (by decide +kernel) rfl (Or.inl rfl) (by intro v hv; simp only [List.mem_cons, List.not_mem_nil, or_false] at hv; rcases hv with rfl | rfl | rfl <;> rfl) (Nat.le_of_ble_eq_true rfl) ?_
  intro p e s m args below meth c hadm C hr hlk hml hw hnm hm hcd
  have B : er_B p s m c meth b_E_right "EntryRows" G (none) 3 0 21 := ⟨C, hr, hlk, hml, hE, er_noh hw hnm hm hcd⟩
  have hl := And.intro hadm hl
  unfold ef_E_right at h
  refine ej_iload_n B.1 d_E_right_0 rfl ?_
  rcases er_tb_some h with ⟨v1, g3, e2, h⟩ | ⟨k6, g3, e2, h⟩
  · refine ej_cs_v (nc := 0) (ns := 0) B.1 [.int x1] [] (ec_E_requirePerson hl.2 (er_pr B) x1 σ (.inl v1, g3) e2) cal_E_requirePerson lk_E_69 st_E_requirePerson rfl B.2.2.2.1 d_E_right_1 ⟨Nat.le_of_ble_eq_true rfl, Nat.le_of_ble_eq_true rfl, Nat.zero_le _, Nat.zero_le _⟩ (Nat.le_of_ble_eq_true rfl) rfl ?_
    refine ej_aload_n B.1 d_E_right_4 rfl ?_
    refine ej_getr B.1 (er_at B 0 rfl rfl) rfl rfl fl_E_10 d_E_right_5 ?_
    refine ej_getr B.1 (er_at B 1 rfl rfl) rfl rfl fl_E_91 d_E_right_8 ?_
    refine ej_iload_n B.1 d_E_right_11 rfl ?_
    refine ej_iload_n B.1 d_E_right_12 rfl ?_
    obtain ⟨e4, h⟩ := er_gd_some h
    obtain ⟨e5, h⟩ := er_gd_some h
    refine ej_zast B.1 (er_at B 15 rfl rfl) rfl e4 e5 d_E_right_13 ?_
    cases h
    exact ej_vret B.1 B.2.1 B.2.2.1 (Nat.zero_le _) (Nat.zero_le _) d_E_right_14
  · subst h
    exact ej_cs_t (nc := 1) (ns := 6) B.1 [.int x1] [] (ec_E_requirePerson hl.2 (er_pr B) x1 σ (.inr k6, g3) e2) cal_E_requirePerson lk_E_69 st_E_requirePerson rfl B.2.2.2.1 d_E_right_1 ⟨Nat.le_of_ble_eq_true rfl, Nat.le_of_ble_eq_true rfl, Nat.le_of_ble_eq_true rfl, Nat.le_of_ble_eq_true rfl⟩ (Nat.le_of_ble_eq_true rfl) rfl B.2.2.1 (B.2.2.2.2.2 _) ⟨Nat.le_of_ble_eq_true rfl, Nat.le_of_ble_eq_true rfl⟩
end
section
set_option maxRecDepth 100000 in
set_option maxHeartbeats 4000000 in
theorem ec_E_rest {l : Launch} {G : er_G} (hl : l.stackTraces = false) (hE : er_Pr G 0 21) (x1 : Int32) (σ : er_S) (r : (Unit ⊕ Nat) × er_S) (h : ef_E_rest x1 σ = some r) : er_Con l y_E_rest w_E_rest 7 105 (er_nc r.1) (er_ns r.1) G [.ref 0, .int x1] σ (er_cvu r) := by
  refine er_ofJ (ret := none) (cc := b_E_rest) (maxL := 2) (lv0 := [some (.ref 0), some (.int x1)]) (hh := []) (by decide +kernel) rfl (Or.inl rfl) (by intro v hv; simp only [List.mem_cons, List.not_mem_nil, or_false] at hv; rcases hv with rfl | rfl <;> rfl) (Nat.le_of_ble_eq_true rfl) ?_
  intro p e s m args below meth c hadm C hr hlk hml hw hnm hm hcd
  have B : er_B p s m c meth b_E_rest "EntryRows" G (none) 2 0 21 := ⟨C, hr, hlk, hml, hE, er_noh hw hnm hm hcd⟩
  have hl := And.intro hadm hl
  unfold ef_E_rest at h
  refine ej_iload_n B.1 d_E_rest_0 rfl ?_
  refine ej_iconst B.1 (v := 0) d_E_rest_1 rfl ?_
  refine ej_sipush B.1 (v := 10000) d_E_rest_2 (by decide +kernel) ?_
  rcases er_tb_some h with ⟨v1, g3, e2, h⟩ | ⟨k4, g3, e2, h⟩
  · refine ej_cs_v (nc := 0) (ns := 0) B.1 [.int x1, .int 0, .int 10000] [] (ec_E_requireRange hl.2 (er_pr B) x1 0 10000 σ (.inl v1, g3) e2) cal_E_requireRange lk_E_46 st_E_requireRange rfl B.2.2.2.1 d_E_rest_5 ⟨Nat.le_of_ble_eq_true rfl, Nat.le_of_ble_eq_true rfl, Nat.zero_le _, Nat.zero_le _⟩ (Nat.le_of_ble_eq_true rfl) rfl ?_
    refine ej_aload_n B.1 d_E_rest_8 rfl ?_
    refine ej_iload_n B.1 d_E_rest_9 rfl ?_
    refine ej_puti B.1 (er_at B 0 rfl rfl) rfl rfl fp_E_37 d_E_rest_10 ?_
    cases h
    exact ej_vret B.1 B.2.1 B.2.2.1 (Nat.zero_le _) (Nat.zero_le _) d_E_rest_13
  · subst h
    exact ej_cs_t (nc := 1) (ns := 6) B.1 [.int x1, .int 0, .int 10000] [] (ec_E_requireRange hl.2 (er_pr B) x1 0 10000 σ (.inr k4, g3) e2) cal_E_requireRange lk_E_46 st_E_requireRange rfl B.2.2.2.1 d_E_rest_5 ⟨Nat.le_of_ble_eq_true rfl, Nat.le_of_ble_eq_true rfl, Nat.le_of_ble_eq_true rfl, Nat.le_of_ble_eq_true rfl⟩ (Nat.le_of_ble_eq_true rfl) rfl B.2.2.1 (B.2.2.2.2.2 _) ⟨Nat.le_of_ble_eq_true rfl, Nat.le_of_ble_eq_true rfl⟩
set_option maxRecDepth 100000 in
set_option maxHeartbeats 4000000 in
theorem ew_E_isPlace_15 {p : Program} {l : Launch} {e : Env} {s : State} {m : MethodId} {args : Array Value} {below : List Frame} {meth : Method} {c : Code} {G : er_G} (B : er_B p s m c meth b_E_isPlace "EntryRows" G (some .boolean) 1 0 21) (t0 : Int32) (σ : er_S) (r : Int32) (h : ef_E_isPlace_15 t0 σ = some r) : er_J p l e { frames := 0, cells := 0, slots := 0, locals := 0 } s m args below meth c G (er_A G s.heap.size) s.heap (er_fin below G s 0 0 (.inl (some (.int r)), σ)) 0 0 σ 15 [none] [.int t0] := by
  unfold ef_E_isPlace_15 at h
  obtain ⟨e2, h⟩ := er_gd_some h
  cases h
  exact ej_zret B.1 B.2.1 B.2.2.1 (Nat.zero_le _) (Nat.zero_le _) e2 d_E_isPlace_15
set_option maxRecDepth 100000 in
set_option maxHeartbeats 4000000 in
theorem ew_E_isPlace_14 {p : Program} {l : Launch} {e : Env} {s : State} {m : MethodId} {args : Array Value} {below : List Frame} {meth : Method} {c : Code} {G : er_G} (B : er_B p s m c meth b_E_isPlace "EntryRows" G (some .boolean) 1 0 21) (σ : er_S) (r : Int32) (h : ef_E_isPlace_14  σ = some r) : er_J p l e { frames := 0, cells := 0, slots := 0, locals := 0 } s m args below meth c G (er_A G s.heap.size) s.heap (er_fin below G s 0 0 (.inl (some (.int r)), σ)) 0 0 σ 14 [none] [] := by
  unfold ef_E_isPlace_14 at h
  refine ej_iconst B.1 (v := 0) d_E_isPlace_14 rfl ?_
  exact ej_le (lv' := [none]) trivial (ew_E_isPlace_15 B 0 σ _ h)
set_option maxRecDepth 100000 in
set_option maxHeartbeats 4000000 in
theorem ec_E_isPlace {l : Launch} {G : er_G} (hE : er_Pr G 0 21) (x0 : Int32) (σ : er_S) (r : Int32) (h : ef_E_isPlace x0 σ = some r) : er_Con l y_E_isPlace w_E_isPlace 0 0 0 0 G [.int x0] σ ((.inl (some (.int r)), σ)) := by
  refine er_ofJ (ret := some .boolean) (cc := b_E_isPlace) (maxL := 1) (lv0 := [some (.int x0)]) (hh := []) (by decide +kernel) rfl (Or.inl rfl) (by intro v hv; simp only [List.mem_cons, List.not_mem_nil, or_false] at hv; rcases hv with rfl <;> rfl) (Nat.le_of_ble_eq_true rfl) ?_
  intro p e s m args below meth c hadm C hr hlk hml hw hnm hm hcd
  have B : er_B p s m c meth b_E_isPlace "EntryRows" G (some .boolean) 1 0 21 := ⟨C, hr, hlk, hml, hE, er_noh hw hnm hm hcd⟩
  unfold ef_E_isPlace at h
  refine ej_iload_n B.1 d_E_isPlace_0 rfl ?_
  refine ej_if_lt B.1 (tgt := 14) d_E_isPlace_1 (by decide) (fun q1 => ?_) (fun q1 => ?_)
  · replace h := er_it h q1
    exact ej_le (lv' := [none]) trivial (ew_E_isPlace_14 B σ _ h)
  · replace h := er_if h q1
    refine ej_iload_n B.1 d_E_isPlace_4 rfl ?_
    refine ej_bipush B.1 (v := 6) d_E_isPlace_5 (by decide +kernel) ?_
    refine ej_icmp_ge B.1 (tgt := 14) d_E_isPlace_7 (by decide) (fun q3 => ?_) (fun q3 => ?_)
    · replace h := er_it h q3
      exact ej_le (lv' := [none]) trivial (ew_E_isPlace_14 B σ _ h)
    · replace h := er_if h q3
      refine ej_iconst B.1 (v := 1) d_E_isPlace_10 rfl ?_
      refine ej_goto B.1 (tgt := 15) d_E_isPlace_11 (by decide) ?_
      exact ej_le (lv' := [none]) trivial (ew_E_isPlace_15 B 1 σ _ h)
set_option maxRecDepth 100000 in
set_option maxHeartbeats 4000000 in
theorem ec_E_heat {l : Launch} {G : er_G} (hl : l.stackTraces = false) (hE : er_Pr G 0 21) (x1 x2 : Int32) (σ : er_S) (r : (Unit ⊕ Nat) × er_S) (h : ef_E_heat x1 x2 σ = some r) : er_Con l y_E_heat w_E_heat 7 105 (er_nc r.1) (er_ns r.1) G [.ref 0, .int x1, .int x2] σ (er_cvu r) := by
  refine er_ofJ (ret := none) (cc := b_E_heat) (maxL := 3) (lv0 := [some (.ref 0), some (.int x1), some (.int x2)]) (hh := []) (by decide +kernel) rfl (Or.inl rfl) (by intro v hv; simp only [List.mem_cons, List.not_mem_nil, or_false] at hv; rcases hv with rfl | rfl | rfl <;> rfl) (Nat.le_of_ble_eq_true rfl) ?_
  intro p e s m args below meth c hadm C hr hlk hml hw hnm hm hcd
  have B : er_B p s m c meth b_E_heat "EntryRows" G (none) 3 0 21 := ⟨C, hr, hlk, hml, hE, er_noh hw hnm hm hcd⟩
  have hl := And.intro hadm hl
  unfold ef_E_heat at h
  refine ej_iload_n B.1 d_E_heat_0 rfl ?_
  obtain ⟨v1, e2, h⟩ := er_bd_some h
  refine ej_cs_i (nc := 0) (ns := 0) B.1 [.int x1] [] (ec_E_isPlace (er_pr B) x1 σ v1 e2) cal_E_isPlace lk_E_95 st_E_isPlace rfl B.2.2.2.1 d_E_heat_1 ⟨Nat.le_of_ble_eq_true rfl, Nat.le_of_ble_eq_true rfl, Nat.zero_le _, Nat.zero_le _⟩ (Nat.le_of_ble_eq_true rfl) rfl ?_
  rcases er_tb_some h with ⟨v3, g5, e4, h⟩ | ⟨k11, g5, e4, h⟩
  · refine ej_cs_v (nc := 0) (ns := 0) B.1 [.int v1] [] (ec_E_requireKnown hl.2 (er_pr B) v1 σ (.inl v3, g5) e4) cal_E_requireKnown lk_E_99 st_E_requireKnown rfl B.2.2.2.1 d_E_heat_4 ⟨Nat.le_of_ble_eq_true rfl, Nat.le_of_ble_eq_true rfl, Nat.zero_le _, Nat.zero_le _⟩ (Nat.le_of_ble_eq_true rfl) rfl ?_
    refine ej_iload_n B.1 d_E_heat_7 rfl ?_
    refine ej_iconst B.1 (v := 0) d_E_heat_8 rfl ?_
    refine ej_bipush B.1 (v := 100) d_E_heat_9 (by decide +kernel) ?_
    rcases er_tb_some h with ⟨v6, g8, e7, h⟩ | ⟨k10, g8, e7, h⟩
    · refine ej_cs_v (nc := 0) (ns := 0) B.1 [.int x2, .int 0, .int 100] [] (ec_E_requireRange hl.2 (er_pr B) x2 0 100 g5 (.inl v6, g8) e7) cal_E_requireRange lk_E_46 st_E_requireRange rfl B.2.2.2.1 d_E_heat_11 ⟨Nat.le_of_ble_eq_true rfl, Nat.le_of_ble_eq_true rfl, Nat.zero_le _, Nat.zero_le _⟩ (Nat.le_of_ble_eq_true rfl) rfl ?_
      refine ej_aload_n B.1 d_E_heat_14 rfl ?_
      refine ej_getr B.1 (er_at B 0 rfl rfl) rfl rfl fl_E_27 d_E_heat_15 ?_
      refine ej_iload_n B.1 d_E_heat_18 rfl ?_
      refine ej_iload_n B.1 d_E_heat_19 rfl ?_
      obtain ⟨e9, h⟩ := er_gd_some h
      refine ej_iast B.1 (er_at B 4 rfl rfl) rfl e9 d_E_heat_20 ?_
      cases h
      exact ej_vret B.1 B.2.1 B.2.2.1 (Nat.zero_le _) (Nat.zero_le _) d_E_heat_21
    · subst h
      exact ej_cs_t (nc := 1) (ns := 6) B.1 [.int x2, .int 0, .int 100] [] (ec_E_requireRange hl.2 (er_pr B) x2 0 100 g5 (.inr k10, g8) e7) cal_E_requireRange lk_E_46 st_E_requireRange rfl B.2.2.2.1 d_E_heat_11 ⟨Nat.le_of_ble_eq_true rfl, Nat.le_of_ble_eq_true rfl, Nat.le_of_ble_eq_true rfl, Nat.le_of_ble_eq_true rfl⟩ (Nat.le_of_ble_eq_true rfl) rfl B.2.2.1 (B.2.2.2.2.2 _) ⟨Nat.le_of_ble_eq_true rfl, Nat.le_of_ble_eq_true rfl⟩
  · subst h
    exact ej_cs_t (nc := 1) (ns := 6) B.1 [.int v1] [] (ec_E_requireKnown hl.2 (er_pr B) v1 σ (.inr k11, g5) e4) cal_E_requireKnown lk_E_99 st_E_requireKnown rfl B.2.2.2.1 d_E_heat_4 ⟨Nat.le_of_ble_eq_true rfl, Nat.le_of_ble_eq_true rfl, Nat.le_of_ble_eq_true rfl, Nat.le_of_ble_eq_true rfl⟩ (Nat.le_of_ble_eq_true rfl) rfl B.2.2.1 (B.2.2.2.2.2 _) ⟨Nat.le_of_ble_eq_true rfl, Nat.le_of_ble_eq_true rfl⟩
set_option maxRecDepth 100000 in
set_option maxHeartbeats 4000000 in
theorem ew_E_requireTeam_15 {p : Program} {l : Launch} {e : Env} {s : State} {m : MethodId} {args : Array Value} {below : List Frame} {meth : Method} {c : Code} {G : er_G} (hl : l.admits e ∧ l.stackTraces = false) (B : er_B p s m c meth b_E_requireTeam "EntryRows" G (none) 1 0 21) (t0 : Int32) (σ : er_S) (r : (Unit ⊕ Nat) × er_S) (h : ef_E_requireTeam_15 t0 σ = some r) : er_J p l e { frames := 7, cells := er_nc r.1, slots := er_ns r.1, locals := 103 } s m args below meth c G (er_A G s.heap.size) s.heap (er_fin below G s (er_nc r.1) (er_ns r.1) (er_cvu r)) 0 0 σ 15 [none] [.int t0] := by
  unfold ef_E_requireTeam_15 at h
  rcases er_tb_some h with ⟨v2, g4, e3, h⟩ | ⟨k5, g4, e3, h⟩
  · refine ej_cs_v (nc := 0) (ns := 0) B.1 [.int t0] [] (ec_E_requireKnown hl.2 (er_pr B) t0 σ (.inl v2, g4) e3) cal_E_requireKnown lk_E_99 st_E_requireKnown rfl B.2.2.2.1 d_E_requireTeam_15 ⟨Nat.le_of_ble_eq_true rfl, Nat.le_of_ble_eq_true rfl, Nat.zero_le _, Nat.zero_le _⟩ (Nat.le_of_ble_eq_true rfl) rfl ?_
    cases h
    exact ej_vret B.1 B.2.1 B.2.2.1 (Nat.zero_le _) (Nat.zero_le _) d_E_requireTeam_18
  · subst h
    exact ej_cs_t (nc := 1) (ns := 6) B.1 [.int t0] [] (ec_E_requireKnown hl.2 (er_pr B) t0 σ (.inr k5, g4) e3) cal_E_requireKnown lk_E_99 st_E_requireKnown rfl B.2.2.2.1 d_E_requireTeam_15 ⟨Nat.le_of_ble_eq_true rfl, Nat.le_of_ble_eq_true rfl, Nat.le_of_ble_eq_true rfl, Nat.le_of_ble_eq_true rfl⟩ (Nat.le_of_ble_eq_true rfl) rfl B.2.2.1 (B.2.2.2.2.2 _) ⟨Nat.le_of_ble_eq_true rfl, Nat.le_of_ble_eq_true rfl⟩
set_option maxRecDepth 100000 in
set_option maxHeartbeats 4000000 in
theorem ew_E_requireTeam_14 {p : Program} {l : Launch} {e : Env} {s : State} {m : MethodId} {args : Array Value} {below : List Frame} {meth : Method} {c : Code} {G : er_G} (hl : l.admits e ∧ l.stackTraces = false) (B : er_B p s m c meth b_E_requireTeam "EntryRows" G (none) 1 0 21) (σ : er_S) (r : (Unit ⊕ Nat) × er_S) (h : ef_E_requireTeam_14  σ = some r) : er_J p l e { frames := 7, cells := er_nc r.1, slots := er_ns r.1, locals := 103 } s m args below meth c G (er_A G s.heap.size) s.heap (er_fin below G s (er_nc r.1) (er_ns r.1) (er_cvu r)) 0 0 σ 14 [none] [] := by
  unfold ef_E_requireTeam_14 at h
  refine ej_iconst B.1 (v := 0) d_E_requireTeam_14 rfl ?_
  exact ej_le (lv' := [none]) trivial (ew_E_requireTeam_15 hl B 0 σ _ h)
set_option maxRecDepth 100000 in
set_option maxHeartbeats 4000000 in
theorem ec_E_requireTeam {l : Launch} {G : er_G} (hl : l.stackTraces = false) (hE : er_Pr G 0 21) (x0 : Int32) (σ : er_S) (r : (Unit ⊕ Nat) × er_S) (h : ef_E_requireTeam x0 σ = some r) : er_Con l y_E_requireTeam w_E_requireTeam 7 103 (er_nc r.1) (er_ns r.1) G [.int x0] σ (er_cvu r) := by
  refine er_ofJ (ret := none) (cc := b_E_requireTeam) (maxL := 1) (lv0 := [some (.int x0)]) (hh := []) (by decide +kernel) rfl (Or.inl rfl) (by intro v hv; simp only [List.mem_cons, List.not_mem_nil, or_false] at hv; rcases hv with rfl <;> rfl) (Nat.le_of_ble_eq_true rfl) ?_
  intro p e s m args below meth c hadm C hr hlk hml hw hnm hm hcd
  have B : er_B p s m c meth b_E_requireTeam "EntryRows" G (none) 1 0 21 := ⟨C, hr, hlk, hml, hE, er_noh hw hnm hm hcd⟩
  have hl := And.intro hadm hl
  unfold ef_E_requireTeam at h
  refine ej_iload_n B.1 d_E_requireTeam_0 rfl ?_
  refine ej_if_lt B.1 (tgt := 14) d_E_requireTeam_1 (by decide) (fun q1 => ?_) (fun q1 => ?_)
  · replace h := er_it h q1
    exact ej_le (lv' := [none]) trivial (ew_E_requireTeam_14 hl B σ _ h)
  · replace h := er_if h q1
    refine ej_iload_n B.1 d_E_requireTeam_4 rfl ?_
    refine ej_bipush B.1 (v := 16) d_E_requireTeam_5 (by decide +kernel) ?_
    refine ej_icmp_ge B.1 (tgt := 14) d_E_requireTeam_7 (by decide) (fun q6 => ?_) (fun q6 => ?_)
    · replace h := er_it h q6
      exact ej_le (lv' := [none]) trivial (ew_E_requireTeam_14 hl B σ _ h)
    · replace h := er_if h q6
      refine ej_iconst B.1 (v := 1) d_E_requireTeam_10 rfl ?_
      refine ej_goto B.1 (tgt := 15) d_E_requireTeam_11 (by decide) ?_
      exact ej_le (lv' := [none]) trivial (ew_E_requireTeam_15 hl B 1 σ _ h)
set_option maxRecDepth 100000 in
set_option maxHeartbeats 4000000 in
theorem ew_P_sizeOfTeam_4 {p : Program} {l : Launch} {e : Env} {s : State} {m : MethodId} {args : Array Value} {below : List Frame} {meth : Method} {c : Code} {G : er_G} (B : er_B p s m c meth b_P_sizeOfTeam "EntryRows$Persons" G (some .int) 4 0 21) : ∀ (n : Nat) (x1 x2 x3 : Int32) (σ : er_S) (r : Int32), ef_P_sizeOfTeam_4 n x1 x2 x3 σ = some r → er_J p l e { frames := 0, cells := 0, slots := 0, locals := 0 } s m args below meth c G (er_A G s.heap.size) s.heap (er_fin below G s 0 0 (.inl (some (.int r)), σ)) 0 0 σ 4 [some (.ref 1), some (.int x1), some (.int x2), some (.int x3)] [] := by
  intro n
  induction n with
  | zero => intro x1 x2 x3 σ r h; cases h
  | succ n ih =>
    intro x1 x2 x3 σ r h
    rw [ef_P_sizeOfTeam_4] at h
    refine ej_iload_n B.1 d_P_sizeOfTeam_4 rfl ?_
    refine ej_bipush B.1 (v := 40) d_P_sizeOfTeam_5 (by decide +kernel) ?_
    refine ej_icmp_ge B.1 (tgt := 29) d_P_sizeOfTeam_7 (by decide) (fun q1 => ?_) (fun q1 => ?_)
    · replace h := er_it h q1
      refine ej_iload_n B.1 d_P_sizeOfTeam_29 rfl ?_
      cases h
      exact ej_iret B.1 B.2.1 B.2.2.1 (Nat.zero_le _) (Nat.zero_le _) d_P_sizeOfTeam_30
    · replace h := er_if h q1
      refine ej_aload_n B.1 d_P_sizeOfTeam_10 rfl ?_
      refine ej_getr B.1 (er_at B 1 rfl rfl) rfl rfl fl_P_36 d_P_sizeOfTeam_11 ?_
      refine ej_iload_n B.1 d_P_sizeOfTeam_14 rfl ?_
      obtain ⟨e2, h⟩ := er_gd_some h
      refine ej_iald B.1 (er_at B 13 rfl rfl) rfl e2 d_P_sizeOfTeam_15 ?_
      refine ej_iload_n B.1 d_P_sizeOfTeam_16 rfl ?_
      refine ej_icmp_ne B.1 (tgt := 23) d_P_sizeOfTeam_17 (by decide) (fun q3 => ?_) (fun q3 => ?_)
      · replace h := er_if h q3
        refine ej_iinc B.1 (v := x3 + 1) (lv' := [some (.ref 1), some (.int x1), some (.int x2), some (.int (x3 + 1))]) d_P_sizeOfTeam_23 rfl rfl rfl rfl rfl ?_
        refine ej_goto B.1 (tgt := 4) d_P_sizeOfTeam_26 (by decide) ?_
        exact ej_le (lv' := [some (.ref 1), some (.int x1), some (.int x2), some (.int (x3 + 1))]) ⟨rfl, ⟨rfl, ⟨rfl, ⟨rfl, trivial⟩⟩⟩⟩ (ih x1 x2 (x3 + 1) σ _ h)
      · replace h := er_it h q3
        refine ej_iinc B.1 (v := x2 + 1) (lv' := [some (.ref 1), some (.int x1), some (.int (x2 + 1)), some (.int x3)]) d_P_sizeOfTeam_20 rfl rfl rfl rfl rfl ?_
        refine ej_iinc B.1 (v := x3 + 1) (lv' := [some (.ref 1), some (.int x1), some (.int (x2 + 1)), some (.int (x3 + 1))]) d_P_sizeOfTeam_23 rfl rfl rfl rfl rfl ?_
        refine ej_goto B.1 (tgt := 4) d_P_sizeOfTeam_26 (by decide) ?_
        exact ej_le (lv' := [some (.ref 1), some (.int x1), some (.int (x2 + 1)), some (.int (x3 + 1))]) ⟨rfl, ⟨rfl, ⟨rfl, ⟨rfl, trivial⟩⟩⟩⟩ (ih x1 (x2 + 1) (x3 + 1) σ _ h)
set_option maxRecDepth 100000 in
set_option maxHeartbeats 4000000 in
theorem ec_P_sizeOfTeam {l : Launch} {G : er_G} (hE : er_Pr G 0 21) (x1 : Int32) (σ : er_S) (r : Int32) (h : ef_P_sizeOfTeam x1 σ = some r) : er_Con l y_P_sizeOfTeam w_P_sizeOfTeam 0 0 0 0 G [.ref 1, .int x1] σ ((.inl (some (.int r)), σ)) := by
  refine er_ofJ (ret := some .int) (cc := b_P_sizeOfTeam) (maxL := 4) (lv0 := [some (.ref 1), some (.int x1), none, none]) (hh := []) (by decide +kernel) rfl (Or.inl rfl) (by intro v hv; simp only [List.mem_cons, List.not_mem_nil, or_false] at hv; rcases hv with rfl | rfl <;> rfl) (Nat.le_of_ble_eq_true rfl) ?_
  intro p e s m args below meth c hadm C hr hlk hml hw hnm hm hcd
  have B : er_B p s m c meth b_P_sizeOfTeam "EntryRows$Persons" G (some .int) 4 0 21 := ⟨C, hr, hlk, hml, hE, er_noh hw hnm hm hcd⟩
  unfold ef_P_sizeOfTeam at h
  refine ej_iconst B.1 (v := 0) d_P_sizeOfTeam_0 rfl ?_
  refine ej_istore_n B.1 (lv' := [some (.ref 1), some (.int x1), some (.int 0), none]) d_P_sizeOfTeam_1 rfl rfl rfl ?_
  refine ej_iconst B.1 (v := 0) d_P_sizeOfTeam_2 rfl ?_
  refine ej_istore_n B.1 (lv' := [some (.ref 1), some (.int x1), some (.int 0), some (.int 0)]) d_P_sizeOfTeam_3 rfl rfl rfl ?_
  exact ej_le (lv' := [some (.ref 1), some (.int x1), some (.int 0), some (.int 0)]) ⟨rfl, ⟨rfl, ⟨rfl, ⟨rfl, trivial⟩⟩⟩⟩ (ew_P_sizeOfTeam_4 B 64 x1 0 0 σ _ h)
set_option maxRecDepth 100000 in
set_option maxHeartbeats 4000000 in
theorem ew_E_member_86 {p : Program} {l : Launch} {e : Env} {s : State} {m : MethodId} {args : Array Value} {below : List Frame} {meth : Method} {c : Code} {G : er_G} (hl : l.admits e ∧ l.stackTraces = false) (B : er_B p s m c meth b_E_member "EntryRows" G (some .int) 4 0 21) (x1 t1 t2 : Int32) (σ : er_S) (r : (Int32 ⊕ Nat) × er_S) (h : ef_E_member_86 x1 t1 t2 σ = some r) : er_J p l e { frames := 8, cells := er_nc r.1, slots := er_ns r.1, locals := 124 } s m args below meth c G (er_A G s.heap.size) s.heap (er_fin below G s (er_nc r.1) (er_ns r.1) (er_cvi r)) 0 0 σ 86 [some (.ref 0), some (.int x1), none, none] [.int t2, .int t1, .ref 13] := by
  unfold ef_E_member_86 at h
  obtain ⟨e18, h⟩ := er_gd_some h
  refine ej_iast B.1 (er_at B 13 rfl rfl) rfl e18 d_E_member_86 ?_
  refine ej_aload_n B.1 d_E_member_87 rfl ?_
  refine ej_getr B.1 (er_at B 0 rfl rfl) rfl rfl fl_E_10 d_E_member_88 ?_
  refine ej_iload_n B.1 d_E_member_91 rfl ?_
  obtain ⟨v19, e20, h⟩ := er_bd_some h
  refine ej_cv_i (nc := 0) (ns := 0) B.1 [.int x1] [] (ec_P_sizeOfTeam (er_pr B) x1 (er_up σ 13 (er_ix t1) t2) v19 e20) cal_P_sizeOfTeam lk_E_108 in_P_sizeOfTeam (er_at B 1 rfl rfl) rfl rfl se_P_sizeOfTeam rfl B.2.2.2.1 d_E_member_92 ⟨Nat.le_of_ble_eq_true rfl, Nat.le_of_ble_eq_true rfl, Nat.zero_le _, Nat.zero_le _⟩ (Nat.le_of_ble_eq_true rfl) rfl ?_
  cases h
  exact ej_iret B.1 B.2.1 B.2.2.1 (Nat.zero_le _) (Nat.zero_le _) d_E_member_95
set_option maxRecDepth 100000 in
set_option maxHeartbeats 4000000 in
theorem ew_E_member_69 {p : Program} {l : Launch} {e : Env} {s : State} {m : MethodId} {args : Array Value} {below : List Frame} {meth : Method} {c : Code} {G : er_G} (hl : l.admits e ∧ l.stackTraces = false) (B : er_B p s m c meth b_E_member "EntryRows" G (some .int) 4 0 21) (x1 x2 x3 : Int32) (σ : er_S) (r : (Int32 ⊕ Nat) × er_S) (h : ef_E_member_69 x1 x2 x3 σ = some r) : er_J p l e { frames := 8, cells := er_nc r.1, slots := er_ns r.1, locals := 124 } s m args below meth c G (er_A G s.heap.size) s.heap (er_fin below G s (er_nc r.1) (er_ns r.1) (er_cvi r)) 0 0 σ 69 [some (.ref 0), some (.int x1), some (.int x2), some (.int x3)] [] := by
  unfold ef_E_member_69 at h
  refine ej_aload_n B.1 d_E_member_69 rfl ?_
  refine ej_getr B.1 (er_at B 0 rfl rfl) rfl rfl fl_E_10 d_E_member_70 ?_
  refine ej_getr B.1 (er_at B 1 rfl rfl) rfl rfl fl_E_105 d_E_member_73 ?_
  refine ej_iload_n B.1 d_E_member_76 rfl ?_
  refine ej_iload_n B.1 d_E_member_77 rfl ?_
  refine ej_if_eq B.1 (tgt := 85) d_E_member_78 (by decide) (fun q17 => ?_) (fun q17 => ?_)
  · replace h := er_it h q17
    refine ej_iconst B.1 (v := (-1)) d_E_member_85 rfl ?_
    exact ej_le (lv' := [some (.ref 0), some (.int x1), none, none]) ⟨rfl, ⟨rfl, trivial⟩⟩ (ew_E_member_86 hl B x1 x2 (-1) σ _ h)
  · replace h := er_if h q17
    refine ej_iload_n B.1 d_E_member_81 rfl ?_
    refine ej_goto B.1 (tgt := 86) d_E_member_82 (by decide) ?_
    exact ej_le (lv' := [some (.ref 0), some (.int x1), none, none]) ⟨rfl, ⟨rfl, trivial⟩⟩ (ew_E_member_86 hl B x1 x2 x1 σ _ h)
set_option maxRecDepth 100000 in
set_option maxHeartbeats 4000000 in
theorem ew_E_member_34 {p : Program} {l : Launch} {e : Env} {s : State} {m : MethodId} {args : Array Value} {below : List Frame} {meth : Method} {c : Code} {G : er_G} (hl : l.admits e ∧ l.stackTraces = false) (B : er_B p s m c meth b_E_member "EntryRows" G (some .int) 4 0 21) (x1 x2 x3 t0 : Int32) (σ : er_S) (r : (Int32 ⊕ Nat) × er_S) (h : ef_E_member_34 x1 x2 x3 t0 σ = some r) : er_J p l e { frames := 8, cells := er_nc r.1, slots := er_ns r.1, locals := 124 } s m args below meth c G (er_A G s.heap.size) s.heap (er_fin below G s (er_nc r.1) (er_ns r.1) (er_cvi r)) 0 0 σ 34 [some (.ref 0), some (.int x1), some (.int x2), some (.int x3)] [.int t0] := by
  unfold ef_E_member_34 at h
  rcases er_tb_some h with ⟨v10, g12, e11, h⟩ | ⟨k25, g12, e11, h⟩
  · refine ej_cs_v (nc := 0) (ns := 0) B.1 [.int t0] [] (ec_E_requireState hl.2 (er_pr B) t0 σ (.inl v10, g12) e11) cal_E_requireState lk_E_81 st_E_requireState rfl B.2.2.2.1 d_E_member_34 ⟨Nat.le_of_ble_eq_true rfl, Nat.le_of_ble_eq_true rfl, Nat.zero_le _, Nat.zero_le _⟩ (Nat.le_of_ble_eq_true rfl) rfl ?_
    refine ej_aload_n B.1 d_E_member_37 rfl ?_
    refine ej_iload_n B.1 d_E_member_38 rfl ?_
    rcases er_tb_some h with ⟨v13, g15, e14, h⟩ | ⟨k24, g15, e14, h⟩
    · refine ej_cv_v (nc := 0) (ns := 0) B.1 [.int x2] [] (ec_E_requireOutside hl.2 (er_pr B) x2 g12 (.inl v13, g15) e14) cal_E_requireOutside lk_E_75 in_E_requireOutside (er_at B 0 rfl rfl) rfl rfl se_E_requireOutside rfl B.2.2.2.1 d_E_member_39 ⟨Nat.le_of_ble_eq_true rfl, Nat.le_of_ble_eq_true rfl, Nat.zero_le _, Nat.zero_le _⟩ (Nat.le_of_ble_eq_true rfl) rfl ?_
      refine ej_iload_n B.1 d_E_member_42 rfl ?_
      refine ej_if_eq B.1 (tgt := 69) d_E_member_43 (by decide) (fun q16 => ?_) (fun q16 => ?_)
      · replace h := er_it h q16
        exact ej_le (lv' := [some (.ref 0), some (.int x1), some (.int x2), some (.int x3)]) ⟨rfl, ⟨rfl, ⟨rfl, ⟨rfl, trivial⟩⟩⟩⟩ (ew_E_member_69 hl B x1 x2 x3 g15 _ h)
      · replace h := er_if h q16
        refine ej_aload_n B.1 d_E_member_46 rfl ?_
        refine ej_getr B.1 (er_at B 0 rfl rfl) rfl rfl fl_E_10 d_E_member_47 ?_
        refine ej_iload_n B.1 d_E_member_50 rfl ?_
        obtain ⟨v21, e22, h⟩ := er_bd_some h
        refine ej_cv_i (nc := 0) (ns := 0) B.1 [.int x1] [] (ec_P_sizeOfTeam (er_pr B) x1 g15 v21 e22) cal_P_sizeOfTeam lk_E_108 in_P_sizeOfTeam (er_at B 1 rfl rfl) rfl rfl se_P_sizeOfTeam rfl B.2.2.2.1 d_E_member_51 ⟨Nat.le_of_ble_eq_true rfl, Nat.le_of_ble_eq_true rfl, Nat.zero_le _, Nat.zero_le _⟩ (Nat.le_of_ble_eq_true rfl) rfl ?_
        refine ej_bipush B.1 (v := 6) d_E_member_54 (by decide +kernel) ?_
        refine ej_icmp_lt B.1 (tgt := 69) d_E_member_56 (by decide) (fun q23 => ?_) (fun q23 => ?_)
        · replace h := er_it h q23
          exact ej_le (lv' := [some (.ref 0), some (.int x1), some (.int x2), some (.int x3)]) ⟨rfl, ⟨rfl, ⟨rfl, ⟨rfl, trivial⟩⟩⟩⟩ (ew_E_member_69 hl B x1 x2 x3 g15 _ h)
        · replace h := er_if h q23
          cases h
          exact th_E_member_59 B hl
    · subst h
      exact ej_cv_t (nc := 1) (ns := 6) B.1 [.int x2] [] (ec_E_requireOutside hl.2 (er_pr B) x2 g12 (.inr k24, g15) e14) cal_E_requireOutside lk_E_75 in_E_requireOutside (er_at B 0 rfl rfl) rfl rfl se_E_requireOutside rfl B.2.2.2.1 d_E_member_39 ⟨Nat.le_of_ble_eq_true rfl, Nat.le_of_ble_eq_true rfl, Nat.le_of_ble_eq_true rfl, Nat.le_of_ble_eq_true rfl⟩ (Nat.le_of_ble_eq_true rfl) rfl B.2.2.1 (B.2.2.2.2.2 _) ⟨Nat.le_of_ble_eq_true rfl, Nat.le_of_ble_eq_true rfl⟩
  · subst h
    exact ej_cs_t (nc := 1) (ns := 6) B.1 [.int t0] [] (ec_E_requireState hl.2 (er_pr B) t0 σ (.inr k25, g12) e11) cal_E_requireState lk_E_81 st_E_requireState rfl B.2.2.2.1 d_E_member_34 ⟨Nat.le_of_ble_eq_true rfl, Nat.le_of_ble_eq_true rfl, Nat.le_of_ble_eq_true rfl, Nat.le_of_ble_eq_true rfl⟩ (Nat.le_of_ble_eq_true rfl) rfl B.2.2.1 (B.2.2.2.2.2 _) ⟨Nat.le_of_ble_eq_true rfl, Nat.le_of_ble_eq_true rfl⟩
set_option maxRecDepth 100000 in
set_option maxHeartbeats 4000000 in
theorem ew_E_member_26 {p : Program} {l : Launch} {e : Env} {s : State} {m : MethodId} {args : Array Value} {below : List Frame} {meth : Method} {c : Code} {G : er_G} (hl : l.admits e ∧ l.stackTraces = false) (B : er_B p s m c meth b_E_member "EntryRows" G (some .int) 4 0 21) (x1 x2 x3 t0 t1 : Int32) (σ : er_S) (r : (Int32 ⊕ Nat) × er_S) (h : ef_E_member_26 x1 x2 x3 t0 t1 σ = some r) : er_J p l e { frames := 8, cells := er_nc r.1, slots := er_ns r.1, locals := 124 } s m args below meth c G (er_A G s.heap.size) s.heap (er_fin below G s (er_nc r.1) (er_ns r.1) (er_cvi r)) 0 0 σ 26 [some (.ref 0), some (.int x1), some (.int x2), some (.int x3)] [.int t1, .int t0] := by
  unfold ef_E_member_26 at h
  refine ej_icmp_ne B.1 (tgt := 33) d_E_member_26 (by decide) (fun q9 => ?_) (fun q9 => ?_)
  · replace h := er_if h q9
    refine ej_iconst B.1 (v := 0) d_E_member_33 rfl ?_
    exact ej_le (lv' := [some (.ref 0), some (.int x1), some (.int x2), some (.int x3)]) ⟨rfl, ⟨rfl, ⟨rfl, ⟨rfl, trivial⟩⟩⟩⟩ (ew_E_member_34 hl B x1 x2 x3 0 σ _ h)
  · replace h := er_it h q9
    refine ej_iconst B.1 (v := 1) d_E_member_29 rfl ?_
    refine ej_goto B.1 (tgt := 34) d_E_member_30 (by decide) ?_
    exact ej_le (lv' := [some (.ref 0), some (.int x1), some (.int x2), some (.int x3)]) ⟨rfl, ⟨rfl, ⟨rfl, ⟨rfl, trivial⟩⟩⟩⟩ (ew_E_member_34 hl B x1 x2 x3 1 σ _ h)
set_option maxRecDepth 100000 in
set_option maxHeartbeats 4000000 in
theorem ec_E_member {l : Launch} {G : er_G} (hl : l.stackTraces = false) (hE : er_Pr G 0 21) (x1 x2 x3 : Int32) (σ : er_S) (r : (Int32 ⊕ Nat) × er_S) (h : ef_E_member x1 x2 x3 σ = some r) : er_Con l y_E_member w_E_member 8 124 (er_nc r.1) (er_ns r.1) G [.ref 0, .int x1, .int x2, .int x3] σ (er_cvi r) := by
  refine er_ofJ (ret := some .int) (cc := b_E_member) (maxL := 4) (lv0 := [some (.ref 0), some (.int x1), some (.int x2), some (.int x3)]) (hh := []) (by decide +kernel) rfl (Or.inl rfl) (by intro v hv; simp only [List.mem_cons, List.not_mem_nil, or_false] at hv; rcases hv with rfl | rfl | rfl | rfl <;> rfl) (Nat.le_of_ble_eq_true rfl) ?_
  intro p e s m args below meth c hadm C hr hlk hml hw hnm hm hcd
  have B : er_B p s m c meth b_E_member "EntryRows" G (some .int) 4 0 21 := ⟨C, hr, hlk, hml, hE, er_noh hw hnm hm hcd⟩
  have hl := And.intro hadm hl
  unfold ef_E_member at h
  refine ej_iload_n B.1 d_E_member_0 rfl ?_
  rcases er_tb_some h with ⟨v1, g3, e2, h⟩ | ⟨k27, g3, e2, h⟩
  · refine ej_cs_v (nc := 0) (ns := 0) B.1 [.int x1] [] (ec_E_requireTeam hl.2 (er_pr B) x1 σ (.inl v1, g3) e2) cal_E_requireTeam lk_E_102 st_E_requireTeam rfl B.2.2.2.1 d_E_member_1 ⟨Nat.le_of_ble_eq_true rfl, Nat.le_of_ble_eq_true rfl, Nat.zero_le _, Nat.zero_le _⟩ (Nat.le_of_ble_eq_true rfl) rfl ?_
    refine ej_iload_n B.1 d_E_member_4 rfl ?_
    rcases er_tb_some h with ⟨v4, g6, e5, h⟩ | ⟨k26, g6, e5, h⟩
    · refine ej_cs_v (nc := 0) (ns := 0) B.1 [.int x2] [] (ec_E_requirePerson hl.2 (er_pr B) x2 g3 (.inl v4, g6) e5) cal_E_requirePerson lk_E_69 st_E_requirePerson rfl B.2.2.2.1 d_E_member_5 ⟨Nat.le_of_ble_eq_true rfl, Nat.le_of_ble_eq_true rfl, Nat.zero_le _, Nat.zero_le _⟩ (Nat.le_of_ble_eq_true rfl) rfl ?_
      refine ej_aload_n B.1 d_E_member_8 rfl ?_
      refine ej_getr B.1 (er_at B 0 rfl rfl) rfl rfl fl_E_10 d_E_member_9 ?_
      refine ej_getr B.1 (er_at B 1 rfl rfl) rfl rfl fl_E_105 d_E_member_12 ?_
      refine ej_iload_n B.1 d_E_member_15 rfl ?_
      obtain ⟨e7, h⟩ := er_gd_some h
      refine ej_iald B.1 (er_at B 13 rfl rfl) rfl e7 d_E_member_16 ?_
      refine ej_iload_n B.1 d_E_member_17 rfl ?_
      refine ej_if_eq B.1 (tgt := 25) d_E_member_18 (by decide) (fun q8 => ?_) (fun q8 => ?_)
      · replace h := er_it h q8
        refine ej_iload_n B.1 d_E_member_25 rfl ?_
        exact ej_le (lv' := [some (.ref 0), some (.int x1), some (.int x2), some (.int x3)]) ⟨rfl, ⟨rfl, ⟨rfl, ⟨rfl, trivial⟩⟩⟩⟩ (ew_E_member_26 hl B x1 x2 x3 (g6 13 (er_ix x2)) x1 g6 _ h)
      · replace h := er_if h q8
        refine ej_iconst B.1 (v := (-1)) d_E_member_21 rfl ?_
        refine ej_goto B.1 (tgt := 26) d_E_member_22 (by decide) ?_
        exact ej_le (lv' := [some (.ref 0), some (.int x1), some (.int x2), some (.int x3)]) ⟨rfl, ⟨rfl, ⟨rfl, ⟨rfl, trivial⟩⟩⟩⟩ (ew_E_member_26 hl B x1 x2 x3 (g6 13 (er_ix x2)) (-1) g6 _ h)
    · subst h
      exact ej_cs_t (nc := 1) (ns := 6) B.1 [.int x2] [] (ec_E_requirePerson hl.2 (er_pr B) x2 g3 (.inr k26, g6) e5) cal_E_requirePerson lk_E_69 st_E_requirePerson rfl B.2.2.2.1 d_E_member_5 ⟨Nat.le_of_ble_eq_true rfl, Nat.le_of_ble_eq_true rfl, Nat.le_of_ble_eq_true rfl, Nat.le_of_ble_eq_true rfl⟩ (Nat.le_of_ble_eq_true rfl) rfl B.2.2.1 (B.2.2.2.2.2 _) ⟨Nat.le_of_ble_eq_true rfl, Nat.le_of_ble_eq_true rfl⟩
  · subst h
    exact ej_cs_t (nc := 1) (ns := 6) B.1 [.int x1] [] (ec_E_requireTeam hl.2 (er_pr B) x1 σ (.inr k27, g3) e2) cal_E_requireTeam lk_E_102 st_E_requireTeam rfl B.2.2.2.1 d_E_member_1 ⟨Nat.le_of_ble_eq_true rfl, Nat.le_of_ble_eq_true rfl, Nat.le_of_ble_eq_true rfl, Nat.le_of_ble_eq_true rfl⟩ (Nat.le_of_ble_eq_true rfl) rfl B.2.2.1 (B.2.2.2.2.2 _) ⟨Nat.le_of_ble_eq_true rfl, Nat.le_of_ble_eq_true rfl⟩
set_option maxRecDepth 100000 in
set_option maxHeartbeats 4000000 in
theorem ew_P_isFree_33 {p : Program} {l : Launch} {e : Env} {s : State} {m : MethodId} {args : Array Value} {below : List Frame} {meth : Method} {c : Code} {G : er_G} (B : er_B p s m c meth b_P_isFree "EntryRows$Persons" G (some .boolean) 3 0 21) (t0 : Int32) (σ : er_S) (r : Int32) (h : ef_P_isFree_33 t0 σ = some r) : er_J p l e { frames := 1, cells := 0, slots := 0, locals := 21 } s m args below meth c G (er_A G s.heap.size) s.heap (er_fin below G s 0 0 (.inl (some (.int r)), σ)) 0 0 σ 33 [none, none, none] [.int t0] := by
  unfold ef_P_isFree_33 at h
  obtain ⟨e4, h⟩ := er_gd_some h
  cases h
  exact ej_zret B.1 B.2.1 B.2.2.1 (Nat.zero_le _) (Nat.zero_le _) e4 d_P_isFree_33
set_option maxRecDepth 100000 in
set_option maxHeartbeats 4000000 in
theorem ew_P_isFree_32 {p : Program} {l : Launch} {e : Env} {s : State} {m : MethodId} {args : Array Value} {below : List Frame} {meth : Method} {c : Code} {G : er_G} (B : er_B p s m c meth b_P_isFree "EntryRows$Persons" G (some .boolean) 3 0 21) (σ : er_S) (r : Int32) (h : ef_P_isFree_32  σ = some r) : er_J p l e { frames := 1, cells := 0, slots := 0, locals := 21 } s m args below meth c G (er_A G s.heap.size) s.heap (er_fin below G s 0 0 (.inl (some (.int r)), σ)) 0 0 σ 32 [none, none, none] [] := by
  unfold ef_P_isFree_32 at h
  refine ej_iconst B.1 (v := 0) d_P_isFree_32 rfl ?_
  exact ej_le (lv' := [none, none, none]) trivial (ew_P_isFree_33 B 0 σ _ h)
set_option maxRecDepth 100000 in
set_option maxHeartbeats 4000000 in
theorem ec_P_isFree {l : Launch} {G : er_G} (hE : er_Pr G 0 21) (x1 x2 : Int32) (σ : er_S) (r : Int32) (h : ef_P_isFree x1 x2 σ = some r) : er_Con l y_P_isFree w_P_isFree 1 21 0 0 G [.ref 1, .int x1, .int x2] σ ((.inl (some (.int r)), σ)) := by
  refine er_ofJ (ret := some .boolean) (cc := b_P_isFree) (maxL := 3) (lv0 := [some (.ref 1), some (.int x1), some (.int x2)]) (hh := []) (by decide +kernel) rfl (Or.inl rfl) (by intro v hv; simp only [List.mem_cons, List.not_mem_nil, or_false] at hv; rcases hv with rfl | rfl | rfl <;> rfl) (Nat.le_of_ble_eq_true rfl) ?_
  intro p e s m args below meth c hadm C hr hlk hml hw hnm hm hcd
  have B : er_B p s m c meth b_P_isFree "EntryRows$Persons" G (some .boolean) 3 0 21 := ⟨C, hr, hlk, hml, hE, er_noh hw hnm hm hcd⟩
  unfold ef_P_isFree at h
  refine ej_aload_n B.1 d_P_isFree_0 rfl ?_
  refine ej_iload_n B.1 d_P_isFree_1 rfl ?_
  obtain ⟨v1, e2, h⟩ := er_bd_some h
  refine ej_cv_i (nc := 0) (ns := 0) B.1 [.int x1] [] (ec_P_isInside (er_pr B) x1 σ v1 e2) cal_P_isInside lk_P_52 in_P_isInside (er_at B 1 rfl rfl) rfl rfl se_P_isInside rfl B.2.2.2.1 d_P_isFree_2 ⟨Nat.le_of_ble_eq_true rfl, Nat.le_of_ble_eq_true rfl, Nat.zero_le _, Nat.zero_le _⟩ (Nat.le_of_ble_eq_true rfl) rfl ?_
  refine ej_if_ne B.1 (tgt := 32) d_P_isFree_5 (by decide) (fun q3 => ?_) (fun q3 => ?_)
  · replace h := er_if h q3
    exact ej_le (lv' := [none, none, none]) trivial (ew_P_isFree_32 B σ _ h)
  · replace h := er_it h q3
    refine ej_iload_n B.1 d_P_isFree_8 rfl ?_
    refine ej_aload_n B.1 d_P_isFree_9 rfl ?_
    refine ej_getr B.1 (er_at B 1 rfl rfl) rfl rfl fl_P_27 d_P_isFree_10 ?_
    refine ej_iload_n B.1 d_P_isFree_13 rfl ?_
    obtain ⟨e5, h⟩ := er_gd_some h
    refine ej_iald B.1 (er_at B 10 rfl rfl) rfl e5 d_P_isFree_14 ?_
    refine ej_icmp_lt B.1 (tgt := 32) d_P_isFree_15 (by decide) (fun q6 => ?_) (fun q6 => ?_)
    · replace h := er_it h q6
      exact ej_le (lv' := [none, none, none]) trivial (ew_P_isFree_32 B σ _ h)
    · replace h := er_if h q6
      refine ej_aload_n B.1 d_P_isFree_18 rfl ?_
      refine ej_getr B.1 (er_at B 1 rfl rfl) rfl rfl fl_P_39 d_P_isFree_19 ?_
      refine ej_iload_n B.1 d_P_isFree_22 rfl ?_
      obtain ⟨e7, h⟩ := er_gd_some h
      refine ej_iald B.1 (er_at B 14 rfl rfl) rfl e7 d_P_isFree_23 ?_
      refine ej_iconst B.1 (v := (-1)) d_P_isFree_24 rfl ?_
      refine ej_icmp_ne B.1 (tgt := 32) d_P_isFree_25 (by decide) (fun q8 => ?_) (fun q8 => ?_)
      · replace h := er_if h q8
        exact ej_le (lv' := [none, none, none]) trivial (ew_P_isFree_32 B σ _ h)
      · replace h := er_it h q8
        refine ej_iconst B.1 (v := 1) d_P_isFree_28 rfl ?_
        refine ej_goto B.1 (tgt := 33) d_P_isFree_29 (by decide) ?_
        exact ej_le (lv' := [none, none, none]) trivial (ew_P_isFree_33 B 1 σ _ h)
set_option maxRecDepth 100000 in
set_option maxHeartbeats 4000000 in
theorem ew_P_isTeamReady_53 {p : Program} {l : Launch} {e : Env} {s : State} {m : MethodId} {args : Array Value} {below : List Frame} {meth : Method} {c : Code} {G : er_G} (B : er_B p s m c meth b_P_isTeamReady "EntryRows$Persons" G (some .boolean) 5 0 21) (t0 : Int32) (σ : er_S) (r : Int32) (h : ef_P_isTeamReady_53 t0 σ = some r) : er_J p l e { frames := 2, cells := 0, slots := 0, locals := 43 } s m args below meth c G (er_A G s.heap.size) s.heap (er_fin below G s 0 0 (.inl (some (.int r)), σ)) 0 0 σ 53 [none, none, none, none, none] [.int t0] := by
  unfold ef_P_isTeamReady_53 at h
  obtain ⟨e5, h⟩ := er_gd_some h
  cases h
  exact ej_zret B.1 B.2.1 B.2.2.1 (Nat.zero_le _) (Nat.zero_le _) e5 d_P_isTeamReady_53
set_option maxRecDepth 100000 in
set_option maxHeartbeats 4000000 in
theorem ew_P_isTeamReady_3 {p : Program} {l : Launch} {e : Env} {s : State} {m : MethodId} {args : Array Value} {below : List Frame} {meth : Method} {c : Code} {G : er_G} (B : er_B p s m c meth b_P_isTeamReady "EntryRows$Persons" G (some .boolean) 5 0 21) : ∀ (n : Nat) (x1 x2 x3 x4 : Int32) (σ : er_S) (r : Int32), ef_P_isTeamReady_3 n x1 x2 x3 x4 σ = some r → er_J p l e { frames := 2, cells := 0, slots := 0, locals := 43 } s m args below meth c G (er_A G s.heap.size) s.heap (er_fin below G s 0 0 (.inl (some (.int r)), σ)) 0 0 σ 3 [some (.ref 1), some (.int x1), some (.int x2), some (.int x3), some (.int x4)] [] := by
  intro n
  induction n with
  | zero => intro x1 x2 x3 x4 σ r h; cases h
  | succ n ih =>
    intro x1 x2 x3 x4 σ r h
    rw [ef_P_isTeamReady_3] at h
    refine ej_iload B.1 d_P_isTeamReady_3 rfl ?_
    refine ej_bipush B.1 (v := 40) d_P_isTeamReady_5 (by decide +kernel) ?_
    refine ej_icmp_ge B.1 (tgt := 39) d_P_isTeamReady_7 (by decide) (fun q1 => ?_) (fun q1 => ?_)
    · replace h := er_it h q1
      refine ej_aload_n B.1 d_P_isTeamReady_39 rfl ?_
      refine ej_iload_n B.1 d_P_isTeamReady_40 rfl ?_
      obtain ⟨v2, e3, h⟩ := er_bd_some h
      refine ej_cv_i (nc := 0) (ns := 0) B.1 [.int x1] [] (ec_P_sizeOfTeam (er_pr B) x1 σ v2 e3) cal_P_sizeOfTeam lk_P_60 in_P_sizeOfTeam (er_at B 1 rfl rfl) rfl rfl se_P_sizeOfTeam rfl B.2.2.2.1 d_P_isTeamReady_41 ⟨Nat.le_of_ble_eq_true rfl, Nat.le_of_ble_eq_true rfl, Nat.zero_le _, Nat.zero_le _⟩ (Nat.le_of_ble_eq_true rfl) rfl ?_
      refine ej_iload_n B.1 d_P_isTeamReady_44 rfl ?_
      refine ej_icmp_lt B.1 (tgt := 52) d_P_isTeamReady_45 (by decide) (fun q4 => ?_) (fun q4 => ?_)
      · replace h := er_it h q4
        refine ej_iconst B.1 (v := 0) d_P_isTeamReady_52 rfl ?_
        exact ej_le (lv' := [none, none, none, none, none]) trivial (ew_P_isTeamReady_53 B 0 σ _ h)
      · replace h := er_if h q4
        refine ej_iconst B.1 (v := 1) d_P_isTeamReady_48 rfl ?_
        refine ej_goto B.1 (tgt := 53) d_P_isTeamReady_49 (by decide) ?_
        exact ej_le (lv' := [none, none, none, none, none]) trivial (ew_P_isTeamReady_53 B 1 σ _ h)
    · replace h := er_if h q1
      refine ej_aload_n B.1 d_P_isTeamReady_10 rfl ?_
      refine ej_getr B.1 (er_at B 1 rfl rfl) rfl rfl fl_P_36 d_P_isTeamReady_11 ?_
      refine ej_iload B.1 d_P_isTeamReady_14 rfl ?_
      obtain ⟨e6, h⟩ := er_gd_some h
      refine ej_iald B.1 (er_at B 13 rfl rfl) rfl e6 d_P_isTeamReady_16 ?_
      refine ej_iload_n B.1 d_P_isTeamReady_17 rfl ?_
      refine ej_icmp_ne B.1 (tgt := 33) d_P_isTeamReady_18 (by decide) (fun q7 => ?_) (fun q7 => ?_)
      · replace h := er_if h q7
        refine ej_iinc B.1 (v := x4 + 1) (lv' := [some (.ref 1), some (.int x1), some (.int x2), some (.int x3), some (.int (x4 + 1))]) d_P_isTeamReady_33 rfl rfl rfl rfl rfl ?_
        refine ej_goto B.1 (tgt := 3) d_P_isTeamReady_36 (by decide) ?_
        exact ej_le (lv' := [some (.ref 1), some (.int x1), some (.int x2), some (.int x3), some (.int (x4 + 1))]) ⟨rfl, ⟨rfl, ⟨rfl, ⟨rfl, ⟨rfl, trivial⟩⟩⟩⟩⟩ (ih x1 x2 x3 (x4 + 1) σ _ h)
      · replace h := er_it h q7
        refine ej_aload_n B.1 d_P_isTeamReady_21 rfl ?_
        refine ej_iload B.1 d_P_isTeamReady_22 rfl ?_
        refine ej_iload_n B.1 d_P_isTeamReady_24 rfl ?_
        obtain ⟨v8, e9, h⟩ := er_bd_some h
        refine ej_cv_i (nc := 0) (ns := 0) B.1 [.int x4, .int x3] [] (ec_P_isFree (er_pr B) x4 x3 σ v8 e9) cal_P_isFree lk_P_56 in_P_isFree (er_at B 1 rfl rfl) rfl rfl se_P_isFree rfl B.2.2.2.1 d_P_isTeamReady_25 ⟨Nat.le_of_ble_eq_true rfl, Nat.le_of_ble_eq_true rfl, Nat.zero_le _, Nat.zero_le _⟩ (Nat.le_of_ble_eq_true rfl) rfl ?_
        refine ej_if_ne B.1 (tgt := 33) d_P_isTeamReady_28 (by decide) (fun q10 => ?_) (fun q10 => ?_)
        · replace h := er_if h q10
          refine ej_iinc B.1 (v := x4 + 1) (lv' := [some (.ref 1), some (.int x1), some (.int x2), some (.int x3), some (.int (x4 + 1))]) d_P_isTeamReady_33 rfl rfl rfl rfl rfl ?_
          refine ej_goto B.1 (tgt := 3) d_P_isTeamReady_36 (by decide) ?_
          exact ej_le (lv' := [some (.ref 1), some (.int x1), some (.int x2), some (.int x3), some (.int (x4 + 1))]) ⟨rfl, ⟨rfl, ⟨rfl, ⟨rfl, ⟨rfl, trivial⟩⟩⟩⟩⟩ (ih x1 x2 x3 (x4 + 1) σ _ h)
        · replace h := er_it h q10
          refine ej_iconst B.1 (v := 0) d_P_isTeamReady_31 rfl ?_
          obtain ⟨e11, h⟩ := er_gd_some h
          cases h
          exact ej_zret B.1 B.2.1 B.2.2.1 (Nat.zero_le _) (Nat.zero_le _) e11 d_P_isTeamReady_32
set_option maxRecDepth 100000 in
set_option maxHeartbeats 4000000 in
theorem ec_P_isTeamReady {l : Launch} {G : er_G} (hE : er_Pr G 0 21) (x1 x2 x3 : Int32) (σ : er_S) (r : Int32) (h : ef_P_isTeamReady x1 x2 x3 σ = some r) : er_Con l y_P_isTeamReady w_P_isTeamReady 2 43 0 0 G [.ref 1, .int x1, .int x2, .int x3] σ ((.inl (some (.int r)), σ)) := by
  refine er_ofJ (ret := some .boolean) (cc := b_P_isTeamReady) (maxL := 5) (lv0 := [some (.ref 1), some (.int x1), some (.int x2), some (.int x3), none]) (hh := []) (by decide +kernel) rfl (Or.inl rfl) (by intro v hv; simp only [List.mem_cons, List.not_mem_nil, or_false] at hv; rcases hv with rfl | rfl | rfl | rfl <;> rfl) (Nat.le_of_ble_eq_true rfl) ?_
  intro p e s m args below meth c hadm C hr hlk hml hw hnm hm hcd
  have B : er_B p s m c meth b_P_isTeamReady "EntryRows$Persons" G (some .boolean) 5 0 21 := ⟨C, hr, hlk, hml, hE, er_noh hw hnm hm hcd⟩
  unfold ef_P_isTeamReady at h
  refine ej_iconst B.1 (v := 0) d_P_isTeamReady_0 rfl ?_
  refine ej_istore B.1 (lv' := [some (.ref 1), some (.int x1), some (.int x2), some (.int x3), some (.int 0)]) d_P_isTeamReady_1 rfl rfl rfl ?_
  exact ej_le (lv' := [some (.ref 1), some (.int x1), some (.int x2), some (.int x3), some (.int 0)]) ⟨rfl, ⟨rfl, ⟨rfl, ⟨rfl, ⟨rfl, trivial⟩⟩⟩⟩⟩ (ew_P_isTeamReady_3 B 64 x1 x2 x3 0 σ _ h)
set_option maxRecDepth 100000 in
set_option maxHeartbeats 4000000 in
theorem ec_E_isReady {l : Launch} {G : er_G} (hE : er_Pr G 0 21) (x1 x2 : Int32) (σ : er_S) (r : Int32) (h : ef_E_isReady x1 x2 σ = some r) : er_Con l y_E_isReady w_E_isReady 3 67 0 0 G [.ref 0, .int x1, .int x2] σ ((.inl (some (.int r)), σ)) := by
  refine er_ofJ (ret := some .boolean) (cc := b_E_isReady) (maxL := 3) (lv0 := [some (.ref 0), some (.int x1), some (.int x2)]) (hh := []) (by decide +kernel) rfl (Or.inl rfl) (by intro v hv; simp only [List.mem_cons, List.not_mem_nil, or_false] at hv; rcases hv with rfl | rfl | rfl <;> rfl) (Nat.le_of_ble_eq_true rfl) ?_
  intro p e s m args below meth c hadm C hr hlk hml hw hnm hm hcd
  have B : er_B p s m c meth b_E_isReady "EntryRows" G (some .boolean) 3 0 21 := ⟨C, hr, hlk, hml, hE, er_noh hw hnm hm hcd⟩
  unfold ef_E_isReady at h
  refine ej_aload_n B.1 d_E_isReady_0 rfl ?_
  refine ej_getr B.1 (er_at B 0 rfl rfl) rfl rfl fl_E_10 d_E_isReady_1 ?_
  refine ej_iload_n B.1 d_E_isReady_4 rfl ?_
  refine ej_aload_n B.1 d_E_isReady_5 rfl ?_
  refine ej_getr B.1 (er_at B 0 rfl rfl) rfl rfl fl_E_19 d_E_isReady_6 ?_
  refine ej_getr B.1 (er_at B 2 rfl rfl) rfl rfl fl_E_227 d_E_isReady_9 ?_
  refine ej_iload_n B.1 d_E_isReady_12 rfl ?_
  obtain ⟨e1, h⟩ := er_gd_some h
  refine ej_iald B.1 (er_at B 17 rfl rfl) rfl e1 d_E_isReady_13 ?_
  refine ej_aload_n B.1 d_E_isReady_14 rfl ?_
  refine ej_geti B.1 (er_at B 0 rfl rfl) rfl rfl fl_E_30 d_E_isReady_15 ?_
  obtain ⟨v2, e3, h⟩ := er_bd_some h
  refine ej_cv_i (nc := 0) (ns := 0) B.1 [.int x1, .int (σ 17 (er_ix x2)), .int (σ 0 4)] [] (ec_P_isTeamReady (er_pr B) x1 (σ 17 (er_ix x2)) (σ 0 4) σ v2 e3) cal_P_isTeamReady lk_E_230 in_P_isTeamReady (er_at B 1 rfl rfl) rfl rfl se_P_isTeamReady rfl B.2.2.2.1 d_E_isReady_18 ⟨Nat.le_of_ble_eq_true rfl, Nat.le_of_ble_eq_true rfl, Nat.zero_le _, Nat.zero_le _⟩ (Nat.le_of_ble_eq_true rfl) rfl ?_
  obtain ⟨e4, h⟩ := er_gd_some h
  cases h
  exact ej_zret B.1 B.2.1 B.2.2.1 (Nat.zero_le _) (Nat.zero_le _) e4 d_E_isReady_21
set_option maxRecDepth 100000 in
set_option maxHeartbeats 4000000 in
theorem ew_E_readySafetyTeams_5 {p : Program} {l : Launch} {e : Env} {s : State} {m : MethodId} {args : Array Value} {below : List Frame} {meth : Method} {c : Code} {G : er_G} (B : er_B p s m c meth b_E_readySafetyTeams "EntryRows" G (some .int) 5 0 21) : ∀ (n : Nat) (x1 x2 x3 x4 : Int32) (σ : er_S) (r : Int32), ef_E_readySafetyTeams_5 n x1 x2 x3 x4 σ = some r → er_J p l e { frames := 4, cells := 0, slots := 0, locals := 89 } s m args below meth c G (er_A G s.heap.size) s.heap (er_fin below G s 0 0 (.inl (some (.int r)), σ)) 0 0 σ 5 [some (.ref 0), some (.int x1), some (.int x2), some (.int x3), some (.int x4)] [] := by
  intro n
  induction n with
  | zero => intro x1 x2 x3 x4 σ r h; cases h
  | succ n ih =>
    intro x1 x2 x3 x4 σ r h
    rw [ef_E_readySafetyTeams_5] at h
    refine ej_iload B.1 d_E_readySafetyTeams_5 rfl ?_
    refine ej_bipush B.1 (v := 16) d_E_readySafetyTeams_7 (by decide +kernel) ?_
    refine ej_icmp_ge B.1 (tgt := 48) d_E_readySafetyTeams_9 (by decide) (fun q1 => ?_) (fun q1 => ?_)
    · replace h := er_it h q1
      refine ej_iload_n B.1 d_E_readySafetyTeams_48 rfl ?_
      cases h
      exact ej_iret B.1 B.2.1 B.2.2.1 (Nat.zero_le _) (Nat.zero_le _) d_E_readySafetyTeams_49
    · replace h := er_if h q1
      refine ej_iload B.1 d_E_readySafetyTeams_12 rfl ?_
      refine ej_iload_n B.1 d_E_readySafetyTeams_14 rfl ?_
      refine ej_icmp_eq B.1 (tgt := 42) d_E_readySafetyTeams_15 (by decide) (fun q2 => ?_) (fun q2 => ?_)
      · replace h := er_it h q2
        refine ej_iinc B.1 (v := x4 + 1) (lv' := [some (.ref 0), some (.int x1), some (.int x2), some (.int x3), some (.int (x4 + 1))]) d_E_readySafetyTeams_42 rfl rfl rfl rfl rfl ?_
        refine ej_goto B.1 (tgt := 5) d_E_readySafetyTeams_45 (by decide) ?_
        exact ej_le (lv' := [some (.ref 0), some (.int x1), some (.int x2), some (.int x3), some (.int (x4 + 1))]) ⟨rfl, ⟨rfl, ⟨rfl, ⟨rfl, ⟨rfl, trivial⟩⟩⟩⟩⟩ (ih x1 x2 x3 (x4 + 1) σ _ h)
      · replace h := er_if h q2
        refine ej_aload_n B.1 d_E_readySafetyTeams_18 rfl ?_
        refine ej_getr B.1 (er_at B 0 rfl rfl) rfl rfl fl_E_23 d_E_readySafetyTeams_19 ?_
        refine ej_iload B.1 d_E_readySafetyTeams_22 rfl ?_
        obtain ⟨e3, h⟩ := er_gd_some h
        refine ej_iald B.1 (er_at B 3 rfl rfl) rfl e3 d_E_readySafetyTeams_24 ?_
        refine ej_iload_n B.1 d_E_readySafetyTeams_25 rfl ?_
        refine ej_icmp_ne B.1 (tgt := 42) d_E_readySafetyTeams_26 (by decide) (fun q4 => ?_) (fun q4 => ?_)
        · replace h := er_if h q4
          refine ej_iinc B.1 (v := x4 + 1) (lv' := [some (.ref 0), some (.int x1), some (.int x2), some (.int x3), some (.int (x4 + 1))]) d_E_readySafetyTeams_42 rfl rfl rfl rfl rfl ?_
          refine ej_goto B.1 (tgt := 5) d_E_readySafetyTeams_45 (by decide) ?_
          exact ej_le (lv' := [some (.ref 0), some (.int x1), some (.int x2), some (.int x3), some (.int (x4 + 1))]) ⟨rfl, ⟨rfl, ⟨rfl, ⟨rfl, ⟨rfl, trivial⟩⟩⟩⟩⟩ (ih x1 x2 x3 (x4 + 1) σ _ h)
        · replace h := er_it h q4
          refine ej_aload_n B.1 d_E_readySafetyTeams_29 rfl ?_
          refine ej_iload B.1 d_E_readySafetyTeams_30 rfl ?_
          refine ej_iload_n B.1 d_E_readySafetyTeams_32 rfl ?_
          obtain ⟨v5, e6, h⟩ := er_bd_some h
          refine ej_cv_i (nc := 0) (ns := 0) B.1 [.int x4, .int x1] [] (ec_E_isReady (er_pr B) x4 x1 σ v5 e6) cal_E_isReady lk_E_118 in_E_isReady (er_at B 0 rfl rfl) rfl rfl se_E_isReady rfl B.2.2.2.1 d_E_readySafetyTeams_33 ⟨Nat.le_of_ble_eq_true rfl, Nat.le_of_ble_eq_true rfl, Nat.zero_le _, Nat.zero_le _⟩ (Nat.le_of_ble_eq_true rfl) rfl ?_
          refine ej_if_eq B.1 (tgt := 42) d_E_readySafetyTeams_36 (by decide) (fun q7 => ?_) (fun q7 => ?_)
          · replace h := er_it h q7
            refine ej_iinc B.1 (v := x4 + 1) (lv' := [some (.ref 0), some (.int x1), some (.int x2), some (.int x3), some (.int (x4 + 1))]) d_E_readySafetyTeams_42 rfl rfl rfl rfl rfl ?_
            refine ej_goto B.1 (tgt := 5) d_E_readySafetyTeams_45 (by decide) ?_
            exact ej_le (lv' := [some (.ref 0), some (.int x1), some (.int x2), some (.int x3), some (.int (x4 + 1))]) ⟨rfl, ⟨rfl, ⟨rfl, ⟨rfl, ⟨rfl, trivial⟩⟩⟩⟩⟩ (ih x1 x2 x3 (x4 + 1) σ _ h)
          · replace h := er_if h q7
            refine ej_iinc B.1 (v := x3 + 1) (lv' := [some (.ref 0), some (.int x1), some (.int x2), some (.int (x3 + 1)), some (.int x4)]) d_E_readySafetyTeams_39 rfl rfl rfl rfl rfl ?_
            refine ej_iinc B.1 (v := x4 + 1) (lv' := [some (.ref 0), some (.int x1), some (.int x2), some (.int (x3 + 1)), some (.int (x4 + 1))]) d_E_readySafetyTeams_42 rfl rfl rfl rfl rfl ?_
            refine ej_goto B.1 (tgt := 5) d_E_readySafetyTeams_45 (by decide) ?_
            exact ej_le (lv' := [some (.ref 0), some (.int x1), some (.int x2), some (.int (x3 + 1)), some (.int (x4 + 1))]) ⟨rfl, ⟨rfl, ⟨rfl, ⟨rfl, ⟨rfl, trivial⟩⟩⟩⟩⟩ (ih x1 x2 (x3 + 1) (x4 + 1) σ _ h)
set_option maxRecDepth 100000 in
set_option maxHeartbeats 4000000 in
theorem ec_E_readySafetyTeams {l : Launch} {G : er_G} (hE : er_Pr G 0 21) (x1 x2 : Int32) (σ : er_S) (r : Int32) (h : ef_E_readySafetyTeams x1 x2 σ = some r) : er_Con l y_E_readySafetyTeams w_E_readySafetyTeams 4 89 0 0 G [.ref 0, .int x1, .int x2] σ ((.inl (some (.int r)), σ)) := by
  refine er_ofJ (ret := some .int) (cc := b_E_readySafetyTeams) (maxL := 5) (lv0 := [some (.ref 0), some (.int x1), some (.int x2), none, none]) (hh := []) (by decide +kernel) rfl (Or.inl rfl) (by intro v hv; simp only [List.mem_cons, List.not_mem_nil, or_false] at hv; rcases hv with rfl | rfl | rfl <;> rfl) (Nat.le_of_ble_eq_true rfl) ?_
  intro p e s m args below meth c hadm C hr hlk hml hw hnm hm hcd
  have B : er_B p s m c meth b_E_readySafetyTeams "EntryRows" G (some .int) 5 0 21 := ⟨C, hr, hlk, hml, hE, er_noh hw hnm hm hcd⟩
  unfold ef_E_readySafetyTeams at h
  refine ej_iconst B.1 (v := 0) d_E_readySafetyTeams_0 rfl ?_
  refine ej_istore_n B.1 (lv' := [some (.ref 0), some (.int x1), some (.int x2), some (.int 0), none]) d_E_readySafetyTeams_1 rfl rfl rfl ?_
  refine ej_iconst B.1 (v := 0) d_E_readySafetyTeams_2 rfl ?_
  refine ej_istore B.1 (lv' := [some (.ref 0), some (.int x1), some (.int x2), some (.int 0), some (.int 0)]) d_E_readySafetyTeams_3 rfl rfl rfl ?_
  exact ej_le (lv' := [some (.ref 0), some (.int x1), some (.int x2), some (.int 0), some (.int 0)]) ⟨rfl, ⟨rfl, ⟨rfl, ⟨rfl, ⟨rfl, trivial⟩⟩⟩⟩⟩ (ew_E_readySafetyTeams_5 B 64 x1 x2 0 0 σ _ h)
set_option maxRecDepth 100000 in
set_option maxHeartbeats 4000000 in
theorem ew_E_safety_54 {p : Program} {l : Launch} {e : Env} {s : State} {m : MethodId} {args : Array Value} {below : List Frame} {meth : Method} {c : Code} {G : er_G} (hl : l.admits e ∧ l.stackTraces = false) (B : er_B p s m c meth b_E_safety "EntryRows" G (some .int) 4 0 21) (x1 t1 t2 : Int32) (σ : er_S) (r : (Int32 ⊕ Nat) × er_S) (h : ef_E_safety_54 x1 t1 t2 σ = some r) : er_J p l e { frames := 8, cells := er_nc r.1, slots := er_ns r.1, locals := 124 } s m args below meth c G (er_A G s.heap.size) s.heap (er_fin below G s (er_nc r.1) (er_ns r.1) (er_cvi r)) 0 0 σ 54 [some (.ref 0), some (.int x1), none, none] [.int t2, .int t1, .ref 3] := by
  unfold ef_E_safety_54 at h
  obtain ⟨e17, h⟩ := er_gd_some h
  refine ej_iast B.1 (er_at B 3 rfl rfl) rfl e17 d_E_safety_54 ?_
  refine ej_aload_n B.1 d_E_safety_55 rfl ?_
  refine ej_iload_n B.1 d_E_safety_56 rfl ?_
  refine ej_iconst B.1 (v := (-1)) d_E_safety_57 rfl ?_
  obtain ⟨v18, e19, h⟩ := er_bd_some h
  refine ej_cv_i (nc := 0) (ns := 0) B.1 [.int x1, .int (-1)] [] (ec_E_readySafetyTeams (er_pr B) x1 (-1) (er_up σ 3 (er_ix t1) t2) v18 e19) cal_E_readySafetyTeams lk_E_114 in_E_readySafetyTeams (er_at B 0 rfl rfl) rfl rfl se_E_readySafetyTeams rfl B.2.2.2.1 d_E_safety_58 ⟨Nat.le_of_ble_eq_true rfl, Nat.le_of_ble_eq_true rfl, Nat.zero_le _, Nat.zero_le _⟩ (Nat.le_of_ble_eq_true rfl) rfl ?_
  cases h
  exact ej_iret B.1 B.2.1 B.2.2.1 (Nat.zero_le _) (Nat.zero_le _) d_E_safety_61
set_option maxRecDepth 100000 in
set_option maxHeartbeats 4000000 in
theorem ew_E_safety_37 {p : Program} {l : Launch} {e : Env} {s : State} {m : MethodId} {args : Array Value} {below : List Frame} {meth : Method} {c : Code} {G : er_G} (hl : l.admits e ∧ l.stackTraces = false) (B : er_B p s m c meth b_E_safety "EntryRows" G (some .int) 4 0 21) (x1 x2 x3 t0 : Int32) (σ : er_S) (r : (Int32 ⊕ Nat) × er_S) (h : ef_E_safety_37 x1 x2 x3 t0 σ = some r) : er_J p l e { frames := 8, cells := er_nc r.1, slots := er_ns r.1, locals := 124 } s m args below meth c G (er_A G s.heap.size) s.heap (er_fin below G s (er_nc r.1) (er_ns r.1) (er_cvi r)) 0 0 σ 37 [some (.ref 0), some (.int x1), some (.int x2), some (.int x3)] [.int t0] := by
  unfold ef_E_safety_37 at h
  rcases er_tb_some h with ⟨v13, g15, e14, h⟩ | ⟨k20, g15, e14, h⟩
  · refine ej_cs_v (nc := 0) (ns := 0) B.1 [.int t0] [] (ec_E_requireState hl.2 (er_pr B) t0 σ (.inl v13, g15) e14) cal_E_requireState lk_E_81 st_E_requireState rfl B.2.2.2.1 d_E_safety_37 ⟨Nat.le_of_ble_eq_true rfl, Nat.le_of_ble_eq_true rfl, Nat.zero_le _, Nat.zero_le _⟩ (Nat.le_of_ble_eq_true rfl) rfl ?_
    refine ej_aload_n B.1 d_E_safety_40 rfl ?_
    refine ej_getr B.1 (er_at B 0 rfl rfl) rfl rfl fl_E_23 d_E_safety_41 ?_
    refine ej_iload_n B.1 d_E_safety_44 rfl ?_
    refine ej_iload_n B.1 d_E_safety_45 rfl ?_
    refine ej_if_eq B.1 (tgt := 53) d_E_safety_46 (by decide) (fun q16 => ?_) (fun q16 => ?_)
    · replace h := er_it h q16
      refine ej_iconst B.1 (v := (-1)) d_E_safety_53 rfl ?_
      exact ej_le (lv' := [some (.ref 0), some (.int x1), none, none]) ⟨rfl, ⟨rfl, trivial⟩⟩ (ew_E_safety_54 hl B x1 x2 (-1) g15 _ h)
    · replace h := er_if h q16
      refine ej_iload_n B.1 d_E_safety_49 rfl ?_
      refine ej_goto B.1 (tgt := 54) d_E_safety_50 (by decide) ?_
      exact ej_le (lv' := [some (.ref 0), some (.int x1), none, none]) ⟨rfl, ⟨rfl, trivial⟩⟩ (ew_E_safety_54 hl B x1 x2 x1 g15 _ h)
  · subst h
    exact ej_cs_t (nc := 1) (ns := 6) B.1 [.int t0] [] (ec_E_requireState hl.2 (er_pr B) t0 σ (.inr k20, g15) e14) cal_E_requireState lk_E_81 st_E_requireState rfl B.2.2.2.1 d_E_safety_37 ⟨Nat.le_of_ble_eq_true rfl, Nat.le_of_ble_eq_true rfl, Nat.le_of_ble_eq_true rfl, Nat.le_of_ble_eq_true rfl⟩ (Nat.le_of_ble_eq_true rfl) rfl B.2.2.1 (B.2.2.2.2.2 _) ⟨Nat.le_of_ble_eq_true rfl, Nat.le_of_ble_eq_true rfl⟩
set_option maxRecDepth 100000 in
set_option maxHeartbeats 4000000 in
theorem ew_E_safety_29 {p : Program} {l : Launch} {e : Env} {s : State} {m : MethodId} {args : Array Value} {below : List Frame} {meth : Method} {c : Code} {G : er_G} (hl : l.admits e ∧ l.stackTraces = false) (B : er_B p s m c meth b_E_safety "EntryRows" G (some .int) 4 0 21) (x1 x2 x3 t0 t1 : Int32) (σ : er_S) (r : (Int32 ⊕ Nat) × er_S) (h : ef_E_safety_29 x1 x2 x3 t0 t1 σ = some r) : er_J p l e { frames := 8, cells := er_nc r.1, slots := er_ns r.1, locals := 124 } s m args below meth c G (er_A G s.heap.size) s.heap (er_fin below G s (er_nc r.1) (er_ns r.1) (er_cvi r)) 0 0 σ 29 [some (.ref 0), some (.int x1), some (.int x2), some (.int x3)] [.int t1, .int t0] := by
  unfold ef_E_safety_29 at h
  refine ej_icmp_ne B.1 (tgt := 36) d_E_safety_29 (by decide) (fun q12 => ?_) (fun q12 => ?_)
  · replace h := er_if h q12
    refine ej_iconst B.1 (v := 0) d_E_safety_36 rfl ?_
    exact ej_le (lv' := [some (.ref 0), some (.int x1), some (.int x2), some (.int x3)]) ⟨rfl, ⟨rfl, ⟨rfl, ⟨rfl, trivial⟩⟩⟩⟩ (ew_E_safety_37 hl B x1 x2 x3 0 σ _ h)
  · replace h := er_it h q12
    refine ej_iconst B.1 (v := 1) d_E_safety_32 rfl ?_
    refine ej_goto B.1 (tgt := 37) d_E_safety_33 (by decide) ?_
    exact ej_le (lv' := [some (.ref 0), some (.int x1), some (.int x2), some (.int x3)]) ⟨rfl, ⟨rfl, ⟨rfl, ⟨rfl, trivial⟩⟩⟩⟩ (ew_E_safety_37 hl B x1 x2 x3 1 σ _ h)
set_option maxRecDepth 100000 in
set_option maxHeartbeats 4000000 in
theorem ec_E_safety {l : Launch} {G : er_G} (hl : l.stackTraces = false) (hE : er_Pr G 0 21) (x1 x2 x3 : Int32) (σ : er_S) (r : (Int32 ⊕ Nat) × er_S) (h : ef_E_safety x1 x2 x3 σ = some r) : er_Con l y_E_safety w_E_safety 8 124 (er_nc r.1) (er_ns r.1) G [.ref 0, .int x1, .int x2, .int x3] σ (er_cvi r) := by
  refine er_ofJ (ret := some .int) (cc := b_E_safety) (maxL := 4) (lv0 := [some (.ref 0), some (.int x1), some (.int x2), some (.int x3)]) (hh := []) (by decide +kernel) rfl (Or.inl rfl) (by intro v hv; simp only [List.mem_cons, List.not_mem_nil, or_false] at hv; rcases hv with rfl | rfl | rfl | rfl <;> rfl) (Nat.le_of_ble_eq_true rfl) ?_
  intro p e s m args below meth c hadm C hr hlk hml hw hnm hm hcd
  have B : er_B p s m c meth b_E_safety "EntryRows" G (some .int) 4 0 21 := ⟨C, hr, hlk, hml, hE, er_noh hw hnm hm hcd⟩
  have hl := And.intro hadm hl
  unfold ef_E_safety at h
  refine ej_aload_n B.1 d_E_safety_0 rfl ?_
  refine ej_iload_n B.1 d_E_safety_1 rfl ?_
  rcases er_tb_some h with ⟨v1, g3, e2, h⟩ | ⟨k23, g3, e2, h⟩
  · refine ej_cv_v (nc := 0) (ns := 0) B.1 [.int x1] [] (ec_E_requireBoard hl.2 (er_pr B) x1 σ (.inl v1, g3) e2) cal_E_requireBoard lk_E_65 in_E_requireBoard (er_at B 0 rfl rfl) rfl rfl se_E_requireBoard rfl B.2.2.2.1 d_E_safety_2 ⟨Nat.le_of_ble_eq_true rfl, Nat.le_of_ble_eq_true rfl, Nat.zero_le _, Nat.zero_le _⟩ (Nat.le_of_ble_eq_true rfl) rfl ?_
    refine ej_iload_n B.1 d_E_safety_5 rfl ?_
    rcases er_tb_some h with ⟨v4, g6, e5, h⟩ | ⟨k22, g6, e5, h⟩
    · refine ej_cs_v (nc := 0) (ns := 0) B.1 [.int x2] [] (ec_E_requireTeam hl.2 (er_pr B) x2 g3 (.inl v4, g6) e5) cal_E_requireTeam lk_E_102 st_E_requireTeam rfl B.2.2.2.1 d_E_safety_6 ⟨Nat.le_of_ble_eq_true rfl, Nat.le_of_ble_eq_true rfl, Nat.zero_le _, Nat.zero_le _⟩ (Nat.le_of_ble_eq_true rfl) rfl ?_
      refine ej_aload_n B.1 d_E_safety_9 rfl ?_
      refine ej_iload_n B.1 d_E_safety_10 rfl ?_
      rcases er_tb_some h with ⟨v7, g9, e8, h⟩ | ⟨k21, g9, e8, h⟩
      · refine ej_cv_v (nc := 0) (ns := 0) B.1 [.int x1] [] (ec_E_requireOpen hl.2 (er_pr B) x1 g6 (.inl v7, g9) e8) cal_E_requireOpen lk_E_72 in_E_requireOpen (er_at B 0 rfl rfl) rfl rfl se_E_requireOpen rfl B.2.2.2.1 d_E_safety_11 ⟨Nat.le_of_ble_eq_true rfl, Nat.le_of_ble_eq_true rfl, Nat.zero_le _, Nat.zero_le _⟩ (Nat.le_of_ble_eq_true rfl) rfl ?_
        refine ej_aload_n B.1 d_E_safety_14 rfl ?_
        refine ej_getr B.1 (er_at B 0 rfl rfl) rfl rfl fl_E_23 d_E_safety_15 ?_
        refine ej_iload_n B.1 d_E_safety_18 rfl ?_
        obtain ⟨e10, h⟩ := er_gd_some h
        refine ej_iald B.1 (er_at B 3 rfl rfl) rfl e10 d_E_safety_19 ?_
        refine ej_iload_n B.1 d_E_safety_20 rfl ?_
        refine ej_if_eq B.1 (tgt := 28) d_E_safety_21 (by decide) (fun q11 => ?_) (fun q11 => ?_)
        · replace h := er_it h q11
          refine ej_iload_n B.1 d_E_safety_28 rfl ?_
          exact ej_le (lv' := [some (.ref 0), some (.int x1), some (.int x2), some (.int x3)]) ⟨rfl, ⟨rfl, ⟨rfl, ⟨rfl, trivial⟩⟩⟩⟩ (ew_E_safety_29 hl B x1 x2 x3 (g9 3 (er_ix x2)) x1 g9 _ h)
        · replace h := er_if h q11
          refine ej_iconst B.1 (v := (-1)) d_E_safety_24 rfl ?_
          refine ej_goto B.1 (tgt := 29) d_E_safety_25 (by decide) ?_
          exact ej_le (lv' := [some (.ref 0), some (.int x1), some (.int x2), some (.int x3)]) ⟨rfl, ⟨rfl, ⟨rfl, ⟨rfl, trivial⟩⟩⟩⟩ (ew_E_safety_29 hl B x1 x2 x3 (g9 3 (er_ix x2)) (-1) g9 _ h)
      · subst h
        exact ej_cv_t (nc := 1) (ns := 6) B.1 [.int x1] [] (ec_E_requireOpen hl.2 (er_pr B) x1 g6 (.inr k21, g9) e8) cal_E_requireOpen lk_E_72 in_E_requireOpen (er_at B 0 rfl rfl) rfl rfl se_E_requireOpen rfl B.2.2.2.1 d_E_safety_11 ⟨Nat.le_of_ble_eq_true rfl, Nat.le_of_ble_eq_true rfl, Nat.le_of_ble_eq_true rfl, Nat.le_of_ble_eq_true rfl⟩ (Nat.le_of_ble_eq_true rfl) rfl B.2.2.1 (B.2.2.2.2.2 _) ⟨Nat.le_of_ble_eq_true rfl, Nat.le_of_ble_eq_true rfl⟩
    · subst h
      exact ej_cs_t (nc := 1) (ns := 6) B.1 [.int x2] [] (ec_E_requireTeam hl.2 (er_pr B) x2 g3 (.inr k22, g6) e5) cal_E_requireTeam lk_E_102 st_E_requireTeam rfl B.2.2.2.1 d_E_safety_6 ⟨Nat.le_of_ble_eq_true rfl, Nat.le_of_ble_eq_true rfl, Nat.le_of_ble_eq_true rfl, Nat.le_of_ble_eq_true rfl⟩ (Nat.le_of_ble_eq_true rfl) rfl B.2.2.1 (B.2.2.2.2.2 _) ⟨Nat.le_of_ble_eq_true rfl, Nat.le_of_ble_eq_true rfl⟩
  · subst h
    exact ej_cv_t (nc := 1) (ns := 6) B.1 [.int x1] [] (ec_E_requireBoard hl.2 (er_pr B) x1 σ (.inr k23, g3) e2) cal_E_requireBoard lk_E_65 in_E_requireBoard (er_at B 0 rfl rfl) rfl rfl se_E_requireBoard rfl B.2.2.2.1 d_E_safety_2 ⟨Nat.le_of_ble_eq_true rfl, Nat.le_of_ble_eq_true rfl, Nat.le_of_ble_eq_true rfl, Nat.le_of_ble_eq_true rfl⟩ (Nat.le_of_ble_eq_true rfl) rfl B.2.2.1 (B.2.2.2.2.2 _) ⟨Nat.le_of_ble_eq_true rfl, Nat.le_of_ble_eq_true rfl⟩
end
section
set_option maxRecDepth 100000 in
set_option maxHeartbeats 4000000 in
theorem ew_E_isCovered_23 {p : Program} {l : Launch} {e : Env} {s : State} {m : MethodId} {args : Array Value} {below : List Frame} {meth : Method} {c : Code} {G : er_G} (B : er_B p s m c meth b_E_isCovered "EntryRows" G (some .boolean) 3 0 21) (t0 : Int32) (σ : er_S) (r : Int32) (h : ef_E_isCovered_23 t0 σ = some r) : er_J p l e { frames := 5, cells := 0, slots := 0, locals := 113 } s m args below meth c G (er_A G s.heap.size) s.heap (er_fin below G s 0 0 (.inl (some (.int r)), σ)) 0 0 σ 23 [none, none, none] [.int t0] := by
  unfold ef_E_isCovered_23 at h
  obtain ⟨e5, h⟩ := er_gd_some h
  cases h
  exact ej_zret B.1 B.2.1 B.2.2.1 (Nat.zero_le _) (Nat.zero_le _) e5 d_E_isCovered_23
set_option maxRecDepth 100000 in
set_option maxHeartbeats 4000000 in
theorem ec_E_isCovered {l : Launch} {G : er_G} (hE : er_Pr G 0 21) (x1 x2 : Int32) (σ : er_S) (r : Int32) (h : ef_E_isCovered x1 x2 σ = some r) : er_Con l y_E_isCovered w_E_isCovered 5 113 0 0 G [.ref 0, .int x1, .int x2] σ ((.inl (some (.int r)), σ)) := by
  refine er_ofJ (ret := some .boolean) (cc := b_E_isCovered) (maxL := 3) (lv0 := [some (.ref 0), some (.int x1), some (.int x2)]) (hh := []) (by decide +kernel) rfl (Or.inl rfl) (by intro v hv; simp only [List.mem_cons, List.not_mem_nil, or_false] at hv; rcases hv with rfl | rfl | rfl <;> rfl) (Nat.le_of_ble_eq_true rfl) ?_
  intro p e s m args below meth c hadm C hr hlk hml hw hnm hm hcd
  have B : er_B p s m c meth b_E_isCovered "EntryRows" G (some .boolean) 3 0 21 := ⟨C, hr, hlk, hml, hE, er_noh hw hnm hm hcd⟩
  unfold ef_E_isCovered at h
  refine ej_aload_n B.1 d_E_isCovered_0 rfl ?_
  refine ej_iload_n B.1 d_E_isCovered_1 rfl ?_
  refine ej_iload_n B.1 d_E_isCovered_2 rfl ?_
  obtain ⟨v1, e2, h⟩ := er_bd_some h
  refine ej_cv_i (nc := 0) (ns := 0) B.1 [.int x1, .int x2] [] (ec_E_readySafetyTeams (er_pr B) x1 x2 σ v1 e2) cal_E_readySafetyTeams lk_E_114 in_E_readySafetyTeams (er_at B 0 rfl rfl) rfl rfl se_E_readySafetyTeams rfl B.2.2.2.1 d_E_isCovered_3 ⟨Nat.le_of_ble_eq_true rfl, Nat.le_of_ble_eq_true rfl, Nat.zero_le _, Nat.zero_le _⟩ (Nat.le_of_ble_eq_true rfl) rfl ?_
  refine ej_aload_n B.1 d_E_isCovered_6 rfl ?_
  refine ej_getr B.1 (er_at B 0 rfl rfl) rfl rfl fl_E_19 d_E_isCovered_7 ?_
  refine ej_getr B.1 (er_at B 2 rfl rfl) rfl rfl fl_E_234 d_E_isCovered_10 ?_
  refine ej_iload_n B.1 d_E_isCovered_13 rfl ?_
  obtain ⟨e3, h⟩ := er_gd_some h
  refine ej_iald B.1 (er_at B 19 rfl rfl) rfl e3 d_E_isCovered_14 ?_
  refine ej_icmp_lt B.1 (tgt := 22) d_E_isCovered_15 (by decide) (fun q4 => ?_) (fun q4 => ?_)
  · replace h := er_it h q4
    refine ej_iconst B.1 (v := 0) d_E_isCovered_22 rfl ?_
    exact ej_le (lv' := [none, none, none]) trivial (ew_E_isCovered_23 B 0 σ _ h)
  · replace h := er_if h q4
    refine ej_iconst B.1 (v := 1) d_E_isCovered_18 rfl ?_
    refine ej_goto B.1 (tgt := 23) d_E_isCovered_19 (by decide) ?_
    exact ej_le (lv' := [none, none, none]) trivial (ew_E_isCovered_23 B 1 σ _ h)
set_option maxRecDepth 100000 in
set_option maxHeartbeats 4000000 in
theorem ew_E_keeperMayLetRescue_34 {p : Program} {l : Launch} {e : Env} {s : State} {m : MethodId} {args : Array Value} {below : List Frame} {meth : Method} {c : Code} {G : er_G} (B : er_B p s m c meth b_E_keeperMayLetRescue "EntryRows" G (some .boolean) 3 0 21) (t0 : Int32) (σ : er_S) (r : Int32) (h : ef_E_keeperMayLetRescue_34 t0 σ = some r) : er_J p l e { frames := 1, cells := 0, slots := 0, locals := 20 } s m args below meth c G (er_A G s.heap.size) s.heap (er_fin below G s 0 0 (.inl (some (.int r)), σ)) 0 0 σ 34 [none, none, none] [.int t0] := by
  unfold ef_E_keeperMayLetRescue_34 at h
  obtain ⟨e5, h⟩ := er_gd_some h
  cases h
  exact ej_zret B.1 B.2.1 B.2.2.1 (Nat.zero_le _) (Nat.zero_le _) e5 d_E_keeperMayLetRescue_34
set_option maxRecDepth 100000 in
set_option maxHeartbeats 4000000 in
theorem ew_E_keeperMayLetRescue_33 {p : Program} {l : Launch} {e : Env} {s : State} {m : MethodId} {args : Array Value} {below : List Frame} {meth : Method} {c : Code} {G : er_G} (B : er_B p s m c meth b_E_keeperMayLetRescue "EntryRows" G (some .boolean) 3 0 21) (σ : er_S) (r : Int32) (h : ef_E_keeperMayLetRescue_33  σ = some r) : er_J p l e { frames := 1, cells := 0, slots := 0, locals := 20 } s m args below meth c G (er_A G s.heap.size) s.heap (er_fin below G s 0 0 (.inl (some (.int r)), σ)) 0 0 σ 33 [none, none, none] [] := by
  unfold ef_E_keeperMayLetRescue_33 at h
  refine ej_iconst B.1 (v := 0) d_E_keeperMayLetRescue_33 rfl ?_
  exact ej_le (lv' := [none, none, none]) trivial (ew_E_keeperMayLetRescue_34 B 0 σ _ h)
set_option maxRecDepth 100000 in
set_option maxHeartbeats 4000000 in
theorem ec_E_keeperMayLetRescue {l : Launch} {G : er_G} (hE : er_Pr G 0 21) (x1 : Int32) (σ : er_S) (r : Int32) (h : ef_E_keeperMayLetRescue x1 σ = some r) : er_Con l y_E_keeperMayLetRescue w_E_keeperMayLetRescue 1 20 0 0 G [.ref 0, .int x1] σ ((.inl (some (.int r)), σ)) := by
  refine er_ofJ (ret := some .boolean) (cc := b_E_keeperMayLetRescue) (maxL := 3) (lv0 := [some (.ref 0), some (.int x1), none]) (hh := []) (by decide +kernel) rfl (Or.inl rfl) (by intro v hv; simp only [List.mem_cons, List.not_mem_nil, or_false] at hv; rcases hv with rfl | rfl <;> rfl) (Nat.le_of_ble_eq_true rfl) ?_
  intro p e s m args below meth c hadm C hr hlk hml hw hnm hm hcd
  have B : er_B p s m c meth b_E_keeperMayLetRescue "EntryRows" G (some .boolean) 3 0 21 := ⟨C, hr, hlk, hml, hE, er_noh hw hnm hm hcd⟩
  unfold ef_E_keeperMayLetRescue at h
  refine ej_aload_n B.1 d_E_keeperMayLetRescue_0 rfl ?_
  refine ej_getr B.1 (er_at B 0 rfl rfl) rfl rfl fl_E_19 d_E_keeperMayLetRescue_1 ?_
  refine ej_getr B.1 (er_at B 2 rfl rfl) rfl rfl fl_E_88 d_E_keeperMayLetRescue_4 ?_
  refine ej_iload_n B.1 d_E_keeperMayLetRescue_7 rfl ?_
  obtain ⟨e1, h⟩ := er_gd_some h
  refine ej_iald B.1 (er_at B 20 rfl rfl) rfl e1 d_E_keeperMayLetRescue_8 ?_
  refine ej_istore_n B.1 (lv' := [some (.ref 0), some (.int x1), some (.int (σ 20 (er_ix x1)))]) d_E_keeperMayLetRescue_9 rfl rfl rfl ?_
  refine ej_iload_n B.1 d_E_keeperMayLetRescue_10 rfl ?_
  obtain ⟨v2, e3, h⟩ := er_bd_some h
  refine ej_cs_i (nc := 0) (ns := 0) B.1 [.int (σ 20 (er_ix x1))] [] (ec_E_isPerson (er_pr B) (σ 20 (er_ix x1)) σ v2 e3) cal_E_isPerson lk_E_173 st_E_isPerson rfl B.2.2.2.1 d_E_keeperMayLetRescue_11 ⟨Nat.le_of_ble_eq_true rfl, Nat.le_of_ble_eq_true rfl, Nat.zero_le _, Nat.zero_le _⟩ (Nat.le_of_ble_eq_true rfl) rfl ?_
  refine ej_if_eq B.1 (tgt := 33) d_E_keeperMayLetRescue_14 (by decide) (fun q4 => ?_) (fun q4 => ?_)
  · replace h := er_it h q4
    exact ej_le (lv' := [none, none, none]) trivial (ew_E_keeperMayLetRescue_33 B σ _ h)
  · replace h := er_if h q4
    refine ej_aload_n B.1 d_E_keeperMayLetRescue_17 rfl ?_
    refine ej_getr B.1 (er_at B 0 rfl rfl) rfl rfl fl_E_10 d_E_keeperMayLetRescue_18 ?_
    refine ej_getr B.1 (er_at B 1 rfl rfl) rfl rfl fl_E_91 d_E_keeperMayLetRescue_21 ?_
    refine ej_iload_n B.1 d_E_keeperMayLetRescue_24 rfl ?_
    obtain ⟨e6, h⟩ := er_gd_some h
    refine ej_zald B.1 (er_at B 15 rfl rfl) rfl e6 d_E_keeperMayLetRescue_25 ?_
    refine ej_if_eq B.1 (tgt := 33) d_E_keeperMayLetRescue_26 (by decide) (fun q7 => ?_) (fun q7 => ?_)
    · replace h := er_it h q7
      exact ej_le (lv' := [none, none, none]) trivial (ew_E_keeperMayLetRescue_33 B σ _ h)
    · replace h := er_if h q7
      refine ej_iconst B.1 (v := 1) d_E_keeperMayLetRescue_29 rfl ?_
      refine ej_goto B.1 (tgt := 34) d_E_keeperMayLetRescue_30 (by decide) ?_
      exact ej_le (lv' := [none, none, none]) trivial (ew_E_keeperMayLetRescue_34 B 1 σ _ h)
set_option maxRecDepth 100000 in
set_option maxHeartbeats 4000000 in
theorem ec_P_setEntry {l : Launch} {G : er_G} (hE : er_Pr G 0 21) (x1 x2 x3 x4 x5 x6 : Int32) (σ : er_S) (r : Unit × er_S) (h : ef_P_setEntry x1 x2 x3 x4 x5 x6 σ = some r) : er_Con l y_P_setEntry w_P_setEntry 0 0 0 0 G [.ref 1, .int x1, .int x2, .int x3, .int x4, .int x5, .int x6] σ ((.inl none, r.2)) := by
  refine er_ofJ (ret := none) (cc := b_P_setEntry) (maxL := 7) (lv0 := [some (.ref 1), some (.int x1), some (.int x2), some (.int x3), some (.int x4), some (.int x5), some (.int x6)]) (hh := []) (by decide +kernel) rfl (Or.inl rfl) (by intro v hv; simp only [List.mem_cons, List.not_mem_nil, or_false] at hv; rcases hv with rfl | rfl | rfl | rfl | rfl | rfl | rfl <;> rfl) (Nat.le_of_ble_eq_true rfl) ?_
  intro p e s m args below meth c hadm C hr hlk hml hw hnm hm hcd
  have B : er_B p s m c meth b_P_setEntry "EntryRows$Persons" G (none) 7 0 21 := ⟨C, hr, hlk, hml, hE, er_noh hw hnm hm hcd⟩
  unfold ef_P_setEntry at h
  refine ej_aload_n B.1 d_P_setEntry_0 rfl ?_
  refine ej_getr B.1 (er_at B 1 rfl rfl) rfl rfl fl_P_9 d_P_setEntry_1 ?_
  refine ej_iload_n B.1 d_P_setEntry_4 rfl ?_
  refine ej_iload_n B.1 d_P_setEntry_5 rfl ?_
  obtain ⟨e1, h⟩ := er_gd_some h
  refine ej_iast B.1 (er_at B 5 rfl rfl) rfl e1 d_P_setEntry_6 ?_
  refine ej_aload_n B.1 d_P_setEntry_7 rfl ?_
  refine ej_getr B.1 (er_at B 1 rfl rfl) rfl rfl fl_P_15 d_P_setEntry_8 ?_
  refine ej_iload_n B.1 d_P_setEntry_11 rfl ?_
  refine ej_iload_n B.1 d_P_setEntry_12 rfl ?_
  obtain ⟨e2, h⟩ := er_gd_some h
  refine ej_iast B.1 (er_at B 6 rfl rfl) rfl e2 d_P_setEntry_13 ?_
  refine ej_aload_n B.1 d_P_setEntry_14 rfl ?_
  refine ej_getr B.1 (er_at B 1 rfl rfl) rfl rfl fl_P_21 d_P_setEntry_15 ?_
  refine ej_iload_n B.1 d_P_setEntry_18 rfl ?_
  refine ej_iload B.1 d_P_setEntry_19 rfl ?_
  obtain ⟨e3, h⟩ := er_gd_some h
  refine ej_iast B.1 (er_at B 8 rfl rfl) rfl e3 d_P_setEntry_21 ?_
  refine ej_aload_n B.1 d_P_setEntry_22 rfl ?_
  refine ej_getr B.1 (er_at B 1 rfl rfl) rfl rfl fl_P_18 d_P_setEntry_23 ?_
  refine ej_iload_n B.1 d_P_setEntry_26 rfl ?_
  refine ej_iload B.1 d_P_setEntry_27 rfl ?_
  obtain ⟨e4, h⟩ := er_gd_some h
  refine ej_iast B.1 (er_at B 7 rfl rfl) rfl e4 d_P_setEntry_29 ?_
  refine ej_aload_n B.1 d_P_setEntry_30 rfl ?_
  refine ej_getr B.1 (er_at B 1 rfl rfl) rfl rfl fl_P_24 d_P_setEntry_31 ?_
  refine ej_iload_n B.1 d_P_setEntry_34 rfl ?_
  refine ej_iload B.1 d_P_setEntry_35 rfl ?_
  obtain ⟨e5, h⟩ := er_gd_some h
  refine ej_iast B.1 (er_at B 9 rfl rfl) rfl e5 d_P_setEntry_37 ?_
  cases h
  exact ej_vret B.1 B.2.1 B.2.2.1 (Nat.zero_le _) (Nat.zero_le _) d_P_setEntry_38
set_option maxRecDepth 100000 in
set_option maxHeartbeats 4000000 in
theorem ew_E_enter_97 {p : Program} {l : Launch} {e : Env} {s : State} {m : MethodId} {args : Array Value} {below : List Frame} {meth : Method} {c : Code} {G : er_G} (hl : l.admits e ∧ l.stackTraces = false) (B : er_B p s m c meth b_E_enter "EntryRows" G (some .int) 8 0 21) : ∀ (n : Nat) (x1 x2 x3 x4 x6 x7 : Int32) (σ : er_S) (r : (Int32 ⊕ Nat) × er_S), ef_E_enter_97 n x1 x2 x3 x4 x6 x7 σ = some r → er_J p l e { frames := 8, cells := er_nc r.1, slots := er_ns r.1, locals := 135 } s m args below meth c G (er_A G s.heap.size) s.heap (er_fin below G s (er_nc r.1) (er_ns r.1) (er_cvi r)) 0 0 σ 97 [some (.ref 0), some (.int x1), some (.int x2), some (.int x3), some (.int x4), none, some (.int x6), some (.int x7)] [] := by
  intro n
  induction n with
  | zero => intro x1 x2 x3 x4 x6 x7 σ r h; cases h
  | succ n ih =>
    intro x1 x2 x3 x4 x6 x7 σ r h
    rw [ef_E_enter_97] at h
    refine ej_iload B.1 d_E_enter_97 rfl ?_
    refine ej_bipush B.1 (v := 40) d_E_enter_99 (by decide +kernel) ?_
    refine ej_icmp_ge B.1 (tgt := 155) d_E_enter_101 (by decide) (fun q32 => ?_) (fun q32 => ?_)
    · replace h := er_it h q32
      refine ej_iload B.1 d_E_enter_155 rfl ?_
      cases h
      exact ej_iret B.1 B.2.1 B.2.2.1 (Nat.zero_le _) (Nat.zero_le _) d_E_enter_157
    · replace h := er_if h q32
      refine ej_aload_n B.1 d_E_enter_104 rfl ?_
      refine ej_getr B.1 (er_at B 0 rfl rfl) rfl rfl fl_E_10 d_E_enter_105 ?_
      refine ej_getr B.1 (er_at B 1 rfl rfl) rfl rfl fl_E_105 d_E_enter_108 ?_
      refine ej_iload B.1 d_E_enter_111 rfl ?_
      obtain ⟨e33, h⟩ := er_gd_some h
      refine ej_iald B.1 (er_at B 13 rfl rfl) rfl e33 d_E_enter_113 ?_
      refine ej_iload_n B.1 d_E_enter_114 rfl ?_
      refine ej_icmp_ne B.1 (tgt := 149) d_E_enter_115 (by decide) (fun q34 => ?_) (fun q34 => ?_)
      · replace h := er_if h q34
        refine ej_iinc B.1 (v := x7 + 1) (lv' := [some (.ref 0), some (.int x1), some (.int x2), some (.int x3), some (.int x4), none, some (.int x6), some (.int (x7 + 1))]) d_E_enter_149 rfl rfl rfl rfl rfl ?_
        refine ej_goto B.1 (tgt := 97) d_E_enter_152 (by decide) ?_
        exact ej_le (lv' := [some (.ref 0), some (.int x1), some (.int x2), some (.int x3), some (.int x4), none, some (.int x6), some (.int (x7 + 1))]) ⟨rfl, ⟨rfl, ⟨rfl, ⟨rfl, ⟨rfl, ⟨rfl, ⟨rfl, trivial⟩⟩⟩⟩⟩⟩⟩ (ih x1 x2 x3 x4 x6 (x7 + 1) σ _ h)
      · replace h := er_it h q34
        refine ej_aload_n B.1 d_E_enter_118 rfl ?_
        refine ej_getr B.1 (er_at B 0 rfl rfl) rfl rfl fl_E_10 d_E_enter_119 ?_
        refine ej_iload B.1 d_E_enter_122 rfl ?_
        refine ej_iload_n B.1 d_E_enter_124 rfl ?_
        refine ej_aload_n B.1 d_E_enter_125 rfl ?_
        refine ej_geti B.1 (er_at B 0 rfl rfl) rfl rfl fl_E_34 d_E_enter_126 ?_
        refine ej_iload_n B.1 d_E_enter_129 rfl ?_
        refine ej_iload B.1 d_E_enter_130 rfl ?_
        refine ej_aload_n B.1 d_E_enter_132 rfl ?_
        refine ej_geti B.1 (er_at B 0 rfl rfl) rfl rfl fl_E_30 d_E_enter_133 ?_
        obtain ⟨v35, g37, e36, h⟩ := er_bw_some h
        refine ej_cv_v (nc := 0) (ns := 0) B.1 [.int x7, .int x1, .int (σ 0 5), .int x3, .int x4, .int (σ 0 4)] [] (ec_P_setEntry (er_pr B) x7 x1 (σ 0 5) x3 x4 (σ 0 4) σ (v35, g37) e36) cal_P_setEntry lk_E_128 in_P_setEntry (er_at B 1 rfl rfl) rfl rfl se_P_setEntry rfl B.2.2.2.1 d_E_enter_136 ⟨Nat.le_of_ble_eq_true rfl, Nat.le_of_ble_eq_true rfl, Nat.zero_le _, Nat.zero_le _⟩ (Nat.le_of_ble_eq_true rfl) rfl ?_
        refine ej_aload_n B.1 d_E_enter_139 rfl ?_
        refine ej_dup B.1 d_E_enter_140 rfl ?_
        refine ej_geti B.1 (er_at B 0 rfl rfl) rfl rfl fl_E_34 d_E_enter_141 ?_
        refine ej_iconst B.1 (v := 1) d_E_enter_144 rfl ?_
        refine ej_iadd B.1 d_E_enter_145 ?_
        refine ej_puti B.1 (er_at B 0 rfl rfl) rfl rfl fp_E_34 d_E_enter_146 ?_
        refine ej_iinc B.1 (v := x7 + 1) (lv' := [some (.ref 0), some (.int x1), some (.int x2), some (.int x3), some (.int x4), none, some (.int x6), some (.int (x7 + 1))]) d_E_enter_149 rfl rfl rfl rfl rfl ?_
        refine ej_goto B.1 (tgt := 97) d_E_enter_152 (by decide) ?_
        exact ej_le (lv' := [some (.ref 0), some (.int x1), some (.int x2), some (.int x3), some (.int x4), none, some (.int x6), some (.int (x7 + 1))]) ⟨rfl, ⟨rfl, ⟨rfl, ⟨rfl, ⟨rfl, ⟨rfl, ⟨rfl, trivial⟩⟩⟩⟩⟩⟩⟩ (ih x1 x2 x3 x4 x6 (x7 + 1) (er_up g37 0 5 ((g37 0 5) + 1)) _ h)
set_option maxRecDepth 100000 in
set_option maxHeartbeats 4000000 in
theorem ew_E_enter_85 {p : Program} {l : Launch} {e : Env} {s : State} {m : MethodId} {args : Array Value} {below : List Frame} {meth : Method} {c : Code} {G : er_G} (hl : l.admits e ∧ l.stackTraces = false) (B : er_B p s m c meth b_E_enter "EntryRows" G (some .int) 8 0 21) (x1 x2 x3 x4 t0 : Int32) (σ : er_S) (r : (Int32 ⊕ Nat) × er_S) (h : ef_E_enter_85 x1 x2 x3 x4 t0 σ = some r) : er_J p l e { frames := 8, cells := er_nc r.1, slots := er_ns r.1, locals := 135 } s m args below meth c G (er_A G s.heap.size) s.heap (er_fin below G s (er_nc r.1) (er_ns r.1) (er_cvi r)) 0 0 σ 85 [some (.ref 0), some (.int x1), some (.int x2), some (.int x3), some (.int x4), none, none, none] [.int t0] := by
  unfold ef_E_enter_85 at h
  rcases er_tb_some h with ⟨v29, g31, e30, h⟩ | ⟨k38, g31, e30, h⟩
  · refine ej_cs_v (nc := 0) (ns := 0) B.1 [.int t0] [] (ec_E_requireState hl.2 (er_pr B) t0 σ (.inl v29, g31) e30) cal_E_requireState lk_E_81 st_E_requireState rfl B.2.2.2.1 d_E_enter_85 ⟨Nat.le_of_ble_eq_true rfl, Nat.le_of_ble_eq_true rfl, Nat.zero_le _, Nat.zero_le _⟩ (Nat.le_of_ble_eq_true rfl) rfl ?_
    refine ej_aload_n B.1 d_E_enter_88 rfl ?_
    refine ej_geti B.1 (er_at B 0 rfl rfl) rfl rfl fl_E_34 d_E_enter_89 ?_
    refine ej_istore B.1 (lv' := [some (.ref 0), some (.int x1), some (.int x2), some (.int x3), some (.int x4), none, some (.int (g31 0 5)), none]) d_E_enter_92 rfl rfl rfl ?_
    refine ej_iconst B.1 (v := 0) d_E_enter_94 rfl ?_
    refine ej_istore B.1 (lv' := [some (.ref 0), some (.int x1), some (.int x2), some (.int x3), some (.int x4), none, some (.int (g31 0 5)), some (.int 0)]) d_E_enter_95 rfl rfl rfl ?_
    exact ej_le (lv' := [some (.ref 0), some (.int x1), some (.int x2), some (.int x3), some (.int x4), none, some (.int (g31 0 5)), some (.int 0)]) ⟨rfl, ⟨rfl, ⟨rfl, ⟨rfl, ⟨rfl, ⟨rfl, ⟨rfl, trivial⟩⟩⟩⟩⟩⟩⟩ (ew_E_enter_97 hl B 64 x1 x2 x3 x4 (g31 0 5) 0 g31 _ h)
  · subst h
    exact ej_cs_t (nc := 1) (ns := 6) B.1 [.int t0] [] (ec_E_requireState hl.2 (er_pr B) t0 σ (.inr k38, g31) e30) cal_E_requireState lk_E_81 st_E_requireState rfl B.2.2.2.1 d_E_enter_85 ⟨Nat.le_of_ble_eq_true rfl, Nat.le_of_ble_eq_true rfl, Nat.le_of_ble_eq_true rfl, Nat.le_of_ble_eq_true rfl⟩ (Nat.le_of_ble_eq_true rfl) rfl B.2.2.1 (B.2.2.2.2.2 _) ⟨Nat.le_of_ble_eq_true rfl, Nat.le_of_ble_eq_true rfl⟩
set_option maxRecDepth 100000 in
set_option maxHeartbeats 4000000 in
theorem ew_E_enter_80 {p : Program} {l : Launch} {e : Env} {s : State} {m : MethodId} {args : Array Value} {below : List Frame} {meth : Method} {c : Code} {G : er_G} (hl : l.admits e ∧ l.stackTraces = false) (B : er_B p s m c meth b_E_enter "EntryRows" G (some .int) 8 0 21) (x1 x2 x3 x4 : Int32) (σ : er_S) (r : (Int32 ⊕ Nat) × er_S) (h : ef_E_enter_80 x1 x2 x3 x4 σ = some r) : er_J p l e { frames := 8, cells := er_nc r.1, slots := er_ns r.1, locals := 135 } s m args below meth c G (er_A G s.heap.size) s.heap (er_fin below G s (er_nc r.1) (er_ns r.1) (er_cvi r)) 0 0 σ 80 [some (.ref 0), some (.int x1), some (.int x2), some (.int x3), some (.int x4), none, none, none] [] := by
  unfold ef_E_enter_80 at h
  refine ej_iconst B.1 (v := 1) d_E_enter_80 rfl ?_
  refine ej_goto B.1 (tgt := 85) d_E_enter_81 (by decide) ?_
  exact ej_le (lv' := [some (.ref 0), some (.int x1), some (.int x2), some (.int x3), some (.int x4), none, none, none]) ⟨rfl, ⟨rfl, ⟨rfl, ⟨rfl, ⟨rfl, trivial⟩⟩⟩⟩⟩ (ew_E_enter_85 hl B x1 x2 x3 x4 1 σ _ h)
set_option maxRecDepth 100000 in
set_option maxHeartbeats 4000000 in
theorem ew_E_enter_84 {p : Program} {l : Launch} {e : Env} {s : State} {m : MethodId} {args : Array Value} {below : List Frame} {meth : Method} {c : Code} {G : er_G} (hl : l.admits e ∧ l.stackTraces = false) (B : er_B p s m c meth b_E_enter "EntryRows" G (some .int) 8 0 21) (x1 x2 x3 x4 : Int32) (σ : er_S) (r : (Int32 ⊕ Nat) × er_S) (h : ef_E_enter_84 x1 x2 x3 x4 σ = some r) : er_J p l e { frames := 8, cells := er_nc r.1, slots := er_ns r.1, locals := 135 } s m args below meth c G (er_A G s.heap.size) s.heap (er_fin below G s (er_nc r.1) (er_ns r.1) (er_cvi r)) 0 0 σ 84 [some (.ref 0), some (.int x1), some (.int x2), some (.int x3), some (.int x4), none, none, none] [] := by
  unfold ef_E_enter_84 at h
  refine ej_iconst B.1 (v := 0) d_E_enter_84 rfl ?_
  exact ej_le (lv' := [some (.ref 0), some (.int x1), some (.int x2), some (.int x3), some (.int x4), none, none, none]) ⟨rfl, ⟨rfl, ⟨rfl, ⟨rfl, ⟨rfl, trivial⟩⟩⟩⟩⟩ (ew_E_enter_85 hl B x1 x2 x3 x4 0 σ _ h)
set_option maxRecDepth 100000 in
set_option maxHeartbeats 4000000 in
theorem ew_E_enter_46 {p : Program} {l : Launch} {e : Env} {s : State} {m : MethodId} {args : Array Value} {below : List Frame} {meth : Method} {c : Code} {G : er_G} (hl : l.admits e ∧ l.stackTraces = false) (B : er_B p s m c meth b_E_enter "EntryRows" G (some .int) 8 0 21) (x1 x2 x3 x4 x5 t0 : Int32) (σ : er_S) (r : (Int32 ⊕ Nat) × er_S) (h : ef_E_enter_46 x1 x2 x3 x4 x5 t0 σ = some r) : er_J p l e { frames := 8, cells := er_nc r.1, slots := er_ns r.1, locals := 135 } s m args below meth c G (er_A G s.heap.size) s.heap (er_fin below G s (er_nc r.1) (er_ns r.1) (er_cvi r)) 0 0 σ 46 [some (.ref 0), some (.int x1), some (.int x2), some (.int x3), some (.int x4), some (.int x5), none, none] [.int t0] := by
  unfold ef_E_enter_46 at h
  rcases er_tb_some h with ⟨v18, g20, e19, h⟩ | ⟨k44, g20, e19, h⟩
  · refine ej_cs_v (nc := 0) (ns := 0) B.1 [.int t0] [] (ec_E_requireState hl.2 (er_pr B) t0 σ (.inl v18, g20) e19) cal_E_requireState lk_E_81 st_E_requireState rfl B.2.2.2.1 d_E_enter_46 ⟨Nat.le_of_ble_eq_true rfl, Nat.le_of_ble_eq_true rfl, Nat.zero_le _, Nat.zero_le _⟩ (Nat.le_of_ble_eq_true rfl) rfl ?_
    refine ej_aload_n B.1 d_E_enter_49 rfl ?_
    refine ej_iload_n B.1 d_E_enter_50 rfl ?_
    refine ej_iload_n B.1 d_E_enter_51 rfl ?_
    obtain ⟨v21, e22, h⟩ := er_bd_some h
    refine ej_cv_i (nc := 0) (ns := 0) B.1 [.int x2, .int x1] [] (ec_E_isReady (er_pr B) x2 x1 g20 v21 e22) cal_E_isReady lk_E_118 in_E_isReady (er_at B 0 rfl rfl) rfl rfl se_E_isReady rfl B.2.2.2.1 d_E_enter_52 ⟨Nat.le_of_ble_eq_true rfl, Nat.le_of_ble_eq_true rfl, Nat.zero_le _, Nat.zero_le _⟩ (Nat.le_of_ble_eq_true rfl) rfl ?_
    rcases er_tb_some h with ⟨v23, g25, e24, h⟩ | ⟨k43, g25, e24, h⟩
    · refine ej_cs_v (nc := 0) (ns := 0) B.1 [.int v21] [] (ec_E_requireState hl.2 (er_pr B) v21 g20 (.inl v23, g25) e24) cal_E_requireState lk_E_81 st_E_requireState rfl B.2.2.2.1 d_E_enter_55 ⟨Nat.le_of_ble_eq_true rfl, Nat.le_of_ble_eq_true rfl, Nat.zero_le _, Nat.zero_le _⟩ (Nat.le_of_ble_eq_true rfl) rfl ?_
      refine ej_aload_n B.1 d_E_enter_58 rfl ?_
      refine ej_iload_n B.1 d_E_enter_59 rfl ?_
      refine ej_iload_n B.1 d_E_enter_60 rfl ?_
      obtain ⟨v26, e27, h⟩ := er_bd_some h
      refine ej_cv_i (nc := 0) (ns := 0) B.1 [.int x1, .int x2] [] (ec_E_isCovered (er_pr B) x1 x2 g25 v26 e27) cal_E_isCovered lk_E_122 in_E_isCovered (er_at B 0 rfl rfl) rfl rfl se_E_isCovered rfl B.2.2.2.1 d_E_enter_61 ⟨Nat.le_of_ble_eq_true rfl, Nat.le_of_ble_eq_true rfl, Nat.zero_le _, Nat.zero_le _⟩ (Nat.le_of_ble_eq_true rfl) rfl ?_
      refine ej_if_ne B.1 (tgt := 80) d_E_enter_64 (by decide) (fun q28 => ?_) (fun q28 => ?_)
      · replace h := er_if h q28
        exact ej_le (lv' := [some (.ref 0), some (.int x1), some (.int x2), some (.int x3), some (.int x4), none, none, none]) ⟨rfl, ⟨rfl, ⟨rfl, ⟨rfl, ⟨rfl, trivial⟩⟩⟩⟩⟩ (ew_E_enter_80 hl B x1 x2 x3 x4 g25 _ h)
      · replace h := er_it h q28
        refine ej_iload B.1 d_E_enter_67 rfl ?_
        refine ej_if_eq B.1 (tgt := 84) d_E_enter_69 (by decide) (fun q39 => ?_) (fun q39 => ?_)
        · replace h := er_it h q39
          exact ej_le (lv' := [some (.ref 0), some (.int x1), some (.int x2), some (.int x3), some (.int x4), none, none, none]) ⟨rfl, ⟨rfl, ⟨rfl, ⟨rfl, ⟨rfl, trivial⟩⟩⟩⟩⟩ (ew_E_enter_84 hl B x1 x2 x3 x4 g25 _ h)
        · replace h := er_if h q39
          refine ej_aload_n B.1 d_E_enter_72 rfl ?_
          refine ej_iload_n B.1 d_E_enter_73 rfl ?_
          obtain ⟨v40, e41, h⟩ := er_bd_some h
          refine ej_cv_i (nc := 0) (ns := 0) B.1 [.int x1] [] (ec_E_keeperMayLetRescue (er_pr B) x1 g25 v40 e41) cal_E_keeperMayLetRescue lk_E_125 in_E_keeperMayLetRescue (er_at B 0 rfl rfl) rfl rfl se_E_keeperMayLetRescue rfl B.2.2.2.1 d_E_enter_74 ⟨Nat.le_of_ble_eq_true rfl, Nat.le_of_ble_eq_true rfl, Nat.zero_le _, Nat.zero_le _⟩ (Nat.le_of_ble_eq_true rfl) rfl ?_
          refine ej_if_eq B.1 (tgt := 84) d_E_enter_77 (by decide) (fun q42 => ?_) (fun q42 => ?_)
          · replace h := er_it h q42
            exact ej_le (lv' := [some (.ref 0), some (.int x1), some (.int x2), some (.int x3), some (.int x4), none, none, none]) ⟨rfl, ⟨rfl, ⟨rfl, ⟨rfl, ⟨rfl, trivial⟩⟩⟩⟩⟩ (ew_E_enter_84 hl B x1 x2 x3 x4 g25 _ h)
          · replace h := er_if h q42
            exact ej_le (lv' := [some (.ref 0), some (.int x1), some (.int x2), some (.int x3), some (.int x4), none, none, none]) ⟨rfl, ⟨rfl, ⟨rfl, ⟨rfl, ⟨rfl, trivial⟩⟩⟩⟩⟩ (ew_E_enter_80 hl B x1 x2 x3 x4 g25 _ h)
    · subst h
      exact ej_cs_t (nc := 1) (ns := 6) B.1 [.int v21] [] (ec_E_requireState hl.2 (er_pr B) v21 g20 (.inr k43, g25) e24) cal_E_requireState lk_E_81 st_E_requireState rfl B.2.2.2.1 d_E_enter_55 ⟨Nat.le_of_ble_eq_true rfl, Nat.le_of_ble_eq_true rfl, Nat.le_of_ble_eq_true rfl, Nat.le_of_ble_eq_true rfl⟩ (Nat.le_of_ble_eq_true rfl) rfl B.2.2.1 (B.2.2.2.2.2 _) ⟨Nat.le_of_ble_eq_true rfl, Nat.le_of_ble_eq_true rfl⟩
  · subst h
    exact ej_cs_t (nc := 1) (ns := 6) B.1 [.int t0] [] (ec_E_requireState hl.2 (er_pr B) t0 σ (.inr k44, g20) e19) cal_E_requireState lk_E_81 st_E_requireState rfl B.2.2.2.1 d_E_enter_46 ⟨Nat.le_of_ble_eq_true rfl, Nat.le_of_ble_eq_true rfl, Nat.le_of_ble_eq_true rfl, Nat.le_of_ble_eq_true rfl⟩ (Nat.le_of_ble_eq_true rfl) rfl B.2.2.1 (B.2.2.2.2.2 _) ⟨Nat.le_of_ble_eq_true rfl, Nat.le_of_ble_eq_true rfl⟩
set_option maxRecDepth 100000 in
set_option maxHeartbeats 4000000 in
theorem ec_E_enter {l : Launch} {G : er_G} (hl : l.stackTraces = false) (hE : er_Pr G 0 21) (x1 x2 x3 x4 x5 : Int32) (σ : er_S) (r : (Int32 ⊕ Nat) × er_S) (h : ef_E_enter x1 x2 x3 x4 x5 σ = some r) : er_Con l y_E_enter w_E_enter 8 135 (er_nc r.1) (er_ns r.1) G [.ref 0, .int x1, .int x2, .int x3, .int x4, .int x5] σ (er_cvi r) := by
  refine er_ofJ (ret := some .int) (cc := b_E_enter) (maxL := 8) (lv0 := [some (.ref 0), some (.int x1), some (.int x2), some (.int x3), some (.int x4), some (.int x5), none, none]) (hh := []) (by decide +kernel) rfl (Or.inl rfl) (by intro v hv; simp only [List.mem_cons, List.not_mem_nil, or_false] at hv; rcases hv with rfl | rfl | rfl | rfl | rfl | rfl <;> rfl) (Nat.le_of_ble_eq_true rfl) ?_
  intro p e s m args below meth c hadm C hr hlk hml hw hnm hm hcd
  have B : er_B p s m c meth b_E_enter "EntryRows" G (some .int) 8 0 21 := ⟨C, hr, hlk, hml, hE, er_noh hw hnm hm hcd⟩
  have hl := And.intro hadm hl
  unfold ef_E_enter at h
  refine ej_aload_n B.1 d_E_enter_0 rfl ?_
  refine ej_iload_n B.1 d_E_enter_1 rfl ?_
  rcases er_tb_some h with ⟨v1, g3, e2, h⟩ | ⟨k49, g3, e2, h⟩
  · refine ej_cv_v (nc := 0) (ns := 0) B.1 [.int x1] [] (ec_E_requireBoard hl.2 (er_pr B) x1 σ (.inl v1, g3) e2) cal_E_requireBoard lk_E_65 in_E_requireBoard (er_at B 0 rfl rfl) rfl rfl se_E_requireBoard rfl B.2.2.2.1 d_E_enter_2 ⟨Nat.le_of_ble_eq_true rfl, Nat.le_of_ble_eq_true rfl, Nat.zero_le _, Nat.zero_le _⟩ (Nat.le_of_ble_eq_true rfl) rfl ?_
    refine ej_iload_n B.1 d_E_enter_5 rfl ?_
    rcases er_tb_some h with ⟨v4, g6, e5, h⟩ | ⟨k48, g6, e5, h⟩
    · refine ej_cs_v (nc := 0) (ns := 0) B.1 [.int x2] [] (ec_E_requireTeam hl.2 (er_pr B) x2 g3 (.inl v4, g6) e5) cal_E_requireTeam lk_E_102 st_E_requireTeam rfl B.2.2.2.1 d_E_enter_6 ⟨Nat.le_of_ble_eq_true rfl, Nat.le_of_ble_eq_true rfl, Nat.zero_le _, Nat.zero_le _⟩ (Nat.le_of_ble_eq_true rfl) rfl ?_
      refine ej_iload_n B.1 d_E_enter_9 rfl ?_
      refine ej_iconst B.1 (v := 0) d_E_enter_10 rfl ?_
      refine ej_bipush B.1 (v := 9) d_E_enter_11 (by decide +kernel) ?_
      rcases er_tb_some h with ⟨v7, g9, e8, h⟩ | ⟨k47, g9, e8, h⟩
      · refine ej_cs_v (nc := 0) (ns := 0) B.1 [.int x3, .int 0, .int 9] [] (ec_E_requireRange hl.2 (er_pr B) x3 0 9 g6 (.inl v7, g9) e8) cal_E_requireRange lk_E_46 st_E_requireRange rfl B.2.2.2.1 d_E_enter_13 ⟨Nat.le_of_ble_eq_true rfl, Nat.le_of_ble_eq_true rfl, Nat.zero_le _, Nat.zero_le _⟩ (Nat.le_of_ble_eq_true rfl) rfl ?_
        refine ej_iload B.1 d_E_enter_16 rfl ?_
        refine ej_iconst B.1 (v := 0) d_E_enter_18 rfl ?_
        refine ej_iconst B.1 (v := 5) d_E_enter_19 rfl ?_
        rcases er_tb_some h with ⟨v10, g12, e11, h⟩ | ⟨k46, g12, e11, h⟩
        · refine ej_cs_v (nc := 0) (ns := 0) B.1 [.int x4, .int 0, .int 5] [] (ec_E_requireRange hl.2 (er_pr B) x4 0 5 g9 (.inl v10, g12) e11) cal_E_requireRange lk_E_46 st_E_requireRange rfl B.2.2.2.1 d_E_enter_20 ⟨Nat.le_of_ble_eq_true rfl, Nat.le_of_ble_eq_true rfl, Nat.zero_le _, Nat.zero_le _⟩ (Nat.le_of_ble_eq_true rfl) rfl ?_
          refine ej_aload_n B.1 d_E_enter_23 rfl ?_
          refine ej_iload_n B.1 d_E_enter_24 rfl ?_
          rcases er_tb_some h with ⟨v13, g15, e14, h⟩ | ⟨k45, g15, e14, h⟩
          · refine ej_cv_v (nc := 0) (ns := 0) B.1 [.int x1] [] (ec_E_requireOpen hl.2 (er_pr B) x1 g12 (.inl v13, g15) e14) cal_E_requireOpen lk_E_72 in_E_requireOpen (er_at B 0 rfl rfl) rfl rfl se_E_requireOpen rfl B.2.2.2.1 d_E_enter_25 ⟨Nat.le_of_ble_eq_true rfl, Nat.le_of_ble_eq_true rfl, Nat.zero_le _, Nat.zero_le _⟩ (Nat.le_of_ble_eq_true rfl) rfl ?_
            refine ej_aload_n B.1 d_E_enter_28 rfl ?_
            refine ej_getr B.1 (er_at B 0 rfl rfl) rfl rfl fl_E_19 d_E_enter_29 ?_
            refine ej_getr B.1 (er_at B 2 rfl rfl) rfl rfl fl_E_88 d_E_enter_32 ?_
            refine ej_iload_n B.1 d_E_enter_35 rfl ?_
            obtain ⟨e16, h⟩ := er_gd_some h
            refine ej_iald B.1 (er_at B 20 rfl rfl) rfl e16 d_E_enter_36 ?_
            refine ej_iconst B.1 (v := (-1)) d_E_enter_37 rfl ?_
            refine ej_icmp_eq B.1 (tgt := 45) d_E_enter_38 (by decide) (fun q17 => ?_) (fun q17 => ?_)
            · replace h := er_it h q17
              refine ej_iconst B.1 (v := 0) d_E_enter_45 rfl ?_
              exact ej_le (lv' := [some (.ref 0), some (.int x1), some (.int x2), some (.int x3), some (.int x4), some (.int x5), none, none]) ⟨rfl, ⟨rfl, ⟨rfl, ⟨rfl, ⟨rfl, ⟨rfl, trivial⟩⟩⟩⟩⟩⟩ (ew_E_enter_46 hl B x1 x2 x3 x4 x5 0 g15 _ h)
            · replace h := er_if h q17
              refine ej_iconst B.1 (v := 1) d_E_enter_41 rfl ?_
              refine ej_goto B.1 (tgt := 46) d_E_enter_42 (by decide) ?_
              exact ej_le (lv' := [some (.ref 0), some (.int x1), some (.int x2), some (.int x3), some (.int x4), some (.int x5), none, none]) ⟨rfl, ⟨rfl, ⟨rfl, ⟨rfl, ⟨rfl, ⟨rfl, trivial⟩⟩⟩⟩⟩⟩ (ew_E_enter_46 hl B x1 x2 x3 x4 x5 1 g15 _ h)
          · subst h
            exact ej_cv_t (nc := 1) (ns := 6) B.1 [.int x1] [] (ec_E_requireOpen hl.2 (er_pr B) x1 g12 (.inr k45, g15) e14) cal_E_requireOpen lk_E_72 in_E_requireOpen (er_at B 0 rfl rfl) rfl rfl se_E_requireOpen rfl B.2.2.2.1 d_E_enter_25 ⟨Nat.le_of_ble_eq_true rfl, Nat.le_of_ble_eq_true rfl, Nat.le_of_ble_eq_true rfl, Nat.le_of_ble_eq_true rfl⟩ (Nat.le_of_ble_eq_true rfl) rfl B.2.2.1 (B.2.2.2.2.2 _) ⟨Nat.le_of_ble_eq_true rfl, Nat.le_of_ble_eq_true rfl⟩
        · subst h
          exact ej_cs_t (nc := 1) (ns := 6) B.1 [.int x4, .int 0, .int 5] [] (ec_E_requireRange hl.2 (er_pr B) x4 0 5 g9 (.inr k46, g12) e11) cal_E_requireRange lk_E_46 st_E_requireRange rfl B.2.2.2.1 d_E_enter_20 ⟨Nat.le_of_ble_eq_true rfl, Nat.le_of_ble_eq_true rfl, Nat.le_of_ble_eq_true rfl, Nat.le_of_ble_eq_true rfl⟩ (Nat.le_of_ble_eq_true rfl) rfl B.2.2.1 (B.2.2.2.2.2 _) ⟨Nat.le_of_ble_eq_true rfl, Nat.le_of_ble_eq_true rfl⟩
      · subst h
        exact ej_cs_t (nc := 1) (ns := 6) B.1 [.int x3, .int 0, .int 9] [] (ec_E_requireRange hl.2 (er_pr B) x3 0 9 g6 (.inr k47, g9) e8) cal_E_requireRange lk_E_46 st_E_requireRange rfl B.2.2.2.1 d_E_enter_13 ⟨Nat.le_of_ble_eq_true rfl, Nat.le_of_ble_eq_true rfl, Nat.le_of_ble_eq_true rfl, Nat.le_of_ble_eq_true rfl⟩ (Nat.le_of_ble_eq_true rfl) rfl B.2.2.1 (B.2.2.2.2.2 _) ⟨Nat.le_of_ble_eq_true rfl, Nat.le_of_ble_eq_true rfl⟩
    · subst h
      exact ej_cs_t (nc := 1) (ns := 6) B.1 [.int x2] [] (ec_E_requireTeam hl.2 (er_pr B) x2 g3 (.inr k48, g6) e5) cal_E_requireTeam lk_E_102 st_E_requireTeam rfl B.2.2.2.1 d_E_enter_6 ⟨Nat.le_of_ble_eq_true rfl, Nat.le_of_ble_eq_true rfl, Nat.le_of_ble_eq_true rfl, Nat.le_of_ble_eq_true rfl⟩ (Nat.le_of_ble_eq_true rfl) rfl B.2.2.1 (B.2.2.2.2.2 _) ⟨Nat.le_of_ble_eq_true rfl, Nat.le_of_ble_eq_true rfl⟩
  · subst h
    exact ej_cv_t (nc := 1) (ns := 6) B.1 [.int x1] [] (ec_E_requireBoard hl.2 (er_pr B) x1 σ (.inr k49, g3) e2) cal_E_requireBoard lk_E_65 in_E_requireBoard (er_at B 0 rfl rfl) rfl rfl se_E_requireBoard rfl B.2.2.2.1 d_E_enter_2 ⟨Nat.le_of_ble_eq_true rfl, Nat.le_of_ble_eq_true rfl, Nat.le_of_ble_eq_true rfl, Nat.le_of_ble_eq_true rfl⟩ (Nat.le_of_ble_eq_true rfl) rfl B.2.2.1 (B.2.2.2.2.2 _) ⟨Nat.le_of_ble_eq_true rfl, Nat.le_of_ble_eq_true rfl⟩
set_option maxRecDepth 100000 in
set_option maxHeartbeats 4000000 in
theorem ec_P_comeOut {l : Launch} {G : er_G} (hE : er_Pr G 0 21) (x1 x2 x3 x4 : Int32) (σ : er_S) (r : Int32 × er_S) (h : ef_P_comeOut x1 x2 x3 x4 σ = some r) : er_Con l y_P_comeOut w_P_comeOut 1 26 0 0 G [.ref 1, .int x1, .int x2, .int x3, .int x4] σ ((.inl (some (.int r.1)), r.2)) := by
  refine er_ofJ (ret := some .int) (cc := b_P_comeOut) (maxL := 6) (lv0 := [some (.ref 1), some (.int x1), some (.int x2), some (.int x3), some (.int x4), none]) (hh := []) (by decide +kernel) rfl (Or.inl rfl) (by intro v hv; simp only [List.mem_cons, List.not_mem_nil, or_false] at hv; rcases hv with rfl | rfl | rfl | rfl | rfl <;> rfl) (Nat.le_of_ble_eq_true rfl) ?_
  intro p e s m args below meth c hadm C hr hlk hml hw hnm hm hcd
  have B : er_B p s m c meth b_P_comeOut "EntryRows$Persons" G (some .int) 6 0 21 := ⟨C, hr, hlk, hml, hE, er_noh hw hnm hm hcd⟩
  unfold ef_P_comeOut at h
  refine ej_iload_n B.1 d_P_comeOut_0 rfl ?_
  refine ej_aload_n B.1 d_P_comeOut_1 rfl ?_
  refine ej_getr B.1 (er_at B 1 rfl rfl) rfl rfl fl_P_24 d_P_comeOut_2 ?_
  refine ej_iload_n B.1 d_P_comeOut_5 rfl ?_
  obtain ⟨e1, h⟩ := er_gd_some h
  refine ej_iald B.1 (er_at B 9 rfl rfl) rfl e1 d_P_comeOut_6 ?_
  refine ej_isub B.1 d_P_comeOut_7 ?_
  refine ej_istore B.1 (lv' := [some (.ref 1), some (.int x1), some (.int x2), some (.int x3), some (.int x4), some (.int (x2 - (σ 9 (er_ix x1))))]) d_P_comeOut_8 rfl rfl rfl ?_
  refine ej_aload_n B.1 d_P_comeOut_10 rfl ?_
  refine ej_getr B.1 (er_at B 1 rfl rfl) rfl rfl fl_P_30 d_P_comeOut_11 ?_
  refine ej_iload_n B.1 d_P_comeOut_14 rfl ?_
  refine ej_dup2 B.1 d_P_comeOut_15 rfl rfl ?_
  obtain ⟨e2, h⟩ := er_gd_some h
  refine ej_iald B.1 (er_at B 11 rfl rfl) rfl e2 d_P_comeOut_16 ?_
  refine ej_iload B.1 d_P_comeOut_17 rfl ?_
  refine ej_iadd B.1 d_P_comeOut_19 ?_
  obtain ⟨e3, h⟩ := er_gd_some h
  refine ej_iast B.1 (er_at B 11 rfl rfl) rfl e3 d_P_comeOut_20 ?_
  refine ej_aload_n B.1 d_P_comeOut_21 rfl ?_
  refine ej_getr B.1 (er_at B 1 rfl rfl) rfl rfl fl_P_33 d_P_comeOut_22 ?_
  refine ej_iload_n B.1 d_P_comeOut_25 rfl ?_
  refine ej_dup2 B.1 d_P_comeOut_26 rfl rfl ?_
  obtain ⟨e4, h⟩ := er_gd_some h
  refine ej_iald B.1 (er_at B 12 rfl rfl) rfl e4 d_P_comeOut_27 ?_
  refine ej_iload B.1 d_P_comeOut_28 rfl ?_
  refine ej_iload_n B.1 d_P_comeOut_30 rfl ?_
  refine ej_imul B.1 d_P_comeOut_31 ?_
  refine ej_iadd B.1 d_P_comeOut_32 ?_
  obtain ⟨e5, h⟩ := er_gd_some h
  refine ej_iast B.1 (er_at B 12 rfl rfl) rfl e5 d_P_comeOut_33 ?_
  refine ej_aload_n B.1 d_P_comeOut_34 rfl ?_
  refine ej_getr B.1 (er_at B 1 rfl rfl) rfl rfl fl_P_27 d_P_comeOut_35 ?_
  refine ej_iload_n B.1 d_P_comeOut_38 rfl ?_
  refine ej_iload_n B.1 d_P_comeOut_39 rfl ?_
  refine ej_iload B.1 d_P_comeOut_40 rfl ?_
  refine ej_iadd B.1 d_P_comeOut_42 ?_
  obtain ⟨e6, h⟩ := er_gd_some h
  refine ej_iast B.1 (er_at B 10 rfl rfl) rfl e6 d_P_comeOut_43 ?_
  refine ej_aload_n B.1 d_P_comeOut_44 rfl ?_
  refine ej_iload_n B.1 d_P_comeOut_45 rfl ?_
  refine ej_iconst B.1 (v := (-1)) d_P_comeOut_46 rfl ?_
  refine ej_iconst B.1 (v := (-1)) d_P_comeOut_47 rfl ?_
  refine ej_iconst B.1 (v := (-1)) d_P_comeOut_48 rfl ?_
  refine ej_iconst B.1 (v := (-1)) d_P_comeOut_49 rfl ?_
  refine ej_iconst B.1 (v := (-1)) d_P_comeOut_50 rfl ?_
  obtain ⟨v7, g9, e8, h⟩ := er_bw_some h
  refine ej_cv_v (nc := 0) (ns := 0) B.1 [.int x1, .int (-1), .int (-1), .int (-1), .int (-1), .int (-1)] [] (ec_P_setEntry (er_pr B) x1 (-1) (-1) (-1) (-1) (-1) (er_up (er_up (er_up σ 11 (er_ix x1) ((σ 11 (er_ix x1)) + (x2 - (σ 9 (er_ix x1))))) 12 (er_ix x1) (((er_up σ 11 (er_ix x1) ((σ 11 (er_ix x1)) + (x2 - (σ 9 (er_ix x1))))) 12 (er_ix x1)) + ((x2 - (σ 9 (er_ix x1))) * x3))) 10 (er_ix x1) (x2 + x4)) (v7, g9) e8) cal_P_setEntry lk_P_64 in_P_setEntry (er_at B 1 rfl rfl) rfl rfl se_P_setEntry rfl B.2.2.2.1 d_P_comeOut_51 ⟨Nat.le_of_ble_eq_true rfl, Nat.le_of_ble_eq_true rfl, Nat.zero_le _, Nat.zero_le _⟩ (Nat.le_of_ble_eq_true rfl) rfl ?_
  refine ej_iload B.1 d_P_comeOut_54 rfl ?_
  cases h
  exact ej_iret B.1 B.2.1 B.2.2.1 (Nat.zero_le _) (Nat.zero_le _) d_P_comeOut_56
set_option maxRecDepth 100000 in
set_option maxHeartbeats 4000000 in
theorem ew_E_out_57 {p : Program} {l : Launch} {e : Env} {s : State} {m : MethodId} {args : Array Value} {below : List Frame} {meth : Method} {c : Code} {G : er_G} (hl : l.admits e ∧ l.stackTraces = false) (B : er_B p s m c meth b_E_out "EntryRows" G (some .int) 5 0 21) (x2 t0 : Int32) (σ : er_S) (r : (Int32 ⊕ Nat) × er_S) (h : ef_E_out_57 x2 t0 σ = some r) : er_J p l e { frames := 8, cells := er_nc r.1, slots := er_ns r.1, locals := 124 } s m args below meth c G (er_A G s.heap.size) s.heap (er_fin below G s (er_nc r.1) (er_ns r.1) (er_cvi r)) 0 0 σ 57 [some (.ref 0), none, some (.int x2), none, none] [.int t0] := by
  unfold ef_E_out_57 at h
  refine ej_istore B.1 (lv' := [some (.ref 0), none, some (.int x2), none, some (.int t0)]) d_E_out_57 rfl rfl rfl ?_
  refine ej_aload_n B.1 d_E_out_59 rfl ?_
  refine ej_getr B.1 (er_at B 0 rfl rfl) rfl rfl fl_E_10 d_E_out_60 ?_
  refine ej_iload_n B.1 d_E_out_63 rfl ?_
  refine ej_aload_n B.1 d_E_out_64 rfl ?_
  refine ej_geti B.1 (er_at B 0 rfl rfl) rfl rfl fl_E_30 d_E_out_65 ?_
  refine ej_iload B.1 d_E_out_68 rfl ?_
  refine ej_aload_n B.1 d_E_out_70 rfl ?_
  refine ej_geti B.1 (er_at B 0 rfl rfl) rfl rfl fl_E_37 d_E_out_71 ?_
  obtain ⟨v16, g18, e17, h⟩ := er_bw_some h
  refine ej_cv_i (nc := 0) (ns := 0) B.1 [.int x2, .int (σ 0 4), .int t0, .int (σ 0 6)] [] (ec_P_comeOut (er_pr B) x2 (σ 0 4) t0 (σ 0 6) σ (v16, g18) e17) cal_P_comeOut lk_E_138 in_P_comeOut (er_at B 1 rfl rfl) rfl rfl se_P_comeOut rfl B.2.2.2.1 d_E_out_74 ⟨Nat.le_of_ble_eq_true rfl, Nat.le_of_ble_eq_true rfl, Nat.zero_le _, Nat.zero_le _⟩ (Nat.le_of_ble_eq_true rfl) rfl ?_
  cases h
  exact ej_iret B.1 B.2.1 B.2.2.1 (Nat.zero_le _) (Nat.zero_le _) d_E_out_77
set_option maxRecDepth 100000 in
set_option maxHeartbeats 4000000 in
theorem ew_E_out_27 {p : Program} {l : Launch} {e : Env} {s : State} {m : MethodId} {args : Array Value} {below : List Frame} {meth : Method} {c : Code} {G : er_G} (hl : l.admits e ∧ l.stackTraces = false) (B : er_B p s m c meth b_E_out "EntryRows" G (some .int) 5 0 21) (x2 t0 : Int32) (σ : er_S) (r : (Int32 ⊕ Nat) × er_S) (h : ef_E_out_27 x2 t0 σ = some r) : er_J p l e { frames := 8, cells := er_nc r.1, slots := er_ns r.1, locals := 124 } s m args below meth c G (er_A G s.heap.size) s.heap (er_fin below G s (er_nc r.1) (er_ns r.1) (er_cvi r)) 0 0 σ 27 [some (.ref 0), none, some (.int x2), none, none] [.int t0] := by
  unfold ef_E_out_27 at h
  rcases er_tb_some h with ⟨v9, g11, e10, h⟩ | ⟨k20, g11, e10, h⟩
  · refine ej_cs_v (nc := 0) (ns := 0) B.1 [.int t0] [] (ec_E_requireState hl.2 (er_pr B) t0 σ (.inl v9, g11) e10) cal_E_requireState lk_E_81 st_E_requireState rfl B.2.2.2.1 d_E_out_27 ⟨Nat.le_of_ble_eq_true rfl, Nat.le_of_ble_eq_true rfl, Nat.zero_le _, Nat.zero_le _⟩ (Nat.le_of_ble_eq_true rfl) rfl ?_
    refine ej_aload_n B.1 d_E_out_30 rfl ?_
    refine ej_getr B.1 (er_at B 0 rfl rfl) rfl rfl fl_E_10 d_E_out_31 ?_
    refine ej_getr B.1 (er_at B 1 rfl rfl) rfl rfl fl_E_135 d_E_out_34 ?_
    refine ej_iload_n B.1 d_E_out_37 rfl ?_
    obtain ⟨e12, h⟩ := er_gd_some h
    refine ej_iald B.1 (er_at B 7 rfl rfl) rfl e12 d_E_out_38 ?_
    refine ej_istore_n B.1 (lv' := [some (.ref 0), none, some (.int x2), some (.int (g11 7 (er_ix x2))), none]) d_E_out_39 rfl rfl rfl ?_
    refine ej_iload_n B.1 d_E_out_40 rfl ?_
    obtain ⟨v13, e14, h⟩ := er_bd_some h
    refine ej_cs_i (nc := 0) (ns := 0) B.1 [.int (g11 7 (er_ix x2))] [] (ec_E_isPlace (er_pr B) (g11 7 (er_ix x2)) g11 v13 e14) cal_E_isPlace lk_E_95 st_E_isPlace rfl B.2.2.2.1 d_E_out_41 ⟨Nat.le_of_ble_eq_true rfl, Nat.le_of_ble_eq_true rfl, Nat.zero_le _, Nat.zero_le _⟩ (Nat.le_of_ble_eq_true rfl) rfl ?_
    refine ej_if_eq B.1 (tgt := 56) d_E_out_44 (by decide) (fun q15 => ?_) (fun q15 => ?_)
    · replace h := er_it h q15
      refine ej_iconst B.1 (v := 0) d_E_out_56 rfl ?_
      exact ej_le (lv' := [some (.ref 0), none, some (.int x2), none, none]) ⟨rfl, ⟨rfl, trivial⟩⟩ (ew_E_out_57 hl B x2 0 g11 _ h)
    · replace h := er_if h q15
      refine ej_aload_n B.1 d_E_out_47 rfl ?_
      refine ej_getr B.1 (er_at B 0 rfl rfl) rfl rfl fl_E_27 d_E_out_48 ?_
      refine ej_iload_n B.1 d_E_out_51 rfl ?_
      obtain ⟨e19, h⟩ := er_gd_some h
      refine ej_iald B.1 (er_at B 4 rfl rfl) rfl e19 d_E_out_52 ?_
      refine ej_goto B.1 (tgt := 57) d_E_out_53 (by decide) ?_
      exact ej_le (lv' := [some (.ref 0), none, some (.int x2), none, none]) ⟨rfl, ⟨rfl, trivial⟩⟩ (ew_E_out_57 hl B x2 (g11 4 (er_ix (g11 7 (er_ix x2)))) g11 _ h)
  · subst h
    exact ej_cs_t (nc := 1) (ns := 6) B.1 [.int t0] [] (ec_E_requireState hl.2 (er_pr B) t0 σ (.inr k20, g11) e10) cal_E_requireState lk_E_81 st_E_requireState rfl B.2.2.2.1 d_E_out_27 ⟨Nat.le_of_ble_eq_true rfl, Nat.le_of_ble_eq_true rfl, Nat.le_of_ble_eq_true rfl, Nat.le_of_ble_eq_true rfl⟩ (Nat.le_of_ble_eq_true rfl) rfl B.2.2.1 (B.2.2.2.2.2 _) ⟨Nat.le_of_ble_eq_true rfl, Nat.le_of_ble_eq_true rfl⟩
set_option maxRecDepth 100000 in
set_option maxHeartbeats 4000000 in
theorem ec_E_out {l : Launch} {G : er_G} (hl : l.stackTraces = false) (hE : er_Pr G 0 21) (x1 x2 : Int32) (σ : er_S) (r : (Int32 ⊕ Nat) × er_S) (h : ef_E_out x1 x2 σ = some r) : er_Con l y_E_out w_E_out 8 124 (er_nc r.1) (er_ns r.1) G [.ref 0, .int x1, .int x2] σ (er_cvi r) := by
  refine er_ofJ (ret := some .int) (cc := b_E_out) (maxL := 5) (lv0 := [some (.ref 0), some (.int x1), some (.int x2), none, none]) (hh := []) (by decide +kernel) rfl (Or.inl rfl) (by intro v hv; simp only [List.mem_cons, List.not_mem_nil, or_false] at hv; rcases hv with rfl | rfl | rfl <;> rfl) (Nat.le_of_ble_eq_true rfl) ?_
  intro p e s m args below meth c hadm C hr hlk hml hw hnm hm hcd
  have B : er_B p s m c meth b_E_out "EntryRows" G (some .int) 5 0 21 := ⟨C, hr, hlk, hml, hE, er_noh hw hnm hm hcd⟩
  have hl := And.intro hadm hl
  unfold ef_E_out at h
  refine ej_aload_n B.1 d_E_out_0 rfl ?_
  refine ej_iload_n B.1 d_E_out_1 rfl ?_
  rcases er_tb_some h with ⟨v1, g3, e2, h⟩ | ⟨k22, g3, e2, h⟩
  · refine ej_cv_v (nc := 0) (ns := 0) B.1 [.int x1] [] (ec_E_requireBoard hl.2 (er_pr B) x1 σ (.inl v1, g3) e2) cal_E_requireBoard lk_E_65 in_E_requireBoard (er_at B 0 rfl rfl) rfl rfl se_E_requireBoard rfl B.2.2.2.1 d_E_out_2 ⟨Nat.le_of_ble_eq_true rfl, Nat.le_of_ble_eq_true rfl, Nat.zero_le _, Nat.zero_le _⟩ (Nat.le_of_ble_eq_true rfl) rfl ?_
    refine ej_iload_n B.1 d_E_out_5 rfl ?_
    rcases er_tb_some h with ⟨v4, g6, e5, h⟩ | ⟨k21, g6, e5, h⟩
    · refine ej_cs_v (nc := 0) (ns := 0) B.1 [.int x2] [] (ec_E_requirePerson hl.2 (er_pr B) x2 g3 (.inl v4, g6) e5) cal_E_requirePerson lk_E_69 st_E_requirePerson rfl B.2.2.2.1 d_E_out_6 ⟨Nat.le_of_ble_eq_true rfl, Nat.le_of_ble_eq_true rfl, Nat.zero_le _, Nat.zero_le _⟩ (Nat.le_of_ble_eq_true rfl) rfl ?_
      refine ej_aload_n B.1 d_E_out_9 rfl ?_
      refine ej_getr B.1 (er_at B 0 rfl rfl) rfl rfl fl_E_10 d_E_out_10 ?_
      refine ej_getr B.1 (er_at B 1 rfl rfl) rfl rfl fl_E_132 d_E_out_13 ?_
      refine ej_iload_n B.1 d_E_out_16 rfl ?_
      obtain ⟨e7, h⟩ := er_gd_some h
      refine ej_iald B.1 (er_at B 5 rfl rfl) rfl e7 d_E_out_17 ?_
      refine ej_iload_n B.1 d_E_out_18 rfl ?_
      refine ej_icmp_ne B.1 (tgt := 26) d_E_out_19 (by decide) (fun q8 => ?_) (fun q8 => ?_)
      · replace h := er_if h q8
        refine ej_iconst B.1 (v := 0) d_E_out_26 rfl ?_
        exact ej_le (lv' := [some (.ref 0), none, some (.int x2), none, none]) ⟨rfl, ⟨rfl, trivial⟩⟩ (ew_E_out_27 hl B x2 0 g6 _ h)
      · replace h := er_it h q8
        refine ej_iconst B.1 (v := 1) d_E_out_22 rfl ?_
        refine ej_goto B.1 (tgt := 27) d_E_out_23 (by decide) ?_
        exact ej_le (lv' := [some (.ref 0), none, some (.int x2), none, none]) ⟨rfl, ⟨rfl, trivial⟩⟩ (ew_E_out_27 hl B x2 1 g6 _ h)
    · subst h
      exact ej_cs_t (nc := 1) (ns := 6) B.1 [.int x2] [] (ec_E_requirePerson hl.2 (er_pr B) x2 g3 (.inr k21, g6) e5) cal_E_requirePerson lk_E_69 st_E_requirePerson rfl B.2.2.2.1 d_E_out_6 ⟨Nat.le_of_ble_eq_true rfl, Nat.le_of_ble_eq_true rfl, Nat.le_of_ble_eq_true rfl, Nat.le_of_ble_eq_true rfl⟩ (Nat.le_of_ble_eq_true rfl) rfl B.2.2.1 (B.2.2.2.2.2 _) ⟨Nat.le_of_ble_eq_true rfl, Nat.le_of_ble_eq_true rfl⟩
  · subst h
    exact ej_cv_t (nc := 1) (ns := 6) B.1 [.int x1] [] (ec_E_requireBoard hl.2 (er_pr B) x1 σ (.inr k22, g3) e2) cal_E_requireBoard lk_E_65 in_E_requireBoard (er_at B 0 rfl rfl) rfl rfl se_E_requireBoard rfl B.2.2.2.1 d_E_out_2 ⟨Nat.le_of_ble_eq_true rfl, Nat.le_of_ble_eq_true rfl, Nat.le_of_ble_eq_true rfl, Nat.le_of_ble_eq_true rfl⟩ (Nat.le_of_ble_eq_true rfl) rfl B.2.2.1 (B.2.2.2.2.2 _) ⟨Nat.le_of_ble_eq_true rfl, Nat.le_of_ble_eq_true rfl⟩
set_option maxRecDepth 100000 in
set_option maxHeartbeats 4000000 in
theorem ew_E_swap_48 {p : Program} {l : Launch} {e : Env} {s : State} {m : MethodId} {args : Array Value} {below : List Frame} {meth : Method} {c : Code} {G : er_G} (hl : l.admits e ∧ l.stackTraces = false) (B : er_B p s m c meth b_E_swap "EntryRows" G (none) 4 0 21) (x1 x2 t0 : Int32) (σ : er_S) (r : (Unit ⊕ Nat) × er_S) (h : ef_E_swap_48 x1 x2 t0 σ = some r) : er_J p l e { frames := 8, cells := er_nc r.1, slots := er_ns r.1, locals := 123 } s m args below meth c G (er_A G s.heap.size) s.heap (er_fin below G s (er_nc r.1) (er_ns r.1) (er_cvu r)) 0 0 σ 48 [some (.ref 0), some (.int x1), some (.int x2), none] [.int t0] := by
  unfold ef_E_swap_48 at h
  rcases er_tb_some h with ⟨v14, g16, e15, h⟩ | ⟨k21, g16, e15, h⟩
  · refine ej_cs_v (nc := 0) (ns := 0) B.1 [.int t0] [] (ec_E_requireState hl.2 (er_pr B) t0 σ (.inl v14, g16) e15) cal_E_requireState lk_E_81 st_E_requireState rfl B.2.2.2.1 d_E_swap_48 ⟨Nat.le_of_ble_eq_true rfl, Nat.le_of_ble_eq_true rfl, Nat.zero_le _, Nat.zero_le _⟩ (Nat.le_of_ble_eq_true rfl) rfl ?_
    refine ej_aload_n B.1 d_E_swap_51 rfl ?_
    refine ej_getr B.1 (er_at B 0 rfl rfl) rfl rfl fl_E_10 d_E_swap_52 ?_
    refine ej_getr B.1 (er_at B 1 rfl rfl) rfl rfl fl_E_145 d_E_swap_55 ?_
    refine ej_iload_n B.1 d_E_swap_58 rfl ?_
    obtain ⟨e17, h⟩ := er_gd_some h
    refine ej_iald B.1 (er_at B 6 rfl rfl) rfl e17 d_E_swap_59 ?_
    refine ej_istore_n B.1 (lv' := [some (.ref 0), some (.int x1), some (.int x2), some (.int (g16 6 (er_ix x1)))]) d_E_swap_60 rfl rfl rfl ?_
    refine ej_aload_n B.1 d_E_swap_61 rfl ?_
    refine ej_getr B.1 (er_at B 0 rfl rfl) rfl rfl fl_E_10 d_E_swap_62 ?_
    refine ej_getr B.1 (er_at B 1 rfl rfl) rfl rfl fl_E_145 d_E_swap_65 ?_
    refine ej_iload_n B.1 d_E_swap_68 rfl ?_
    refine ej_aload_n B.1 d_E_swap_69 rfl ?_
    refine ej_getr B.1 (er_at B 0 rfl rfl) rfl rfl fl_E_10 d_E_swap_70 ?_
    refine ej_getr B.1 (er_at B 1 rfl rfl) rfl rfl fl_E_145 d_E_swap_73 ?_
    refine ej_iload_n B.1 d_E_swap_76 rfl ?_
    obtain ⟨e18, h⟩ := er_gd_some h
    refine ej_iald B.1 (er_at B 6 rfl rfl) rfl e18 d_E_swap_77 ?_
    obtain ⟨e19, h⟩ := er_gd_some h
    refine ej_iast B.1 (er_at B 6 rfl rfl) rfl e19 d_E_swap_78 ?_
    refine ej_aload_n B.1 d_E_swap_79 rfl ?_
    refine ej_getr B.1 (er_at B 0 rfl rfl) rfl rfl fl_E_10 d_E_swap_80 ?_
    refine ej_getr B.1 (er_at B 1 rfl rfl) rfl rfl fl_E_145 d_E_swap_83 ?_
    refine ej_iload_n B.1 d_E_swap_86 rfl ?_
    refine ej_iload_n B.1 d_E_swap_87 rfl ?_
    obtain ⟨e20, h⟩ := er_gd_some h
    refine ej_iast B.1 (er_at B 6 rfl rfl) rfl e20 d_E_swap_88 ?_
    cases h
    exact ej_vret B.1 B.2.1 B.2.2.1 (Nat.zero_le _) (Nat.zero_le _) d_E_swap_89
  · subst h
    exact ej_cs_t (nc := 1) (ns := 6) B.1 [.int t0] [] (ec_E_requireState hl.2 (er_pr B) t0 σ (.inr k21, g16) e15) cal_E_requireState lk_E_81 st_E_requireState rfl B.2.2.2.1 d_E_swap_48 ⟨Nat.le_of_ble_eq_true rfl, Nat.le_of_ble_eq_true rfl, Nat.le_of_ble_eq_true rfl, Nat.le_of_ble_eq_true rfl⟩ (Nat.le_of_ble_eq_true rfl) rfl B.2.2.1 (B.2.2.2.2.2 _) ⟨Nat.le_of_ble_eq_true rfl, Nat.le_of_ble_eq_true rfl⟩
set_option maxRecDepth 100000 in
set_option maxHeartbeats 4000000 in
theorem ew_E_swap_35 {p : Program} {l : Launch} {e : Env} {s : State} {m : MethodId} {args : Array Value} {below : List Frame} {meth : Method} {c : Code} {G : er_G} (hl : l.admits e ∧ l.stackTraces = false) (B : er_B p s m c meth b_E_swap "EntryRows" G (none) 4 0 21) (x1 x2 t0 : Int32) (σ : er_S) (r : (Unit ⊕ Nat) × er_S) (h : ef_E_swap_35 x1 x2 t0 σ = some r) : er_J p l e { frames := 8, cells := er_nc r.1, slots := er_ns r.1, locals := 123 } s m args below meth c G (er_A G s.heap.size) s.heap (er_fin below G s (er_nc r.1) (er_ns r.1) (er_cvu r)) 0 0 σ 35 [some (.ref 0), some (.int x1), some (.int x2), none] [.int t0] := by
  unfold ef_E_swap_35 at h
  rcases er_tb_some h with ⟨v10, g12, e11, h⟩ | ⟨k22, g12, e11, h⟩
  · refine ej_cs_v (nc := 0) (ns := 0) B.1 [.int t0] [] (ec_E_requireState hl.2 (er_pr B) t0 σ (.inl v10, g12) e11) cal_E_requireState lk_E_81 st_E_requireState rfl B.2.2.2.1 d_E_swap_35 ⟨Nat.le_of_ble_eq_true rfl, Nat.le_of_ble_eq_true rfl, Nat.zero_le _, Nat.zero_le _⟩ (Nat.le_of_ble_eq_true rfl) rfl ?_
    refine ej_iload_n B.1 d_E_swap_38 rfl ?_
    refine ej_iload_n B.1 d_E_swap_39 rfl ?_
    refine ej_icmp_eq B.1 (tgt := 47) d_E_swap_40 (by decide) (fun q13 => ?_) (fun q13 => ?_)
    · replace h := er_it h q13
      refine ej_iconst B.1 (v := 0) d_E_swap_47 rfl ?_
      exact ej_le (lv' := [some (.ref 0), some (.int x1), some (.int x2), none]) ⟨rfl, ⟨rfl, ⟨rfl, trivial⟩⟩⟩ (ew_E_swap_48 hl B x1 x2 0 g12 _ h)
    · replace h := er_if h q13
      refine ej_iconst B.1 (v := 1) d_E_swap_43 rfl ?_
      refine ej_goto B.1 (tgt := 48) d_E_swap_44 (by decide) ?_
      exact ej_le (lv' := [some (.ref 0), some (.int x1), some (.int x2), none]) ⟨rfl, ⟨rfl, ⟨rfl, trivial⟩⟩⟩ (ew_E_swap_48 hl B x1 x2 1 g12 _ h)
  · subst h
    exact ej_cs_t (nc := 1) (ns := 6) B.1 [.int t0] [] (ec_E_requireState hl.2 (er_pr B) t0 σ (.inr k22, g12) e11) cal_E_requireState lk_E_81 st_E_requireState rfl B.2.2.2.1 d_E_swap_35 ⟨Nat.le_of_ble_eq_true rfl, Nat.le_of_ble_eq_true rfl, Nat.le_of_ble_eq_true rfl, Nat.le_of_ble_eq_true rfl⟩ (Nat.le_of_ble_eq_true rfl) rfl B.2.2.1 (B.2.2.2.2.2 _) ⟨Nat.le_of_ble_eq_true rfl, Nat.le_of_ble_eq_true rfl⟩
set_option maxRecDepth 100000 in
set_option maxHeartbeats 4000000 in
theorem ew_E_swap_34 {p : Program} {l : Launch} {e : Env} {s : State} {m : MethodId} {args : Array Value} {below : List Frame} {meth : Method} {c : Code} {G : er_G} (hl : l.admits e ∧ l.stackTraces = false) (B : er_B p s m c meth b_E_swap "EntryRows" G (none) 4 0 21) (x1 x2 : Int32) (σ : er_S) (r : (Unit ⊕ Nat) × er_S) (h : ef_E_swap_34 x1 x2 σ = some r) : er_J p l e { frames := 8, cells := er_nc r.1, slots := er_ns r.1, locals := 123 } s m args below meth c G (er_A G s.heap.size) s.heap (er_fin below G s (er_nc r.1) (er_ns r.1) (er_cvu r)) 0 0 σ 34 [some (.ref 0), some (.int x1), some (.int x2), none] [] := by
  unfold ef_E_swap_34 at h
  refine ej_iconst B.1 (v := 0) d_E_swap_34 rfl ?_
  exact ej_le (lv' := [some (.ref 0), some (.int x1), some (.int x2), none]) ⟨rfl, ⟨rfl, ⟨rfl, trivial⟩⟩⟩ (ew_E_swap_35 hl B x1 x2 0 σ _ h)
set_option maxRecDepth 100000 in
set_option maxHeartbeats 4000000 in
theorem ec_E_swap {l : Launch} {G : er_G} (hl : l.stackTraces = false) (hE : er_Pr G 0 21) (x1 x2 : Int32) (σ : er_S) (r : (Unit ⊕ Nat) × er_S) (h : ef_E_swap x1 x2 σ = some r) : er_Con l y_E_swap w_E_swap 8 123 (er_nc r.1) (er_ns r.1) G [.ref 0, .int x1, .int x2] σ (er_cvu r) := by
  refine er_ofJ (ret := none) (cc := b_E_swap) (maxL := 4) (lv0 := [some (.ref 0), some (.int x1), some (.int x2), none]) (hh := []) (by decide +kernel) rfl (Or.inl rfl) (by intro v hv; simp only [List.mem_cons, List.not_mem_nil, or_false] at hv; rcases hv with rfl | rfl | rfl <;> rfl) (Nat.le_of_ble_eq_true rfl) ?_
  intro p e s m args below meth c hadm C hr hlk hml hw hnm hm hcd
  have B : er_B p s m c meth b_E_swap "EntryRows" G (none) 4 0 21 := ⟨C, hr, hlk, hml, hE, er_noh hw hnm hm hcd⟩
  have hl := And.intro hadm hl
  unfold ef_E_swap at h
  refine ej_iload_n B.1 d_E_swap_0 rfl ?_
  rcases er_tb_some h with ⟨v1, g3, e2, h⟩ | ⟨k27, g3, e2, h⟩
  · refine ej_cs_v (nc := 0) (ns := 0) B.1 [.int x1] [] (ec_E_requirePerson hl.2 (er_pr B) x1 σ (.inl v1, g3) e2) cal_E_requirePerson lk_E_69 st_E_requirePerson rfl B.2.2.2.1 d_E_swap_1 ⟨Nat.le_of_ble_eq_true rfl, Nat.le_of_ble_eq_true rfl, Nat.zero_le _, Nat.zero_le _⟩ (Nat.le_of_ble_eq_true rfl) rfl ?_
    refine ej_iload_n B.1 d_E_swap_4 rfl ?_
    rcases er_tb_some h with ⟨v4, g6, e5, h⟩ | ⟨k26, g6, e5, h⟩
    · refine ej_cs_v (nc := 0) (ns := 0) B.1 [.int x2] [] (ec_E_requirePerson hl.2 (er_pr B) x2 g3 (.inl v4, g6) e5) cal_E_requirePerson lk_E_69 st_E_requirePerson rfl B.2.2.2.1 d_E_swap_5 ⟨Nat.le_of_ble_eq_true rfl, Nat.le_of_ble_eq_true rfl, Nat.zero_le _, Nat.zero_le _⟩ (Nat.le_of_ble_eq_true rfl) rfl ?_
      refine ej_aload_n B.1 d_E_swap_8 rfl ?_
      refine ej_getr B.1 (er_at B 0 rfl rfl) rfl rfl fl_E_10 d_E_swap_9 ?_
      refine ej_iload_n B.1 d_E_swap_12 rfl ?_
      obtain ⟨v7, e8, h⟩ := er_bd_some h
      refine ej_cv_i (nc := 0) (ns := 0) B.1 [.int x1] [] (ec_P_isInside (er_pr B) x1 g6 v7 e8) cal_P_isInside lk_E_142 in_P_isInside (er_at B 1 rfl rfl) rfl rfl se_P_isInside rfl B.2.2.2.1 d_E_swap_13 ⟨Nat.le_of_ble_eq_true rfl, Nat.le_of_ble_eq_true rfl, Nat.zero_le _, Nat.zero_le _⟩ (Nat.le_of_ble_eq_true rfl) rfl ?_
      refine ej_if_eq B.1 (tgt := 34) d_E_swap_16 (by decide) (fun q9 => ?_) (fun q9 => ?_)
      · replace h := er_it h q9
        exact ej_le (lv' := [some (.ref 0), some (.int x1), some (.int x2), none]) ⟨rfl, ⟨rfl, ⟨rfl, trivial⟩⟩⟩ (ew_E_swap_34 hl B x1 x2 g6 _ h)
      · replace h := er_if h q9
        refine ej_aload_n B.1 d_E_swap_19 rfl ?_
        refine ej_getr B.1 (er_at B 0 rfl rfl) rfl rfl fl_E_10 d_E_swap_20 ?_
        refine ej_iload_n B.1 d_E_swap_23 rfl ?_
        obtain ⟨v23, e24, h⟩ := er_bd_some h
        refine ej_cv_i (nc := 0) (ns := 0) B.1 [.int x2] [] (ec_P_isInside (er_pr B) x2 g6 v23 e24) cal_P_isInside lk_E_142 in_P_isInside (er_at B 1 rfl rfl) rfl rfl se_P_isInside rfl B.2.2.2.1 d_E_swap_24 ⟨Nat.le_of_ble_eq_true rfl, Nat.le_of_ble_eq_true rfl, Nat.zero_le _, Nat.zero_le _⟩ (Nat.le_of_ble_eq_true rfl) rfl ?_
        refine ej_if_eq B.1 (tgt := 34) d_E_swap_27 (by decide) (fun q25 => ?_) (fun q25 => ?_)
        · replace h := er_it h q25
          exact ej_le (lv' := [some (.ref 0), some (.int x1), some (.int x2), none]) ⟨rfl, ⟨rfl, ⟨rfl, trivial⟩⟩⟩ (ew_E_swap_34 hl B x1 x2 g6 _ h)
        · replace h := er_if h q25
          refine ej_iconst B.1 (v := 1) d_E_swap_30 rfl ?_
          refine ej_goto B.1 (tgt := 35) d_E_swap_31 (by decide) ?_
          exact ej_le (lv' := [some (.ref 0), some (.int x1), some (.int x2), none]) ⟨rfl, ⟨rfl, ⟨rfl, trivial⟩⟩⟩ (ew_E_swap_35 hl B x1 x2 1 g6 _ h)
    · subst h
      exact ej_cs_t (nc := 1) (ns := 6) B.1 [.int x2] [] (ec_E_requirePerson hl.2 (er_pr B) x2 g3 (.inr k26, g6) e5) cal_E_requirePerson lk_E_69 st_E_requirePerson rfl B.2.2.2.1 d_E_swap_5 ⟨Nat.le_of_ble_eq_true rfl, Nat.le_of_ble_eq_true rfl, Nat.le_of_ble_eq_true rfl, Nat.le_of_ble_eq_true rfl⟩ (Nat.le_of_ble_eq_true rfl) rfl B.2.2.1 (B.2.2.2.2.2 _) ⟨Nat.le_of_ble_eq_true rfl, Nat.le_of_ble_eq_true rfl⟩
  · subst h
    exact ej_cs_t (nc := 1) (ns := 6) B.1 [.int x1] [] (ec_E_requirePerson hl.2 (er_pr B) x1 σ (.inr k27, g3) e2) cal_E_requirePerson lk_E_69 st_E_requirePerson rfl B.2.2.2.1 d_E_swap_1 ⟨Nat.le_of_ble_eq_true rfl, Nat.le_of_ble_eq_true rfl, Nat.le_of_ble_eq_true rfl, Nat.le_of_ble_eq_true rfl⟩ (Nat.le_of_ble_eq_true rfl) rfl B.2.2.1 (B.2.2.2.2.2 _) ⟨Nat.le_of_ble_eq_true rfl, Nat.le_of_ble_eq_true rfl⟩
end
section
set_option maxRecDepth 100000 in
set_option maxHeartbeats 4000000 in
theorem ew_P_moveAll_2 {p : Program} {l : Launch} {e : Env} {s : State} {m : MethodId} {args : Array Value} {below : List Frame} {meth : Method} {c : Code} {G : er_G} (B : er_B p s m c meth b_P_moveAll "EntryRows$Persons" G (none) 4 0 21) : ∀ (n : Nat) (x1 x2 x3 : Int32) (σ : er_S) (r : Unit × er_S), ef_P_moveAll_2 n x1 x2 x3 σ = some r → er_J p l e { frames := 0, cells := 0, slots := 0, locals := 0 } s m args below meth c G (er_A G s.heap.size) s.heap (er_fin below G s 0 0 (.inl none, r.2)) 0 0 σ 2 [some (.ref 1), some (.int x1), some (.int x2), some (.int x3)] [] := by
  intro n
  induction n with
  | zero => intro x1 x2 x3 σ r h; cases h
  | succ n ih =>
    intro x1 x2 x3 σ r h
    rw [ef_P_moveAll_2] at h
    refine ej_iload_n B.1 d_P_moveAll_2 rfl ?_
    refine ej_bipush B.1 (v := 40) d_P_moveAll_3 (by decide +kernel) ?_
    refine ej_icmp_ge B.1 (tgt := 31) d_P_moveAll_5 (by decide) (fun q1 => ?_) (fun q1 => ?_)
    · replace h := er_it h q1
      cases h
      exact ej_vret B.1 B.2.1 B.2.2.1 (Nat.zero_le _) (Nat.zero_le _) d_P_moveAll_31
    · replace h := er_if h q1
      refine ej_aload_n B.1 d_P_moveAll_8 rfl ?_
      refine ej_getr B.1 (er_at B 1 rfl rfl) rfl rfl fl_P_9 d_P_moveAll_9 ?_
      refine ej_iload_n B.1 d_P_moveAll_12 rfl ?_
      obtain ⟨e2, h⟩ := er_gd_some h
      refine ej_iald B.1 (er_at B 5 rfl rfl) rfl e2 d_P_moveAll_13 ?_
      refine ej_iload_n B.1 d_P_moveAll_14 rfl ?_
      refine ej_icmp_ne B.1 (tgt := 25) d_P_moveAll_15 (by decide) (fun q3 => ?_) (fun q3 => ?_)
      · replace h := er_if h q3
        refine ej_iinc B.1 (v := x3 + 1) (lv' := [some (.ref 1), some (.int x1), some (.int x2), some (.int (x3 + 1))]) d_P_moveAll_25 rfl rfl rfl rfl rfl ?_
        refine ej_goto B.1 (tgt := 2) d_P_moveAll_28 (by decide) ?_
        exact ej_le (lv' := [some (.ref 1), some (.int x1), some (.int x2), some (.int (x3 + 1))]) ⟨rfl, ⟨rfl, ⟨rfl, ⟨rfl, trivial⟩⟩⟩⟩ (ih x1 x2 (x3 + 1) σ _ h)
      · replace h := er_it h q3
        refine ej_aload_n B.1 d_P_moveAll_18 rfl ?_
        refine ej_getr B.1 (er_at B 1 rfl rfl) rfl rfl fl_P_9 d_P_moveAll_19 ?_
        refine ej_iload_n B.1 d_P_moveAll_22 rfl ?_
        refine ej_iload_n B.1 d_P_moveAll_23 rfl ?_
        obtain ⟨e4, h⟩ := er_gd_some h
        refine ej_iast B.1 (er_at B 5 rfl rfl) rfl e4 d_P_moveAll_24 ?_
        refine ej_iinc B.1 (v := x3 + 1) (lv' := [some (.ref 1), some (.int x1), some (.int x2), some (.int (x3 + 1))]) d_P_moveAll_25 rfl rfl rfl rfl rfl ?_
        refine ej_goto B.1 (tgt := 2) d_P_moveAll_28 (by decide) ?_
        exact ej_le (lv' := [some (.ref 1), some (.int x1), some (.int x2), some (.int (x3 + 1))]) ⟨rfl, ⟨rfl, ⟨rfl, ⟨rfl, trivial⟩⟩⟩⟩ (ih x1 x2 (x3 + 1) (er_up σ 5 (er_ix x3) x2) _ h)
set_option maxRecDepth 100000 in
set_option maxHeartbeats 4000000 in
theorem ec_P_moveAll {l : Launch} {G : er_G} (hE : er_Pr G 0 21) (x1 x2 : Int32) (σ : er_S) (r : Unit × er_S) (h : ef_P_moveAll x1 x2 σ = some r) : er_Con l y_P_moveAll w_P_moveAll 0 0 0 0 G [.ref 1, .int x1, .int x2] σ ((.inl none, r.2)) := by
  refine er_ofJ (ret := none) (cc := b_P_moveAll) (maxL := 4) (lv0 := [some (.ref 1), some (.int x1), some (.int x2), none]) (hh := []) (by decide +kernel) rfl (Or.inl rfl) (by intro v hv; simp only [List.mem_cons, List.not_mem_nil, or_false] at hv; rcases hv with rfl | rfl | rfl <;> rfl) (Nat.le_of_ble_eq_true rfl) ?_
  intro p e s m args below meth c hadm C hr hlk hml hw hnm hm hcd
  have B : er_B p s m c meth b_P_moveAll "EntryRows$Persons" G (none) 4 0 21 := ⟨C, hr, hlk, hml, hE, er_noh hw hnm hm hcd⟩
  unfold ef_P_moveAll at h
  refine ej_iconst B.1 (v := 0) d_P_moveAll_0 rfl ?_
  refine ej_istore_n B.1 (lv' := [some (.ref 1), some (.int x1), some (.int x2), some (.int 0)]) d_P_moveAll_1 rfl rfl rfl ?_
  exact ej_le (lv' := [some (.ref 1), some (.int x1), some (.int x2), some (.int 0)]) ⟨rfl, ⟨rfl, ⟨rfl, ⟨rfl, trivial⟩⟩⟩⟩ (ew_P_moveAll_2 B 64 x1 x2 0 σ _ h)
set_option maxRecDepth 100000 in
set_option maxHeartbeats 4000000 in
theorem ew_E_shut_17 {p : Program} {l : Launch} {e : Env} {s : State} {m : MethodId} {args : Array Value} {below : List Frame} {meth : Method} {c : Code} {G : er_G} (B : er_B p s m c meth b_E_shut "EntryRows" G (none) 4 0 21) : ∀ (n : Nat) (x1 x2 x3 : Int32) (σ : er_S) (r : Unit × er_S), ef_E_shut_17 n x1 x2 x3 σ = some r → er_J p l e { frames := 2, cells := 0, slots := 0, locals := 42 } s m args below meth c G (er_A G s.heap.size) s.heap (er_fin below G s 0 0 (.inl none, r.2)) 0 0 σ 17 [some (.ref 0), some (.int x1), some (.int x2), some (.int x3)] [] := by
  intro n
  induction n with
  | zero => intro x1 x2 x3 σ r h; cases h
  | succ n ih =>
    intro x1 x2 x3 σ r h
    rw [ef_E_shut_17] at h
    refine ej_iload_n B.1 d_E_shut_17 rfl ?_
    refine ej_bipush B.1 (v := 16) d_E_shut_18 (by decide +kernel) ?_
    refine ej_icmp_ge B.1 (tgt := 46) d_E_shut_20 (by decide) (fun q6 => ?_) (fun q6 => ?_)
    · replace h := er_it h q6
      cases h
      exact ej_vret B.1 B.2.1 B.2.2.1 (Nat.zero_le _) (Nat.zero_le _) d_E_shut_46
    · replace h := er_if h q6
      refine ej_aload_n B.1 d_E_shut_23 rfl ?_
      refine ej_getr B.1 (er_at B 0 rfl rfl) rfl rfl fl_E_23 d_E_shut_24 ?_
      refine ej_iload_n B.1 d_E_shut_27 rfl ?_
      obtain ⟨e7, h⟩ := er_gd_some h
      refine ej_iald B.1 (er_at B 3 rfl rfl) rfl e7 d_E_shut_28 ?_
      refine ej_iload_n B.1 d_E_shut_29 rfl ?_
      refine ej_icmp_ne B.1 (tgt := 40) d_E_shut_30 (by decide) (fun q8 => ?_) (fun q8 => ?_)
      · replace h := er_if h q8
        refine ej_iinc B.1 (v := x3 + 1) (lv' := [some (.ref 0), some (.int x1), some (.int x2), some (.int (x3 + 1))]) d_E_shut_40 rfl rfl rfl rfl rfl ?_
        refine ej_goto B.1 (tgt := 17) d_E_shut_43 (by decide) ?_
        exact ej_le (lv' := [some (.ref 0), some (.int x1), some (.int x2), some (.int (x3 + 1))]) ⟨rfl, ⟨rfl, ⟨rfl, ⟨rfl, trivial⟩⟩⟩⟩ (ih x1 x2 (x3 + 1) σ _ h)
      · replace h := er_it h q8
        refine ej_aload_n B.1 d_E_shut_33 rfl ?_
        refine ej_getr B.1 (er_at B 0 rfl rfl) rfl rfl fl_E_23 d_E_shut_34 ?_
        refine ej_iload_n B.1 d_E_shut_37 rfl ?_
        refine ej_iload_n B.1 d_E_shut_38 rfl ?_
        obtain ⟨e9, h⟩ := er_gd_some h
        refine ej_iast B.1 (er_at B 3 rfl rfl) rfl e9 d_E_shut_39 ?_
        refine ej_iinc B.1 (v := x3 + 1) (lv' := [some (.ref 0), some (.int x1), some (.int x2), some (.int (x3 + 1))]) d_E_shut_40 rfl rfl rfl rfl rfl ?_
        refine ej_goto B.1 (tgt := 17) d_E_shut_43 (by decide) ?_
        exact ej_le (lv' := [some (.ref 0), some (.int x1), some (.int x2), some (.int (x3 + 1))]) ⟨rfl, ⟨rfl, ⟨rfl, ⟨rfl, trivial⟩⟩⟩⟩ (ih x1 x2 (x3 + 1) (er_up σ 3 (er_ix x3) x2) _ h)
set_option maxRecDepth 100000 in
set_option maxHeartbeats 4000000 in
theorem ec_E_shut {l : Launch} {G : er_G} (hE : er_Pr G 0 21) (x1 x2 : Int32) (σ : er_S) (r : Unit × er_S) (h : ef_E_shut x1 x2 σ = some r) : er_Con l y_E_shut w_E_shut 2 42 0 0 G [.ref 0, .int x1, .int x2] σ ((.inl none, r.2)) := by
  refine er_ofJ (ret := none) (cc := b_E_shut) (maxL := 4) (lv0 := [some (.ref 0), some (.int x1), some (.int x2), none]) (hh := []) (by decide +kernel) rfl (Or.inl rfl) (by intro v hv; simp only [List.mem_cons, List.not_mem_nil, or_false] at hv; rcases hv with rfl | rfl | rfl <;> rfl) (Nat.le_of_ble_eq_true rfl) ?_
  intro p e s m args below meth c hadm C hr hlk hml hw hnm hm hcd
  have B : er_B p s m c meth b_E_shut "EntryRows" G (none) 4 0 21 := ⟨C, hr, hlk, hml, hE, er_noh hw hnm hm hcd⟩
  unfold ef_E_shut at h
  refine ej_aload_n B.1 d_E_shut_0 rfl ?_
  refine ej_iload_n B.1 d_E_shut_1 rfl ?_
  obtain ⟨v1, g3, e2, h⟩ := er_bw_some h
  refine ej_cv_v (nc := 0) (ns := 0) B.1 [.int x1] [] (ec_E_dropKeeper (er_pr B) x1 σ (v1, g3) e2) cal_E_dropKeeper lk_E_85 in_E_dropKeeper (er_at B 0 rfl rfl) rfl rfl se_E_dropKeeper rfl B.2.2.2.1 d_E_shut_2 ⟨Nat.le_of_ble_eq_true rfl, Nat.le_of_ble_eq_true rfl, Nat.zero_le _, Nat.zero_le _⟩ (Nat.le_of_ble_eq_true rfl) rfl ?_
  refine ej_aload_n B.1 d_E_shut_5 rfl ?_
  refine ej_getr B.1 (er_at B 0 rfl rfl) rfl rfl fl_E_19 d_E_shut_6 ?_
  refine ej_getr B.1 (er_at B 2 rfl rfl) rfl rfl fl_E_196 d_E_shut_9 ?_
  refine ej_iload_n B.1 d_E_shut_12 rfl ?_
  refine ej_iconst B.1 (v := 0) d_E_shut_13 rfl ?_
  obtain ⟨e4, h⟩ := er_gd_some h
  obtain ⟨e5, h⟩ := er_gd_some h
  refine ej_zast B.1 (er_at B 16 rfl rfl) rfl e4 e5 d_E_shut_14 ?_
  refine ej_iconst B.1 (v := 0) d_E_shut_15 rfl ?_
  refine ej_istore_n B.1 (lv' := [some (.ref 0), some (.int x1), some (.int x2), some (.int 0)]) d_E_shut_16 rfl rfl rfl ?_
  exact ej_le (lv' := [some (.ref 0), some (.int x1), some (.int x2), some (.int 0)]) ⟨rfl, ⟨rfl, ⟨rfl, ⟨rfl, trivial⟩⟩⟩⟩ (ew_E_shut_17 B 64 x1 x2 0 (er_up g3 16 (er_ix x1) 0) _ h)
set_option maxRecDepth 100000 in
set_option maxHeartbeats 4000000 in
theorem ew_P_countOn_4 {p : Program} {l : Launch} {e : Env} {s : State} {m : MethodId} {args : Array Value} {below : List Frame} {meth : Method} {c : Code} {G : er_G} (B : er_B p s m c meth b_P_countOn "EntryRows$Persons" G (some .int) 4 0 21) : ∀ (n : Nat) (x1 x2 x3 : Int32) (σ : er_S) (r : Int32), ef_P_countOn_4 n x1 x2 x3 σ = some r → er_J p l e { frames := 0, cells := 0, slots := 0, locals := 0 } s m args below meth c G (er_A G s.heap.size) s.heap (er_fin below G s 0 0 (.inl (some (.int r)), σ)) 0 0 σ 4 [some (.ref 1), some (.int x1), some (.int x2), some (.int x3)] [] := by
  intro n
  induction n with
  | zero => intro x1 x2 x3 σ r h; cases h
  | succ n ih =>
    intro x1 x2 x3 σ r h
    rw [ef_P_countOn_4] at h
    refine ej_iload_n B.1 d_P_countOn_4 rfl ?_
    refine ej_bipush B.1 (v := 40) d_P_countOn_5 (by decide +kernel) ?_
    refine ej_icmp_ge B.1 (tgt := 29) d_P_countOn_7 (by decide) (fun q1 => ?_) (fun q1 => ?_)
    · replace h := er_it h q1
      refine ej_iload_n B.1 d_P_countOn_29 rfl ?_
      cases h
      exact ej_iret B.1 B.2.1 B.2.2.1 (Nat.zero_le _) (Nat.zero_le _) d_P_countOn_30
    · replace h := er_if h q1
      refine ej_aload_n B.1 d_P_countOn_10 rfl ?_
      refine ej_getr B.1 (er_at B 1 rfl rfl) rfl rfl fl_P_9 d_P_countOn_11 ?_
      refine ej_iload_n B.1 d_P_countOn_14 rfl ?_
      obtain ⟨e2, h⟩ := er_gd_some h
      refine ej_iald B.1 (er_at B 5 rfl rfl) rfl e2 d_P_countOn_15 ?_
      refine ej_iload_n B.1 d_P_countOn_16 rfl ?_
      refine ej_icmp_ne B.1 (tgt := 23) d_P_countOn_17 (by decide) (fun q3 => ?_) (fun q3 => ?_)
      · replace h := er_if h q3
        refine ej_iinc B.1 (v := x3 + 1) (lv' := [some (.ref 1), some (.int x1), some (.int x2), some (.int (x3 + 1))]) d_P_countOn_23 rfl rfl rfl rfl rfl ?_
        refine ej_goto B.1 (tgt := 4) d_P_countOn_26 (by decide) ?_
        exact ej_le (lv' := [some (.ref 1), some (.int x1), some (.int x2), some (.int (x3 + 1))]) ⟨rfl, ⟨rfl, ⟨rfl, ⟨rfl, trivial⟩⟩⟩⟩ (ih x1 x2 (x3 + 1) σ _ h)
      · replace h := er_it h q3
        refine ej_iinc B.1 (v := x2 + 1) (lv' := [some (.ref 1), some (.int x1), some (.int (x2 + 1)), some (.int x3)]) d_P_countOn_20 rfl rfl rfl rfl rfl ?_
        refine ej_iinc B.1 (v := x3 + 1) (lv' := [some (.ref 1), some (.int x1), some (.int (x2 + 1)), some (.int (x3 + 1))]) d_P_countOn_23 rfl rfl rfl rfl rfl ?_
        refine ej_goto B.1 (tgt := 4) d_P_countOn_26 (by decide) ?_
        exact ej_le (lv' := [some (.ref 1), some (.int x1), some (.int (x2 + 1)), some (.int (x3 + 1))]) ⟨rfl, ⟨rfl, ⟨rfl, ⟨rfl, trivial⟩⟩⟩⟩ (ih x1 (x2 + 1) (x3 + 1) σ _ h)
set_option maxRecDepth 100000 in
set_option maxHeartbeats 4000000 in
theorem ec_P_countOn {l : Launch} {G : er_G} (hE : er_Pr G 0 21) (x1 : Int32) (σ : er_S) (r : Int32) (h : ef_P_countOn x1 σ = some r) : er_Con l y_P_countOn w_P_countOn 0 0 0 0 G [.ref 1, .int x1] σ ((.inl (some (.int r)), σ)) := by
  refine er_ofJ (ret := some .int) (cc := b_P_countOn) (maxL := 4) (lv0 := [some (.ref 1), some (.int x1), none, none]) (hh := []) (by decide +kernel) rfl (Or.inl rfl) (by intro v hv; simp only [List.mem_cons, List.not_mem_nil, or_false] at hv; rcases hv with rfl | rfl <;> rfl) (Nat.le_of_ble_eq_true rfl) ?_
  intro p e s m args below meth c hadm C hr hlk hml hw hnm hm hcd
  have B : er_B p s m c meth b_P_countOn "EntryRows$Persons" G (some .int) 4 0 21 := ⟨C, hr, hlk, hml, hE, er_noh hw hnm hm hcd⟩
  unfold ef_P_countOn at h
  refine ej_iconst B.1 (v := 0) d_P_countOn_0 rfl ?_
  refine ej_istore_n B.1 (lv' := [some (.ref 1), some (.int x1), some (.int 0), none]) d_P_countOn_1 rfl rfl rfl ?_
  refine ej_iconst B.1 (v := 0) d_P_countOn_2 rfl ?_
  refine ej_istore_n B.1 (lv' := [some (.ref 1), some (.int x1), some (.int 0), some (.int 0)]) d_P_countOn_3 rfl rfl rfl ?_
  exact ej_le (lv' := [some (.ref 1), some (.int x1), some (.int 0), some (.int 0)]) ⟨rfl, ⟨rfl, ⟨rfl, ⟨rfl, trivial⟩⟩⟩⟩ (ew_P_countOn_4 B 64 x1 0 0 σ _ h)
set_option maxRecDepth 100000 in
set_option maxHeartbeats 4000000 in
theorem ew_E_join_30 {p : Program} {l : Launch} {e : Env} {s : State} {m : MethodId} {args : Array Value} {below : List Frame} {meth : Method} {c : Code} {G : er_G} (hl : l.admits e ∧ l.stackTraces = false) (B : er_B p s m c meth b_E_join "EntryRows" G (some .int) 3 0 21) (x1 x2 t0 : Int32) (σ : er_S) (r : (Int32 ⊕ Nat) × er_S) (h : ef_E_join_30 x1 x2 t0 σ = some r) : er_J p l e { frames := 8, cells := er_nc r.1, slots := er_ns r.1, locals := 124 } s m args below meth c G (er_A G s.heap.size) s.heap (er_fin below G s (er_nc r.1) (er_ns r.1) (er_cvi r)) 0 0 σ 30 [some (.ref 0), some (.int x1), some (.int x2)] [.int t0] := by
  unfold ef_E_join_30 at h
  rcases er_tb_some h with ⟨v14, g16, e15, h⟩ | ⟨k25, g16, e15, h⟩
  · refine ej_cs_v (nc := 0) (ns := 0) B.1 [.int t0] [] (ec_E_requireState hl.2 (er_pr B) t0 σ (.inl v14, g16) e15) cal_E_requireState lk_E_81 st_E_requireState rfl B.2.2.2.1 d_E_join_30 ⟨Nat.le_of_ble_eq_true rfl, Nat.le_of_ble_eq_true rfl, Nat.zero_le _, Nat.zero_le _⟩ (Nat.le_of_ble_eq_true rfl) rfl ?_
    refine ej_aload_n B.1 d_E_join_33 rfl ?_
    refine ej_getr B.1 (er_at B 0 rfl rfl) rfl rfl fl_E_10 d_E_join_34 ?_
    refine ej_iload_n B.1 d_E_join_37 rfl ?_
    refine ej_iload_n B.1 d_E_join_38 rfl ?_
    obtain ⟨v17, g19, e18, h⟩ := er_bw_some h
    refine ej_cv_v (nc := 0) (ns := 0) B.1 [.int x1, .int x2] [] (ec_P_moveAll (er_pr B) x1 x2 g16 (v17, g19) e18) cal_P_moveAll lk_E_148 in_P_moveAll (er_at B 1 rfl rfl) rfl rfl se_P_moveAll rfl B.2.2.2.1 d_E_join_39 ⟨Nat.le_of_ble_eq_true rfl, Nat.le_of_ble_eq_true rfl, Nat.zero_le _, Nat.zero_le _⟩ (Nat.le_of_ble_eq_true rfl) rfl ?_
    refine ej_aload_n B.1 d_E_join_42 rfl ?_
    refine ej_iload_n B.1 d_E_join_43 rfl ?_
    refine ej_iload_n B.1 d_E_join_44 rfl ?_
    obtain ⟨v20, g22, e21, h⟩ := er_bw_some h
    refine ej_cv_v (nc := 0) (ns := 0) B.1 [.int x1, .int x2] [] (ec_E_shut (er_pr B) x1 x2 g19 (v20, g22) e21) cal_E_shut lk_E_152 in_E_shut (er_at B 0 rfl rfl) rfl rfl se_E_shut rfl B.2.2.2.1 d_E_join_45 ⟨Nat.le_of_ble_eq_true rfl, Nat.le_of_ble_eq_true rfl, Nat.zero_le _, Nat.zero_le _⟩ (Nat.le_of_ble_eq_true rfl) rfl ?_
    refine ej_aload_n B.1 d_E_join_48 rfl ?_
    refine ej_getr B.1 (er_at B 0 rfl rfl) rfl rfl fl_E_10 d_E_join_49 ?_
    refine ej_iload_n B.1 d_E_join_52 rfl ?_
    obtain ⟨v23, e24, h⟩ := er_bd_some h
    refine ej_cv_i (nc := 0) (ns := 0) B.1 [.int x2] [] (ec_P_countOn (er_pr B) x2 g22 v23 e24) cal_P_countOn lk_E_155 in_P_countOn (er_at B 1 rfl rfl) rfl rfl se_P_countOn rfl B.2.2.2.1 d_E_join_53 ⟨Nat.le_of_ble_eq_true rfl, Nat.le_of_ble_eq_true rfl, Nat.zero_le _, Nat.zero_le _⟩ (Nat.le_of_ble_eq_true rfl) rfl ?_
    cases h
    exact ej_iret B.1 B.2.1 B.2.2.1 (Nat.zero_le _) (Nat.zero_le _) d_E_join_56
  · subst h
    exact ej_cs_t (nc := 1) (ns := 6) B.1 [.int t0] [] (ec_E_requireState hl.2 (er_pr B) t0 σ (.inr k25, g16) e15) cal_E_requireState lk_E_81 st_E_requireState rfl B.2.2.2.1 d_E_join_30 ⟨Nat.le_of_ble_eq_true rfl, Nat.le_of_ble_eq_true rfl, Nat.le_of_ble_eq_true rfl, Nat.le_of_ble_eq_true rfl⟩ (Nat.le_of_ble_eq_true rfl) rfl B.2.2.1 (B.2.2.2.2.2 _) ⟨Nat.le_of_ble_eq_true rfl, Nat.le_of_ble_eq_true rfl⟩
set_option maxRecDepth 100000 in
set_option maxHeartbeats 4000000 in
theorem ec_E_join {l : Launch} {G : er_G} (hl : l.stackTraces = false) (hE : er_Pr G 0 21) (x1 x2 : Int32) (σ : er_S) (r : (Int32 ⊕ Nat) × er_S) (h : ef_E_join x1 x2 σ = some r) : er_Con l y_E_join w_E_join 8 124 (er_nc r.1) (er_ns r.1) G [.ref 0, .int x1, .int x2] σ (er_cvi r) := by
  refine er_ofJ (ret := some .int) (cc := b_E_join) (maxL := 3) (lv0 := [some (.ref 0), some (.int x1), some (.int x2)]) (hh := []) (by decide +kernel) rfl (Or.inl rfl) (by intro v hv; simp only [List.mem_cons, List.not_mem_nil, or_false] at hv; rcases hv with rfl | rfl | rfl <;> rfl) (Nat.le_of_ble_eq_true rfl) ?_
  intro p e s m args below meth c hadm C hr hlk hml hw hnm hm hcd
  have B : er_B p s m c meth b_E_join "EntryRows" G (some .int) 3 0 21 := ⟨C, hr, hlk, hml, hE, er_noh hw hnm hm hcd⟩
  have hl := And.intro hadm hl
  unfold ef_E_join at h
  refine ej_aload_n B.1 d_E_join_0 rfl ?_
  refine ej_iload_n B.1 d_E_join_1 rfl ?_
  rcases er_tb_some h with ⟨v1, g3, e2, h⟩ | ⟨k29, g3, e2, h⟩
  · refine ej_cv_v (nc := 0) (ns := 0) B.1 [.int x1] [] (ec_E_requireBoard hl.2 (er_pr B) x1 σ (.inl v1, g3) e2) cal_E_requireBoard lk_E_65 in_E_requireBoard (er_at B 0 rfl rfl) rfl rfl se_E_requireBoard rfl B.2.2.2.1 d_E_join_2 ⟨Nat.le_of_ble_eq_true rfl, Nat.le_of_ble_eq_true rfl, Nat.zero_le _, Nat.zero_le _⟩ (Nat.le_of_ble_eq_true rfl) rfl ?_
    refine ej_aload_n B.1 d_E_join_5 rfl ?_
    refine ej_iload_n B.1 d_E_join_6 rfl ?_
    rcases er_tb_some h with ⟨v4, g6, e5, h⟩ | ⟨k28, g6, e5, h⟩
    · refine ej_cv_v (nc := 0) (ns := 0) B.1 [.int x2] [] (ec_E_requireBoard hl.2 (er_pr B) x2 g3 (.inl v4, g6) e5) cal_E_requireBoard lk_E_65 in_E_requireBoard (er_at B 0 rfl rfl) rfl rfl se_E_requireBoard rfl B.2.2.2.1 d_E_join_7 ⟨Nat.le_of_ble_eq_true rfl, Nat.le_of_ble_eq_true rfl, Nat.zero_le _, Nat.zero_le _⟩ (Nat.le_of_ble_eq_true rfl) rfl ?_
      refine ej_aload_n B.1 d_E_join_10 rfl ?_
      refine ej_iload_n B.1 d_E_join_11 rfl ?_
      rcases er_tb_some h with ⟨v7, g9, e8, h⟩ | ⟨k27, g9, e8, h⟩
      · refine ej_cv_v (nc := 0) (ns := 0) B.1 [.int x1] [] (ec_E_requireOpen hl.2 (er_pr B) x1 g6 (.inl v7, g9) e8) cal_E_requireOpen lk_E_72 in_E_requireOpen (er_at B 0 rfl rfl) rfl rfl se_E_requireOpen rfl B.2.2.2.1 d_E_join_12 ⟨Nat.le_of_ble_eq_true rfl, Nat.le_of_ble_eq_true rfl, Nat.zero_le _, Nat.zero_le _⟩ (Nat.le_of_ble_eq_true rfl) rfl ?_
        refine ej_aload_n B.1 d_E_join_15 rfl ?_
        refine ej_iload_n B.1 d_E_join_16 rfl ?_
        rcases er_tb_some h with ⟨v10, g12, e11, h⟩ | ⟨k26, g12, e11, h⟩
        · refine ej_cv_v (nc := 0) (ns := 0) B.1 [.int x2] [] (ec_E_requireOpen hl.2 (er_pr B) x2 g9 (.inl v10, g12) e11) cal_E_requireOpen lk_E_72 in_E_requireOpen (er_at B 0 rfl rfl) rfl rfl se_E_requireOpen rfl B.2.2.2.1 d_E_join_17 ⟨Nat.le_of_ble_eq_true rfl, Nat.le_of_ble_eq_true rfl, Nat.zero_le _, Nat.zero_le _⟩ (Nat.le_of_ble_eq_true rfl) rfl ?_
          refine ej_iload_n B.1 d_E_join_20 rfl ?_
          refine ej_iload_n B.1 d_E_join_21 rfl ?_
          refine ej_icmp_eq B.1 (tgt := 29) d_E_join_22 (by decide) (fun q13 => ?_) (fun q13 => ?_)
          · replace h := er_it h q13
            refine ej_iconst B.1 (v := 0) d_E_join_29 rfl ?_
            exact ej_le (lv' := [some (.ref 0), some (.int x1), some (.int x2)]) ⟨rfl, ⟨rfl, ⟨rfl, trivial⟩⟩⟩ (ew_E_join_30 hl B x1 x2 0 g12 _ h)
          · replace h := er_if h q13
            refine ej_iconst B.1 (v := 1) d_E_join_25 rfl ?_
            refine ej_goto B.1 (tgt := 30) d_E_join_26 (by decide) ?_
            exact ej_le (lv' := [some (.ref 0), some (.int x1), some (.int x2)]) ⟨rfl, ⟨rfl, ⟨rfl, trivial⟩⟩⟩ (ew_E_join_30 hl B x1 x2 1 g12 _ h)
        · subst h
          exact ej_cv_t (nc := 1) (ns := 6) B.1 [.int x2] [] (ec_E_requireOpen hl.2 (er_pr B) x2 g9 (.inr k26, g12) e11) cal_E_requireOpen lk_E_72 in_E_requireOpen (er_at B 0 rfl rfl) rfl rfl se_E_requireOpen rfl B.2.2.2.1 d_E_join_17 ⟨Nat.le_of_ble_eq_true rfl, Nat.le_of_ble_eq_true rfl, Nat.le_of_ble_eq_true rfl, Nat.le_of_ble_eq_true rfl⟩ (Nat.le_of_ble_eq_true rfl) rfl B.2.2.1 (B.2.2.2.2.2 _) ⟨Nat.le_of_ble_eq_true rfl, Nat.le_of_ble_eq_true rfl⟩
      · subst h
        exact ej_cv_t (nc := 1) (ns := 6) B.1 [.int x1] [] (ec_E_requireOpen hl.2 (er_pr B) x1 g6 (.inr k27, g9) e8) cal_E_requireOpen lk_E_72 in_E_requireOpen (er_at B 0 rfl rfl) rfl rfl se_E_requireOpen rfl B.2.2.2.1 d_E_join_12 ⟨Nat.le_of_ble_eq_true rfl, Nat.le_of_ble_eq_true rfl, Nat.le_of_ble_eq_true rfl, Nat.le_of_ble_eq_true rfl⟩ (Nat.le_of_ble_eq_true rfl) rfl B.2.2.1 (B.2.2.2.2.2 _) ⟨Nat.le_of_ble_eq_true rfl, Nat.le_of_ble_eq_true rfl⟩
    · subst h
      exact ej_cv_t (nc := 1) (ns := 6) B.1 [.int x2] [] (ec_E_requireBoard hl.2 (er_pr B) x2 g3 (.inr k28, g6) e5) cal_E_requireBoard lk_E_65 in_E_requireBoard (er_at B 0 rfl rfl) rfl rfl se_E_requireBoard rfl B.2.2.2.1 d_E_join_7 ⟨Nat.le_of_ble_eq_true rfl, Nat.le_of_ble_eq_true rfl, Nat.le_of_ble_eq_true rfl, Nat.le_of_ble_eq_true rfl⟩ (Nat.le_of_ble_eq_true rfl) rfl B.2.2.1 (B.2.2.2.2.2 _) ⟨Nat.le_of_ble_eq_true rfl, Nat.le_of_ble_eq_true rfl⟩
  · subst h
    exact ej_cv_t (nc := 1) (ns := 6) B.1 [.int x1] [] (ec_E_requireBoard hl.2 (er_pr B) x1 σ (.inr k29, g3) e2) cal_E_requireBoard lk_E_65 in_E_requireBoard (er_at B 0 rfl rfl) rfl rfl se_E_requireBoard rfl B.2.2.2.1 d_E_join_2 ⟨Nat.le_of_ble_eq_true rfl, Nat.le_of_ble_eq_true rfl, Nat.le_of_ble_eq_true rfl, Nat.le_of_ble_eq_true rfl⟩ (Nat.le_of_ble_eq_true rfl) rfl B.2.2.1 (B.2.2.2.2.2 _) ⟨Nat.le_of_ble_eq_true rfl, Nat.le_of_ble_eq_true rfl⟩
set_option maxRecDepth 100000 in
set_option maxHeartbeats 4000000 in
theorem ew_E_close_26 {p : Program} {l : Launch} {e : Env} {s : State} {m : MethodId} {args : Array Value} {below : List Frame} {meth : Method} {c : Code} {G : er_G} (hl : l.admits e ∧ l.stackTraces = false) (B : er_B p s m c meth b_E_close "EntryRows" G (none) 2 0 21) (x1 t0 : Int32) (σ : er_S) (r : (Unit ⊕ Nat) × er_S) (h : ef_E_close_26 x1 t0 σ = some r) : er_J p l e { frames := 8, cells := er_nc r.1, slots := er_ns r.1, locals := 124 } s m args below meth c G (er_A G s.heap.size) s.heap (er_fin below G s (er_nc r.1) (er_ns r.1) (er_cvu r)) 0 0 σ 26 [some (.ref 0), some (.int x1)] [.int t0] := by
  unfold ef_E_close_26 at h
  rcases er_tb_some h with ⟨v10, g12, e11, h⟩ | ⟨k16, g12, e11, h⟩
  · refine ej_cs_v (nc := 0) (ns := 0) B.1 [.int t0] [] (ec_E_requireState hl.2 (er_pr B) t0 σ (.inl v10, g12) e11) cal_E_requireState lk_E_81 st_E_requireState rfl B.2.2.2.1 d_E_close_26 ⟨Nat.le_of_ble_eq_true rfl, Nat.le_of_ble_eq_true rfl, Nat.zero_le _, Nat.zero_le _⟩ (Nat.le_of_ble_eq_true rfl) rfl ?_
    refine ej_aload_n B.1 d_E_close_29 rfl ?_
    refine ej_iload_n B.1 d_E_close_30 rfl ?_
    refine ej_iconst B.1 (v := (-1)) d_E_close_31 rfl ?_
    obtain ⟨v13, g15, e14, h⟩ := er_bw_some h
    refine ej_cv_v (nc := 0) (ns := 0) B.1 [.int x1, .int (-1)] [] (ec_E_shut (er_pr B) x1 (-1) g12 (v13, g15) e14) cal_E_shut lk_E_152 in_E_shut (er_at B 0 rfl rfl) rfl rfl se_E_shut rfl B.2.2.2.1 d_E_close_32 ⟨Nat.le_of_ble_eq_true rfl, Nat.le_of_ble_eq_true rfl, Nat.zero_le _, Nat.zero_le _⟩ (Nat.le_of_ble_eq_true rfl) rfl ?_
    cases h
    exact ej_vret B.1 B.2.1 B.2.2.1 (Nat.zero_le _) (Nat.zero_le _) d_E_close_35
  · subst h
    exact ej_cs_t (nc := 1) (ns := 6) B.1 [.int t0] [] (ec_E_requireState hl.2 (er_pr B) t0 σ (.inr k16, g12) e11) cal_E_requireState lk_E_81 st_E_requireState rfl B.2.2.2.1 d_E_close_26 ⟨Nat.le_of_ble_eq_true rfl, Nat.le_of_ble_eq_true rfl, Nat.le_of_ble_eq_true rfl, Nat.le_of_ble_eq_true rfl⟩ (Nat.le_of_ble_eq_true rfl) rfl B.2.2.1 (B.2.2.2.2.2 _) ⟨Nat.le_of_ble_eq_true rfl, Nat.le_of_ble_eq_true rfl⟩
set_option maxRecDepth 100000 in
set_option maxHeartbeats 4000000 in
theorem ec_E_close {l : Launch} {G : er_G} (hl : l.stackTraces = false) (hE : er_Pr G 0 21) (x1 : Int32) (σ : er_S) (r : (Unit ⊕ Nat) × er_S) (h : ef_E_close x1 σ = some r) : er_Con l y_E_close w_E_close 8 124 (er_nc r.1) (er_ns r.1) G [.ref 0, .int x1] σ (er_cvu r) := by
  refine er_ofJ (ret := none) (cc := b_E_close) (maxL := 2) (lv0 := [some (.ref 0), some (.int x1)]) (hh := []) (by decide +kernel) rfl (Or.inl rfl) (by intro v hv; simp only [List.mem_cons, List.not_mem_nil, or_false] at hv; rcases hv with rfl | rfl <;> rfl) (Nat.le_of_ble_eq_true rfl) ?_
  intro p e s m args below meth c hadm C hr hlk hml hw hnm hm hcd
  have B : er_B p s m c meth b_E_close "EntryRows" G (none) 2 0 21 := ⟨C, hr, hlk, hml, hE, er_noh hw hnm hm hcd⟩
  have hl := And.intro hadm hl
  unfold ef_E_close at h
  refine ej_aload_n B.1 d_E_close_0 rfl ?_
  refine ej_iload_n B.1 d_E_close_1 rfl ?_
  rcases er_tb_some h with ⟨v1, g3, e2, h⟩ | ⟨k18, g3, e2, h⟩
  · refine ej_cv_v (nc := 0) (ns := 0) B.1 [.int x1] [] (ec_E_requireBoard hl.2 (er_pr B) x1 σ (.inl v1, g3) e2) cal_E_requireBoard lk_E_65 in_E_requireBoard (er_at B 0 rfl rfl) rfl rfl se_E_requireBoard rfl B.2.2.2.1 d_E_close_2 ⟨Nat.le_of_ble_eq_true rfl, Nat.le_of_ble_eq_true rfl, Nat.zero_le _, Nat.zero_le _⟩ (Nat.le_of_ble_eq_true rfl) rfl ?_
    refine ej_aload_n B.1 d_E_close_5 rfl ?_
    refine ej_iload_n B.1 d_E_close_6 rfl ?_
    rcases er_tb_some h with ⟨v4, g6, e5, h⟩ | ⟨k17, g6, e5, h⟩
    · refine ej_cv_v (nc := 0) (ns := 0) B.1 [.int x1] [] (ec_E_requireOpen hl.2 (er_pr B) x1 g3 (.inl v4, g6) e5) cal_E_requireOpen lk_E_72 in_E_requireOpen (er_at B 0 rfl rfl) rfl rfl se_E_requireOpen rfl B.2.2.2.1 d_E_close_7 ⟨Nat.le_of_ble_eq_true rfl, Nat.le_of_ble_eq_true rfl, Nat.zero_le _, Nat.zero_le _⟩ (Nat.le_of_ble_eq_true rfl) rfl ?_
      refine ej_aload_n B.1 d_E_close_10 rfl ?_
      refine ej_getr B.1 (er_at B 0 rfl rfl) rfl rfl fl_E_10 d_E_close_11 ?_
      refine ej_iload_n B.1 d_E_close_14 rfl ?_
      obtain ⟨v7, e8, h⟩ := er_bd_some h
      refine ej_cv_i (nc := 0) (ns := 0) B.1 [.int x1] [] (ec_P_countOn (er_pr B) x1 g6 v7 e8) cal_P_countOn lk_E_155 in_P_countOn (er_at B 1 rfl rfl) rfl rfl se_P_countOn rfl B.2.2.2.1 d_E_close_15 ⟨Nat.le_of_ble_eq_true rfl, Nat.le_of_ble_eq_true rfl, Nat.zero_le _, Nat.zero_le _⟩ (Nat.le_of_ble_eq_true rfl) rfl ?_
      refine ej_if_ne B.1 (tgt := 25) d_E_close_18 (by decide) (fun q9 => ?_) (fun q9 => ?_)
      · replace h := er_if h q9
        refine ej_iconst B.1 (v := 0) d_E_close_25 rfl ?_
        exact ej_le (lv' := [some (.ref 0), some (.int x1)]) ⟨rfl, ⟨rfl, trivial⟩⟩ (ew_E_close_26 hl B x1 0 g6 _ h)
      · replace h := er_it h q9
        refine ej_iconst B.1 (v := 1) d_E_close_21 rfl ?_
        refine ej_goto B.1 (tgt := 26) d_E_close_22 (by decide) ?_
        exact ej_le (lv' := [some (.ref 0), some (.int x1)]) ⟨rfl, ⟨rfl, trivial⟩⟩ (ew_E_close_26 hl B x1 1 g6 _ h)
    · subst h
      exact ej_cv_t (nc := 1) (ns := 6) B.1 [.int x1] [] (ec_E_requireOpen hl.2 (er_pr B) x1 g3 (.inr k17, g6) e5) cal_E_requireOpen lk_E_72 in_E_requireOpen (er_at B 0 rfl rfl) rfl rfl se_E_requireOpen rfl B.2.2.2.1 d_E_close_7 ⟨Nat.le_of_ble_eq_true rfl, Nat.le_of_ble_eq_true rfl, Nat.le_of_ble_eq_true rfl, Nat.le_of_ble_eq_true rfl⟩ (Nat.le_of_ble_eq_true rfl) rfl B.2.2.1 (B.2.2.2.2.2 _) ⟨Nat.le_of_ble_eq_true rfl, Nat.le_of_ble_eq_true rfl⟩
  · subst h
    exact ej_cv_t (nc := 1) (ns := 6) B.1 [.int x1] [] (ec_E_requireBoard hl.2 (er_pr B) x1 σ (.inr k18, g3) e2) cal_E_requireBoard lk_E_65 in_E_requireBoard (er_at B 0 rfl rfl) rfl rfl se_E_requireBoard rfl B.2.2.2.1 d_E_close_2 ⟨Nat.le_of_ble_eq_true rfl, Nat.le_of_ble_eq_true rfl, Nat.le_of_ble_eq_true rfl, Nat.le_of_ble_eq_true rfl⟩ (Nat.le_of_ble_eq_true rfl) rfl B.2.2.1 (B.2.2.2.2.2 _) ⟨Nat.le_of_ble_eq_true rfl, Nat.le_of_ble_eq_true rfl⟩
set_option maxRecDepth 100000 in
set_option maxHeartbeats 4000000 in
theorem ew_E_isLateAt_49 {p : Program} {l : Launch} {e : Env} {s : State} {m : MethodId} {args : Array Value} {below : List Frame} {meth : Method} {c : Code} {G : er_G} (B : er_B p s m c meth b_E_isLateAt "EntryRows" G (some .boolean) 4 0 21) (t0 : Int32) (σ : er_S) (r : Int32) (h : ef_E_isLateAt_49 t0 σ = some r) : er_J p l e { frames := 1, cells := 0, slots := 0, locals := 21 } s m args below meth c G (er_A G s.heap.size) s.heap (er_fin below G s 0 0 (.inl (some (.int r)), σ)) 0 0 σ 49 [none, none, none, none] [.int t0] := by
  unfold ef_E_isLateAt_49 at h
  obtain ⟨e5, h⟩ := er_gd_some h
  cases h
  exact ej_zret B.1 B.2.1 B.2.2.1 (Nat.zero_le _) (Nat.zero_le _) e5 d_E_isLateAt_49
set_option maxRecDepth 100000 in
set_option maxHeartbeats 4000000 in
theorem ew_E_isLateAt_48 {p : Program} {l : Launch} {e : Env} {s : State} {m : MethodId} {args : Array Value} {below : List Frame} {meth : Method} {c : Code} {G : er_G} (B : er_B p s m c meth b_E_isLateAt "EntryRows" G (some .boolean) 4 0 21) (σ : er_S) (r : Int32) (h : ef_E_isLateAt_48  σ = some r) : er_J p l e { frames := 1, cells := 0, slots := 0, locals := 21 } s m args below meth c G (er_A G s.heap.size) s.heap (er_fin below G s 0 0 (.inl (some (.int r)), σ)) 0 0 σ 48 [none, none, none, none] [] := by
  unfold ef_E_isLateAt_48 at h
  refine ej_iconst B.1 (v := 0) d_E_isLateAt_48 rfl ?_
  exact ej_le (lv' := [none, none, none, none]) trivial (ew_E_isLateAt_49 B 0 σ _ h)
set_option maxRecDepth 100000 in
set_option maxHeartbeats 4000000 in
theorem ec_E_isLateAt {l : Launch} {G : er_G} (hE : er_Pr G 0 21) (x1 x2 : Int32) (σ : er_S) (r : Int32) (h : ef_E_isLateAt x1 x2 σ = some r) : er_Con l y_E_isLateAt w_E_isLateAt 1 21 0 0 G [.ref 0, .int x1, .int x2] σ ((.inl (some (.int r)), σ)) := by
  refine er_ofJ (ret := some .boolean) (cc := b_E_isLateAt) (maxL := 4) (lv0 := [some (.ref 0), some (.int x1), some (.int x2), none]) (hh := []) (by decide +kernel) rfl (Or.inl rfl) (by intro v hv; simp only [List.mem_cons, List.not_mem_nil, or_false] at hv; rcases hv with rfl | rfl | rfl <;> rfl) (Nat.le_of_ble_eq_true rfl) ?_
  intro p e s m args below meth c hadm C hr hlk hml hw hnm hm hcd
  have B : er_B p s m c meth b_E_isLateAt "EntryRows" G (some .boolean) 4 0 21 := ⟨C, hr, hlk, hml, hE, er_noh hw hnm hm hcd⟩
  unfold ef_E_isLateAt at h
  refine ej_aload_n B.1 d_E_isLateAt_0 rfl ?_
  refine ej_getr B.1 (er_at B 0 rfl rfl) rfl rfl fl_E_10 d_E_isLateAt_1 ?_
  refine ej_getr B.1 (er_at B 1 rfl rfl) rfl rfl fl_E_132 d_E_isLateAt_4 ?_
  refine ej_iload_n B.1 d_E_isLateAt_7 rfl ?_
  obtain ⟨e1, h⟩ := er_gd_some h
  refine ej_iald B.1 (er_at B 5 rfl rfl) rfl e1 d_E_isLateAt_8 ?_
  refine ej_istore_n B.1 (lv' := [some (.ref 0), some (.int x1), some (.int x2), some (.int (σ 5 (er_ix x1)))]) d_E_isLateAt_9 rfl rfl rfl ?_
  refine ej_aload_n B.1 d_E_isLateAt_10 rfl ?_
  refine ej_getr B.1 (er_at B 0 rfl rfl) rfl rfl fl_E_19 d_E_isLateAt_11 ?_
  refine ej_iload_n B.1 d_E_isLateAt_14 rfl ?_
  obtain ⟨v2, e3, h⟩ := er_bd_some h
  refine ej_cv_i (nc := 0) (ns := 0) B.1 [.int (σ 5 (er_ix x1))] [] (ec_B_has (er_pr B) (σ 5 (er_ix x1)) σ v2 e3) cal_B_has lk_E_211 in_B_has (er_at B 2 rfl rfl) rfl rfl se_B_has rfl B.2.2.2.1 d_E_isLateAt_15 ⟨Nat.le_of_ble_eq_true rfl, Nat.le_of_ble_eq_true rfl, Nat.zero_le _, Nat.zero_le _⟩ (Nat.le_of_ble_eq_true rfl) rfl ?_
  refine ej_if_eq B.1 (tgt := 48) d_E_isLateAt_18 (by decide) (fun q4 => ?_) (fun q4 => ?_)
  · replace h := er_it h q4
    exact ej_le (lv' := [none, none, none, none]) trivial (ew_E_isLateAt_48 B σ _ h)
  · replace h := er_if h q4
    refine ej_iload_n B.1 d_E_isLateAt_21 rfl ?_
    refine ej_aload_n B.1 d_E_isLateAt_22 rfl ?_
    refine ej_getr B.1 (er_at B 0 rfl rfl) rfl rfl fl_E_10 d_E_isLateAt_23 ?_
    refine ej_getr B.1 (er_at B 1 rfl rfl) rfl rfl fl_E_179 d_E_isLateAt_26 ?_
    refine ej_iload_n B.1 d_E_isLateAt_29 rfl ?_
    obtain ⟨e6, h⟩ := er_gd_some h
    refine ej_iald B.1 (er_at B 9 rfl rfl) rfl e6 d_E_isLateAt_30 ?_
    refine ej_isub B.1 d_E_isLateAt_31 ?_
    refine ej_aload_n B.1 d_E_isLateAt_32 rfl ?_
    refine ej_getr B.1 (er_at B 0 rfl rfl) rfl rfl fl_E_19 d_E_isLateAt_33 ?_
    refine ej_getr B.1 (er_at B 2 rfl rfl) rfl rfl fl_E_237 d_E_isLateAt_36 ?_
    refine ej_iload_n B.1 d_E_isLateAt_39 rfl ?_
    obtain ⟨e7, h⟩ := er_gd_some h
    refine ej_iald B.1 (er_at B 18 rfl rfl) rfl e7 d_E_isLateAt_40 ?_
    refine ej_icmp_le B.1 (tgt := 48) d_E_isLateAt_41 (by decide) (fun q8 => ?_) (fun q8 => ?_)
    · replace h := er_it h q8
      exact ej_le (lv' := [none, none, none, none]) trivial (ew_E_isLateAt_48 B σ _ h)
    · replace h := er_if h q8
      refine ej_iconst B.1 (v := 1) d_E_isLateAt_44 rfl ?_
      refine ej_goto B.1 (tgt := 49) d_E_isLateAt_45 (by decide) ?_
      exact ej_le (lv' := [none, none, none, none]) trivial (ew_E_isLateAt_49 B 1 σ _ h)
set_option maxRecDepth 100000 in
set_option maxHeartbeats 4000000 in
theorem ew_E_tick_40 {p : Program} {l : Launch} {e : Env} {s : State} {m : MethodId} {args : Array Value} {below : List Frame} {meth : Method} {c : Code} {G : er_G} (hl : l.admits e ∧ l.stackTraces = false) (B : er_B p s m c meth b_E_tick "EntryRows" G (some .int) 5 0 21) : ∀ (n : Nat) (x2 x3 x4 : Int32) (σ : er_S) (r : (Int32 ⊕ Nat) × er_S), ef_E_tick_40 n x2 x3 x4 σ = some r → er_J p l e { frames := 7, cells := er_nc r.1, slots := er_ns r.1, locals := 105 } s m args below meth c G (er_A G s.heap.size) s.heap (er_fin below G s (er_nc r.1) (er_ns r.1) (er_cvi r)) 0 0 σ 40 [some (.ref 0), none, some (.int x2), some (.int x3), some (.int x4)] [] := by
  intro n
  induction n with
  | zero => intro x2 x3 x4 σ r h; cases h
  | succ n ih =>
    intro x2 x3 x4 σ r h
    rw [ef_E_tick_40] at h
    refine ej_iload B.1 d_E_tick_40 rfl ?_
    refine ej_bipush B.1 (v := 40) d_E_tick_42 (by decide +kernel) ?_
    refine ej_icmp_ge B.1 (tgt := 79) d_E_tick_44 (by decide) (fun q7 => ?_) (fun q7 => ?_)
    · replace h := er_it h q7
      refine ej_iload_n B.1 d_E_tick_79 rfl ?_
      cases h
      exact ej_iret B.1 B.2.1 B.2.2.1 (Nat.zero_le _) (Nat.zero_le _) d_E_tick_80
    · replace h := er_if h q7
      refine ej_aload_n B.1 d_E_tick_47 rfl ?_
      refine ej_iload B.1 d_E_tick_48 rfl ?_
      refine ej_aload_n B.1 d_E_tick_50 rfl ?_
      refine ej_geti B.1 (er_at B 0 rfl rfl) rfl rfl fl_E_30 d_E_tick_51 ?_
      obtain ⟨v8, e9, h⟩ := er_bd_some h
      refine ej_cv_i (nc := 0) (ns := 0) B.1 [.int x4, .int (σ 0 4)] [] (ec_E_isLateAt (er_pr B) x4 (σ 0 4) σ v8 e9) cal_E_isLateAt lk_E_159 in_E_isLateAt (er_at B 0 rfl rfl) rfl rfl se_E_isLateAt rfl B.2.2.2.1 d_E_tick_54 ⟨Nat.le_of_ble_eq_true rfl, Nat.le_of_ble_eq_true rfl, Nat.zero_le _, Nat.zero_le _⟩ (Nat.le_of_ble_eq_true rfl) rfl ?_
      refine ej_if_eq B.1 (tgt := 73) d_E_tick_57 (by decide) (fun q10 => ?_) (fun q10 => ?_)
      · replace h := er_it h q10
        refine ej_iinc B.1 (v := x4 + 1) (lv' := [some (.ref 0), none, some (.int x2), some (.int x3), some (.int (x4 + 1))]) d_E_tick_73 rfl rfl rfl rfl rfl ?_
        refine ej_goto B.1 (tgt := 40) d_E_tick_76 (by decide) ?_
        exact ej_le (lv' := [some (.ref 0), none, some (.int x2), some (.int x3), some (.int (x4 + 1))]) ⟨rfl, ⟨rfl, ⟨rfl, ⟨rfl, trivial⟩⟩⟩⟩ (ih x2 x3 (x4 + 1) σ _ h)
      · replace h := er_if h q10
        refine ej_aload_n B.1 d_E_tick_60 rfl ?_
        refine ej_iload B.1 d_E_tick_61 rfl ?_
        refine ej_iload_n B.1 d_E_tick_63 rfl ?_
        obtain ⟨v11, e12, h⟩ := er_bd_some h
        refine ej_cv_i (nc := 0) (ns := 0) B.1 [.int x4, .int x2] [] (ec_E_isLateAt (er_pr B) x4 x2 σ v11 e12) cal_E_isLateAt lk_E_159 in_E_isLateAt (er_at B 0 rfl rfl) rfl rfl se_E_isLateAt rfl B.2.2.2.1 d_E_tick_64 ⟨Nat.le_of_ble_eq_true rfl, Nat.le_of_ble_eq_true rfl, Nat.zero_le _, Nat.zero_le _⟩ (Nat.le_of_ble_eq_true rfl) rfl ?_
        refine ej_if_ne B.1 (tgt := 73) d_E_tick_67 (by decide) (fun q13 => ?_) (fun q13 => ?_)
        · replace h := er_if h q13
          refine ej_iinc B.1 (v := x4 + 1) (lv' := [some (.ref 0), none, some (.int x2), some (.int x3), some (.int (x4 + 1))]) d_E_tick_73 rfl rfl rfl rfl rfl ?_
          refine ej_goto B.1 (tgt := 40) d_E_tick_76 (by decide) ?_
          exact ej_le (lv' := [some (.ref 0), none, some (.int x2), some (.int x3), some (.int (x4 + 1))]) ⟨rfl, ⟨rfl, ⟨rfl, ⟨rfl, trivial⟩⟩⟩⟩ (ih x2 x3 (x4 + 1) σ _ h)
        · replace h := er_it h q13
          refine ej_iinc B.1 (v := x3 + 1) (lv' := [some (.ref 0), none, some (.int x2), some (.int (x3 + 1)), some (.int x4)]) d_E_tick_70 rfl rfl rfl rfl rfl ?_
          refine ej_iinc B.1 (v := x4 + 1) (lv' := [some (.ref 0), none, some (.int x2), some (.int (x3 + 1)), some (.int (x4 + 1))]) d_E_tick_73 rfl rfl rfl rfl rfl ?_
          refine ej_goto B.1 (tgt := 40) d_E_tick_76 (by decide) ?_
          exact ej_le (lv' := [some (.ref 0), none, some (.int x2), some (.int (x3 + 1)), some (.int (x4 + 1))]) ⟨rfl, ⟨rfl, ⟨rfl, ⟨rfl, trivial⟩⟩⟩⟩ (ih x2 (x3 + 1) (x4 + 1) σ _ h)
set_option maxRecDepth 100000 in
set_option maxHeartbeats 4000000 in
theorem ec_E_tick {l : Launch} {G : er_G} (hl : l.stackTraces = false) (hE : er_Pr G 0 21) (x1 : Int32) (σ : er_S) (r : (Int32 ⊕ Nat) × er_S) (h : ef_E_tick x1 σ = some r) : er_Con l y_E_tick w_E_tick 7 105 (er_nc r.1) (er_ns r.1) G [.ref 0, .int x1] σ (er_cvi r) := by
  refine er_ofJ (ret := some .int) (cc := b_E_tick) (maxL := 5) (lv0 := [some (.ref 0), some (.int x1), none, none, none]) (hh := []) (by decide +kernel) rfl (Or.inl rfl) (by intro v hv; simp only [List.mem_cons, List.not_mem_nil, or_false] at hv; rcases hv with rfl | rfl <;> rfl) (Nat.le_of_ble_eq_true rfl) ?_
  intro p e s m args below meth c hadm C hr hlk hml hw hnm hm hcd
  have B : er_B p s m c meth b_E_tick "EntryRows" G (some .int) 5 0 21 := ⟨C, hr, hlk, hml, hE, er_noh hw hnm hm hcd⟩
  have hl := And.intro hadm hl
  unfold ef_E_tick at h
  refine ej_iload_n B.1 d_E_tick_0 rfl ?_
  refine ej_iconst B.1 (v := 1) d_E_tick_1 rfl ?_
  refine ej_sipush B.1 (v := 5000) d_E_tick_2 (by decide +kernel) ?_
  rcases er_tb_some h with ⟨v1, g3, e2, h⟩ | ⟨k15, g3, e2, h⟩
  · refine ej_cs_v (nc := 0) (ns := 0) B.1 [.int x1, .int 1, .int 5000] [] (ec_E_requireRange hl.2 (er_pr B) x1 1 5000 σ (.inl v1, g3) e2) cal_E_requireRange lk_E_46 st_E_requireRange rfl B.2.2.2.1 d_E_tick_5 ⟨Nat.le_of_ble_eq_true rfl, Nat.le_of_ble_eq_true rfl, Nat.zero_le _, Nat.zero_le _⟩ (Nat.le_of_ble_eq_true rfl) rfl ?_
    refine ej_aload_n B.1 d_E_tick_8 rfl ?_
    refine ej_geti B.1 (er_at B 0 rfl rfl) rfl rfl fl_E_30 d_E_tick_9 ?_
    refine ej_iload_n B.1 d_E_tick_12 rfl ?_
    refine ej_iadd B.1 d_E_tick_13 ?_
    refine ej_iconst B.1 (v := 0) d_E_tick_14 rfl ?_
    refine ej_ldc B.1 (v := 999999) k_E_158 d_E_tick_15 ?_
    rcases er_tb_some h with ⟨v4, g6, e5, h⟩ | ⟨k14, g6, e5, h⟩
    · refine ej_cs_v (nc := 0) (ns := 0) B.1 [.int ((g3 0 4) + x1), .int 0, .int 999999] [] (ec_E_requireRange hl.2 (er_pr B) ((g3 0 4) + x1) 0 999999 g3 (.inl v4, g6) e5) cal_E_requireRange lk_E_46 st_E_requireRange rfl B.2.2.2.1 d_E_tick_17 ⟨Nat.le_of_ble_eq_true rfl, Nat.le_of_ble_eq_true rfl, Nat.zero_le _, Nat.zero_le _⟩ (Nat.le_of_ble_eq_true rfl) rfl ?_
      refine ej_aload_n B.1 d_E_tick_20 rfl ?_
      refine ej_geti B.1 (er_at B 0 rfl rfl) rfl rfl fl_E_30 d_E_tick_21 ?_
      refine ej_istore_n B.1 (lv' := [some (.ref 0), some (.int x1), some (.int (g6 0 4)), none, none]) d_E_tick_24 rfl rfl rfl ?_
      refine ej_aload_n B.1 d_E_tick_25 rfl ?_
      refine ej_dup B.1 d_E_tick_26 rfl ?_
      refine ej_geti B.1 (er_at B 0 rfl rfl) rfl rfl fl_E_30 d_E_tick_27 ?_
      refine ej_iload_n B.1 d_E_tick_30 rfl ?_
      refine ej_iadd B.1 d_E_tick_31 ?_
      refine ej_puti B.1 (er_at B 0 rfl rfl) rfl rfl fp_E_30 d_E_tick_32 ?_
      refine ej_iconst B.1 (v := 0) d_E_tick_35 rfl ?_
      refine ej_istore_n B.1 (lv' := [some (.ref 0), some (.int x1), some (.int (g6 0 4)), some (.int 0), none]) d_E_tick_36 rfl rfl rfl ?_
      refine ej_iconst B.1 (v := 0) d_E_tick_37 rfl ?_
      refine ej_istore B.1 (lv' := [some (.ref 0), some (.int x1), some (.int (g6 0 4)), some (.int 0), some (.int 0)]) d_E_tick_38 rfl rfl rfl ?_
      exact ej_le (lv' := [some (.ref 0), none, some (.int (g6 0 4)), some (.int 0), some (.int 0)]) ⟨rfl, ⟨rfl, ⟨rfl, ⟨rfl, trivial⟩⟩⟩⟩ (ew_E_tick_40 hl B 64 (g6 0 4) 0 0 (er_up g6 0 4 ((g6 0 4) + x1)) _ h)
    · subst h
      exact ej_cs_t (nc := 1) (ns := 6) B.1 [.int ((g3 0 4) + x1), .int 0, .int 999999] [] (ec_E_requireRange hl.2 (er_pr B) ((g3 0 4) + x1) 0 999999 g3 (.inr k14, g6) e5) cal_E_requireRange lk_E_46 st_E_requireRange rfl B.2.2.2.1 d_E_tick_17 ⟨Nat.le_of_ble_eq_true rfl, Nat.le_of_ble_eq_true rfl, Nat.le_of_ble_eq_true rfl, Nat.le_of_ble_eq_true rfl⟩ (Nat.le_of_ble_eq_true rfl) rfl B.2.2.1 (B.2.2.2.2.2 _) ⟨Nat.le_of_ble_eq_true rfl, Nat.le_of_ble_eq_true rfl⟩
  · subst h
    exact ej_cs_t (nc := 1) (ns := 6) B.1 [.int x1, .int 1, .int 5000] [] (ec_E_requireRange hl.2 (er_pr B) x1 1 5000 σ (.inr k15, g3) e2) cal_E_requireRange lk_E_46 st_E_requireRange rfl B.2.2.2.1 d_E_tick_5 ⟨Nat.le_of_ble_eq_true rfl, Nat.le_of_ble_eq_true rfl, Nat.le_of_ble_eq_true rfl, Nat.le_of_ble_eq_true rfl⟩ (Nat.le_of_ble_eq_true rfl) rfl B.2.2.1 (B.2.2.2.2.2 _) ⟨Nat.le_of_ble_eq_true rfl, Nat.le_of_ble_eq_true rfl⟩
set_option maxRecDepth 100000 in
set_option maxHeartbeats 4000000 in
theorem ec_E_requireNotNegative {l : Launch} {G : er_G} (hl : l.stackTraces = false) (hE : er_Pr G 0 21) (x0 : Int32) (σ : er_S) (r : (Unit ⊕ Nat) × er_S) (h : ef_E_requireNotNegative x0 σ = some r) : er_Con l y_E_requireNotNegative w_E_requireNotNegative 7 105 (er_nc r.1) (er_ns r.1) G [.int x0] σ (er_cvu r) := by
  refine er_ofJ (ret := none) (cc := b_E_requireNotNegative) (maxL := 1) (lv0 := [some (.int x0)]) (hh := []) (by decide +kernel) rfl (Or.inl rfl) (by intro v hv; simp only [List.mem_cons, List.not_mem_nil, or_false] at hv; rcases hv with rfl <;> rfl) (Nat.le_of_ble_eq_true rfl) ?_
  intro p e s m args below meth c hadm C hr hlk hml hw hnm hm hcd
  have B : er_B p s m c meth b_E_requireNotNegative "EntryRows" G (none) 1 0 21 := ⟨C, hr, hlk, hml, hE, er_noh hw hnm hm hcd⟩
  have hl := And.intro hadm hl
  unfold ef_E_requireNotNegative at h
  refine ej_iload_n B.1 d_E_requireNotNegative_0 rfl ?_
  refine ej_iconst B.1 (v := 0) d_E_requireNotNegative_1 rfl ?_
  refine ej_ldc B.1 (v := 2147483647) k_E_221 d_E_requireNotNegative_2 ?_
  rcases er_tb_some h with ⟨v1, g3, e2, h⟩ | ⟨k4, g3, e2, h⟩
  · refine ej_cs_v (nc := 0) (ns := 0) B.1 [.int x0, .int 0, .int 2147483647] [] (ec_E_requireRange hl.2 (er_pr B) x0 0 2147483647 σ (.inl v1, g3) e2) cal_E_requireRange lk_E_46 st_E_requireRange rfl B.2.2.2.1 d_E_requireNotNegative_4 ⟨Nat.le_of_ble_eq_true rfl, Nat.le_of_ble_eq_true rfl, Nat.zero_le _, Nat.zero_le _⟩ (Nat.le_of_ble_eq_true rfl) rfl ?_
    cases h
    exact ej_vret B.1 B.2.1 B.2.2.1 (Nat.zero_le _) (Nat.zero_le _) d_E_requireNotNegative_7
  · subst h
    exact ej_cs_t (nc := 1) (ns := 6) B.1 [.int x0, .int 0, .int 2147483647] [] (ec_E_requireRange hl.2 (er_pr B) x0 0 2147483647 σ (.inr k4, g3) e2) cal_E_requireRange lk_E_46 st_E_requireRange rfl B.2.2.2.1 d_E_requireNotNegative_4 ⟨Nat.le_of_ble_eq_true rfl, Nat.le_of_ble_eq_true rfl, Nat.le_of_ble_eq_true rfl, Nat.le_of_ble_eq_true rfl⟩ (Nat.le_of_ble_eq_true rfl) rfl B.2.2.1 (B.2.2.2.2.2 _) ⟨Nat.le_of_ble_eq_true rfl, Nat.le_of_ble_eq_true rfl⟩
set_option maxRecDepth 100000 in
set_option maxHeartbeats 4000000 in
theorem ew_P_nextOn_9 {p : Program} {l : Launch} {e : Env} {s : State} {m : MethodId} {args : Array Value} {below : List Frame} {meth : Method} {c : Code} {G : er_G} (B : er_B p s m c meth b_P_nextOn "EntryRows$Persons" G (some .int) 6 0 21) : ∀ (n : Nat) (x1 x2 x3 x4 x5 : Int32) (σ : er_S) (r : Int32), ef_P_nextOn_9 n x1 x2 x3 x4 x5 σ = some r → er_J p l e { frames := 0, cells := 0, slots := 0, locals := 0 } s m args below meth c G (er_A G s.heap.size) s.heap (er_fin below G s 0 0 (.inl (some (.int r)), σ)) 0 0 σ 9 [some (.ref 1), some (.int x1), some (.int x2), some (.int x3), some (.int x4), some (.int x5)] [] := by
  intro n
  induction n with
  | zero => intro x1 x2 x3 x4 x5 σ r h; cases h
  | succ n ih =>
    intro x1 x2 x3 x4 x5 σ r h
    rw [ef_P_nextOn_9] at h
    refine ej_iload B.1 d_P_nextOn_9 rfl ?_
    refine ej_bipush B.1 (v := 40) d_P_nextOn_11 (by decide +kernel) ?_
    refine ej_icmp_ge B.1 (tgt := 68) d_P_nextOn_13 (by decide) (fun q1 => ?_) (fun q1 => ?_)
    · replace h := er_it h q1
      refine ej_iload_n B.1 d_P_nextOn_68 rfl ?_
      cases h
      exact ej_iret B.1 B.2.1 B.2.2.1 (Nat.zero_le _) (Nat.zero_le _) d_P_nextOn_69
    · replace h := er_if h q1
      refine ej_aload_n B.1 d_P_nextOn_16 rfl ?_
      refine ej_getr B.1 (er_at B 1 rfl rfl) rfl rfl fl_P_9 d_P_nextOn_17 ?_
      refine ej_iload B.1 d_P_nextOn_20 rfl ?_
      obtain ⟨e2, h⟩ := er_gd_some h
      refine ej_iald B.1 (er_at B 5 rfl rfl) rfl e2 d_P_nextOn_22 ?_
      refine ej_iload_n B.1 d_P_nextOn_23 rfl ?_
      refine ej_icmp_ne B.1 (tgt := 62) d_P_nextOn_24 (by decide) (fun q3 => ?_) (fun q3 => ?_)
      · replace h := er_if h q3
        refine ej_iinc B.1 (v := x5 + 1) (lv' := [some (.ref 1), some (.int x1), some (.int x2), some (.int x3), some (.int x4), some (.int (x5 + 1))]) d_P_nextOn_62 rfl rfl rfl rfl rfl ?_
        refine ej_goto B.1 (tgt := 9) d_P_nextOn_65 (by decide) ?_
        exact ej_le (lv' := [some (.ref 1), some (.int x1), some (.int x2), some (.int x3), some (.int x4), some (.int (x5 + 1))]) ⟨rfl, ⟨rfl, ⟨rfl, ⟨rfl, ⟨rfl, ⟨rfl, trivial⟩⟩⟩⟩⟩⟩ (ih x1 x2 x3 x4 (x5 + 1) σ _ h)
      · replace h := er_it h q3
        refine ej_aload_n B.1 d_P_nextOn_27 rfl ?_
        refine ej_getr B.1 (er_at B 1 rfl rfl) rfl rfl fl_P_15 d_P_nextOn_28 ?_
        refine ej_iload B.1 d_P_nextOn_31 rfl ?_
        obtain ⟨e4, h⟩ := er_gd_some h
        refine ej_iald B.1 (er_at B 6 rfl rfl) rfl e4 d_P_nextOn_33 ?_
        refine ej_iload_n B.1 d_P_nextOn_34 rfl ?_
        refine ej_icmp_le B.1 (tgt := 62) d_P_nextOn_35 (by decide) (fun q5 => ?_) (fun q5 => ?_)
        · replace h := er_it h q5
          refine ej_iinc B.1 (v := x5 + 1) (lv' := [some (.ref 1), some (.int x1), some (.int x2), some (.int x3), some (.int x4), some (.int (x5 + 1))]) d_P_nextOn_62 rfl rfl rfl rfl rfl ?_
          refine ej_goto B.1 (tgt := 9) d_P_nextOn_65 (by decide) ?_
          exact ej_le (lv' := [some (.ref 1), some (.int x1), some (.int x2), some (.int x3), some (.int x4), some (.int (x5 + 1))]) ⟨rfl, ⟨rfl, ⟨rfl, ⟨rfl, ⟨rfl, ⟨rfl, trivial⟩⟩⟩⟩⟩⟩ (ih x1 x2 x3 x4 (x5 + 1) σ _ h)
        · replace h := er_if h q5
          refine ej_aload_n B.1 d_P_nextOn_38 rfl ?_
          refine ej_getr B.1 (er_at B 1 rfl rfl) rfl rfl fl_P_15 d_P_nextOn_39 ?_
          refine ej_iload B.1 d_P_nextOn_42 rfl ?_
          obtain ⟨e6, h⟩ := er_gd_some h
          refine ej_iald B.1 (er_at B 6 rfl rfl) rfl e6 d_P_nextOn_44 ?_
          refine ej_iload B.1 d_P_nextOn_45 rfl ?_
          refine ej_icmp_ge B.1 (tgt := 62) d_P_nextOn_47 (by decide) (fun q7 => ?_) (fun q7 => ?_)
          · replace h := er_it h q7
            refine ej_iinc B.1 (v := x5 + 1) (lv' := [some (.ref 1), some (.int x1), some (.int x2), some (.int x3), some (.int x4), some (.int (x5 + 1))]) d_P_nextOn_62 rfl rfl rfl rfl rfl ?_
            refine ej_goto B.1 (tgt := 9) d_P_nextOn_65 (by decide) ?_
            exact ej_le (lv' := [some (.ref 1), some (.int x1), some (.int x2), some (.int x3), some (.int x4), some (.int (x5 + 1))]) ⟨rfl, ⟨rfl, ⟨rfl, ⟨rfl, ⟨rfl, ⟨rfl, trivial⟩⟩⟩⟩⟩⟩ (ih x1 x2 x3 x4 (x5 + 1) σ _ h)
          · replace h := er_if h q7
            refine ej_iload B.1 d_P_nextOn_50 rfl ?_
            refine ej_istore_n B.1 (lv' := [some (.ref 1), some (.int x1), some (.int x2), some (.int x5), some (.int x4), some (.int x5)]) d_P_nextOn_52 rfl rfl rfl ?_
            refine ej_aload_n B.1 d_P_nextOn_53 rfl ?_
            refine ej_getr B.1 (er_at B 1 rfl rfl) rfl rfl fl_P_15 d_P_nextOn_54 ?_
            refine ej_iload B.1 d_P_nextOn_57 rfl ?_
            obtain ⟨e8, h⟩ := er_gd_some h
            refine ej_iald B.1 (er_at B 6 rfl rfl) rfl e8 d_P_nextOn_59 ?_
            refine ej_istore B.1 (lv' := [some (.ref 1), some (.int x1), some (.int x2), some (.int x5), some (.int (σ 6 (er_ix x5))), some (.int x5)]) d_P_nextOn_60 rfl rfl rfl ?_
            refine ej_iinc B.1 (v := x5 + 1) (lv' := [some (.ref 1), some (.int x1), some (.int x2), some (.int x5), some (.int (σ 6 (er_ix x5))), some (.int (x5 + 1))]) d_P_nextOn_62 rfl rfl rfl rfl rfl ?_
            refine ej_goto B.1 (tgt := 9) d_P_nextOn_65 (by decide) ?_
            exact ej_le (lv' := [some (.ref 1), some (.int x1), some (.int x2), some (.int x5), some (.int (σ 6 (er_ix x5))), some (.int (x5 + 1))]) ⟨rfl, ⟨rfl, ⟨rfl, ⟨rfl, ⟨rfl, ⟨rfl, trivial⟩⟩⟩⟩⟩⟩ (ih x1 x2 x5 (σ 6 (er_ix x5)) (x5 + 1) σ _ h)
set_option maxRecDepth 100000 in
set_option maxHeartbeats 4000000 in
theorem ec_P_nextOn {l : Launch} {G : er_G} (hE : er_Pr G 0 21) (x1 x2 : Int32) (σ : er_S) (r : Int32) (h : ef_P_nextOn x1 x2 σ = some r) : er_Con l y_P_nextOn w_P_nextOn 0 0 0 0 G [.ref 1, .int x1, .int x2] σ ((.inl (some (.int r)), σ)) := by
  refine er_ofJ (ret := some .int) (cc := b_P_nextOn) (maxL := 6) (lv0 := [some (.ref 1), some (.int x1), some (.int x2), none, none, none]) (hh := []) (by decide +kernel) rfl (Or.inl rfl) (by intro v hv; simp only [List.mem_cons, List.not_mem_nil, or_false] at hv; rcases hv with rfl | rfl | rfl <;> rfl) (Nat.le_of_ble_eq_true rfl) ?_
  intro p e s m args below meth c hadm C hr hlk hml hw hnm hm hcd
  have B : er_B p s m c meth b_P_nextOn "EntryRows$Persons" G (some .int) 6 0 21 := ⟨C, hr, hlk, hml, hE, er_noh hw hnm hm hcd⟩
  unfold ef_P_nextOn at h
  refine ej_iconst B.1 (v := (-1)) d_P_nextOn_0 rfl ?_
  refine ej_istore_n B.1 (lv' := [some (.ref 1), some (.int x1), some (.int x2), some (.int (-1)), none, none]) d_P_nextOn_1 rfl rfl rfl ?_
  refine ej_ldc B.1 (v := 2147483647) k_P_73 d_P_nextOn_2 ?_
  refine ej_istore B.1 (lv' := [some (.ref 1), some (.int x1), some (.int x2), some (.int (-1)), some (.int 2147483647), none]) d_P_nextOn_4 rfl rfl rfl ?_
  refine ej_iconst B.1 (v := 0) d_P_nextOn_6 rfl ?_
  refine ej_istore B.1 (lv' := [some (.ref 1), some (.int x1), some (.int x2), some (.int (-1)), some (.int 2147483647), some (.int 0)]) d_P_nextOn_7 rfl rfl rfl ?_
  exact ej_le (lv' := [some (.ref 1), some (.int x1), some (.int x2), some (.int (-1)), some (.int 2147483647), some (.int 0)]) ⟨rfl, ⟨rfl, ⟨rfl, ⟨rfl, ⟨rfl, ⟨rfl, trivial⟩⟩⟩⟩⟩⟩ (ew_P_nextOn_9 B 64 x1 x2 (-1) 2147483647 0 σ _ h)
set_option maxRecDepth 100000 in
set_option maxHeartbeats 4000000 in
theorem ew_E_on_70 {p : Program} {l : Launch} {e : Env} {s : State} {m : MethodId} {args : Array Value} {below : List Frame} {meth : Method} {c : Code} {G : er_G} (hl : l.admits e ∧ l.stackTraces = false) (B : er_B p s m c meth b_E_on "EntryRows" G (some .int) 6 0 21) (x4 : Int32) (σ : er_S) (r : (Int32 ⊕ Nat) × er_S) (h : ef_E_on_70 x4 σ = some r) : er_J p l e { frames := 8, cells := er_nc r.1, slots := er_ns r.1, locals := 125 } s m args below meth c G (er_A G s.heap.size) s.heap (er_fin below G s (er_nc r.1) (er_ns r.1) (er_cvi r)) 0 0 σ 70 [none, none, none, none, some (.int x4), none] [] := by
  unfold ef_E_on_70 at h
  refine ej_iload B.1 d_E_on_70 rfl ?_
  cases h
  exact ej_iret B.1 B.2.1 B.2.2.1 (Nat.zero_le _) (Nat.zero_le _) d_E_on_72
set_option maxRecDepth 100000 in
set_option maxHeartbeats 4000000 in
theorem ew_E_on_30 {p : Program} {l : Launch} {e : Env} {s : State} {m : MethodId} {args : Array Value} {below : List Frame} {meth : Method} {c : Code} {G : er_G} (hl : l.admits e ∧ l.stackTraces = false) (B : er_B p s m c meth b_E_on "EntryRows" G (some .int) 6 0 21) : ∀ (n : Nat) (x1 x3 x4 x5 : Int32) (σ : er_S) (r : (Int32 ⊕ Nat) × er_S), ef_E_on_30 n x1 x3 x4 x5 σ = some r → er_J p l e { frames := 8, cells := er_nc r.1, slots := er_ns r.1, locals := 125 } s m args below meth c G (er_A G s.heap.size) s.heap (er_fin below G s (er_nc r.1) (er_ns r.1) (er_cvi r)) 0 0 σ 30 [some (.ref 0), some (.int x1), none, some (.int x3), some (.int x4), some (.int x5)] [] := by
  intro n
  induction n with
  | zero => intro x1 x3 x4 x5 σ r h; cases h
  | succ n ih =>
    intro x1 x3 x4 x5 σ r h
    rw [ef_E_on_30] at h
    refine ej_iload B.1 d_E_on_30 rfl ?_
    refine ej_iload_n B.1 d_E_on_32 rfl ?_
    refine ej_icmp_ge B.1 (tgt := 70) d_E_on_33 (by decide) (fun q11 => ?_) (fun q11 => ?_)
    · replace h := er_it h q11
      exact ej_le (lv' := [none, none, none, none, some (.int x4), none]) ⟨rfl, trivial⟩ (ew_E_on_70 hl B x4 σ _ h)
    · replace h := er_if h q11
      refine ej_iload B.1 d_E_on_36 rfl ?_
      obtain ⟨v12, e13, h⟩ := er_bd_some h
      refine ej_cs_i (nc := 0) (ns := 0) B.1 [.int x4] [] (ec_E_isPerson (er_pr B) x4 σ v12 e13) cal_E_isPerson lk_E_173 st_E_isPerson rfl B.2.2.2.1 d_E_on_38 ⟨Nat.le_of_ble_eq_true rfl, Nat.le_of_ble_eq_true rfl, Nat.zero_le _, Nat.zero_le _⟩ (Nat.le_of_ble_eq_true rfl) rfl ?_
      refine ej_if_eq B.1 (tgt := 70) d_E_on_41 (by decide) (fun q14 => ?_) (fun q14 => ?_)
      · replace h := er_it h q14
        exact ej_le (lv' := [none, none, none, none, some (.int x4), none]) ⟨rfl, trivial⟩ (ew_E_on_70 hl B x4 σ _ h)
      · replace h := er_if h q14
        refine ej_aload_n B.1 d_E_on_44 rfl ?_
        refine ej_getr B.1 (er_at B 0 rfl rfl) rfl rfl fl_E_10 d_E_on_45 ?_
        refine ej_iload_n B.1 d_E_on_48 rfl ?_
        refine ej_aload_n B.1 d_E_on_49 rfl ?_
        refine ej_getr B.1 (er_at B 0 rfl rfl) rfl rfl fl_E_10 d_E_on_50 ?_
        refine ej_getr B.1 (er_at B 1 rfl rfl) rfl rfl fl_E_145 d_E_on_53 ?_
        refine ej_iload B.1 d_E_on_56 rfl ?_
        obtain ⟨e15, h⟩ := er_gd_some h
        refine ej_iald B.1 (er_at B 6 rfl rfl) rfl e15 d_E_on_58 ?_
        obtain ⟨v16, e17, h⟩ := er_bd_some h
        refine ej_cv_i (nc := 0) (ns := 0) B.1 [.int x1, .int (σ 6 (er_ix x4))] [] (ec_P_nextOn (er_pr B) x1 (σ 6 (er_ix x4)) σ v16 e17) cal_P_nextOn lk_E_170 in_P_nextOn (er_at B 1 rfl rfl) rfl rfl se_P_nextOn rfl B.2.2.2.1 d_E_on_59 ⟨Nat.le_of_ble_eq_true rfl, Nat.le_of_ble_eq_true rfl, Nat.zero_le _, Nat.zero_le _⟩ (Nat.le_of_ble_eq_true rfl) rfl ?_
        refine ej_istore B.1 (lv' := [some (.ref 0), some (.int x1), none, some (.int x3), some (.int v16), some (.int x5)]) d_E_on_62 rfl rfl rfl ?_
        refine ej_iinc B.1 (v := x5 + 1) (lv' := [some (.ref 0), some (.int x1), none, some (.int x3), some (.int v16), some (.int (x5 + 1))]) d_E_on_64 rfl rfl rfl rfl rfl ?_
        refine ej_goto B.1 (tgt := 30) d_E_on_67 (by decide) ?_
        exact ej_le (lv' := [some (.ref 0), some (.int x1), none, some (.int x3), some (.int v16), some (.int (x5 + 1))]) ⟨rfl, ⟨rfl, ⟨rfl, ⟨rfl, ⟨rfl, trivial⟩⟩⟩⟩⟩ (ih x1 x3 v16 (x5 + 1) σ _ h)
set_option maxRecDepth 100000 in
set_option maxHeartbeats 4000000 in
theorem ec_E_on {l : Launch} {G : er_G} (hl : l.stackTraces = false) (hE : er_Pr G 0 21) (x1 x2 : Int32) (σ : er_S) (r : (Int32 ⊕ Nat) × er_S) (h : ef_E_on x1 x2 σ = some r) : er_Con l y_E_on w_E_on 8 125 (er_nc r.1) (er_ns r.1) G [.ref 0, .int x1, .int x2] σ (er_cvi r) := by
  refine er_ofJ (ret := some .int) (cc := b_E_on) (maxL := 6) (lv0 := [some (.ref 0), some (.int x1), some (.int x2), none, none, none]) (hh := []) (by decide +kernel) rfl (Or.inl rfl) (by intro v hv; simp only [List.mem_cons, List.not_mem_nil, or_false] at hv; rcases hv with rfl | rfl | rfl <;> rfl) (Nat.le_of_ble_eq_true rfl) ?_
  intro p e s m args below meth c hadm C hr hlk hml hw hnm hm hcd
  have B : er_B p s m c meth b_E_on "EntryRows" G (some .int) 6 0 21 := ⟨C, hr, hlk, hml, hE, er_noh hw hnm hm hcd⟩
  have hl := And.intro hadm hl
  unfold ef_E_on at h
  refine ej_aload_n B.1 d_E_on_0 rfl ?_
  refine ej_iload_n B.1 d_E_on_1 rfl ?_
  rcases er_tb_some h with ⟨v1, g3, e2, h⟩ | ⟨k19, g3, e2, h⟩
  · refine ej_cv_v (nc := 0) (ns := 0) B.1 [.int x1] [] (ec_E_requireBoard hl.2 (er_pr B) x1 σ (.inl v1, g3) e2) cal_E_requireBoard lk_E_65 in_E_requireBoard (er_at B 0 rfl rfl) rfl rfl se_E_requireBoard rfl B.2.2.2.1 d_E_on_2 ⟨Nat.le_of_ble_eq_true rfl, Nat.le_of_ble_eq_true rfl, Nat.zero_le _, Nat.zero_le _⟩ (Nat.le_of_ble_eq_true rfl) rfl ?_
    refine ej_iload_n B.1 d_E_on_5 rfl ?_
    rcases er_tb_some h with ⟨v4, g6, e5, h⟩ | ⟨k18, g6, e5, h⟩
    · refine ej_cs_v (nc := 0) (ns := 0) B.1 [.int x2] [] (ec_E_requireNotNegative hl.2 (er_pr B) x2 g3 (.inl v4, g6) e5) cal_E_requireNotNegative lk_E_162 st_E_requireNotNegative rfl B.2.2.2.1 d_E_on_6 ⟨Nat.le_of_ble_eq_true rfl, Nat.le_of_ble_eq_true rfl, Nat.zero_le _, Nat.zero_le _⟩ (Nat.le_of_ble_eq_true rfl) rfl ?_
      refine ej_iload_n B.1 d_E_on_9 rfl ?_
      refine ej_bipush B.1 (v := 40) d_E_on_10 (by decide +kernel) ?_
      obtain ⟨v7, e8, h⟩ := er_bd_some h
      refine ej_cs_i (nc := 0) (ns := 0) B.1 [.int x2, .int 40] [] (ec_J_min x2 40 g6 v7 e8) cal_J_min lk_E_165 st_J_min rfl B.2.2.2.1 d_E_on_12 ⟨Nat.le_of_ble_eq_true rfl, Nat.le_of_ble_eq_true rfl, Nat.zero_le _, Nat.zero_le _⟩ (Nat.le_of_ble_eq_true rfl) rfl ?_
      refine ej_istore_n B.1 (lv' := [some (.ref 0), some (.int x1), some (.int x2), some (.int v7), none, none]) d_E_on_15 rfl rfl rfl ?_
      refine ej_aload_n B.1 d_E_on_16 rfl ?_
      refine ej_getr B.1 (er_at B 0 rfl rfl) rfl rfl fl_E_10 d_E_on_17 ?_
      refine ej_iload_n B.1 d_E_on_20 rfl ?_
      refine ej_iconst B.1 (v := (-1)) d_E_on_21 rfl ?_
      obtain ⟨v9, e10, h⟩ := er_bd_some h
      refine ej_cv_i (nc := 0) (ns := 0) B.1 [.int x1, .int (-1)] [] (ec_P_nextOn (er_pr B) x1 (-1) g6 v9 e10) cal_P_nextOn lk_E_170 in_P_nextOn (er_at B 1 rfl rfl) rfl rfl se_P_nextOn rfl B.2.2.2.1 d_E_on_22 ⟨Nat.le_of_ble_eq_true rfl, Nat.le_of_ble_eq_true rfl, Nat.zero_le _, Nat.zero_le _⟩ (Nat.le_of_ble_eq_true rfl) rfl ?_
      refine ej_istore B.1 (lv' := [some (.ref 0), some (.int x1), some (.int x2), some (.int v7), some (.int v9), none]) d_E_on_25 rfl rfl rfl ?_
      refine ej_iconst B.1 (v := 0) d_E_on_27 rfl ?_
      refine ej_istore B.1 (lv' := [some (.ref 0), some (.int x1), some (.int x2), some (.int v7), some (.int v9), some (.int 0)]) d_E_on_28 rfl rfl rfl ?_
      exact ej_le (lv' := [some (.ref 0), some (.int x1), none, some (.int v7), some (.int v9), some (.int 0)]) ⟨rfl, ⟨rfl, ⟨rfl, ⟨rfl, ⟨rfl, trivial⟩⟩⟩⟩⟩ (ew_E_on_30 hl B 64 x1 v7 v9 0 g6 _ h)
    · subst h
      exact ej_cs_t (nc := 1) (ns := 6) B.1 [.int x2] [] (ec_E_requireNotNegative hl.2 (er_pr B) x2 g3 (.inr k18, g6) e5) cal_E_requireNotNegative lk_E_162 st_E_requireNotNegative rfl B.2.2.2.1 d_E_on_6 ⟨Nat.le_of_ble_eq_true rfl, Nat.le_of_ble_eq_true rfl, Nat.le_of_ble_eq_true rfl, Nat.le_of_ble_eq_true rfl⟩ (Nat.le_of_ble_eq_true rfl) rfl B.2.2.1 (B.2.2.2.2.2 _) ⟨Nat.le_of_ble_eq_true rfl, Nat.le_of_ble_eq_true rfl⟩
  · subst h
    exact ej_cv_t (nc := 1) (ns := 6) B.1 [.int x1] [] (ec_E_requireBoard hl.2 (er_pr B) x1 σ (.inr k19, g3) e2) cal_E_requireBoard lk_E_65 in_E_requireBoard (er_at B 0 rfl rfl) rfl rfl se_E_requireBoard rfl B.2.2.2.1 d_E_on_2 ⟨Nat.le_of_ble_eq_true rfl, Nat.le_of_ble_eq_true rfl, Nat.le_of_ble_eq_true rfl, Nat.le_of_ble_eq_true rfl⟩ (Nat.le_of_ble_eq_true rfl) rfl B.2.2.1 (B.2.2.2.2.2 _) ⟨Nat.le_of_ble_eq_true rfl, Nat.le_of_ble_eq_true rfl⟩
end
section
set_option maxRecDepth 100000 in
set_option maxHeartbeats 4000000 in
theorem ew_E_late_8 {p : Program} {l : Launch} {e : Env} {s : State} {m : MethodId} {args : Array Value} {below : List Frame} {meth : Method} {c : Code} {G : er_G} (hl : l.admits e ∧ l.stackTraces = false) (B : er_B p s m c meth b_E_late "EntryRows" G (some .int) 4 0 21) : ∀ (n : Nat) (x1 x2 x3 : Int32) (σ : er_S) (r : (Int32 ⊕ Nat) × er_S), ef_E_late_8 n x1 x2 x3 σ = some r → er_J p l e { frames := 8, cells := er_nc r.1, slots := er_ns r.1, locals := 125 } s m args below meth c G (er_A G s.heap.size) s.heap (er_fin below G s (er_nc r.1) (er_ns r.1) (er_cvi r)) 0 0 σ 8 [some (.ref 0), some (.int x1), some (.int x2), some (.int x3)] [] := by
  intro n
  induction n with
  | zero => intro x1 x2 x3 σ r h; cases h
  | succ n ih =>
    intro x1 x2 x3 σ r h
    rw [ef_E_late_8] at h
    refine ej_iload_n B.1 d_E_late_8 rfl ?_
    refine ej_bipush B.1 (v := 40) d_E_late_9 (by decide +kernel) ?_
    refine ej_icmp_ge B.1 (tgt := 42) d_E_late_11 (by decide) (fun q4 => ?_) (fun q4 => ?_)
    · replace h := er_it h q4
      refine ej_iconst B.1 (v := (-1)) d_E_late_42 rfl ?_
      cases h
      exact ej_iret B.1 B.2.1 B.2.2.1 (Nat.zero_le _) (Nat.zero_le _) d_E_late_43
    · replace h := er_if h q4
      refine ej_aload_n B.1 d_E_late_14 rfl ?_
      refine ej_iload_n B.1 d_E_late_15 rfl ?_
      refine ej_aload_n B.1 d_E_late_16 rfl ?_
      refine ej_geti B.1 (er_at B 0 rfl rfl) rfl rfl fl_E_30 d_E_late_17 ?_
      obtain ⟨v5, e6, h⟩ := er_bd_some h
      refine ej_cv_i (nc := 0) (ns := 0) B.1 [.int x3, .int (σ 0 4)] [] (ec_E_isLateAt (er_pr B) x3 (σ 0 4) σ v5 e6) cal_E_isLateAt lk_E_159 in_E_isLateAt (er_at B 0 rfl rfl) rfl rfl se_E_isLateAt rfl B.2.2.2.1 d_E_late_20 ⟨Nat.le_of_ble_eq_true rfl, Nat.le_of_ble_eq_true rfl, Nat.zero_le _, Nat.zero_le _⟩ (Nat.le_of_ble_eq_true rfl) rfl ?_
      refine ej_if_eq B.1 (tgt := 36) d_E_late_23 (by decide) (fun q7 => ?_) (fun q7 => ?_)
      · replace h := er_it h q7
        refine ej_iinc B.1 (v := x3 + 1) (lv' := [some (.ref 0), some (.int x1), some (.int x2), some (.int (x3 + 1))]) d_E_late_36 rfl rfl rfl rfl rfl ?_
        refine ej_goto B.1 (tgt := 8) d_E_late_39 (by decide) ?_
        exact ej_le (lv' := [some (.ref 0), some (.int x1), some (.int x2), some (.int (x3 + 1))]) ⟨rfl, ⟨rfl, ⟨rfl, ⟨rfl, trivial⟩⟩⟩⟩ (ih x1 x2 (x3 + 1) σ _ h)
      · replace h := er_if h q7
        refine ej_iload_n B.1 d_E_late_26 rfl ?_
        refine ej_iload_n B.1 d_E_late_27 rfl ?_
        refine ej_icmp_ne B.1 (tgt := 33) d_E_late_28 (by decide) (fun q8 => ?_) (fun q8 => ?_)
        · replace h := er_if h q8
          refine ej_iinc B.1 (v := x2 + 1) (lv' := [some (.ref 0), some (.int x1), some (.int (x2 + 1)), some (.int x3)]) d_E_late_33 rfl rfl rfl rfl rfl ?_
          refine ej_iinc B.1 (v := x3 + 1) (lv' := [some (.ref 0), some (.int x1), some (.int (x2 + 1)), some (.int (x3 + 1))]) d_E_late_36 rfl rfl rfl rfl rfl ?_
          refine ej_goto B.1 (tgt := 8) d_E_late_39 (by decide) ?_
          exact ej_le (lv' := [some (.ref 0), some (.int x1), some (.int (x2 + 1)), some (.int (x3 + 1))]) ⟨rfl, ⟨rfl, ⟨rfl, ⟨rfl, trivial⟩⟩⟩⟩ (ih x1 (x2 + 1) (x3 + 1) σ _ h)
        · replace h := er_it h q8
          refine ej_iload_n B.1 d_E_late_31 rfl ?_
          cases h
          exact ej_iret B.1 B.2.1 B.2.2.1 (Nat.zero_le _) (Nat.zero_le _) d_E_late_32
set_option maxRecDepth 100000 in
set_option maxHeartbeats 4000000 in
theorem ec_E_late {l : Launch} {G : er_G} (hl : l.stackTraces = false) (hE : er_Pr G 0 21) (x1 : Int32) (σ : er_S) (r : (Int32 ⊕ Nat) × er_S) (h : ef_E_late x1 σ = some r) : er_Con l y_E_late w_E_late 8 125 (er_nc r.1) (er_ns r.1) G [.ref 0, .int x1] σ (er_cvi r) := by
  refine er_ofJ (ret := some .int) (cc := b_E_late) (maxL := 4) (lv0 := [some (.ref 0), some (.int x1), none, none]) (hh := []) (by decide +kernel) rfl (Or.inl rfl) (by intro v hv; simp only [List.mem_cons, List.not_mem_nil, or_false] at hv; rcases hv with rfl | rfl <;> rfl) (Nat.le_of_ble_eq_true rfl) ?_
  intro p e s m args below meth c hadm C hr hlk hml hw hnm hm hcd
  have B : er_B p s m c meth b_E_late "EntryRows" G (some .int) 4 0 21 := ⟨C, hr, hlk, hml, hE, er_noh hw hnm hm hcd⟩
  have hl := And.intro hadm hl
  unfold ef_E_late at h
  refine ej_iload_n B.1 d_E_late_0 rfl ?_
  rcases er_tb_some h with ⟨v1, g3, e2, h⟩ | ⟨k9, g3, e2, h⟩
  · refine ej_cs_v (nc := 0) (ns := 0) B.1 [.int x1] [] (ec_E_requireNotNegative hl.2 (er_pr B) x1 σ (.inl v1, g3) e2) cal_E_requireNotNegative lk_E_162 st_E_requireNotNegative rfl B.2.2.2.1 d_E_late_1 ⟨Nat.le_of_ble_eq_true rfl, Nat.le_of_ble_eq_true rfl, Nat.zero_le _, Nat.zero_le _⟩ (Nat.le_of_ble_eq_true rfl) rfl ?_
    refine ej_iconst B.1 (v := 0) d_E_late_4 rfl ?_
    refine ej_istore_n B.1 (lv' := [some (.ref 0), some (.int x1), some (.int 0), none]) d_E_late_5 rfl rfl rfl ?_
    refine ej_iconst B.1 (v := 0) d_E_late_6 rfl ?_
    refine ej_istore_n B.1 (lv' := [some (.ref 0), some (.int x1), some (.int 0), some (.int 0)]) d_E_late_7 rfl rfl rfl ?_
    exact ej_le (lv' := [some (.ref 0), some (.int x1), some (.int 0), some (.int 0)]) ⟨rfl, ⟨rfl, ⟨rfl, ⟨rfl, trivial⟩⟩⟩⟩ (ew_E_late_8 hl B 64 x1 0 0 g3 _ h)
  · subst h
    exact ej_cs_t (nc := 1) (ns := 6) B.1 [.int x1] [] (ec_E_requireNotNegative hl.2 (er_pr B) x1 σ (.inr k9, g3) e2) cal_E_requireNotNegative lk_E_162 st_E_requireNotNegative rfl B.2.2.2.1 d_E_late_1 ⟨Nat.le_of_ble_eq_true rfl, Nat.le_of_ble_eq_true rfl, Nat.le_of_ble_eq_true rfl, Nat.le_of_ble_eq_true rfl⟩ (Nat.le_of_ble_eq_true rfl) rfl B.2.2.1 (B.2.2.2.2.2 _) ⟨Nat.le_of_ble_eq_true rfl, Nat.le_of_ble_eq_true rfl⟩
set_option maxRecDepth 100000 in
set_option maxHeartbeats 4000000 in
theorem ec_E_person {l : Launch} {G : er_G} (hl : l.stackTraces = false) (hE : er_Pr G 0 21) (x1 x2 : Int32) (σ : er_S) (r : (Int32 ⊕ Nat) × er_S) (h : ef_E_person x1 x2 σ = some r) : er_Con l y_E_person w_E_person 8 123 (er_nc r.1) (er_ns r.1) G [.ref 0, .int x1, .int x2] σ (er_cvi r) := by
  refine er_ofJ (ret := some .int) (cc := b_E_person) (maxL := 3) (lv0 := [some (.ref 0), some (.int x1), some (.int x2)]) (hh := []) (by decide +kernel) rfl (Or.inl rfl) (by intro v hv; simp only [List.mem_cons, List.not_mem_nil, or_false] at hv; rcases hv with rfl | rfl | rfl <;> rfl) (Nat.le_of_ble_eq_true rfl) ?_
  intro p e s m args below meth c hadm C hr hlk hml hw hnm hm hcd
  have B : er_B p s m c meth b_E_person "EntryRows" G (some .int) 3 0 21 := ⟨C, hr, hlk, hml, hE, er_noh hw hnm hm hcd⟩
  have hl := And.intro hadm hl
  unfold ef_E_person at h
  refine ej_iload_n B.1 d_E_person_0 rfl ?_
  rcases er_tb_some h with ⟨v1, g3, e2, h⟩ | ⟨k24, g3, e2, h⟩
  · refine ej_cs_v (nc := 0) (ns := 0) B.1 [.int x1] [] (ec_E_requirePerson hl.2 (er_pr B) x1 σ (.inl v1, g3) e2) cal_E_requirePerson lk_E_69 st_E_requirePerson rfl B.2.2.2.1 d_E_person_1 ⟨Nat.le_of_ble_eq_true rfl, Nat.le_of_ble_eq_true rfl, Nat.zero_le _, Nat.zero_le _⟩ (Nat.le_of_ble_eq_true rfl) rfl ?_
    refine ej_iload_n B.1 d_E_person_4 rfl ?_
    by_cases q4 : x2 = 0
    · replace h := er_it h q4
      refine ej_tin B.1 (off := 55) (tgt := 60) d_E_person_5 q4 (by decide) (by decide) (by decide +kernel) (by decide) ?_
      refine ej_aload_n B.1 d_E_person_60 rfl ?_
      refine ej_getr B.1 (er_at B 0 rfl rfl) rfl rfl fl_E_10 d_E_person_61 ?_
      refine ej_getr B.1 (er_at B 1 rfl rfl) rfl rfl fl_E_132 d_E_person_64 ?_
      refine ej_iload_n B.1 d_E_person_67 rfl ?_
      obtain ⟨e5, h⟩ := er_gd_some h
      refine ej_iald B.1 (er_at B 5 rfl rfl) rfl e5 d_E_person_68 ?_
      cases h
      exact ej_iret B.1 B.2.1 B.2.2.1 (Nat.zero_le _) (Nat.zero_le _) d_E_person_69
    replace h := er_if h q4
    by_cases q6 : x2 = 1
    · replace h := er_it h q6
      refine ej_tin B.1 (off := 65) (tgt := 70) d_E_person_5 q6 (by decide) (by decide) (by decide +kernel) (by decide) ?_
      refine ej_aload_n B.1 d_E_person_70 rfl ?_
      refine ej_getr B.1 (er_at B 0 rfl rfl) rfl rfl fl_E_10 d_E_person_71 ?_
      refine ej_getr B.1 (er_at B 1 rfl rfl) rfl rfl fl_E_145 d_E_person_74 ?_
      refine ej_iload_n B.1 d_E_person_77 rfl ?_
      obtain ⟨e7, h⟩ := er_gd_some h
      refine ej_iald B.1 (er_at B 6 rfl rfl) rfl e7 d_E_person_78 ?_
      cases h
      exact ej_iret B.1 B.2.1 B.2.2.1 (Nat.zero_le _) (Nat.zero_le _) d_E_person_79
    replace h := er_if h q6
    by_cases q8 : x2 = 2
    · replace h := er_it h q8
      refine ej_tin B.1 (off := 75) (tgt := 80) d_E_person_5 q8 (by decide) (by decide) (by decide +kernel) (by decide) ?_
      refine ej_aload_n B.1 d_E_person_80 rfl ?_
      refine ej_getr B.1 (er_at B 0 rfl rfl) rfl rfl fl_E_10 d_E_person_81 ?_
      refine ej_getr B.1 (er_at B 1 rfl rfl) rfl rfl fl_E_135 d_E_person_84 ?_
      refine ej_iload_n B.1 d_E_person_87 rfl ?_
      obtain ⟨e9, h⟩ := er_gd_some h
      refine ej_iald B.1 (er_at B 7 rfl rfl) rfl e9 d_E_person_88 ?_
      cases h
      exact ej_iret B.1 B.2.1 B.2.2.1 (Nat.zero_le _) (Nat.zero_le _) d_E_person_89
    replace h := er_if h q8
    by_cases q10 : x2 = 3
    · replace h := er_it h q10
      refine ej_tin B.1 (off := 85) (tgt := 90) d_E_person_5 q10 (by decide) (by decide) (by decide +kernel) (by decide) ?_
      refine ej_aload_n B.1 d_E_person_90 rfl ?_
      refine ej_getr B.1 (er_at B 0 rfl rfl) rfl rfl fl_E_10 d_E_person_91 ?_
      refine ej_getr B.1 (er_at B 1 rfl rfl) rfl rfl fl_E_176 d_E_person_94 ?_
      refine ej_iload_n B.1 d_E_person_97 rfl ?_
      obtain ⟨e11, h⟩ := er_gd_some h
      refine ej_iald B.1 (er_at B 8 rfl rfl) rfl e11 d_E_person_98 ?_
      cases h
      exact ej_iret B.1 B.2.1 B.2.2.1 (Nat.zero_le _) (Nat.zero_le _) d_E_person_99
    replace h := er_if h q10
    by_cases q12 : x2 = 4
    · replace h := er_it h q12
      refine ej_tin B.1 (off := 95) (tgt := 100) d_E_person_5 q12 (by decide) (by decide) (by decide +kernel) (by decide) ?_
      refine ej_aload_n B.1 d_E_person_100 rfl ?_
      refine ej_getr B.1 (er_at B 0 rfl rfl) rfl rfl fl_E_10 d_E_person_101 ?_
      refine ej_getr B.1 (er_at B 1 rfl rfl) rfl rfl fl_E_179 d_E_person_104 ?_
      refine ej_iload_n B.1 d_E_person_107 rfl ?_
      obtain ⟨e13, h⟩ := er_gd_some h
      refine ej_iald B.1 (er_at B 9 rfl rfl) rfl e13 d_E_person_108 ?_
      cases h
      exact ej_iret B.1 B.2.1 B.2.2.1 (Nat.zero_le _) (Nat.zero_le _) d_E_person_109
    replace h := er_if h q12
    by_cases q14 : x2 = 5
    · replace h := er_it h q14
      refine ej_tin B.1 (off := 105) (tgt := 110) d_E_person_5 q14 (by decide) (by decide) (by decide +kernel) (by decide) ?_
      refine ej_aload_n B.1 d_E_person_110 rfl ?_
      refine ej_getr B.1 (er_at B 0 rfl rfl) rfl rfl fl_E_10 d_E_person_111 ?_
      refine ej_getr B.1 (er_at B 1 rfl rfl) rfl rfl fl_E_182 d_E_person_114 ?_
      refine ej_iload_n B.1 d_E_person_117 rfl ?_
      obtain ⟨e15, h⟩ := er_gd_some h
      refine ej_iald B.1 (er_at B 10 rfl rfl) rfl e15 d_E_person_118 ?_
      cases h
      exact ej_iret B.1 B.2.1 B.2.2.1 (Nat.zero_le _) (Nat.zero_le _) d_E_person_119
    replace h := er_if h q14
    by_cases q16 : x2 = 6
    · replace h := er_it h q16
      refine ej_tin B.1 (off := 115) (tgt := 120) d_E_person_5 q16 (by decide) (by decide) (by decide +kernel) (by decide) ?_
      refine ej_aload_n B.1 d_E_person_120 rfl ?_
      refine ej_getr B.1 (er_at B 0 rfl rfl) rfl rfl fl_E_10 d_E_person_121 ?_
      refine ej_getr B.1 (er_at B 1 rfl rfl) rfl rfl fl_E_185 d_E_person_124 ?_
      refine ej_iload_n B.1 d_E_person_127 rfl ?_
      obtain ⟨e17, h⟩ := er_gd_some h
      refine ej_iald B.1 (er_at B 11 rfl rfl) rfl e17 d_E_person_128 ?_
      cases h
      exact ej_iret B.1 B.2.1 B.2.2.1 (Nat.zero_le _) (Nat.zero_le _) d_E_person_129
    replace h := er_if h q16
    by_cases q18 : x2 = 7
    · replace h := er_it h q18
      refine ej_tin B.1 (off := 125) (tgt := 130) d_E_person_5 q18 (by decide) (by decide) (by decide +kernel) (by decide) ?_
      refine ej_aload_n B.1 d_E_person_130 rfl ?_
      refine ej_getr B.1 (er_at B 0 rfl rfl) rfl rfl fl_E_10 d_E_person_131 ?_
      refine ej_getr B.1 (er_at B 1 rfl rfl) rfl rfl fl_E_188 d_E_person_134 ?_
      refine ej_iload_n B.1 d_E_person_137 rfl ?_
      obtain ⟨e19, h⟩ := er_gd_some h
      refine ej_iald B.1 (er_at B 12 rfl rfl) rfl e19 d_E_person_138 ?_
      cases h
      exact ej_iret B.1 B.2.1 B.2.2.1 (Nat.zero_le _) (Nat.zero_le _) d_E_person_139
    replace h := er_if h q18
    by_cases q20 : x2 = 8
    · replace h := er_it h q20
      refine ej_tin B.1 (off := 135) (tgt := 140) d_E_person_5 q20 (by decide) (by decide) (by decide +kernel) (by decide) ?_
      refine ej_aload_n B.1 d_E_person_140 rfl ?_
      refine ej_getr B.1 (er_at B 0 rfl rfl) rfl rfl fl_E_10 d_E_person_141 ?_
      refine ej_getr B.1 (er_at B 1 rfl rfl) rfl rfl fl_E_105 d_E_person_144 ?_
      refine ej_iload_n B.1 d_E_person_147 rfl ?_
      obtain ⟨e21, h⟩ := er_gd_some h
      refine ej_iald B.1 (er_at B 13 rfl rfl) rfl e21 d_E_person_148 ?_
      cases h
      exact ej_iret B.1 B.2.1 B.2.2.1 (Nat.zero_le _) (Nat.zero_le _) d_E_person_149
    replace h := er_if h q20
    by_cases q22 : x2 = 9
    · replace h := er_it h q22
      refine ej_tin B.1 (off := 145) (tgt := 150) d_E_person_5 q22 (by decide) (by decide) (by decide +kernel) (by decide) ?_
      refine ej_aload_n B.1 d_E_person_150 rfl ?_
      refine ej_getr B.1 (er_at B 0 rfl rfl) rfl rfl fl_E_10 d_E_person_151 ?_
      refine ej_getr B.1 (er_at B 1 rfl rfl) rfl rfl fl_E_78 d_E_person_154 ?_
      refine ej_iload_n B.1 d_E_person_157 rfl ?_
      obtain ⟨e23, h⟩ := er_gd_some h
      refine ej_iald B.1 (er_at B 14 rfl rfl) rfl e23 d_E_person_158 ?_
      cases h
      exact ej_iret B.1 B.2.1 B.2.2.1 (Nat.zero_le _) (Nat.zero_le _) d_E_person_159
    replace h := er_if h q22
    refine ej_tout B.1 (tgt := 160) d_E_person_5 (by have z0 := lv_neT (a := 0) q4 (by decide); have z1 := lv_neT (a := 1) q6 (by decide); have z2 := lv_neT (a := 2) q8 (by decide); have z3 := lv_neT (a := 3) q10 (by decide); have z4 := lv_neT (a := 4) q12 (by decide); have z5 := lv_neT (a := 5) q14 (by decide); have z6 := lv_neT (a := 6) q16 (by decide); have z7 := lv_neT (a := 7) q18 (by decide); have z8 := lv_neT (a := 8) q20 (by decide); have z9 := lv_neT (a := 9) q22 (by decide); omega) (by decide) ?_
    cases h
    exact th_E_person_160 B hl
  · subst h
    exact ej_cs_t (nc := 1) (ns := 6) B.1 [.int x1] [] (ec_E_requirePerson hl.2 (er_pr B) x1 σ (.inr k24, g3) e2) cal_E_requirePerson lk_E_69 st_E_requirePerson rfl B.2.2.2.1 d_E_person_1 ⟨Nat.le_of_ble_eq_true rfl, Nat.le_of_ble_eq_true rfl, Nat.le_of_ble_eq_true rfl, Nat.le_of_ble_eq_true rfl⟩ (Nat.le_of_ble_eq_true rfl) rfl B.2.2.1 (B.2.2.2.2.2 _) ⟨Nat.le_of_ble_eq_true rfl, Nat.le_of_ble_eq_true rfl⟩
set_option maxRecDepth 100000 in
set_option maxHeartbeats 4000000 in
theorem ec_I_rotateLeft {l : Launch} {G : er_G} (x0 x1 : Int32) (σ : er_S) (r : Int32) (h : ef_I_rotateLeft x0 x1 σ = some r) : er_Con l y_I_rotateLeft w_I_rotateLeft 0 0 0 0 G [.int x0, .int x1] σ ((.inl (some (.int r)), σ)) := by
  refine er_ofJ (ret := some .int) (cc := b_I_rotateLeft) (maxL := 2) (lv0 := [some (.int x0), some (.int x1)]) (hh := []) (by decide +kernel) rfl (Or.inl rfl) (by intro v hv; simp only [List.mem_cons, List.not_mem_nil, or_false] at hv; rcases hv with rfl | rfl <;> rfl) (Nat.le_of_ble_eq_true rfl) ?_
  intro p e s m args below meth c hadm C hr hlk hml hw hnm hm hcd
  have B : er_B p s m c meth b_I_rotateLeft "java/lang/Integer" G (some .int) 2 0 0 := ⟨C, hr, hlk, hml, er_none G, er_noh hw hnm hm hcd⟩
  unfold ef_I_rotateLeft at h
  refine ej_iload_n B.1 d_I_rotateLeft_0 rfl ?_
  refine ej_iload_n B.1 d_I_rotateLeft_1 rfl ?_
  refine ej_ishl B.1 d_I_rotateLeft_2 ?_
  refine ej_iload_n B.1 d_I_rotateLeft_3 rfl ?_
  refine ej_iload_n B.1 d_I_rotateLeft_4 rfl ?_
  refine ej_ineg B.1 d_I_rotateLeft_5 ?_
  refine ej_iushr B.1 d_I_rotateLeft_6 ?_
  refine ej_ior B.1 d_I_rotateLeft_7 ?_
  cases h
  exact ej_iret B.1 B.2.1 B.2.2.1 (Nat.zero_le _) (Nat.zero_le _) d_I_rotateLeft_8
set_option maxRecDepth 100000 in
set_option maxHeartbeats 4000000 in
theorem ew_E_sumOf_83 {p : Program} {l : Launch} {e : Env} {s : State} {m : MethodId} {args : Array Value} {below : List Frame} {meth : Method} {c : Code} {G : er_G} (B : er_B p s m c meth b_E_sumOf "EntryRows" G (some .int) 7 0 21) (x2 : Int32) (σ : er_S) (r : Int32) (h : ef_E_sumOf_83 x2 σ = some r) : er_J p l e { frames := 1, cells := 0, slots := 0, locals := 25 } s m args below meth c G (er_A G s.heap.size) s.heap (er_fin below G s 0 0 (.inl (some (.int r)), σ)) 0 0 σ 83 [none, none, some (.int x2), none, none, none, none] [] := by
  unfold ef_E_sumOf_83 at h
  refine ej_iload_n B.1 d_E_sumOf_83 rfl ?_
  cases h
  exact ej_iret B.1 B.2.1 B.2.2.1 (Nat.zero_le _) (Nat.zero_le _) d_E_sumOf_84
set_option maxRecDepth 100000 in
set_option maxHeartbeats 4000000 in
theorem ew_E_sumOf_15 {p : Program} {l : Launch} {e : Env} {s : State} {m : MethodId} {args : Array Value} {below : List Frame} {meth : Method} {c : Code} {G : er_G} (B : er_B p s m c meth b_E_sumOf "EntryRows" G (some .int) 7 0 21) : ∀ (n : Nat) (x1 x2 x3 x4 : Int32) (σ : er_S) (r : Int32), ef_E_sumOf_15 n x1 x2 x3 x4 σ = some r → er_J p l e { frames := 1, cells := 0, slots := 0, locals := 25 } s m args below meth c G (er_A G s.heap.size) s.heap (er_fin below G s 0 0 (.inl (some (.int r)), σ)) 0 0 σ 15 [some (.ref 0), some (.int x1), some (.int x2), some (.int x3), some (.int x4), none, none] [] := by
  intro n
  induction n with
  | zero => intro x1 x2 x3 x4 σ r h; cases h
  | succ n ih =>
    intro x1 x2 x3 x4 σ r h
    rw [ef_E_sumOf_15] at h
    refine ej_iload B.1 d_E_sumOf_15 rfl ?_
    refine ej_bipush B.1 (v := 40) d_E_sumOf_17 (by decide +kernel) ?_
    refine ej_icmp_ge B.1 (tgt := 83) d_E_sumOf_19 (by decide) (fun q3 => ?_) (fun q3 => ?_)
    · replace h := er_it h q3
      exact ej_le (lv' := [none, none, some (.int x2), none, none, none, none]) ⟨rfl, trivial⟩ (ew_E_sumOf_83 B x2 σ _ h)
    · replace h := er_if h q3
      refine ej_iload_n B.1 d_E_sumOf_22 rfl ?_
      obtain ⟨v4, e5, h⟩ := er_bd_some h
      refine ej_cs_i (nc := 0) (ns := 0) B.1 [.int x3] [] (ec_E_isPerson (er_pr B) x3 σ v4 e5) cal_E_isPerson lk_E_173 st_E_isPerson rfl B.2.2.2.1 d_E_sumOf_23 ⟨Nat.le_of_ble_eq_true rfl, Nat.le_of_ble_eq_true rfl, Nat.zero_le _, Nat.zero_le _⟩ (Nat.le_of_ble_eq_true rfl) rfl ?_
      refine ej_if_eq B.1 (tgt := 83) d_E_sumOf_26 (by decide) (fun q6 => ?_) (fun q6 => ?_)
      · replace h := er_it h q6
        exact ej_le (lv' := [none, none, some (.int x2), none, none, none, none]) ⟨rfl, trivial⟩ (ew_E_sumOf_83 B x2 σ _ h)
      · replace h := er_if h q6
        refine ej_aload_n B.1 d_E_sumOf_29 rfl ?_
        refine ej_getr B.1 (er_at B 0 rfl rfl) rfl rfl fl_E_10 d_E_sumOf_30 ?_
        refine ej_getr B.1 (er_at B 1 rfl rfl) rfl rfl fl_E_145 d_E_sumOf_33 ?_
        refine ej_iload_n B.1 d_E_sumOf_36 rfl ?_
        obtain ⟨e7, h⟩ := er_gd_some h
        refine ej_iald B.1 (er_at B 6 rfl rfl) rfl e7 d_E_sumOf_37 ?_
        refine ej_istore B.1 (lv' := [some (.ref 0), some (.int x1), some (.int x2), some (.int x3), some (.int x4), some (.int (σ 6 (er_ix x3))), none]) d_E_sumOf_38 rfl rfl rfl ?_
        refine ej_iload_n B.1 d_E_sumOf_40 rfl ?_
        refine ej_sipush B.1 (v := 1000) d_E_sumOf_41 (by decide +kernel) ?_
        refine ej_iload_n B.1 d_E_sumOf_44 rfl ?_
        refine ej_imul B.1 d_E_sumOf_45 ?_
        refine ej_iload B.1 d_E_sumOf_46 rfl ?_
        refine ej_sipush B.1 (v := 1000) d_E_sumOf_48 (by decide +kernel) ?_
        refine ej_irem B.1 d_E_sumOf_51 (by decide) ?_
        refine ej_iadd B.1 d_E_sumOf_52 ?_
        refine ej_ixor B.1 d_E_sumOf_53 ?_
        refine ej_istore B.1 (lv' := [some (.ref 0), some (.int x1), some (.int x2), some (.int x3), some (.int x4), some (.int (σ 6 (er_ix x3))), some (.int (x2 ^^^ ((1000 * x3) + ((σ 6 (er_ix x3)) - (σ 6 (er_ix x3)) / 1000 * 1000))))]) d_E_sumOf_54 rfl rfl rfl ?_
        refine ej_iload B.1 d_E_sumOf_56 rfl ?_
        refine ej_iconst B.1 (v := 5) d_E_sumOf_58 rfl ?_
        obtain ⟨v8, e9, h⟩ := er_bd_some h
        refine ej_cs_i (nc := 0) (ns := 0) B.1 [.int (x2 ^^^ ((1000 * x3) + ((σ 6 (er_ix x3)) - (σ 6 (er_ix x3)) / 1000 * 1000))), .int 5] [] (ec_I_rotateLeft (x2 ^^^ ((1000 * x3) + ((σ 6 (er_ix x3)) - (σ 6 (er_ix x3)) / 1000 * 1000))) 5 σ v8 e9) cal_I_rotateLeft lk_E_240 st_I_rotateLeft rfl B.2.2.2.1 d_E_sumOf_59 ⟨Nat.le_of_ble_eq_true rfl, Nat.le_of_ble_eq_true rfl, Nat.zero_le _, Nat.zero_le _⟩ (Nat.le_of_ble_eq_true rfl) rfl ?_
        refine ej_ldc B.1 (v := (-2048144789)) k_E_243 d_E_sumOf_62 ?_
        refine ej_imul B.1 d_E_sumOf_64 ?_
        refine ej_istore_n B.1 (lv' := [some (.ref 0), some (.int x1), some (.int (v8 * (-2048144789))), some (.int x3), some (.int x4), some (.int (σ 6 (er_ix x3))), some (.int (x2 ^^^ ((1000 * x3) + ((σ 6 (er_ix x3)) - (σ 6 (er_ix x3)) / 1000 * 1000))))]) d_E_sumOf_65 rfl rfl rfl ?_
        refine ej_aload_n B.1 d_E_sumOf_66 rfl ?_
        refine ej_getr B.1 (er_at B 0 rfl rfl) rfl rfl fl_E_10 d_E_sumOf_67 ?_
        refine ej_iload_n B.1 d_E_sumOf_70 rfl ?_
        refine ej_iload B.1 d_E_sumOf_71 rfl ?_
        obtain ⟨v10, e11, h⟩ := er_bd_some h
        refine ej_cv_i (nc := 0) (ns := 0) B.1 [.int x1, .int (σ 6 (er_ix x3))] [] (ec_P_nextOn (er_pr B) x1 (σ 6 (er_ix x3)) σ v10 e11) cal_P_nextOn lk_E_170 in_P_nextOn (er_at B 1 rfl rfl) rfl rfl se_P_nextOn rfl B.2.2.2.1 d_E_sumOf_73 ⟨Nat.le_of_ble_eq_true rfl, Nat.le_of_ble_eq_true rfl, Nat.zero_le _, Nat.zero_le _⟩ (Nat.le_of_ble_eq_true rfl) rfl ?_
        refine ej_istore_n B.1 (lv' := [some (.ref 0), some (.int x1), some (.int (v8 * (-2048144789))), some (.int v10), some (.int x4), some (.int (σ 6 (er_ix x3))), some (.int (x2 ^^^ ((1000 * x3) + ((σ 6 (er_ix x3)) - (σ 6 (er_ix x3)) / 1000 * 1000))))]) d_E_sumOf_76 rfl rfl rfl ?_
        refine ej_iinc B.1 (v := x4 + 1) (lv' := [some (.ref 0), some (.int x1), some (.int (v8 * (-2048144789))), some (.int v10), some (.int (x4 + 1)), some (.int (σ 6 (er_ix x3))), some (.int (x2 ^^^ ((1000 * x3) + ((σ 6 (er_ix x3)) - (σ 6 (er_ix x3)) / 1000 * 1000))))]) d_E_sumOf_77 rfl rfl rfl rfl rfl ?_
        refine ej_goto B.1 (tgt := 15) d_E_sumOf_80 (by decide) ?_
        exact ej_le (lv' := [some (.ref 0), some (.int x1), some (.int (v8 * (-2048144789))), some (.int v10), some (.int (x4 + 1)), none, none]) ⟨rfl, ⟨rfl, ⟨rfl, ⟨rfl, ⟨rfl, trivial⟩⟩⟩⟩⟩ (ih x1 (v8 * (-2048144789)) v10 (x4 + 1) σ _ h)
set_option maxRecDepth 100000 in
set_option maxHeartbeats 4000000 in
theorem ec_E_sumOf {l : Launch} {G : er_G} (hE : er_Pr G 0 21) (x1 : Int32) (σ : er_S) (r : Int32) (h : ef_E_sumOf x1 σ = some r) : er_Con l y_E_sumOf w_E_sumOf 1 25 0 0 G [.ref 0, .int x1] σ ((.inl (some (.int r)), σ)) := by
  refine er_ofJ (ret := some .int) (cc := b_E_sumOf) (maxL := 7) (lv0 := [some (.ref 0), some (.int x1), none, none, none, none, none]) (hh := []) (by decide +kernel) rfl (Or.inl rfl) (by intro v hv; simp only [List.mem_cons, List.not_mem_nil, or_false] at hv; rcases hv with rfl | rfl <;> rfl) (Nat.le_of_ble_eq_true rfl) ?_
  intro p e s m args below meth c hadm C hr hlk hml hw hnm hm hcd
  have B : er_B p s m c meth b_E_sumOf "EntryRows" G (some .int) 7 0 21 := ⟨C, hr, hlk, hml, hE, er_noh hw hnm hm hcd⟩
  unfold ef_E_sumOf at h
  refine ej_iconst B.1 (v := 0) d_E_sumOf_0 rfl ?_
  refine ej_istore_n B.1 (lv' := [some (.ref 0), some (.int x1), some (.int 0), none, none, none, none]) d_E_sumOf_1 rfl rfl rfl ?_
  refine ej_aload_n B.1 d_E_sumOf_2 rfl ?_
  refine ej_getr B.1 (er_at B 0 rfl rfl) rfl rfl fl_E_10 d_E_sumOf_3 ?_
  refine ej_iload_n B.1 d_E_sumOf_6 rfl ?_
  refine ej_iconst B.1 (v := (-1)) d_E_sumOf_7 rfl ?_
  obtain ⟨v1, e2, h⟩ := er_bd_some h
  refine ej_cv_i (nc := 0) (ns := 0) B.1 [.int x1, .int (-1)] [] (ec_P_nextOn (er_pr B) x1 (-1) σ v1 e2) cal_P_nextOn lk_E_170 in_P_nextOn (er_at B 1 rfl rfl) rfl rfl se_P_nextOn rfl B.2.2.2.1 d_E_sumOf_8 ⟨Nat.le_of_ble_eq_true rfl, Nat.le_of_ble_eq_true rfl, Nat.zero_le _, Nat.zero_le _⟩ (Nat.le_of_ble_eq_true rfl) rfl ?_
  refine ej_istore_n B.1 (lv' := [some (.ref 0), some (.int x1), some (.int 0), some (.int v1), none, none, none]) d_E_sumOf_11 rfl rfl rfl ?_
  refine ej_iconst B.1 (v := 0) d_E_sumOf_12 rfl ?_
  refine ej_istore B.1 (lv' := [some (.ref 0), some (.int x1), some (.int 0), some (.int v1), some (.int 0), none, none]) d_E_sumOf_13 rfl rfl rfl ?_
  exact ej_le (lv' := [some (.ref 0), some (.int x1), some (.int 0), some (.int v1), some (.int 0), none, none]) ⟨rfl, ⟨rfl, ⟨rfl, ⟨rfl, ⟨rfl, trivial⟩⟩⟩⟩⟩ (ew_E_sumOf_15 B 64 x1 0 v1 0 σ _ h)
set_option maxRecDepth 100000 in
set_option maxHeartbeats 4000000 in
theorem ew_E_boardAt_57 {p : Program} {l : Launch} {e : Env} {s : State} {m : MethodId} {args : Array Value} {below : List Frame} {meth : Method} {c : Code} {G : er_G} (hl : l.admits e ∧ l.stackTraces = false) (B : er_B p s m c meth b_E_boardAt "EntryRows" G (some .int) 3 0 21) (t0 : Int32) (σ : er_S) (r : (Int32 ⊕ Nat) × er_S) (h : ef_E_boardAt_57 t0 σ = some r) : er_J p l e { frames := 8, cells := er_nc r.1, slots := er_ns r.1, locals := 124 } s m args below meth c G (er_A G s.heap.size) s.heap (er_fin below G s (er_nc r.1) (er_ns r.1) (er_cvi r)) 0 0 σ 57 [none, none, none] [.int t0] := by
  unfold ef_E_boardAt_57 at h
  cases h
  exact ej_iret B.1 B.2.1 B.2.2.1 (Nat.zero_le _) (Nat.zero_le _) d_E_boardAt_57
set_option maxRecDepth 100000 in
set_option maxHeartbeats 4000000 in
theorem ec_E_boardAt {l : Launch} {G : er_G} (hl : l.stackTraces = false) (hE : er_Pr G 0 21) (x1 x2 : Int32) (σ : er_S) (r : (Int32 ⊕ Nat) × er_S) (h : ef_E_boardAt x1 x2 σ = some r) : er_Con l y_E_boardAt w_E_boardAt 8 124 (er_nc r.1) (er_ns r.1) G [.ref 0, .int x1, .int x2] σ (er_cvi r) := by
  refine er_ofJ (ret := some .int) (cc := b_E_boardAt) (maxL := 3) (lv0 := [some (.ref 0), some (.int x1), some (.int x2)]) (hh := []) (by decide +kernel) rfl (Or.inl rfl) (by intro v hv; simp only [List.mem_cons, List.not_mem_nil, or_false] at hv; rcases hv with rfl | rfl | rfl <;> rfl) (Nat.le_of_ble_eq_true rfl) ?_
  intro p e s m args below meth c hadm C hr hlk hml hw hnm hm hcd
  have B : er_B p s m c meth b_E_boardAt "EntryRows" G (some .int) 3 0 21 := ⟨C, hr, hlk, hml, hE, er_noh hw hnm hm hcd⟩
  have hl := And.intro hadm hl
  unfold ef_E_boardAt at h
  refine ej_aload_n B.1 d_E_boardAt_0 rfl ?_
  refine ej_iload_n B.1 d_E_boardAt_1 rfl ?_
  rcases er_tb_some h with ⟨v1, g3, e2, h⟩ | ⟨k18, g3, e2, h⟩
  · refine ej_cv_v (nc := 0) (ns := 0) B.1 [.int x1] [] (ec_E_requireBoard hl.2 (er_pr B) x1 σ (.inl v1, g3) e2) cal_E_requireBoard lk_E_65 in_E_requireBoard (er_at B 0 rfl rfl) rfl rfl se_E_requireBoard rfl B.2.2.2.1 d_E_boardAt_2 ⟨Nat.le_of_ble_eq_true rfl, Nat.le_of_ble_eq_true rfl, Nat.zero_le _, Nat.zero_le _⟩ (Nat.le_of_ble_eq_true rfl) rfl ?_
    refine ej_iload_n B.1 d_E_boardAt_5 rfl ?_
    by_cases q4 : x2 = 0
    · replace h := er_it h q4
      refine ej_tin B.1 (off := 34) (tgt := 40) d_E_boardAt_6 q4 (by decide) (by decide) (by decide +kernel) (by decide) ?_
      refine ej_aload_n B.1 d_E_boardAt_40 rfl ?_
      refine ej_getr B.1 (er_at B 0 rfl rfl) rfl rfl fl_E_19 d_E_boardAt_41 ?_
      refine ej_getr B.1 (er_at B 2 rfl rfl) rfl rfl fl_E_196 d_E_boardAt_44 ?_
      refine ej_iload_n B.1 d_E_boardAt_47 rfl ?_
      obtain ⟨e5, h⟩ := er_gd_some h
      refine ej_zald B.1 (er_at B 16 rfl rfl) rfl e5 d_E_boardAt_48 ?_
      refine ej_if_eq B.1 (tgt := 56) d_E_boardAt_49 (by decide) (fun q6 => ?_) (fun q6 => ?_)
      · replace h := er_it h q6
        refine ej_iconst B.1 (v := 0) d_E_boardAt_56 rfl ?_
        exact ej_le (lv' := [none, none, none]) trivial (ew_E_boardAt_57 hl B 0 g3 _ h)
      · replace h := er_if h q6
        refine ej_iconst B.1 (v := 1) d_E_boardAt_52 rfl ?_
        refine ej_goto B.1 (tgt := 57) d_E_boardAt_53 (by decide) ?_
        exact ej_le (lv' := [none, none, none]) trivial (ew_E_boardAt_57 hl B 1 g3 _ h)
    replace h := er_if h q4
    by_cases q7 : x2 = 1
    · replace h := er_it h q7
      refine ej_tin B.1 (off := 52) (tgt := 58) d_E_boardAt_6 q7 (by decide) (by decide) (by decide +kernel) (by decide) ?_
      refine ej_aload_n B.1 d_E_boardAt_58 rfl ?_
      refine ej_getr B.1 (er_at B 0 rfl rfl) rfl rfl fl_E_19 d_E_boardAt_59 ?_
      refine ej_getr B.1 (er_at B 2 rfl rfl) rfl rfl fl_E_88 d_E_boardAt_62 ?_
      refine ej_iload_n B.1 d_E_boardAt_65 rfl ?_
      obtain ⟨e8, h⟩ := er_gd_some h
      refine ej_iald B.1 (er_at B 20 rfl rfl) rfl e8 d_E_boardAt_66 ?_
      cases h
      exact ej_iret B.1 B.2.1 B.2.2.1 (Nat.zero_le _) (Nat.zero_le _) d_E_boardAt_67
    replace h := er_if h q7
    by_cases q9 : x2 = 2
    · replace h := er_it h q9
      refine ej_tin B.1 (off := 62) (tgt := 68) d_E_boardAt_6 q9 (by decide) (by decide) (by decide +kernel) (by decide) ?_
      refine ej_aload_n B.1 d_E_boardAt_68 rfl ?_
      refine ej_getr B.1 (er_at B 0 rfl rfl) rfl rfl fl_E_10 d_E_boardAt_69 ?_
      refine ej_iload_n B.1 d_E_boardAt_72 rfl ?_
      obtain ⟨v10, e11, h⟩ := er_bd_some h
      refine ej_cv_i (nc := 0) (ns := 0) B.1 [.int x1] [] (ec_P_countOn (er_pr B) x1 g3 v10 e11) cal_P_countOn lk_E_155 in_P_countOn (er_at B 1 rfl rfl) rfl rfl se_P_countOn rfl B.2.2.2.1 d_E_boardAt_73 ⟨Nat.le_of_ble_eq_true rfl, Nat.le_of_ble_eq_true rfl, Nat.zero_le _, Nat.zero_le _⟩ (Nat.le_of_ble_eq_true rfl) rfl ?_
      cases h
      exact ej_iret B.1 B.2.1 B.2.2.1 (Nat.zero_le _) (Nat.zero_le _) d_E_boardAt_76
    replace h := er_if h q9
    by_cases q12 : x2 = 3
    · replace h := er_it h q12
      refine ej_tin B.1 (off := 71) (tgt := 77) d_E_boardAt_6 q12 (by decide) (by decide) (by decide +kernel) (by decide) ?_
      refine ej_aload_n B.1 d_E_boardAt_77 rfl ?_
      refine ej_iload_n B.1 d_E_boardAt_78 rfl ?_
      refine ej_iconst B.1 (v := (-1)) d_E_boardAt_79 rfl ?_
      obtain ⟨v13, e14, h⟩ := er_bd_some h
      refine ej_cv_i (nc := 0) (ns := 0) B.1 [.int x1, .int (-1)] [] (ec_E_readySafetyTeams (er_pr B) x1 (-1) g3 v13 e14) cal_E_readySafetyTeams lk_E_114 in_E_readySafetyTeams (er_at B 0 rfl rfl) rfl rfl se_E_readySafetyTeams rfl B.2.2.2.1 d_E_boardAt_80 ⟨Nat.le_of_ble_eq_true rfl, Nat.le_of_ble_eq_true rfl, Nat.zero_le _, Nat.zero_le _⟩ (Nat.le_of_ble_eq_true rfl) rfl ?_
      cases h
      exact ej_iret B.1 B.2.1 B.2.2.1 (Nat.zero_le _) (Nat.zero_le _) d_E_boardAt_83
    replace h := er_if h q12
    by_cases q15 : x2 = 4
    · replace h := er_it h q15
      refine ej_tin B.1 (off := 78) (tgt := 84) d_E_boardAt_6 q15 (by decide) (by decide) (by decide +kernel) (by decide) ?_
      refine ej_aload_n B.1 d_E_boardAt_84 rfl ?_
      refine ej_iload_n B.1 d_E_boardAt_85 rfl ?_
      obtain ⟨v16, e17, h⟩ := er_bd_some h
      refine ej_cv_i (nc := 0) (ns := 0) B.1 [.int x1] [] (ec_E_sumOf (er_pr B) x1 g3 v16 e17) cal_E_sumOf lk_E_199 in_E_sumOf (er_at B 0 rfl rfl) rfl rfl se_E_sumOf rfl B.2.2.2.1 d_E_boardAt_86 ⟨Nat.le_of_ble_eq_true rfl, Nat.le_of_ble_eq_true rfl, Nat.zero_le _, Nat.zero_le _⟩ (Nat.le_of_ble_eq_true rfl) rfl ?_
      cases h
      exact ej_iret B.1 B.2.1 B.2.2.1 (Nat.zero_le _) (Nat.zero_le _) d_E_boardAt_89
    replace h := er_if h q15
    refine ej_tout B.1 (tgt := 90) d_E_boardAt_6 (by have z0 := lv_neT (a := 0) q4 (by decide); have z1 := lv_neT (a := 1) q7 (by decide); have z2 := lv_neT (a := 2) q9 (by decide); have z3 := lv_neT (a := 3) q12 (by decide); have z4 := lv_neT (a := 4) q15 (by decide); omega) (by decide) ?_
    cases h
    exact th_E_boardAt_90 B hl
  · subst h
    exact ej_cv_t (nc := 1) (ns := 6) B.1 [.int x1] [] (ec_E_requireBoard hl.2 (er_pr B) x1 σ (.inr k18, g3) e2) cal_E_requireBoard lk_E_65 in_E_requireBoard (er_at B 0 rfl rfl) rfl rfl se_E_requireBoard rfl B.2.2.2.1 d_E_boardAt_2 ⟨Nat.le_of_ble_eq_true rfl, Nat.le_of_ble_eq_true rfl, Nat.le_of_ble_eq_true rfl, Nat.le_of_ble_eq_true rfl⟩ (Nat.le_of_ble_eq_true rfl) rfl B.2.2.1 (B.2.2.2.2.2 _) ⟨Nat.le_of_ble_eq_true rfl, Nat.le_of_ble_eq_true rfl⟩
set_option maxRecDepth 100000 in
set_option maxHeartbeats 4000000 in
theorem ec_P_countInside {l : Launch} {G : er_G} (hE : er_Pr G 0 21) (σ : er_S) (r : Int32) (h : ef_P_countInside  σ = some r) : er_Con l y_P_countInside w_P_countInside 1 23 0 0 G [.ref 1] σ ((.inl (some (.int r)), σ)) := by
  refine er_ofJ (ret := some .int) (cc := b_P_countInside) (maxL := 1) (lv0 := [some (.ref 1)]) (hh := []) (by decide +kernel) rfl (Or.inl rfl) (by intro v hv; simp only [List.mem_cons, List.not_mem_nil, or_false] at hv; rcases hv with rfl <;> rfl) (Nat.le_of_ble_eq_true rfl) ?_
  intro p e s m args below meth c hadm C hr hlk hml hw hnm hm hcd
  have B : er_B p s m c meth b_P_countInside "EntryRows$Persons" G (some .int) 1 0 21 := ⟨C, hr, hlk, hml, hE, er_noh hw hnm hm hcd⟩
  unfold ef_P_countInside at h
  refine ej_bipush B.1 (v := 40) d_P_countInside_0 (by decide +kernel) ?_
  refine ej_aload_n B.1 d_P_countInside_2 rfl ?_
  refine ej_iconst B.1 (v := (-1)) d_P_countInside_3 rfl ?_
  obtain ⟨v1, e2, h⟩ := er_bd_some h
  refine ej_cv_i (nc := 0) (ns := 0) B.1 [.int (-1)] [.int 40] (ec_P_countOn (er_pr B) (-1) σ v1 e2) cal_P_countOn lk_P_68 in_P_countOn (er_at B 1 rfl rfl) rfl rfl se_P_countOn rfl B.2.2.2.1 d_P_countInside_4 ⟨Nat.le_of_ble_eq_true rfl, Nat.le_of_ble_eq_true rfl, Nat.zero_le _, Nat.zero_le _⟩ (Nat.le_of_ble_eq_true rfl) rfl ?_
  refine ej_isub B.1 d_P_countInside_7 ?_
  cases h
  exact ej_iret B.1 B.2.1 B.2.2.1 (Nat.zero_le _) (Nat.zero_le _) d_P_countInside_8
set_option maxRecDepth 100000 in
set_option maxHeartbeats 4000000 in
theorem ew_B_countOpen_4 {p : Program} {l : Launch} {e : Env} {s : State} {m : MethodId} {args : Array Value} {below : List Frame} {meth : Method} {c : Code} {G : er_G} (B : er_B p s m c meth b_B_countOpen "EntryRows$Boards" G (some .int) 3 0 21) : ∀ (n : Nat) (x1 x2 : Int32) (σ : er_S) (r : Int32), ef_B_countOpen_4 n x1 x2 σ = some r → er_J p l e { frames := 0, cells := 0, slots := 0, locals := 0 } s m args below meth c G (er_A G s.heap.size) s.heap (er_fin below G s 0 0 (.inl (some (.int r)), σ)) 0 0 σ 4 [some (.ref 2), some (.int x1), some (.int x2)] [] := by
  intro n
  induction n with
  | zero => intro x1 x2 σ r h; cases h
  | succ n ih =>
    intro x1 x2 σ r h
    rw [ef_B_countOpen_4] at h
    refine ej_iload_n B.1 d_B_countOpen_4 rfl ?_
    refine ej_aload_n B.1 d_B_countOpen_5 rfl ?_
    refine ej_geti B.1 (er_at B 2 rfl rfl) rfl rfl fl_B_28 d_B_countOpen_6 ?_
    refine ej_icmp_ge B.1 (tgt := 30) d_B_countOpen_9 (by decide) (fun q1 => ?_) (fun q1 => ?_)
    · replace h := er_it h q1
      refine ej_iload_n B.1 d_B_countOpen_30 rfl ?_
      cases h
      exact ej_iret B.1 B.2.1 B.2.2.1 (Nat.zero_le _) (Nat.zero_le _) d_B_countOpen_31
    · replace h := er_if h q1
      refine ej_aload_n B.1 d_B_countOpen_12 rfl ?_
      refine ej_getr B.1 (er_at B 2 rfl rfl) rfl rfl fl_B_9 d_B_countOpen_13 ?_
      refine ej_iload_n B.1 d_B_countOpen_16 rfl ?_
      obtain ⟨e2, h⟩ := er_gd_some h
      refine ej_zald B.1 (er_at B 16 rfl rfl) rfl e2 d_B_countOpen_17 ?_
      refine ej_if_eq B.1 (tgt := 24) d_B_countOpen_18 (by decide) (fun q3 => ?_) (fun q3 => ?_)
      · replace h := er_it h q3
        refine ej_iinc B.1 (v := x2 + 1) (lv' := [some (.ref 2), some (.int x1), some (.int (x2 + 1))]) d_B_countOpen_24 rfl rfl rfl rfl rfl ?_
        refine ej_goto B.1 (tgt := 4) d_B_countOpen_27 (by decide) ?_
        exact ej_le (lv' := [some (.ref 2), some (.int x1), some (.int (x2 + 1))]) ⟨rfl, ⟨rfl, ⟨rfl, trivial⟩⟩⟩ (ih x1 (x2 + 1) σ _ h)
      · replace h := er_if h q3
        refine ej_iinc B.1 (v := x1 + 1) (lv' := [some (.ref 2), some (.int (x1 + 1)), some (.int x2)]) d_B_countOpen_21 rfl rfl rfl rfl rfl ?_
        refine ej_iinc B.1 (v := x2 + 1) (lv' := [some (.ref 2), some (.int (x1 + 1)), some (.int (x2 + 1))]) d_B_countOpen_24 rfl rfl rfl rfl rfl ?_
        refine ej_goto B.1 (tgt := 4) d_B_countOpen_27 (by decide) ?_
        exact ej_le (lv' := [some (.ref 2), some (.int (x1 + 1)), some (.int (x2 + 1))]) ⟨rfl, ⟨rfl, ⟨rfl, trivial⟩⟩⟩ (ih (x1 + 1) (x2 + 1) σ _ h)
set_option maxRecDepth 100000 in
set_option maxHeartbeats 4000000 in
theorem ec_B_countOpen {l : Launch} {G : er_G} (hE : er_Pr G 0 21) (σ : er_S) (r : Int32) (h : ef_B_countOpen  σ = some r) : er_Con l y_B_countOpen w_B_countOpen 0 0 0 0 G [.ref 2] σ ((.inl (some (.int r)), σ)) := by
  refine er_ofJ (ret := some .int) (cc := b_B_countOpen) (maxL := 3) (lv0 := [some (.ref 2), none, none]) (hh := []) (by decide +kernel) rfl (Or.inl rfl) (by intro v hv; simp only [List.mem_cons, List.not_mem_nil, or_false] at hv; rcases hv with rfl <;> rfl) (Nat.le_of_ble_eq_true rfl) ?_
  intro p e s m args below meth c hadm C hr hlk hml hw hnm hm hcd
  have B : er_B p s m c meth b_B_countOpen "EntryRows$Boards" G (some .int) 3 0 21 := ⟨C, hr, hlk, hml, hE, er_noh hw hnm hm hcd⟩
  unfold ef_B_countOpen at h
  refine ej_iconst B.1 (v := 0) d_B_countOpen_0 rfl ?_
  refine ej_istore_n B.1 (lv' := [some (.ref 2), some (.int 0), none]) d_B_countOpen_1 rfl rfl rfl ?_
  refine ej_iconst B.1 (v := 0) d_B_countOpen_2 rfl ?_
  refine ej_istore_n B.1 (lv' := [some (.ref 2), some (.int 0), some (.int 0)]) d_B_countOpen_3 rfl rfl rfl ?_
  exact ej_le (lv' := [some (.ref 2), some (.int 0), some (.int 0)]) ⟨rfl, ⟨rfl, ⟨rfl, trivial⟩⟩⟩ (ew_B_countOpen_4 B 64 0 0 σ _ h)
set_option maxRecDepth 100000 in
set_option maxHeartbeats 4000000 in
theorem ec_E_count {l : Launch} {G : er_G} (hl : l.stackTraces = false) (hE : er_Pr G 0 21) (x1 : Int32) (σ : er_S) (r : (Int32 ⊕ Nat) × er_S) (h : ef_E_count x1 σ = some r) : er_Con l y_E_count w_E_count 6 83 (er_nc r.1) (er_ns r.1) G [.ref 0, .int x1] σ (er_cvi r) := by
  refine er_ofJ (ret := some .int) (cc := b_E_count) (maxL := 2) (lv0 := [some (.ref 0), some (.int x1)]) (hh := []) (by decide +kernel) rfl (Or.inl rfl) (by intro v hv; simp only [List.mem_cons, List.not_mem_nil, or_false] at hv; rcases hv with rfl | rfl <;> rfl) (Nat.le_of_ble_eq_true rfl) ?_
  intro p e s m args below meth c hadm C hr hlk hml hw hnm hm hcd
  have B : er_B p s m c meth b_E_count "EntryRows" G (some .int) 2 0 21 := ⟨C, hr, hlk, hml, hE, er_noh hw hnm hm hcd⟩
  have hl := And.intro hadm hl
  unfold ef_E_count at h
  refine ej_iload_n B.1 d_E_count_0 rfl ?_
  by_cases q1 : x1 = 0
  · replace h := er_it h q1
    refine ej_tin B.1 (off := 31) (tgt := 32) d_E_count_1 q1 (by decide) (by decide) (by decide +kernel) (by decide) ?_
    refine ej_aload_n B.1 d_E_count_32 rfl ?_
    refine ej_geti B.1 (er_at B 0 rfl rfl) rfl rfl fl_E_30 d_E_count_33 ?_
    cases h
    exact ej_iret B.1 B.2.1 B.2.2.1 (Nat.zero_le _) (Nat.zero_le _) d_E_count_36
  replace h := er_if h q1
  by_cases q2 : x1 = 1
  · replace h := er_it h q2
    refine ej_tin B.1 (off := 36) (tgt := 37) d_E_count_1 q2 (by decide) (by decide) (by decide +kernel) (by decide) ?_
    refine ej_aload_n B.1 d_E_count_37 rfl ?_
    refine ej_getr B.1 (er_at B 0 rfl rfl) rfl rfl fl_E_10 d_E_count_38 ?_
    obtain ⟨v3, e4, h⟩ := er_bd_some h
    refine ej_cv_i (nc := 0) (ns := 0) B.1 [] [] (ec_P_countInside (er_pr B) σ v3 e4) cal_P_countInside lk_E_202 in_P_countInside (er_at B 1 rfl rfl) rfl rfl se_P_countInside rfl B.2.2.2.1 d_E_count_41 ⟨Nat.le_of_ble_eq_true rfl, Nat.le_of_ble_eq_true rfl, Nat.zero_le _, Nat.zero_le _⟩ (Nat.le_of_ble_eq_true rfl) rfl ?_
    cases h
    exact ej_iret B.1 B.2.1 B.2.2.1 (Nat.zero_le _) (Nat.zero_le _) d_E_count_44
  replace h := er_if h q2
  by_cases q5 : x1 = 2
  · replace h := er_it h q5
    refine ej_tin B.1 (off := 44) (tgt := 45) d_E_count_1 q5 (by decide) (by decide) (by decide +kernel) (by decide) ?_
    refine ej_aload_n B.1 d_E_count_45 rfl ?_
    refine ej_geti B.1 (er_at B 0 rfl rfl) rfl rfl fl_E_34 d_E_count_46 ?_
    cases h
    exact ej_iret B.1 B.2.1 B.2.2.1 (Nat.zero_le _) (Nat.zero_le _) d_E_count_49
  replace h := er_if h q5
  by_cases q6 : x1 = 3
  · replace h := er_it h q6
    refine ej_tin B.1 (off := 49) (tgt := 50) d_E_count_1 q6 (by decide) (by decide) (by decide +kernel) (by decide) ?_
    refine ej_aload_n B.1 d_E_count_50 rfl ?_
    refine ej_getr B.1 (er_at B 0 rfl rfl) rfl rfl fl_E_19 d_E_count_51 ?_
    obtain ⟨v7, e8, h⟩ := er_bd_some h
    refine ej_cv_i (nc := 0) (ns := 0) B.1 [] [] (ec_B_countOpen (er_pr B) σ v7 e8) cal_B_countOpen lk_E_206 in_B_countOpen (er_at B 2 rfl rfl) rfl rfl se_B_countOpen rfl B.2.2.2.1 d_E_count_54 ⟨Nat.le_of_ble_eq_true rfl, Nat.le_of_ble_eq_true rfl, Nat.zero_le _, Nat.zero_le _⟩ (Nat.le_of_ble_eq_true rfl) rfl ?_
    cases h
    exact ej_iret B.1 B.2.1 B.2.2.1 (Nat.zero_le _) (Nat.zero_le _) d_E_count_57
  replace h := er_if h q6
  refine ej_tout B.1 (tgt := 58) d_E_count_1 (by have z0 := lv_neT (a := 0) q1 (by decide); have z1 := lv_neT (a := 1) q2 (by decide); have z2 := lv_neT (a := 2) q5 (by decide); have z3 := lv_neT (a := 3) q6 (by decide); omega) (by decide) ?_
  cases h
  exact th_E_count_58 B hl
end
