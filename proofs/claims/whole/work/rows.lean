section
-- ===== PART A: goes FIRST, ahead of the names: the tables' words, and 'selects' of the private methods out of them =====
/-- a private method of a class that the tables say can be made, by its rows of tables_1 -/
def lw_okq (q : MethodName × Nat) : Prop := (q.1.cls ≠ "java/lang/invoke/MethodHandle" ∧ q.1.cls ≠ "java/lang/invoke/VarHandle") ∧ Cond.instantiable q.1.cls q.2 ∈ tables_1 ∧ Cond.privateMethod q.1 ∈ tables_1 ∧ Cond.instanceMethod q.1 ∈ tables_1
theorem lw_p0 : lw_okq (⟨"SourcePositions", "begin", "()V"⟩, 8) := ⟨⟨by decide +kernel, by decide +kernel⟩, List.mem_of_getElem? (i := 17) (by decide +kernel), List.mem_of_getElem? (i := 170) (by decide +kernel), List.mem_of_getElem? (i := 171) (by decide +kernel)⟩
theorem lw_p1 : lw_okq (⟨"SourcePositions$Findings", "forget", "()V"⟩, 5) := ⟨⟨by decide +kernel, by decide +kernel⟩, List.mem_of_getElem? (i := 29) (by decide +kernel), List.mem_of_getElem? (i := 174) (by decide +kernel), List.mem_of_getElem? (i := 175) (by decide +kernel)⟩
theorem lw_p2 : lw_okq (⟨"SourcePositions$Deliveries", "forget", "()V"⟩, 6) := ⟨⟨by decide +kernel, by decide +kernel⟩, List.mem_of_getElem? (i := 58) (by decide +kernel), List.mem_of_getElem? (i := 178) (by decide +kernel), List.mem_of_getElem? (i := 179) (by decide +kernel)⟩
theorem lw_p3 : lw_okq (⟨"SourcePositions", "addPart", "(II)I"⟩, 8) := ⟨⟨by decide +kernel, by decide +kernel⟩, List.mem_of_getElem? (i := 17) (by decide +kernel), List.mem_of_getElem? (i := 211) (by decide +kernel), List.mem_of_getElem? (i := 212) (by decide +kernel)⟩
theorem lw_p4 : lw_okq (⟨"SourcePositions$Part", "beginAnew", "(II)V"⟩, 11) := ⟨⟨by decide +kernel, by decide +kernel⟩, List.mem_of_getElem? (i := 88) (by decide +kernel), List.mem_of_getElem? (i := 215) (by decide +kernel), List.mem_of_getElem? (i := 216) (by decide +kernel)⟩
theorem lw_p5 : lw_okq (⟨"SourcePositions$Part", "stand", "(III)V"⟩, 11) := ⟨⟨by decide +kernel, by decide +kernel⟩, List.mem_of_getElem? (i := 88) (by decide +kernel), List.mem_of_getElem? (i := 219) (by decide +kernel), List.mem_of_getElem? (i := 220) (by decide +kernel)⟩
theorem lw_p6 : lw_okq (⟨"SourcePositions", "isPart", "(I)Z"⟩, 8) := ⟨⟨by decide +kernel, by decide +kernel⟩, List.mem_of_getElem? (i := 17) (by decide +kernel), List.mem_of_getElem? (i := 227) (by decide +kernel), List.mem_of_getElem? (i := 228) (by decide +kernel)⟩
theorem lw_p7 : lw_okq (⟨"SourcePositions$Part", "addRow", "(IIZ)V"⟩, 11) := ⟨⟨by decide +kernel, by decide +kernel⟩, List.mem_of_getElem? (i := 88) (by decide +kernel), List.mem_of_getElem? (i := 238) (by decide +kernel), List.mem_of_getElem? (i := 239) (by decide +kernel)⟩
theorem lw_p8 : lw_okq (⟨"SourcePositions$Part", "hasRow", "(I)Z"⟩, 11) := ⟨⟨by decide +kernel, by decide +kernel⟩, List.mem_of_getElem? (i := 88) (by decide +kernel), List.mem_of_getElem? (i := 250) (by decide +kernel), List.mem_of_getElem? (i := 251) (by decide +kernel)⟩
theorem lw_p9 : lw_okq (⟨"SourcePositions$Part", "moveRowsFrom", "(ILSourcePositions$Part;)V"⟩, 11) := ⟨⟨by decide +kernel, by decide +kernel⟩, List.mem_of_getElem? (i := 88) (by decide +kernel), List.mem_of_getElem? (i := 254) (by decide +kernel), List.mem_of_getElem? (i := 255) (by decide +kernel)⟩
theorem lw_p10 : lw_okq (⟨"SourcePositions", "isTask", "(I)Z"⟩, 8) := ⟨⟨by decide +kernel, by decide +kernel⟩, List.mem_of_getElem? (i := 17) (by decide +kernel), List.mem_of_getElem? (i := 263) (by decide +kernel), List.mem_of_getElem? (i := 264) (by decide +kernel)⟩
theorem lw_p11 : lw_okq (⟨"SourcePositions$Part", "isDone", "()Z"⟩, 11) := ⟨⟨by decide +kernel, by decide +kernel⟩, List.mem_of_getElem? (i := 88) (by decide +kernel), List.mem_of_getElem? (i := 267) (by decide +kernel), List.mem_of_getElem? (i := 268) (by decide +kernel)⟩
theorem lw_p12 : lw_okq (⟨"SourcePositions$Part", "isReady", "()Z"⟩, 11) := ⟨⟨by decide +kernel, by decide +kernel⟩, List.mem_of_getElem? (i := 88) (by decide +kernel), List.mem_of_getElem? (i := 271) (by decide +kernel), List.mem_of_getElem? (i := 272) (by decide +kernel)⟩
theorem lw_p13 : lw_okq (⟨"SourcePositions", "chooseByCredit", "(I)I"⟩, 8) := ⟨⟨by decide +kernel, by decide +kernel⟩, List.mem_of_getElem? (i := 17) (by decide +kernel), List.mem_of_getElem? (i := 280) (by decide +kernel), List.mem_of_getElem? (i := 281) (by decide +kernel)⟩
theorem lw_p14 : lw_okq (⟨"SourcePositions$Part", "isReadyFor", "(I)Z"⟩, 11) := ⟨⟨by decide +kernel, by decide +kernel⟩, List.mem_of_getElem? (i := 88) (by decide +kernel), List.mem_of_getElem? (i := 284) (by decide +kernel), List.mem_of_getElem? (i := 285) (by decide +kernel)⟩
theorem lw_p15 : lw_okq (⟨"SourcePositions", "deliverFrom", "(I)I"⟩, 8) := ⟨⟨by decide +kernel, by decide +kernel⟩, List.mem_of_getElem? (i := 17) (by decide +kernel), List.mem_of_getElem? (i := 288) (by decide +kernel), List.mem_of_getElem? (i := 289) (by decide +kernel)⟩
def lw_privs_1 : List (MethodName × Nat) := [(⟨"SourcePositions", "begin", "()V"⟩, 8), (⟨"SourcePositions$Findings", "forget", "()V"⟩, 5), (⟨"SourcePositions$Deliveries", "forget", "()V"⟩, 6), (⟨"SourcePositions", "addPart", "(II)I"⟩, 8), (⟨"SourcePositions$Part", "beginAnew", "(II)V"⟩, 11), (⟨"SourcePositions$Part", "stand", "(III)V"⟩, 11), (⟨"SourcePositions", "isPart", "(I)Z"⟩, 8), (⟨"SourcePositions$Part", "addRow", "(IIZ)V"⟩, 11), (⟨"SourcePositions$Part", "hasRow", "(I)Z"⟩, 11), (⟨"SourcePositions$Part", "moveRowsFrom", "(ILSourcePositions$Part;)V"⟩, 11), (⟨"SourcePositions", "isTask", "(I)Z"⟩, 8), (⟨"SourcePositions$Part", "isDone", "()Z"⟩, 11), (⟨"SourcePositions$Part", "isReady", "()Z"⟩, 11), (⟨"SourcePositions", "chooseByCredit", "(I)I"⟩, 8), (⟨"SourcePositions$Part", "isReadyFor", "(I)Z"⟩, 11), (⟨"SourcePositions", "deliverFrom", "(I)I"⟩, 8)]
theorem lw_r1 : ∀ q ∈ lw_privs_1, lw_okq q := List.forall_mem_cons.mpr ⟨lw_p0, List.forall_mem_cons.mpr ⟨lw_p1, List.forall_mem_cons.mpr ⟨lw_p2, List.forall_mem_cons.mpr ⟨lw_p3, List.forall_mem_cons.mpr ⟨lw_p4, List.forall_mem_cons.mpr ⟨lw_p5, List.forall_mem_cons.mpr ⟨lw_p6, List.forall_mem_cons.mpr ⟨lw_p7, List.forall_mem_cons.mpr ⟨lw_p8, List.forall_mem_cons.mpr ⟨lw_p9, List.forall_mem_cons.mpr ⟨lw_p10, List.forall_mem_cons.mpr ⟨lw_p11, List.forall_mem_cons.mpr ⟨lw_p12, List.forall_mem_cons.mpr ⟨lw_p13, List.forall_mem_cons.mpr ⟨lw_p14, List.forall_mem_cons.mpr ⟨lw_p15, fun _ h => absurd h List.not_mem_nil⟩⟩⟩⟩⟩⟩⟩⟩⟩⟩⟩⟩⟩⟩⟩⟩
theorem lw_p16 : lw_okq (⟨"SourcePositions", "noteLatest", "(II)V"⟩, 8) := ⟨⟨by decide +kernel, by decide +kernel⟩, List.mem_of_getElem? (i := 17) (by decide +kernel), List.mem_of_getElem? (i := 293) (by decide +kernel), List.mem_of_getElem? (i := 294) (by decide +kernel)⟩
theorem lw_p17 : lw_okq (⟨"SourcePositions$Deliveries", "take", "([Z)Z"⟩, 6) := ⟨⟨by decide +kernel, by decide +kernel⟩, List.mem_of_getElem? (i := 58) (by decide +kernel), List.mem_of_getElem? (i := 297) (by decide +kernel), List.mem_of_getElem? (i := 298) (by decide +kernel)⟩
theorem lw_p18 : lw_okq (⟨"SourcePositions$Findings", "setAside", "(II)V"⟩, 5) := ⟨⟨by decide +kernel, by decide +kernel⟩, List.mem_of_getElem? (i := 29) (by decide +kernel), List.mem_of_getElem? (i := 301) (by decide +kernel), List.mem_of_getElem? (i := 302) (by decide +kernel)⟩
theorem lw_p19 : lw_okq (⟨"SourcePositions$Part", "pass", "()V"⟩, 11) := ⟨⟨by decide +kernel, by decide +kernel⟩, List.mem_of_getElem? (i := 88) (by decide +kernel), List.mem_of_getElem? (i := 305) (by decide +kernel), List.mem_of_getElem? (i := 306) (by decide +kernel)⟩
theorem lw_p20 : lw_okq (⟨"SourcePositions$Findings", "addGiven", "(I)V"⟩, 5) := ⟨⟨by decide +kernel, by decide +kernel⟩, List.mem_of_getElem? (i := 29) (by decide +kernel), List.mem_of_getElem? (i := 312) (by decide +kernel), List.mem_of_getElem? (i := 313) (by decide +kernel)⟩
theorem lw_p21 : lw_okq (⟨"SourcePositions$Deliveries", "tell", "(IZ)Z"⟩, 6) := ⟨⟨by decide +kernel, by decide +kernel⟩, List.mem_of_getElem? (i := 58) (by decide +kernel), List.mem_of_getElem? (i := 324) (by decide +kernel), List.mem_of_getElem? (i := 325) (by decide +kernel)⟩
theorem lw_p22 : lw_okq (⟨"SourcePositions$Mark", "keep", "([LSourcePositions$Part;ILSourcePositions$Findings;)V"⟩, 6) := ⟨⟨by decide +kernel, by decide +kernel⟩, List.mem_of_getElem? (i := 142) (by decide +kernel), List.mem_of_getElem? (i := 332) (by decide +kernel), List.mem_of_getElem? (i := 333) (by decide +kernel)⟩
theorem lw_p23 : lw_okq (⟨"SourcePositions$Findings", "copyFrom", "(LSourcePositions$Findings;)V"⟩, 5) := ⟨⟨by decide +kernel, by decide +kernel⟩, List.mem_of_getElem? (i := 29) (by decide +kernel), List.mem_of_getElem? (i := 339) (by decide +kernel), List.mem_of_getElem? (i := 340) (by decide +kernel)⟩
theorem lw_p24 : lw_okq (⟨"SourcePositions$Mark", "bringBack", "(ILSourcePositions$Part;I)V"⟩, 6) := ⟨⟨by decide +kernel, by decide +kernel⟩, List.mem_of_getElem? (i := 142) (by decide +kernel), List.mem_of_getElem? (i := 350) (by decide +kernel), List.mem_of_getElem? (i := 351) (by decide +kernel)⟩
theorem lw_p25 : lw_okq (⟨"SourcePositions$Part", "firstPlaceFrom", "(I)I"⟩, 11) := ⟨⟨by decide +kernel, by decide +kernel⟩, List.mem_of_getElem? (i := 88) (by decide +kernel), List.mem_of_getElem? (i := 360) (by decide +kernel), List.mem_of_getElem? (i := 361) (by decide +kernel)⟩
theorem lw_p26 : lw_okq (⟨"SourcePositions", "countDone", "()I"⟩, 8) := ⟨⟨by decide +kernel, by decide +kernel⟩, List.mem_of_getElem? (i := 17) (by decide +kernel), List.mem_of_getElem? (i := 392) (by decide +kernel), List.mem_of_getElem? (i := 393) (by decide +kernel)⟩
theorem lw_p27 : lw_okq (⟨"java/lang/NullPointerException", "getExtendedNPEMessage", "()Ljava/lang/String;"⟩, 8) := ⟨⟨by decide +kernel, by decide +kernel⟩, List.mem_of_getElem? (i := 433) (by decide +kernel), List.mem_of_getElem? (i := 431) (by decide +kernel), List.mem_of_getElem? (i := 432) (by decide +kernel)⟩
theorem lw_p28 : lw_okq (⟨"java/lang/Throwable", "fillInStackTrace", "(I)Ljava/lang/Throwable;"⟩, 6) := ⟨⟨by decide +kernel, by decide +kernel⟩, List.mem_of_getElem? (i := 442) (by decide +kernel), List.mem_of_getElem? (i := 440) (by decide +kernel), List.mem_of_getElem? (i := 441) (by decide +kernel)⟩
theorem lw_p29 : lw_okq (⟨"SourcePositionsModel", "forgets", "()V"⟩, 26) := ⟨⟨by decide +kernel, by decide +kernel⟩, List.mem_of_getElem? (i := 535) (by decide +kernel), List.mem_of_getElem? (i := 541) (by decide +kernel), List.mem_of_getElem? (i := 542) (by decide +kernel)⟩
theorem lw_p30 : lw_okq (⟨"SourcePositionsModel", "adds", "(II)I"⟩, 26) := ⟨⟨by decide +kernel, by decide +kernel⟩, List.mem_of_getElem? (i := 535) (by decide +kernel), List.mem_of_getElem? (i := 635) (by decide +kernel), List.mem_of_getElem? (i := 636) (by decide +kernel)⟩
theorem lw_p31 : lw_okq (⟨"SourcePositionsModel", "fresh", "(I)V"⟩, 26) := ⟨⟨by decide +kernel, by decide +kernel⟩, List.mem_of_getElem? (i := 535) (by decide +kernel), List.mem_of_getElem? (i := 639) (by decide +kernel), List.mem_of_getElem? (i := 640) (by decide +kernel)⟩
def lw_privs_2 : List (MethodName × Nat) := [(⟨"SourcePositions", "noteLatest", "(II)V"⟩, 8), (⟨"SourcePositions$Deliveries", "take", "([Z)Z"⟩, 6), (⟨"SourcePositions$Findings", "setAside", "(II)V"⟩, 5), (⟨"SourcePositions$Part", "pass", "()V"⟩, 11), (⟨"SourcePositions$Findings", "addGiven", "(I)V"⟩, 5), (⟨"SourcePositions$Deliveries", "tell", "(IZ)Z"⟩, 6), (⟨"SourcePositions$Mark", "keep", "([LSourcePositions$Part;ILSourcePositions$Findings;)V"⟩, 6), (⟨"SourcePositions$Findings", "copyFrom", "(LSourcePositions$Findings;)V"⟩, 5), (⟨"SourcePositions$Mark", "bringBack", "(ILSourcePositions$Part;I)V"⟩, 6), (⟨"SourcePositions$Part", "firstPlaceFrom", "(I)I"⟩, 11), (⟨"SourcePositions", "countDone", "()I"⟩, 8), (⟨"java/lang/NullPointerException", "getExtendedNPEMessage", "()Ljava/lang/String;"⟩, 8), (⟨"java/lang/Throwable", "fillInStackTrace", "(I)Ljava/lang/Throwable;"⟩, 6), (⟨"SourcePositionsModel", "forgets", "()V"⟩, 26), (⟨"SourcePositionsModel", "adds", "(II)I"⟩, 26), (⟨"SourcePositionsModel", "fresh", "(I)V"⟩, 26)]
theorem lw_r2 : ∀ q ∈ lw_privs_2, lw_okq q := List.forall_mem_cons.mpr ⟨lw_p16, List.forall_mem_cons.mpr ⟨lw_p17, List.forall_mem_cons.mpr ⟨lw_p18, List.forall_mem_cons.mpr ⟨lw_p19, List.forall_mem_cons.mpr ⟨lw_p20, List.forall_mem_cons.mpr ⟨lw_p21, List.forall_mem_cons.mpr ⟨lw_p22, List.forall_mem_cons.mpr ⟨lw_p23, List.forall_mem_cons.mpr ⟨lw_p24, List.forall_mem_cons.mpr ⟨lw_p25, List.forall_mem_cons.mpr ⟨lw_p26, List.forall_mem_cons.mpr ⟨lw_p27, List.forall_mem_cons.mpr ⟨lw_p28, List.forall_mem_cons.mpr ⟨lw_p29, List.forall_mem_cons.mpr ⟨lw_p30, List.forall_mem_cons.mpr ⟨lw_p31, fun _ h => absurd h List.not_mem_nil⟩⟩⟩⟩⟩⟩⟩⟩⟩⟩⟩⟩⟩⟩⟩⟩
theorem lw_p32 : lw_okq (⟨"SourcePositionsModel", "isPart", "(I)Z"⟩, 26) := ⟨⟨by decide +kernel, by decide +kernel⟩, List.mem_of_getElem? (i := 535) (by decide +kernel), List.mem_of_getElem? (i := 647) (by decide +kernel), List.mem_of_getElem? (i := 648) (by decide +kernel)⟩
theorem lw_p33 : lw_okq (⟨"SourcePositionsModel", "lays", "(IIIZ)V"⟩, 26) := ⟨⟨by decide +kernel, by decide +kernel⟩, List.mem_of_getElem? (i := 535) (by decide +kernel), List.mem_of_getElem? (i := 652) (by decide +kernel), List.mem_of_getElem? (i := 653) (by decide +kernel)⟩
theorem lw_p34 : lw_okq (⟨"SourcePositionsModel", "isDone", "(I)Z"⟩, 26) := ⟨⟨by decide +kernel, by decide +kernel⟩, List.mem_of_getElem? (i := 535) (by decide +kernel), List.mem_of_getElem? (i := 668) (by decide +kernel), List.mem_of_getElem? (i := 669) (by decide +kernel)⟩
theorem lw_p35 : lw_okq (⟨"SourcePositionsModel", "isReady", "(I)Z"⟩, 26) := ⟨⟨by decide +kernel, by decide +kernel⟩, List.mem_of_getElem? (i := 535) (by decide +kernel), List.mem_of_getElem? (i := 672) (by decide +kernel), List.mem_of_getElem? (i := 673) (by decide +kernel)⟩
theorem lw_p36 : lw_okq (⟨"SourcePositionsModel", "reader", "(I)I"⟩, 26) := ⟨⟨by decide +kernel, by decide +kernel⟩, List.mem_of_getElem? (i := 535) (by decide +kernel), List.mem_of_getElem? (i := 676) (by decide +kernel), List.mem_of_getElem? (i := 677) (by decide +kernel)⟩
theorem lw_p37 : lw_okq (⟨"SourcePositionsModel", "nextOf", "(I)I"⟩, 26) := ⟨⟨by decide +kernel, by decide +kernel⟩, List.mem_of_getElem? (i := 535) (by decide +kernel), List.mem_of_getElem? (i := 684) (by decide +kernel), List.mem_of_getElem? (i := 685) (by decide +kernel)⟩
theorem lw_p38 : lw_okq (⟨"SourcePositionsModel", "notes", "(II)V"⟩, 26) := ⟨⟨by decide +kernel, by decide +kernel⟩, List.mem_of_getElem? (i := 535) (by decide +kernel), List.mem_of_getElem? (i := 688) (by decide +kernel), List.mem_of_getElem? (i := 689) (by decide +kernel)⟩
theorem lw_p39 : lw_okq (⟨"SourcePositionsModel", "passes", "(I)V"⟩, 26) := ⟨⟨by decide +kernel, by decide +kernel⟩, List.mem_of_getElem? (i := 535) (by decide +kernel), List.mem_of_getElem? (i := 692) (by decide +kernel), List.mem_of_getElem? (i := 693) (by decide +kernel)⟩
theorem lw_p40 : lw_okq (⟨"SourcePositionsModel", "givesNone", "()V"⟩, 26) := ⟨⟨by decide +kernel, by decide +kernel⟩, List.mem_of_getElem? (i := 535) (by decide +kernel), List.mem_of_getElem? (i := 716) (by decide +kernel), List.mem_of_getElem? (i := 717) (by decide +kernel)⟩
def lw_privs_3 : List (MethodName × Nat) := [(⟨"SourcePositionsModel", "isPart", "(I)Z"⟩, 26), (⟨"SourcePositionsModel", "lays", "(IIIZ)V"⟩, 26), (⟨"SourcePositionsModel", "isDone", "(I)Z"⟩, 26), (⟨"SourcePositionsModel", "isReady", "(I)Z"⟩, 26), (⟨"SourcePositionsModel", "reader", "(I)I"⟩, 26), (⟨"SourcePositionsModel", "nextOf", "(I)I"⟩, 26), (⟨"SourcePositionsModel", "notes", "(II)V"⟩, 26), (⟨"SourcePositionsModel", "passes", "(I)V"⟩, 26), (⟨"SourcePositionsModel", "givesNone", "()V"⟩, 26)]
theorem lw_r3 : ∀ q ∈ lw_privs_3, lw_okq q := List.forall_mem_cons.mpr ⟨lw_p32, List.forall_mem_cons.mpr ⟨lw_p33, List.forall_mem_cons.mpr ⟨lw_p34, List.forall_mem_cons.mpr ⟨lw_p35, List.forall_mem_cons.mpr ⟨lw_p36, List.forall_mem_cons.mpr ⟨lw_p37, List.forall_mem_cons.mpr ⟨lw_p38, List.forall_mem_cons.mpr ⟨lw_p39, List.forall_mem_cons.mpr ⟨lw_p40, fun _ h => absurd h List.not_mem_nil⟩⟩⟩⟩⟩⟩⟩⟩⟩
def lw_privs : List (MethodName × Nat) := lw_privs_1 ++ (lw_privs_2 ++ (lw_privs_3))
def lw_tbl : List Cond := k2_sels lw_privs ++ tables_1
theorem lw_privs_ok : ∀ q ∈ lw_privs, lw_okq q := by
  show ∀ q ∈ lw_privs_1 ++ (lw_privs_2 ++ (lw_privs_3)), lw_okq q
  exact List.forall_mem_append.mpr ⟨lw_r1, List.forall_mem_append.mpr ⟨lw_r2, lw_r3⟩⟩
end
section
/-! ===== BEGIN words of one list among another's, by their places ===== -/
theorem goodIn_r {big : List Cond} (ws : List Cond) (ps : List Nat) (hp : ws = ps.filterMap (fun i => big[i]?)) (h : ws.all goodWord = true) : GoodIn big ws := by
  intro w hw
  have h1 := List.all_eq_true.mp h w hw
  rw [hp] at hw
  obtain ⟨i, -, hi⟩ := List.mem_filterMap.mp hw
  have hm : w ∈ big := by first | exact List.mem_of_getElem? hi | exact List.getElem?_mem hi
  exact ⟨hm, good_of_word h1⟩
theorem goodIn_app {big a b : List Cond} (ha : GoodIn big a) (hb : GoodIn big b) : GoodIn big (a ++ b) := fun w h => (List.mem_append.mp h).elim (ha w) (hb w)
theorem goodIn_ca {big a b : List Cond} {c : Cond} (ha : GoodIn big (c :: a)) (hb : GoodIn big b) : GoodIn big (c :: (a ++ b)) := fun w h => (List.mem_cons.mp h).elim (fun e => ha w (List.mem_cons.mpr (Or.inl e))) (fun h => (List.mem_append.mp h).elim (fun h => ha w (List.mem_cons.mpr (Or.inr h))) (hb w))
theorem goodIn_sub {big ws : List Cond} (hm : ∀ w ∈ ws, w ∈ big) (h : ws.all goodWord = true) : GoodIn big ws := fun w hw => ⟨hm w hw, good_of_word (List.all_eq_true.mp h w hw)⟩
/-! ===== END ===== -/
/-! ===== BEGIN exceptions that leave a method, and their catching by the caller (launches without stack traces) ===== -/
section VXA
/-! The laws vx_back, vx_callV, vx_callS, vx_callSW, vx_throw0, vx_throwS follow proofs of the library, with one case more: JvmDerived/Free/Laws.lean (Back.of_free), Shelf42/LK1.lean (callV, callS), Shelf/KitTraced.lean (throwNew0V, throwNewS). -/
/-- where a method has thrown q: the class by its name, the cell, what was written, the world -/
def vx_T (XC : String → State → State → Prop) (st : State) (q : Addr) (t : State) (mc ms : Nat) (free : Addr → Prop) : Prop :=
  ∃ (E : String) (ce : Cell) (L : List Loc), XC E st t ∧ t.heap[q]? = some ce ∧ ce.vm = .none ∧ st.vm.findClass E = some ce.cls ∧ st.WarmedH t.vm ∧ st.sameButNew ({ t with vm := st.vm } : State) L mc ms ∧ ∀ z ∈ L, free z.base
def vx_Q (Qc : Array Value → State → Outcome → State → Prop) (XC : String → State → State → Prop) (mc ms : Nat) (free : Addr → Prop) : Array Value → State → Outcome → State → Prop := fun a st o t =>
  (Qc a st o t ∧ ∃ L, FrameEnd st o t L mc ms ∧ ∀ q ∈ L, free q.base) ∨ ∃ q, o = .threw q ∧ vx_T XC st q t mc ms free
/-- a callee that returns or throws -/
def vx_Met (l : Launch) (y : MethodName) (ws : List Cond) (rm : Room) (Pc : Array Value → State → Prop) (Qc : Array Value → State → Outcome → State → Prop) (XC : String → State → State → Prop) (mc ms : Nat) (free : Addr → Prop) : Prop :=
  MetFree l y (headSpec ws rm) Pc (fun _ _ _ _ _ => True) (vx_Q Qc XC mc ms free)
def vx_Post (XC : String → State → State → Prop) (mc ms : Nat) (free : Addr → Prop) : Pt → Array Value → Addr → Pt → Prop := fun A a q B =>
  ∃ (g : JFrame) (mk : MethodId) (t : State) (L : List Loc) (E : String) (ce : Cell), B.U.heap = t.heap ∧ B.U.vm = t.vm ∧ XC E (A.U.calling g mk a) t ∧ t.heap[q]? = some ce ∧ ce.vm = .none ∧ A.U.vm.findClass E = some ce.cls ∧ B.locs = A.locs ++ L ∧ (∀ z ∈ L, free z.base) ∧ B.cells = A.cells + mc ∧ B.slots = A.slots + ms
def vx_Back (l : Launch) (R : Room) (p : Program) (e : Env) (below : List Frame) (s : State) (sargs : Array Value) (y : MethodName) (len W9 : Nat)
    (Pre : Pt → Array Value → Prop) (Post : Pt → Array Value → Option Value → Pt → Prop) (PostX : Pt → Array Value → Addr → Pt → Prop) : Prop :=
  ∀ (m : MethodId) (meth : Method) (c : Code) (A : Pt) (g : JFrame) (ig : Instr) (mk : MethodId) (a : Array Value),
    Stand p l e R s m sargs below meth c A.U A.locs A.cells A.slots → g.method = m → g.locals.size = c.maxLocals → decode c.code g.pc = .ok (ig, len) →
    2 * g.monitorRoom + (g.stack.map fun v => v.category).sum ≤ W9 → A.U.methodNamed? y = some mk → Pre A a →
    (∃ (v : Option Value) (B : Pt), Stand p l e R s m sargs below meth c B.U B.locs B.cells B.slots ∧ Post A a v B ∧
      Steps p.tables e below (doInvoke e (A.U.setTop g) [] mk a).1 (B.U.setTop { g with pc := g.pc + len, stack := v.toList ++ g.stack })) ∨
    (∃ (q : Addr) (B : Pt), Stand p l e R s m sargs below meth c B.U B.locs B.cells B.slots ∧ PostX A a q B ∧
      Steps p.tables e below (doInvoke e (A.U.setTop g) [] mk a).1 ((B.U.setTop g).pushFrame (.throwing q)))
section Payer
variable {l : Launch} {R : Room} {p : Program} {e : Env} {below : List Frame} {s : State} {sargs : Array Value} {y : MethodName} {len W9 : Nat}
theorem vx_back {ws : List Cond} {rm : Room} {Pc : Array Value → State → Prop} {Qc : Array Value → State → Outcome → State → Prop} {XC : String → State → State → Prop} {mc ms : Nat} {free : Addr → Prop} {bytes : ByteArray} {maxL : Nat} {ret : Option FieldType}
    (hM : vx_Met l y ws rm Pc Qc XC mc ms free) (hblind : FrameBlind Pc) (hrc : rm.cells = mc) (hrs : rm.slots = ms)
    (hframes : rm.frames + 1 ≤ R.frames) (hlocals : W9 + (maxL + 11) + rm.locals ≤ R.locals)
    (hws : ∀ w ∈ ws, ∀ a' U, s.WarmedH U.vm → w.before a' U = true) (hcode : Cond.code y bytes maxL ret ∈ ws) (hinit : ∀ a' U, s.WarmedH U.vm → (Cond.initialized y.cls).before a' U = true) :
    vx_Back l R p e below s sargs y len W9 (PreOf R mc ms Pc) (PostOf Qc mc ms free) (vx_Post XC mc ms free) := by
  intro m meth c A g ig mk a X hg hsize hdg hW hn hp
  have h1 : (headSpec ws rm).pre.before a A.U = true := atoms_intro fun w hw => hws w hw _ _ X.warmed
  have h2 : (Cond.code y bytes maxL ret).before a A.U = true := hws _ hcode _ _ X.warmed
  have h3 : (Cond.initialized y.cls).before a A.U = true := hinit _ _ X.warmed
  have h4 : A.cells + (headSpec ws rm).room.cells ≤ R.cells := by rw [show (headSpec ws rm).room.cells = mc from hrc]; exact hp.1
  have h5 : A.slots + (headSpec ws rm).room.slots ≤ R.slots := by rw [show (headSpec ws rm).room.slots = ms from hrs]; exact hp.2.1
  have hPc : Pc a (A.U.calling g mk a) := hblind _ _ _ _ hp.2.2
  obtain ⟨U, Ls, c0, s0⟩ := A
  dsimp only [Pt.U, Pt.locs, Pt.cells, Pt.slots] at h1 h2 h3 h4 h5 X hn hPc ⊢
  obtain ⟨methY, cY, hmY, hcY, -, hlY, -, -, -, -⟩ := Cond.code_spec hn h2
  obtain ⟨kY, hkY, -⟩ := className_of_methodNamed hn
  have hinitY : kY.init = .initialized := Cond.initialized_spec (findClass_of_methodNamed hn) hkY h3
  have h : At U g.method c below := by rw [hg]; exact X.here
  have hlocals9 : W9 + (maxL + 11) + (headSpec ws rm).room.locals ≤ R.locals := hlocals
  have happ : (headSpec ws rm).appliesLoose y e.platform (U.calling g mk a) = true :=
    Spec.appliesLoose_calling (g := g) h hdg hn hkY hinitY
      (X.room_calling (g := g) (R' := (headSpec ws rm).room) hsize hmY hcY hframes (by rw [hlY]; omega) h4 h5) h1
  obtain ⟨mid, hmid⟩ := h.above
  have hfr : (U.setTop g).frames = (.java g :: mid) ++ below := by rw [State.frames_setTop' g h.top, hmid]; rfl
  obtain ⟨o, s₂, hsteps, -, hend, hq⟩ := Steps.callFree hM p X.admits X.cas X.clock (acts := []) hfr happ hPc trivial
  have hq' : vx_Q Qc XC mc ms free a (U.calling g mk a) o s₂ := hq
  rw [State.frames_setTop' g h.top] at hend
  obtain ⟨g₀, hg0⟩ := Option.isSome_iff_exists.mp h.top
  obtain ⟨r, hr⟩ := State.topJava?_eq_some.mp hg0
  have hr' : (({ U with heap := s₂.heap, slotsUsed := s₂.slotsUsed } : State).setVm s₂.vm).frames = .java g₀ :: r := hr
  rcases hq' with ⟨hqc, L, hfe, hL⟩ | ⟨q, rfl, E, ce, L, hx, hce, hcv, hcl, hW₂, hsm, hL⟩
  · obtain ⟨⟨v, rfl⟩, hW₂, e2, q2, q3, q4, q5, q6⟩ := id hfe
    have e3 : s₂ = ({ (U.calling g mk a).setFrames s₂.frames with heap := s₂.heap, slotsUsed := s₂.slotsUsed } : State).setVm s₂.vm := by
      have : s₂ = ({ s₂ with vm := (U.calling g mk a).vm } : State).setVm s₂.vm := rfl
      rw [e2] at this
      exact this
    obtain ⟨c₂, i₂, len₂, hc₂, hd₂, hf₂⟩ := hend
    have hW' : U.WarmedH s₂.vm := hW₂
    have hcc : c₂ = c := by
      have h1 : s₂.code? g.method = U.code? g.method := by
        rw [State.code?_eq, State.code?_eq, hW'.alike.method?]
      exact Option.some.inj (hc₂.symm.trans (h1.trans h.code))
    subst hcc
    have hlen : len₂ = len := by rw [hdg] at hd₂; cases hd₂; rfl
    subst hlen
    have hs₂ : s₂ = (({ U with heap := s₂.heap, slotsUsed := s₂.slotsUsed } : State).setVm s₂.vm).setTop { g with pc := g.pc + len₂, stack := v.toList ++ g.stack } := by
      refine e3.trans ?_
      rw [hf₂, State.calling_eq h.top, State.setFrames_setFrames, State.setTop_of_frames _ hr', hr]
      rfl
    have hsame : U.sameButNew ({ U with heap := s₂.heap, slotsUsed := s₂.slotsUsed } : State) L mc ms := by
      refine ⟨?_, q2, q3, q4, q5, q6⟩
      obtain ⟨t, ht, -⟩ := State.frames_cons hr
      show ({ U with heap := s₂.heap, slotsUsed := s₂.slotsUsed } : State) = { U.setFrames U.frames with heap := s₂.heap, slotsUsed := s₂.slotsUsed }
      rw [State.setFrames_self ht]
    subst hg
    refine Or.inl ⟨v, ⟨(({ U with heap := s₂.heap, slotsUsed := s₂.slotsUsed } : State).setVm s₂.vm), Ls ++ L, c0 + mc, s0 + ms⟩,
      ⟨X.admits, X.cas, X.clock, X.frames, X.room, X.hears, X.method, X.code, (X.here.setHeapUsed s₂.heap s₂.slotsUsed).setVm hW'.alike, X.tail, State.WarmedH.trans X.warmed hW', X.limits, X.bytes, X.same.trans (hsame.setVm s.vm)⟩,
      ⟨g, mk, s₂, L, rfl, rfl, hqc, rfl, hL, rfl, rfl⟩, ?_⟩
    show Steps p.tables e below _ ((({ U with heap := s₂.heap, slotsUsed := s₂.slotsUsed } : State).setVm s₂.vm).setTop { g with pc := g.pc + len₂, stack := v.toList ++ g.stack })
    rw [← hs₂]
    exact hsteps
  · obtain ⟨e2, q2, q3, q4, q5, q6⟩ := id hsm
    have e3 : s₂ = ({ (U.calling g mk a).setFrames s₂.frames with heap := s₂.heap, slotsUsed := s₂.slotsUsed } : State).setVm s₂.vm := by
      have : s₂ = ({ s₂ with vm := (U.calling g mk a).vm } : State).setVm s₂.vm := rfl
      rw [e2] at this
      exact this
    have hf₂ : s₂.frames = .throwing q :: .java g :: U.frames.tail := hend
    have hW' : U.WarmedH s₂.vm := hW₂
    have hs₂ : s₂ = ((({ U with heap := s₂.heap, slotsUsed := s₂.slotsUsed } : State).setVm s₂.vm).setTop g).pushFrame (.throwing q) := by
      refine e3.trans ?_
      rw [hf₂, State.calling_eq h.top, State.setFrames_setFrames, State.pushFrame, State.frames_setTop _ hr', State.setTop_of_frames _ hr', State.setFrames_setFrames, hr]
      rfl
    have hsame : U.sameButNew ({ U with heap := s₂.heap, slotsUsed := s₂.slotsUsed } : State) L mc ms := by
      refine ⟨?_, q2, q3, q4, q5, q6⟩
      obtain ⟨t, ht, -⟩ := State.frames_cons hr
      show ({ U with heap := s₂.heap, slotsUsed := s₂.slotsUsed } : State) = { U.setFrames U.frames with heap := s₂.heap, slotsUsed := s₂.slotsUsed }
      rw [State.setFrames_self ht]
    subst hg
    refine Or.inr ⟨q, ⟨(({ U with heap := s₂.heap, slotsUsed := s₂.slotsUsed } : State).setVm s₂.vm), Ls ++ L, c0 + mc, s0 + ms⟩,
      ⟨X.admits, X.cas, X.clock, X.frames, X.room, X.hears, X.method, X.code, (X.here.setHeapUsed s₂.heap s₂.slotsUsed).setVm hW'.alike, X.tail, State.WarmedH.trans X.warmed hW', X.limits, X.bytes, X.same.trans (hsame.setVm s.vm)⟩,
      ⟨g, mk, s₂, L, E, ce, rfl, rfl, hx, hce, hcv, hcl, rfl, hL, rfl, rfl⟩, ?_⟩
    show Steps p.tables e below _ (((({ U with heap := s₂.heap, slotsUsed := s₂.slotsUsed } : State).setVm s₂.vm).setTop g).pushFrame (.throwing q))
    rw [← hs₂]
    exact hsteps
end Payer
section Calls
variable {p : Program} {l : Launch} {e : Env} {R : Room} {s : State} {m : MethodId} {args : Array Value} {below : List Frame} {meth : Method} {c : Code} {T : State} {locs : List Loc} {cells slots : Nat}
theorem vx_callV (X : Stand p l e R s m args below meth c T locs cells slots) (hexec : p.tables.exec = Jvm.exec) {own C : String} {index : Nat} {y : MethodName} {bytes : ByteArray} {maxL : Nat} {ret : Option FieldType}
    (hown : s.vm.findClass own = some m.cls) (hlink : (Cond.methodLink own index y).before args s = true) (hinst : (Cond.instanceMethod y).before args s = true) (hsel : (Cond.selects C y y).before args s = true)
    (hcode : (Cond.code y bytes maxL ret).before args s = true) (hy : y.cls ≠ "java/lang/invoke/MethodHandle" ∧ y.cls ≠ "java/lang/invoke/VarHandle")
    {W9 : Nat} {Pre : Pt → Array Value → Prop} {Post : Pt → Array Value → Option Value → Pt → Prop} {PostX : Pt → Array Value → Addr → Pt → Prop} (hK : vx_Back l R p e below s args y 3 W9 Pre Post PostX)
    {b : Addr} {cellB : Cell} (hcell : T.heap[b]? = some cellB) (hobj : cellB.vm.isStatics = false) (hcls : s.vm.findClass C = some cellB.cls)
    {g : JFrame} (hg : g.method = m) (hsize : g.locals.size = c.maxLocals) {argsL rest : List Value} (hlen : ∀ sig, parseMethodDescriptor y.desc = some sig → argsL.length = sig.parameters.length)
    (hstack : g.stack = argsL.reverse ++ .ref b :: rest) (hW : 2 * g.monitorRoom + (rest.map fun v => v.category).sum ≤ W9) (hdg : decode c.code g.pc = .ok (.invokevirtual index, 3))
    (hpre : ∀ vm₁, s.WarmedH vm₁ → Pre ⟨T.setVm vm₁, locs, cells, slots⟩ (Value.ref b :: argsL).toArray) :
    (∃ (v : Option Value) (vm₁ : Vm) (B : Pt), s.WarmedH vm₁ ∧ Stand p l e R s m args below meth c B.U B.locs B.cells B.slots ∧ Post ⟨T.setVm vm₁, locs, cells, slots⟩ (Value.ref b :: argsL).toArray v B ∧
      ∀ target, Steps p.tables e below (B.U.setTop { g with pc := g.pc + 3, stack := v.toList ++ rest }) target → Steps p.tables e below (T.setTop g) target) ∨
    (∃ (q : Addr) (vm₁ : Vm) (B : Pt), s.WarmedH vm₁ ∧ Stand p l e R s m args below meth c B.U B.locs B.cells B.slots ∧ PostX ⟨T.setVm vm₁, locs, cells, slots⟩ (Value.ref b :: argsL).toArray q B ∧
      Steps p.tables e below (T.setTop g) ((B.U.setTop { g with stack := rest }).pushFrame (.throwing q))) := by
  obtain ⟨mk, methM, hnamed, hmethM, hstM, habM⟩ := Cond.instanceMethod_spec hinst
  obtain ⟨methM', cM, hmethM', -, -, -, -, -, -, hsigM⟩ := Cond.code_spec hnamed hcode
  cases hmethM.symm.trans hmethM'
  obtain ⟨c2, r2, m2, q1, q2, q3, q4, kP, hkP, hkPi⟩ := Cond.selects_spec hsel
  cases hcls.symm.trans q1
  cases (State.methodFound?_of_named hnamed hy).symm.trans q2
  cases hnamed.symm.trans q3
  have hselP : selectMethod e.platform s.vm cellB.cls mk = .method mk := by rw [Launch.admits_selectMethod X.admits]; exact q4
  obtain ⟨vm₁, X₁, hstep₁⟩ := X.invokevirtual hexec hown hlink hnamed hmethM hstM hkP hkPi hy (a := b) (cell := cellB) hcell
    (fun z h => by rw [h] at hobj; cases hobj) hselP hmethM habM hkP hkPi (g := g) hg (argsL := argsL) (rest := rest) (hlen _ hsigM) hstack hdg
  rcases hK m meth c ⟨T.setVm vm₁, locs, cells, slots⟩ { g with stack := rest } (.invokevirtual index) mk (Value.ref b :: argsL).toArray X₁ hg hsize hdg hW (X₁.named hnamed) (hpre vm₁ X₁.warmed) with ⟨v, B, X', hpost, hsteps⟩ | ⟨q, B, X', hpost, hsteps⟩
  · exact Or.inl ⟨v, vm₁, B, X₁.warmed, X', hpost, fun target h => hstep₁ _ fun acts => by rw [doInvoke_state]; exact hsteps.trans h⟩
  · exact Or.inr ⟨q, vm₁, B, X₁.warmed, X', hpost, hstep₁ _ fun acts => by rw [doInvoke_state]; exact hsteps⟩
theorem vx_callS (X : Stand p l e R s m args below meth c T locs cells slots) (hexec : p.tables.exec = Jvm.exec) {own : String} {index : Nat} {y : MethodName} {bytes : ByteArray} {maxL : Nat} {ret : Option FieldType}
    (hown : s.vm.findClass own = some m.cls) (hlink : (Cond.methodLink own index y).before args s = true) (hstat : (Cond.static y).before args s = true) (hinit : (Cond.initialized y.cls).before args s = true)
    (hcode : (Cond.code y bytes maxL ret).before args s = true) (hy : y.cls ≠ "java/lang/invoke/MethodHandle" ∧ y.cls ≠ "java/lang/invoke/VarHandle")
    {W9 : Nat} {Pre : Pt → Array Value → Prop} {Post : Pt → Array Value → Option Value → Pt → Prop} {PostX : Pt → Array Value → Addr → Pt → Prop} (hK : vx_Back l R p e below s args y 3 W9 Pre Post PostX)
    {g : JFrame} (hg : g.method = m) (hsize : g.locals.size = c.maxLocals) {argsL rest : List Value} (hlen : ∀ sig, parseMethodDescriptor y.desc = some sig → argsL.length = sig.parameters.length)
    (hstack : g.stack = argsL.reverse ++ rest) (hW : 2 * g.monitorRoom + (rest.map fun v => v.category).sum ≤ W9) (hdg : decode c.code g.pc = .ok (.invokestatic index, 3))
    (hpre : ∀ vm₁, s.WarmedH vm₁ → Pre ⟨T.setVm vm₁, locs, cells, slots⟩ argsL.toArray) :
    (∃ (v : Option Value) (vm₁ : Vm) (B : Pt), s.WarmedH vm₁ ∧ Stand p l e R s m args below meth c B.U B.locs B.cells B.slots ∧ Post ⟨T.setVm vm₁, locs, cells, slots⟩ argsL.toArray v B ∧
      ∀ target, Steps p.tables e below (B.U.setTop { g with pc := g.pc + 3, stack := v.toList ++ rest }) target → Steps p.tables e below (T.setTop g) target) ∨
    (∃ (q : Addr) (vm₁ : Vm) (B : Pt), s.WarmedH vm₁ ∧ Stand p l e R s m args below meth c B.U B.locs B.cells B.slots ∧ PostX ⟨T.setVm vm₁, locs, cells, slots⟩ argsL.toArray q B ∧
      Steps p.tables e below (T.setTop g) ((B.U.setTop { g with stack := rest }).pushFrame (.throwing q))) := by
  obtain ⟨mk, hnamed⟩ := Cond.code_named hcode
  obtain ⟨methM, cM, hmethM, -, -, -, -, -, -, hsigM⟩ := Cond.code_spec hnamed hcode
  have hstatic : methM.isStatic = true := Cond.static_spec hnamed hmethM hstat
  obtain ⟨kP, hkP, -⟩ := className_of_methodNamed hnamed
  have hinitP : kP.init = .initialized := Cond.initialized_spec (findClass_of_methodNamed hnamed) hkP hinit
  obtain ⟨vm₁, X₁, hstep₁⟩ := X.invokestatic hexec hown hlink hnamed hmethM hstatic hkP hinitP hy (g := g) hg (argsL := argsL) (rest := rest) (hlen _ hsigM) hstack hdg
  rcases hK m meth c ⟨T.setVm vm₁, locs, cells, slots⟩ { g with stack := rest } (.invokestatic index) mk argsL.toArray X₁ hg hsize hdg hW (X₁.named hnamed) (hpre vm₁ X₁.warmed) with ⟨v, B, X', hpost, hsteps⟩ | ⟨q, B, X', hpost, hsteps⟩
  · exact Or.inl ⟨v, vm₁, B, X₁.warmed, X', hpost, fun target h => hstep₁ _ fun acts => by rw [doInvoke_state]; exact hsteps.trans h⟩
  · exact Or.inr ⟨q, vm₁, B, X₁.warmed, X', hpost, hstep₁ _ fun acts => by rw [doInvoke_state]; exact hsteps⟩
end Calls
theorem vx_cls {s : State} {T : State} {vm₁ : Vm} {E : String} {k : ClassId} (hW : s.WarmedH vm₁) (h : (T.setVm vm₁).vm.findClass E = some k) : s.vm.findClass E = some k := by
  have h1 : vm₁.findClass E = some k := h
  rw [hW.alike.findClass] at h1
  exact h1
/-- the method's frame g, with q thrown over it -/
def vx_W (p : Program) (l : Launch) (e : Env) (R : Room) (s : State) (m : MethodId) (args : Array Value) (below : List Frame) (meth : Method) (c : Code) (H : Heap) (locs : List Loc) (cells slots : Nat) (Q : State → Prop) (g : JFrame) (q : Addr) : Prop :=
  ∀ T : State, T.heap = H → Stand p l e R s m args below meth c T locs cells slots → ∃ t, Steps p.tables e below ((T.setTop g).pushFrame (.throwing q)) t ∧ Q t
def vx_Run (p : Program) (l : Launch) (e : Env) (R : Room) (s : State) (m : MethodId) (args : Array Value) (below : List Frame) (meth : Method) (c : Code) (H : Heap) (locs : List Loc) (cells slots mc ms : Nat) (g : JFrame) (rest : List Value) (Qa : State → Outcome → State → Prop) (XC : String → State → State → Prop) (free : Addr → Prop) : Prop :=
  ∀ T : State, T.heap = H → Stand p l e R s m args below meth c T locs cells slots →
    (∃ (v : Option Value) (st₀ t T' : State) (L : List Loc), st₀.heap = H ∧ Stand p l e R s m args below meth c T' (locs ++ L) (cells + mc) (slots + ms) ∧ (∀ q ∈ L, free q.base) ∧ T'.heap = t.heap ∧ T'.vm = t.vm ∧ Qa st₀ (.returned v) t ∧
      Goes p e below T g T' { g with pc := g.pc + 3, stack := v.toList ++ rest }) ∨
    (∃ (q : Addr) (st₀ t T' : State) (L : List Loc) (E : String) (ce : Cell), st₀.heap = H ∧ Stand p l e R s m args below meth c T' (locs ++ L) (cells + mc) (slots + ms) ∧ (∀ z ∈ L, free z.base) ∧ T'.heap = t.heap ∧ T'.vm = t.vm ∧ XC E st₀ t ∧ t.heap[q]? = some ce ∧ ce.vm = .none ∧ s.vm.findClass E = some ce.cls ∧
      Steps p.tables e below (T.setTop g) ((T'.setTop { g with stack := rest }).pushFrame (.throwing q)))
def vx_X {S : Type} (px : S → Prop) (B : String → S → State → Prop) (A : Nat → Prop) : String → State → State → Prop := fun E st t => ∃ u : S, px u ∧ B E u t ∧ va_F A st t
section Runs
variable {p : Program} {l : Launch} {e : Env} {R : Room} {s : State} {m : MethodId} {args : Array Value} {below : List Frame} {meth : Method} {c : Code} {H : Heap} {locs : List Loc} {cells slots : Nat}
variable {y : MethodName} {bytes cc : ByteArray} {maxL nL mc ms n index : Nat} {ret : Option FieldType} {ws : List Cond} {rm : Room} {Pc : Array Value → State → Prop} {Qc : Array Value → State → Outcome → State → Prop} {XC : String → State → State → Prop} {free : Addr → Prop} {Ts : List Cond} {own C : String} {b : Addr} {As rest : List Value} {g : JFrame}
theorem vx_callBack (cb : CallB R s args own index y bytes maxL ret ws rm mc ms n) (hM : vx_Met l y ws rm Pc Qc XC mc ms free) (hbl : FrameBlind Pc) : vx_Back l R p e below s args y 3 8 (PreOf R mc ms Pc) (PostOf Qc mc ms free) (vx_Post XC mc ms free) := by
  obtain ⟨hrc, hrs, hfr, hlo, hws, hcw, -, hini, -⟩ := cb
  exact vx_back (bytes := bytes) (maxL := maxL) (ret := ret) hM hbl hrc hrs hfr hlo hws hcw (fun a' U hW => word_at hW (Or.inl (by first | rfl | simp [Cond.onTables, Cond.keeps, Cond.steady])) hini)
theorem vx_runV (S : CallFix p m c cc nL s args Ts own) (hM : vx_Met l y ws rm Pc Qc XC mc ms free) (cw : CallW R s args own C index y bytes maxL ret ws rm mc ms n) (hp : PreV s H C b Pc As)
    (hg : g.method = m) (hn : As.length = n) (hsize : g.locals.size = nL) (hstack : g.stack = As.reverse ++ .ref b :: rest) (hW : 2 * g.monitorRoom + (rest.map fun v => v.category).sum ≤ 8) (hdg : decode cc g.pc = .ok (.invokevirtual index, 3)) (hf : cells + mc ≤ R.cells ∧ slots + ms ≤ R.slots) :
    vx_Run p l e R s m args below meth c H locs cells slots mc ms g rest (Qc (Value.ref b :: As).toArray) XC free := by
  have hK : vx_Back l R p e below s args y 3 8 (PreOf R mc ms Pc) (PostOf Qc mc ms free) (vx_Post XC mc ms free) := vx_callBack cw.1 hM hp.1
  obtain ⟨⟨-, -, -, -, -, -, hcode, -, hy, hlen, hl⟩, hin, hse⟩ := cw
  obtain ⟨hx, hb, hml, ho, -⟩ := S
  obtain ⟨-, ⟨cellB, hcB, hoB, hclB⟩, hPc⟩ := hp
  intro T hT X
  rcases vx_callV X hx (C := C) (bytes := bytes) (maxL := maxL) (ret := ret) ho hl hin hse hcode hy hK (by rw [hT]; exact hcB) hoB hclB hg (hsize.trans hml.symm) (argsL := As) (rest := rest) (fun sig h => hn.trans (hlen sig h)) hstack hW (by rw [hb]; exact hdg)
    (fun vm₁ hW₁ => ⟨hf.1, hf.2, hPc (T.setVm vm₁) hT hW₁⟩) with ⟨v, vm₁, ⟨U', l2, c2, s2⟩, hW₁, X', ⟨g', mk, t, L, e1, e2, hq, h1, hL, h2, h3⟩, st⟩ | ⟨q, vm₁, ⟨U', l2, c2, s2⟩, hW₁, X', ⟨g', mk, t, L, E, ce, e1, e2, hq, hce, hcv, hcl, h1, hL, h2, h3⟩, st⟩
  · dsimp only [Pt.U, Pt.locs, Pt.cells, Pt.slots] at X' e1 e2 h1 h2 h3 st
    subst h1; subst h2; subst h3
    exact Or.inl ⟨v, (T.setVm vm₁).calling g' mk (Value.ref b :: As).toArray, t, U', L, hT, X', hL, e1, e2, hq, st⟩
  · dsimp only [Pt.U, Pt.locs, Pt.cells, Pt.slots] at X' e1 e2 h1 h2 h3 st hcl
    subst h1; subst h2; subst h3
    exact Or.inr ⟨q, (T.setVm vm₁).calling g' mk (Value.ref b :: As).toArray, t, U', L, E, ce, hT, X', hL, e1, e2, hq, hce, hcv, vx_cls hW₁ hcl, st⟩
theorem vx_runS (S : CallFix p m c cc nL s args Ts own) (hM : vx_Met l y ws rm Pc Qc XC mc ms free) (cw : CallB R s args own index y bytes maxL ret ws rm mc ms n ∧ (Cond.static y).before args s = true) (hp : PreS s H Pc As)
    (hg : g.method = m) (hn : As.length = n) (hsize : g.locals.size = nL) (hstack : g.stack = As.reverse ++ rest) (hW : 2 * g.monitorRoom + (rest.map fun v => v.category).sum ≤ 8) (hdg : decode cc g.pc = .ok (.invokestatic index, 3)) (hf : cells + mc ≤ R.cells ∧ slots + ms ≤ R.slots) :
    vx_Run p l e R s m args below meth c H locs cells slots mc ms g rest (Qc As.toArray) XC free := by
  have hK : vx_Back l R p e below s args y 3 8 (PreOf R mc ms Pc) (PostOf Qc mc ms free) (vx_Post XC mc ms free) := vx_callBack cw.1 hM hp.1
  obtain ⟨⟨-, -, -, -, -, -, hcode, hini, hy, hlen, hl⟩, hstt⟩ := cw
  obtain ⟨hx, hb, hml, ho, -⟩ := S
  intro T hT X
  rcases vx_callS X hx (bytes := bytes) (maxL := maxL) (ret := ret) ho hl hstt hini hcode hy hK hg (hsize.trans hml.symm) (argsL := As) (rest := rest) (fun sig h => hn.trans (hlen sig h)) hstack hW (by rw [hb]; exact hdg)
    (fun vm₁ hW₁ => ⟨hf.1, hf.2, hp.2 (T.setVm vm₁) hT hW₁⟩) with ⟨v, vm₁, ⟨U', l2, c2, s2⟩, hW₁, X', ⟨g', mk, t, L, e1, e2, hq, h1, hL, h2, h3⟩, st⟩ | ⟨q, vm₁, ⟨U', l2, c2, s2⟩, hW₁, X', ⟨g', mk, t, L, E, ce, e1, e2, hq, hce, hcv, hcl, h1, hL, h2, h3⟩, st⟩
  · dsimp only [Pt.U, Pt.locs, Pt.cells, Pt.slots] at X' e1 e2 h1 h2 h3 st
    subst h1; subst h2; subst h3
    exact Or.inl ⟨v, (T.setVm vm₁).calling g' mk As.toArray, t, U', L, hT, X', hL, e1, e2, hq, st⟩
  · dsimp only [Pt.U, Pt.locs, Pt.cells, Pt.slots] at X' e1 e2 h1 h2 h3 st hcl
    subst h1; subst h2; subst h3
    exact Or.inr ⟨q, (T.setVm vm₁).calling g' mk As.toArray, t, U', L, E, ce, hT, X', hL, e1, e2, hq, hce, hcv, vx_cls hW₁ hcl, st⟩
end Runs
section Rows
variable {p : Program} {l : Launch} {e : Env} {R : Room} {s : State} {m : MethodId} {args : Array Value} {below : List Frame} {meth : Method} {c : Code} {H : Heap} {locs : List Loc} {cells slots : Nat} {Q : State → Prop}
variable {mc ms : Nat} {free : Addr → Prop} {A0 A1 : Nat → Prop} {H0 : Heap} {a : Array Value} {pc : Nat} {ls : Array Slot} {st0 rest : List Value}
theorem vx_keep {st₀ t T' : State} {L : List Loc} (h0 : st₀.heap = H) (e1 : T'.heap = t.heap) (hS : va_S A0 H0 H locs) (hA : ∀ q, q < H.size → A1 q → A0 q) (hf : ∀ q, free q → A0 q) (hL : ∀ q ∈ L, free q.base) (hF : va_F A1 st₀ t) :
    H.size ≤ T'.heap.size ∧ (∀ q : Nat, q < H.size → ¬ A1 q → T'.heap[q]? = H[q]?) ∧ va_S A0 H0 T'.heap (locs ++ L) := by
  obtain ⟨hz, hk⟩ := hF
  rw [h0] at hz hk
  exact ⟨by rw [e1]; exact hz, fun q h1 h2 => by rw [e1]; exact hk q h1 h2,
    ⟨Nat.le_trans hS.1 (by rw [e1]; exact hz), fun q h1 h2 => by rw [e1, hk q (Nat.lt_of_lt_of_le h1 hS.1) (fun z => h2 (hA q (Nat.lt_of_lt_of_le h1 hS.1) z))]; exact hS.2.1 q h1 h2, fun q hq => by
      rcases List.mem_append.mp hq with h | h
      · exact hS.2.2 q h
      · exact hf _ (hL q h)⟩⟩
theorem vx_calli {S SX : Type} {post : Int32 → S → Prop} {px : SX → Prop} {B : S → State → Prop} {BX : String → SX → State → Prop} {AX : Nat → Prop} (hr : vx_Run p l e R s m args below meth c H locs cells slots mc ms (F0 m pc ls st0) rest (va_Qi post B A1 a) (vx_X px BX AX) free) (hS : va_S A0 H0 H locs) (hA : ∀ q, q < H.size → A1 q → A0 q) (hf : ∀ q, free q → A0 q) (hAX : ∀ q, q < H.size → AX q → A0 q)
    (kx : ∀ (E : String) (ce : Cell) (q9 : Addr) (u : SX) (t : State) (H1 : Heap) (locs1 : List Loc), t.heap = H1 → s.vm.Alike t.vm → px u → BX E u t → H.size ≤ H1.size → (∀ q : Nat, q < H.size → ¬ AX q → H1[q]? = H[q]?) → va_S A0 H0 H1 locs1 → H1[q9]? = some ce → ce.vm = .none → s.vm.findClass E = some ce.cls → vx_W p l e R s m args below meth c H1 locs1 (cells + mc) (slots + ms) Q (F0 m pc ls rest) q9)
    (kk : ∀ (r : Int32) (u : S) (t : State) (H1 : Heap) (locs1 : List Loc), t.heap = H1 → s.vm.Alike t.vm → post r u → B u t → H.size ≤ H1.size → (∀ q : Nat, q < H.size → ¬ A1 q → H1[q]? = H[q]?) → va_S A0 H0 H1 locs1 → W p l e R s m args below meth c H1 locs1 (cells + mc) (slots + ms) Q (F0 m (pc + 3) ls (.int r :: rest))) : W p l e R s m args below meth c H locs cells slots Q (F0 m pc ls st0) := by
  intro T hT X
  rcases hr T hT X with ⟨v, st₀, t, T', L, h0, X', hL, e1, e2, ⟨⟨r, u, hv, hp, hb⟩, hF⟩, st⟩ | ⟨q, st₀, t, T', L, E, ce, h0, X', hL, e1, e2, ⟨u, hp, hb, hF⟩, hce, hcv, hcl, st⟩
  · cases hv
    obtain ⟨k1, k2, k3⟩ := vx_keep h0 e1 hS hA hf hL hF
    obtain ⟨t2, a1, b1⟩ := kk r u t T'.heap (locs ++ L) e1.symm (by rw [← e2]; exact X'.warmed.alike) hp hb k1 k2 k3 T' rfl X'
    exact ⟨t2, st t2 a1, b1⟩
  · obtain ⟨k1, k2, k3⟩ := vx_keep h0 e1 hS hAX hf hL hF
    obtain ⟨t2, a1, b1⟩ := kx E ce q u t T'.heap (locs ++ L) e1.symm (by rw [← e2]; exact X'.warmed.alike) hp hb k1 k2 k3 (by rw [e1]; exact hce) hcv hcl T' rfl X'
    exact ⟨t2, st.trans a1, b1⟩
theorem vx_calll {S SX : Type} {post : Int64 → S → Prop} {px : SX → Prop} {B : S → State → Prop} {BX : String → SX → State → Prop} {AX : Nat → Prop} (hr : vx_Run p l e R s m args below meth c H locs cells slots mc ms (F0 m pc ls st0) rest (va_Ql post B A1 a) (vx_X px BX AX) free) (hS : va_S A0 H0 H locs) (hA : ∀ q, q < H.size → A1 q → A0 q) (hf : ∀ q, free q → A0 q) (hAX : ∀ q, q < H.size → AX q → A0 q)
    (kx : ∀ (E : String) (ce : Cell) (q9 : Addr) (u : SX) (t : State) (H1 : Heap) (locs1 : List Loc), t.heap = H1 → s.vm.Alike t.vm → px u → BX E u t → H.size ≤ H1.size → (∀ q : Nat, q < H.size → ¬ AX q → H1[q]? = H[q]?) → va_S A0 H0 H1 locs1 → H1[q9]? = some ce → ce.vm = .none → s.vm.findClass E = some ce.cls → vx_W p l e R s m args below meth c H1 locs1 (cells + mc) (slots + ms) Q (F0 m pc ls rest) q9)
    (kk : ∀ (r : Int64) (u : S) (t : State) (H1 : Heap) (locs1 : List Loc), t.heap = H1 → s.vm.Alike t.vm → post r u → B u t → H.size ≤ H1.size → (∀ q : Nat, q < H.size → ¬ A1 q → H1[q]? = H[q]?) → va_S A0 H0 H1 locs1 → W p l e R s m args below meth c H1 locs1 (cells + mc) (slots + ms) Q (F0 m (pc + 3) ls (.long r :: rest))) : W p l e R s m args below meth c H locs cells slots Q (F0 m pc ls st0) := by
  intro T hT X
  rcases hr T hT X with ⟨v, st₀, t, T', L, h0, X', hL, e1, e2, ⟨⟨r, u, hv, hp, hb⟩, hF⟩, st⟩ | ⟨q, st₀, t, T', L, E, ce, h0, X', hL, e1, e2, ⟨u, hp, hb, hF⟩, hce, hcv, hcl, st⟩
  · cases hv
    obtain ⟨k1, k2, k3⟩ := vx_keep h0 e1 hS hA hf hL hF
    obtain ⟨t2, a1, b1⟩ := kk r u t T'.heap (locs ++ L) e1.symm (by rw [← e2]; exact X'.warmed.alike) hp hb k1 k2 k3 T' rfl X'
    exact ⟨t2, st t2 a1, b1⟩
  · obtain ⟨k1, k2, k3⟩ := vx_keep h0 e1 hS hAX hf hL hF
    obtain ⟨t2, a1, b1⟩ := kx E ce q u t T'.heap (locs ++ L) e1.symm (by rw [← e2]; exact X'.warmed.alike) hp hb k1 k2 k3 (by rw [e1]; exact hce) hcv hcl T' rfl X'
    exact ⟨t2, st.trans a1, b1⟩
theorem vx_callf {S SX : Type} {post : UInt32 → S → Prop} {px : SX → Prop} {B : S → State → Prop} {BX : String → SX → State → Prop} {AX : Nat → Prop} (hr : vx_Run p l e R s m args below meth c H locs cells slots mc ms (F0 m pc ls st0) rest (va_Qf post B A1 a) (vx_X px BX AX) free) (hS : va_S A0 H0 H locs) (hA : ∀ q, q < H.size → A1 q → A0 q) (hf : ∀ q, free q → A0 q) (hAX : ∀ q, q < H.size → AX q → A0 q)
    (kx : ∀ (E : String) (ce : Cell) (q9 : Addr) (u : SX) (t : State) (H1 : Heap) (locs1 : List Loc), t.heap = H1 → s.vm.Alike t.vm → px u → BX E u t → H.size ≤ H1.size → (∀ q : Nat, q < H.size → ¬ AX q → H1[q]? = H[q]?) → va_S A0 H0 H1 locs1 → H1[q9]? = some ce → ce.vm = .none → s.vm.findClass E = some ce.cls → vx_W p l e R s m args below meth c H1 locs1 (cells + mc) (slots + ms) Q (F0 m pc ls rest) q9)
    (kk : ∀ (r : UInt32) (u : S) (t : State) (H1 : Heap) (locs1 : List Loc), t.heap = H1 → s.vm.Alike t.vm → post r u → B u t → H.size ≤ H1.size → (∀ q : Nat, q < H.size → ¬ A1 q → H1[q]? = H[q]?) → va_S A0 H0 H1 locs1 → W p l e R s m args below meth c H1 locs1 (cells + mc) (slots + ms) Q (F0 m (pc + 3) ls (.float r :: rest))) : W p l e R s m args below meth c H locs cells slots Q (F0 m pc ls st0) := by
  intro T hT X
  rcases hr T hT X with ⟨v, st₀, t, T', L, h0, X', hL, e1, e2, ⟨⟨r, u, hv, hp, hb⟩, hF⟩, st⟩ | ⟨q, st₀, t, T', L, E, ce, h0, X', hL, e1, e2, ⟨u, hp, hb, hF⟩, hce, hcv, hcl, st⟩
  · cases hv
    obtain ⟨k1, k2, k3⟩ := vx_keep h0 e1 hS hA hf hL hF
    obtain ⟨t2, a1, b1⟩ := kk r u t T'.heap (locs ++ L) e1.symm (by rw [← e2]; exact X'.warmed.alike) hp hb k1 k2 k3 T' rfl X'
    exact ⟨t2, st t2 a1, b1⟩
  · obtain ⟨k1, k2, k3⟩ := vx_keep h0 e1 hS hAX hf hL hF
    obtain ⟨t2, a1, b1⟩ := kx E ce q u t T'.heap (locs ++ L) e1.symm (by rw [← e2]; exact X'.warmed.alike) hp hb k1 k2 k3 (by rw [e1]; exact hce) hcv hcl T' rfl X'
    exact ⟨t2, st.trans a1, b1⟩
theorem vx_calld {S SX : Type} {post : UInt64 → S → Prop} {px : SX → Prop} {B : S → State → Prop} {BX : String → SX → State → Prop} {AX : Nat → Prop} (hr : vx_Run p l e R s m args below meth c H locs cells slots mc ms (F0 m pc ls st0) rest (va_Qd post B A1 a) (vx_X px BX AX) free) (hS : va_S A0 H0 H locs) (hA : ∀ q, q < H.size → A1 q → A0 q) (hf : ∀ q, free q → A0 q) (hAX : ∀ q, q < H.size → AX q → A0 q)
    (kx : ∀ (E : String) (ce : Cell) (q9 : Addr) (u : SX) (t : State) (H1 : Heap) (locs1 : List Loc), t.heap = H1 → s.vm.Alike t.vm → px u → BX E u t → H.size ≤ H1.size → (∀ q : Nat, q < H.size → ¬ AX q → H1[q]? = H[q]?) → va_S A0 H0 H1 locs1 → H1[q9]? = some ce → ce.vm = .none → s.vm.findClass E = some ce.cls → vx_W p l e R s m args below meth c H1 locs1 (cells + mc) (slots + ms) Q (F0 m pc ls rest) q9)
    (kk : ∀ (r : UInt64) (u : S) (t : State) (H1 : Heap) (locs1 : List Loc), t.heap = H1 → s.vm.Alike t.vm → post r u → B u t → H.size ≤ H1.size → (∀ q : Nat, q < H.size → ¬ A1 q → H1[q]? = H[q]?) → va_S A0 H0 H1 locs1 → W p l e R s m args below meth c H1 locs1 (cells + mc) (slots + ms) Q (F0 m (pc + 3) ls (.double r :: rest))) : W p l e R s m args below meth c H locs cells slots Q (F0 m pc ls st0) := by
  intro T hT X
  rcases hr T hT X with ⟨v, st₀, t, T', L, h0, X', hL, e1, e2, ⟨⟨r, u, hv, hp, hb⟩, hF⟩, st⟩ | ⟨q, st₀, t, T', L, E, ce, h0, X', hL, e1, e2, ⟨u, hp, hb, hF⟩, hce, hcv, hcl, st⟩
  · cases hv
    obtain ⟨k1, k2, k3⟩ := vx_keep h0 e1 hS hA hf hL hF
    obtain ⟨t2, a1, b1⟩ := kk r u t T'.heap (locs ++ L) e1.symm (by rw [← e2]; exact X'.warmed.alike) hp hb k1 k2 k3 T' rfl X'
    exact ⟨t2, st t2 a1, b1⟩
  · obtain ⟨k1, k2, k3⟩ := vx_keep h0 e1 hS hAX hf hL hF
    obtain ⟨t2, a1, b1⟩ := kx E ce q u t T'.heap (locs ++ L) e1.symm (by rw [← e2]; exact X'.warmed.alike) hp hb k1 k2 k3 (by rw [e1]; exact hce) hcv hcl T' rfl X'
    exact ⟨t2, st.trans a1, b1⟩
theorem vx_callv {S SX : Type} {post : S → Prop} {px : SX → Prop} {B : S → State → Prop} {BX : String → SX → State → Prop} {AX : Nat → Prop} (hr : vx_Run p l e R s m args below meth c H locs cells slots mc ms (F0 m pc ls st0) rest (va_Qv post B A1 a) (vx_X px BX AX) free) (hS : va_S A0 H0 H locs) (hA : ∀ q, q < H.size → A1 q → A0 q) (hf : ∀ q, free q → A0 q) (hAX : ∀ q, q < H.size → AX q → A0 q)
    (kx : ∀ (E : String) (ce : Cell) (q9 : Addr) (u : SX) (t : State) (H1 : Heap) (locs1 : List Loc), t.heap = H1 → s.vm.Alike t.vm → px u → BX E u t → H.size ≤ H1.size → (∀ q : Nat, q < H.size → ¬ AX q → H1[q]? = H[q]?) → va_S A0 H0 H1 locs1 → H1[q9]? = some ce → ce.vm = .none → s.vm.findClass E = some ce.cls → vx_W p l e R s m args below meth c H1 locs1 (cells + mc) (slots + ms) Q (F0 m pc ls rest) q9)
    (kk : ∀ (u : S) (t : State) (H1 : Heap) (locs1 : List Loc), t.heap = H1 → s.vm.Alike t.vm → post u → B u t → H.size ≤ H1.size → (∀ q : Nat, q < H.size → ¬ A1 q → H1[q]? = H[q]?) → va_S A0 H0 H1 locs1 → W p l e R s m args below meth c H1 locs1 (cells + mc) (slots + ms) Q (F0 m (pc + 3) ls (rest))) : W p l e R s m args below meth c H locs cells slots Q (F0 m pc ls st0) := by
  intro T hT X
  rcases hr T hT X with ⟨v, st₀, t, T', L, h0, X', hL, e1, e2, ⟨⟨u, hv, hp, hb⟩, hF⟩, st⟩ | ⟨q, st₀, t, T', L, E, ce, h0, X', hL, e1, e2, ⟨u, hp, hb, hF⟩, hce, hcv, hcl, st⟩
  · cases hv
    obtain ⟨k1, k2, k3⟩ := vx_keep h0 e1 hS hA hf hL hF
    obtain ⟨t2, a1, b1⟩ := kk u t T'.heap (locs ++ L) e1.symm (by rw [← e2]; exact X'.warmed.alike) hp hb k1 k2 k3 T' rfl X'
    exact ⟨t2, st t2 a1, b1⟩
  · obtain ⟨k1, k2, k3⟩ := vx_keep h0 e1 hS hAX hf hL hF
    obtain ⟨t2, a1, b1⟩ := kx E ce q u t T'.heap (locs ++ L) e1.symm (by rw [← e2]; exact X'.warmed.alike) hp hb k1 k2 k3 (by rw [e1]; exact hce) hcv hcl T' rfl X'
    exact ⟨t2, st.trans a1, b1⟩
/-- caught by the row x of this method's table; the rows ahead don't take it -/
theorem vx_catch {own name : String} {E : String} {ce : Cell} {q : Addr} (hown : s.vm.findClass own = some m.cls) (pre : List ExceptionTableEntry) (x : ExceptionTableEntry) (suf : List ExceptionTableEntry) (hsplit : c.exceptionTable.toList = pre ++ x :: suf)
    (hpass : ∀ z ∈ pre, covers z pc = false ∨ (z.catchType ≠ 0 ∧ ∃ nm : String, (Cond.classLink own z.catchType nm).before args s = true ∧ va_Nc E nm s)) (hx : covers x pc = true) (h0 : x.catchType ≠ 0)
    (hlink : (Cond.classLink own x.catchType name).before args s = true) (hcast : (Cond.castable E name).before args s = true) (hcell : H[q]? = some ce) (hv : ce.vm = .none) (hcl : s.vm.findClass E = some ce.cls)
    (kk : W p l e R s m args below meth c H locs cells slots Q (F0 m x.handlerPc ls [.ref q])) : vx_W p l e R s m args below meth c H locs cells slots Q (F0 m pc ls rest) q := by
  intro T hT X
  have hpl : e.platform.magicAccessors = ({} : Platform).magicAccessors := by rw [X.admits.platform]
  obtain ⟨c3, c4, hc3, hc4, hasg⟩ := Cond.castable_spec hcast
  cases Option.some.inj (hc3.symm.trans hcl)
  obtain ⟨c5, hc5, hcl5⟩ := Cond.classLink_spec hown hlink e.platform hpl
  cases Option.some.inj (hc4.symm.trans hc5)
  obtain ⟨vm', X', st⟩ := _root_.Jvm.Stand.thenCaughtThrough X q (g := F0 m pc ls rest) rfl (Steps.refl _) (by rw [hT]; exact hcell) (by rw [hv]; rfl) (by obtain ⟨k9, h9, -⟩ := Vm.findClass_spec hcl; exact ⟨k9, h9⟩) pre x suf hsplit
    (fun z hz => by
      rcases hpass z hz with h | ⟨hz0, nm, hl1, hn1⟩
      · exact Or.inl h
      · obtain ⟨c6, hc6, hcl6⟩ := Cond.classLink_spec hown hl1 e.platform hpl
        obtain ⟨a8, b8, h1, h2, h3⟩ := hn1
        cases Option.some.inj (h1.symm.trans hcl)
        cases Option.some.inj (h2.symm.trans hc6)
        exact Or.inr ⟨hz0, _, hcl6, h3⟩) hx (Or.inr ⟨h0, c4, hcl5, hasg⟩)
  obtain ⟨t, a1, b1⟩ := kk (T.setVm vm') hT X'
  exact ⟨t, st.trans a1, b1⟩
end Rows
section Ends
variable {p : Program} {l : Launch} {e : Env} {R : Room} {s : State} {m : MethodId} {args : Array Value} {below : List Frame} {meth : Method} {c : Code} {H : Heap} {locs : List Loc} {cells slots : Nat} {Q : State → Prop}
variable {mc ms : Nat} {free : Addr → Prop} {A0 A1 : Nat → Prop} {H0 : Heap} {a : Array Value} {ls : Array Slot} {st0 rest : List Value}
variable {Qc : Array Value → State → Outcome → State → Prop} {XC : String → State → State → Prop}
/-- what a body that may throw owes at its end -/
def vx_MQ (below : List Frame) (Qc : Array Value → State → Outcome → State → Prop) (XC : String → State → State → Prop) (a : Array Value) (s : State) (mc ms : Nat) (free : Addr → Prop) : State → Prop := fun t =>
  ∃ o, t.status = .running ∧ Ended t below o ∧ vx_Q Qc XC mc ms free a s o t
theorem vx_ret {g : JFrame} {mc ms : Nat} (k : W p l e R s m args below meth c H locs cells slots (MQ below Qc args s mc ms free) g) : W p l e R s m args below meth c H locs cells slots (vx_MQ below Qc XC args s mc ms free) g := by
  intro T hT X
  obtain ⟨t, a1, o, b1, b2, b3, b4⟩ := k T hT X
  exact ⟨t, a1, o, b1, b2, Or.inl ⟨b3, b4⟩⟩
/-- not caught here: it goes on to the caller -/
theorem vx_widen {g : JFrame} {q : Addr} {k n : Nat} (h1 : cells ≤ k) (h2 : slots ≤ n) (kk : vx_W p l e R s m args below meth c H locs k n Q g q) : vx_W p l e R s m args below meth c H locs cells slots Q g q := fun T hT X => kk T hT (stand_widen X h1 h2)
theorem vx_out {pc : Nat} {E : String} {ce : Cell} {q : Addr} {mc ms : Nat} (hout : ∀ x ∈ c.exceptionTable.toList, covers x pc = false) (hlocks : meth.locks = false) (hcell : H[q]? = some ce) (hv : ce.vm = .none) (hcl : s.vm.findClass E = some ce.cls)
    (hx : ∀ t : State, t.heap = H → s.vm.Alike t.vm → XC E s t) (hf : ∀ z ∈ locs, free z.base) (hc : cells ≤ mc) (hs : slots ≤ ms) :
    vx_W p l e R s m args below meth c H locs cells slots (vx_MQ below Qc XC args s mc ms free) (F0 m pc ls rest) q := by
  intro T hT X
  obtain ⟨st1, hrun, hend, hW, hsm⟩ := X.leaveThrown q (g := F0 m pc ls rest) rfl rfl rfl hout hlocks
  have hcell9 : (T.setFrames (.throwing q :: below)).heap[q]? = some ce := by
    show T.heap[q]? = some ce
    rw [hT]; exact hcell
  exact ⟨_, st1, .threw q, hrun, hend, Or.inr ⟨q, rfl, E, ce, locs, hx _ hT hW.alike, hcell9, hv, hcl, hW, hsm.mono hc hs, hf⟩⟩
theorem vx_frame {U : State} {k n : Nat} (h : s.sameButNew ({ U with vm := s.vm } : State) locs k n) : s.heap.size ≤ U.heap.size ∧ ∀ q : Nat, q < s.heap.size → (∀ z ∈ locs, z.base ≠ q) → U.heap[q]? = s.heap[q]? := by
  obtain ⟨-, h2, -, -, -, h6⟩ := h
  refine ⟨h2, fun q hq hz => ?_⟩
  obtain ⟨c9, e1, e2, e3, e4⟩ := h6 q _ (Array.getElem?_eq_getElem hq)
  have hs : c9.slots = (s.heap[q]).slots := Array.ext_getElem? fun i => e4 i fun hm => hz _ hm rfl
  have h9 : c9 = s.heap[q] := by
    rw [hs] at e2
    exact e2
  have e5 : U.heap[q]? = some c9 := e1
  rw [e5, h9, Array.getElem?_eq_getElem hq]
/-- the words of a throw but the four that speak of the heap -/
def vx_no (w : Cond) : Bool := decide (w ≠ .isRef (.static Bundle.tN "UNASSIGNED_STACK" Bundle.steD)) && decide (w ≠ .isRef (.static Bundle.tN "SUPPRESSED_SENTINEL" Bundle.listD)) && decide (w ≠ .laysStatic Bundle.tN "UNASSIGNED_STACK" Bundle.steD) && decide (w ≠ .laysStatic Bundle.tN "SUPPRESSED_SENTINEL" Bundle.listD)
def vx_at0 (own : String) (ic : Nat) (X : String) (names : List String) : List Cond := (Bundle.ownAtoms0 own ic X names).filter vx_no
def vx_atS (own : String) (ic : Nat) (X : String) (names : List String) : List Cond := (Bundle.ownAtoms own ic X names).filter vx_no
/-- a word that the tables alone decide, or a good one -/
def vx_ot (w : Cond) : Bool := w.onTables || goodWord w
theorem vx_ot_at {args a' : Array Value} {s U : State} {w : Cond} (hW : s.WarmedH U.vm) (hvm : s.vm = U.vm) (hg : vx_ot w = true) (h : w.before args s = true) : w.before a' U = true := by
  simp only [vx_ot, Bool.or_eq_true] at hg
  rcases hg with hg | hg
  · exact va_tabs hg hvm h
  · exact word_at hW (good_of_word hg) h
/-- a list's words: the good ones out of the method's own list, the others by premises of their own -/
theorem vx_hat {args : Array Value} {s : State} {L B : List Cond} (h1 : ∀ w ∈ L.filter goodWord, w.before args s = true) (h2 : ∀ w ∈ L.filter (fun w => !goodWord w), w ∈ B) (h3 : ∀ w ∈ B, w.before args s = true) : ∀ w ∈ L, w.before args s = true := by
  intro w hw
  by_cases g : goodWord w = true
  · exact h1 w (List.mem_filter.mpr ⟨hw, g⟩)
  · refine h3 w (h2 w (List.mem_filter.mpr ⟨hw, ?_⟩))
    show (!goodWord w) = true
    cases hgw : goodWord w
    · rfl
    · exact absurd hgw g
theorem vx_c {args : Array Value} {s : State} {w : Cond} {B : List Cond} (h : w.before args s = true) (t : ∀ w ∈ B, w.before args s = true) : ∀ w' ∈ w :: B, w'.before args s = true := fun w' h' => (List.mem_cons.mp h').elim (fun e => by rw [e]; exact h) (t w')
theorem vx_n {args : Array Value} {s : State} : ∀ w ∈ ([] : List Cond), w.before args s = true := fun _ h => nomatch h
theorem vx_own {args : Array Value} {s : State} {L : List Cond} (h1 : ∀ w ∈ L.filter vx_no, w.before args s = true)
    (hU : (Cond.isRef (.static Bundle.tN "UNASSIGNED_STACK" Bundle.steD)).before args s = true) (hN : (Cond.isRef (.static Bundle.tN "SUPPRESSED_SENTINEL" Bundle.listD)).before args s = true)
    (lU : (Cond.laysStatic Bundle.tN "UNASSIGNED_STACK" Bundle.steD).before args s = true) (lN : (Cond.laysStatic Bundle.tN "SUPPRESSED_SENTINEL" Bundle.listD).before args s = true) : ∀ w ∈ L, w.before args s = true := by
  intro w hw
  by_cases e1 : w = .isRef (.static Bundle.tN "UNASSIGNED_STACK" Bundle.steD)
  · rw [e1]; exact hU
  · by_cases e2 : w = .isRef (.static Bundle.tN "SUPPRESSED_SENTINEL" Bundle.listD)
    · rw [e2]; exact hN
    · by_cases e3 : w = .laysStatic Bundle.tN "UNASSIGNED_STACK" Bundle.steD
      · rw [e3]; exact lU
      · by_cases e4 : w = .laysStatic Bundle.tN "SUPPRESSED_SENTINEL" Bundle.listD
        · rw [e4]; exact lN
        · exact h1 w (List.mem_filter.mpr ⟨hw, by unfold vx_no; rw [decide_eq_true e1, decide_eq_true e2, decide_eq_true e3, decide_eq_true e4]; rfl⟩)
/-- where a static field lies, its class's statics cell in H -/
def vx_L (C n d : String) (A : Nat → Prop) (U : State) (H : Heap) : Prop := ∃ (c : ClassId) (k : Class) (i : Nat) (f : Field) (a : Nat) (cell : Cell), U.vm.findClass C = some c ∧ U.fieldFound? C n d = some (c, k, i, f) ∧ f.isStatic = true ∧ k.statics = some a ∧ H[a]? = some cell ∧ cell.vm.isStatics = true ∧ cell.cls = c ∧ f.slot < cell.slots.size ∧ k.staticTypes[f.slot]? = some f.type ∧ ¬ A a
theorem vx_L.moved {C n d : String} {A : Nat → Prop} {u U : State} {H : Heap} (hvm : u.vm.Alike U.vm) (h : vx_L C n d A u H) : vx_L C n d A U H := by
  obtain ⟨c, k, i, f, a, cell, h1, h2, h3, h4, h5, h6, h7, h8, h9, h10⟩ := h
  obtain ⟨k', hi', he⟩ := State.fieldFound?_setVm hvm h2
  exact ⟨c, k', i, f, a, cell, by rw [hvm.findClass]; exact h1, hi', h3, by rw [he]; exact h4, h5, h6, h7, h8, by rw [he]; exact h9, h10⟩
theorem vx_L.kept {C n d : String} {A : Nat → Prop} {U : State} {H H1 : Heap} (h : vx_L C n d A U H) (hq : ∀ a : Nat, a < H.size → ¬ A a → H1[a]? = H[a]?) : vx_L C n d A U H1 := by
  obtain ⟨c, k, i, f, a, cell, h1, h2, h3, h4, h5, h6, h7, h8, h9, h10⟩ := h
  exact ⟨c, k, i, f, a, cell, h1, h2, h3, h4, by rw [hq a (Array.getElem?_eq_some_iff.mp h5).1 h10]; exact h5, h6, h7, h8, h9, h10⟩
theorem vx_L.narrow {C n d : String} {A B : Nat → Prop} {U : State} {H : Heap} (h : vx_L C n d A U H) (hAB : ∀ q, B q → A q) : vx_L C n d B U H := by
  obtain ⟨c, k, i, f, a, cell, h1, h2, h3, h4, h5, h6, h7, h8, h9, h10⟩ := h
  exact ⟨c, k, i, f, a, cell, h1, h2, h3, h4, h5, h6, h7, h8, h9, fun z => h10 (hAB _ z)⟩
theorem vx_L.word {C n d : String} {A : Nat → Prop} {s : State} {args : Array Value} (h : vx_L C n d A s s.heap) : (Cond.laysStatic C n d).before args s = true := by
  obtain ⟨c, k, i, f, a, cell, h1, h2, h3, h4, h5, h6, h7, h8, h9, -⟩ := h
  show (Cond.laysStatic C n d).holds args s none s [] = true
  exact Cond.laysStatic_of h1 h2 h3 h4 h5 h6 h7 h8 h9
/-- .. and what it holds: null or some reference -/
def vx_Zq (C n d : String) (A : Nat → Prop) (U : State) (H : Heap) : Prop := va_Zq C n d A U H ∧ vx_L C n d A U H
theorem vx_Zq.moved {C n d : String} {A : Nat → Prop} {u U : State} {H : Heap} (hvm : u.vm.Alike U.vm) (h : vx_Zq C n d A u H) : vx_Zq C n d A U H := ⟨va_Zq.moved hvm h.1, vx_L.moved hvm h.2⟩
theorem vx_Zq.kept {C n d : String} {A : Nat → Prop} {U : State} {H H1 : Heap} (h : vx_Zq C n d A U H) (hq : ∀ a : Nat, a < H.size → ¬ A a → H1[a]? = H[a]?) : vx_Zq C n d A U H1 := ⟨va_Zq.kept h.1 hq, vx_L.kept h.2 hq⟩
theorem vx_Zq.narrow {C n d : String} {A B : Nat → Prop} {U : State} {H : Heap} (h : vx_Zq C n d A U H) (hAB : ∀ q, B q → A q) : vx_Zq C n d B U H := ⟨va_Zq.narrow h.1 hAB, vx_L.narrow h.2 hAB⟩
theorem vx_Zqof {args : Array Value} {s : State} {C n d : String} {A : Nat → Prop} (hl : (Cond.laysStatic C n d).before args s = true) (hini : (Cond.initialized C).before args s = true) (h : (Cond.isRef (.static C n d)).before args s = true) (hA : ∀ a : Nat, a < s.heap.size → ¬ A a) : vx_Zq C n d A s s.heap := by
  refine ⟨va_Zqof hl hini h hA, ?_⟩
  obtain ⟨c, k, i, f, a, cell, h1, h2, h3, h4, h5, h6, h7, h8, h9⟩ := Cond.laysStatic_spec hl
  exact ⟨c, k, i, f, a, cell, h1, h2, h3, h4, h5, h6, h7, h8, h9, hA a (Array.getElem?_eq_some_iff.mp h5).1⟩
theorem vx_isRef {C n d : String} {v : Value} {A : Nat → Prop} {s : State} {args : Array Value} (h : va_Z C n d v A s s.heap) (hv : v.isRef = true) : (Cond.isRef (.static C n d)).before args s = true := by
  obtain ⟨cf, kf, fi, f, a, cell, h1, h2, h3, h4, h5, h6, h7, -⟩ := h
  have he : (Term.static C n d).eval args s none [] s = some v := by
    simp [Term.eval, State.fieldNamed?, h1, h2, h4, h5, h6, h7]
  simp only [Cond.before, Cond.holds, Cond.value, he]
  cases v <;> simp_all [Value.isRef]
theorem vx_isRefq {C n d : String} {A : Nat → Prop} {s : State} {args : Array Value} (h : va_Zq C n d A s s.heap) : (Cond.isRef (.static C n d)).before args s = true := by
  rcases h with h | ⟨t, h⟩
  · exact vx_isRef h rfl
  · exact vx_isRef h rfl
/-- the same frame, seen from here: as if the method were called anew in this heap -/
theorem vx_rebase {T : State} (X : Stand p l e R s m args below meth c T locs cells slots) {R' : Room} (hf : R'.frames ≤ R.frames) (hl : R'.locals ≤ R.locals) (hc : cells + R'.cells ≤ R.cells) (hs : slots + R'.slots ≤ R.slots) :
    Stand p l e R' ((T.setVm s.vm).setFrames (.invoking m args :: below)) m args below meth c T [] 0 0 := by
  have htop : (T.setVm s.vm).topJava?.isSome := X.here.top
  have hF : ((T.setVm s.vm).setFrames (.invoking m args :: below)).frames = .invoking m args :: below := State.frames_setFrames _ (State.cur_lt_of_top htop)
  obtain ⟨g₀, hg0⟩ := Option.isSome_iff_exists.mp htop
  obtain ⟨r, hr⟩ := State.topJava?_eq_some.mp hg0
  have hl9 : e.platform.stackLimits (T.setVm s.vm).me = e.platform.stackLimits s.me := X.limits
  have hb9 : (T.setVm s.vm).me.stackBytes = s.me.stackBytes := X.bytes
  refine ⟨X.admits, X.cas, X.clock, hF, ?_, X.hears, X.method, X.code, X.here, X.tail, X.warmed, ?_, ?_, ?_⟩
  · have h := X.room
    have hU : ((T.setVm s.vm).setFrames (.invoking m args :: below)).localsInUse = s.localsInUse := by
      rw [State.localsInUse_invoking hF (meth := meth) (c := c) X.method X.code, State.localsInUse_invoking X.frames X.method X.code]
    simp only [State.hasRoom, Bool.and_eq_true, decide_eq_true_eq] at h ⊢
    obtain ⟨⟨⟨⟨h1, h2, h3, h4, h5, h6⟩, h7⟩, h8⟩, h9⟩ := h
    rw [X.frames, List.length_cons] at h2 h3
    have q1 := X.heapSize
    have q2 := X.used
    simp only [hF, hU, List.length_cons, State.stackLimits_setFrames, State.stackBytes_setFrames, hl9, hb9]
    refine ⟨⟨⟨⟨by omega, by omega, by omega, by omega, by omega, h6⟩, ?_⟩, ?_⟩, X.book⟩
    · show T.heap.size + R'.cells ≤ e.platform.maxCells
      omega
    · show T.slotsUsed + R'.slots ≤ e.platform.maxSlots
      omega
  · rw [State.stackLimits_setFrames]; rfl
  · rw [State.stackBytes_setFrames]; rfl
  · refine ⟨?_, Nat.le_refl _, Nat.le_refl _, ?_, ?_, fun a c9 h9 => ⟨c9, h9, rfl, rfl, fun _ _ => rfl⟩⟩
    · obtain ⟨t, ht, -⟩ := State.frames_cons hr
      show T.setVm s.vm = { ((T.setVm s.vm).setFrames (.invoking m args :: below)).setFrames (T.setVm s.vm).frames with heap := T.heap, slotsUsed := T.slotsUsed }
      rw [State.setFrames_setFrames, State.setFrames_self ht]
      rfl
    · show T.slotsUsed = T.slotsUsed + ((T.heap.toList.drop T.heap.size).map (·.slots.size)).sum
      rw [List.drop_eq_nil_of_le (Nat.le_of_eq Array.length_toList)]
      rfl
    · show ((T.heap.toList.drop T.heap.size).map (·.slots.size)).sum ≤ 0
      rw [List.drop_eq_nil_of_le (Nat.le_of_eq Array.length_toList)]
      exact Nat.le_refl _
/-- 'throw new E()': new; dup; invokespecial; athrow -/
theorem vx_throw0 {cc : ByteArray} {pc : Nat} (hexec : p.tables.exec = Jvm.exec) (hb : c.code = cc) (hl : l.stackTraces = false) {own cls : String} {names : List String} {ik ic mc ms : Nat} {A : Nat → Prop}
    (hown : s.vm.findClass own = some m.cls) (hcls : Bundle.fit cls = true) (hnames : ∀ n ∈ names, Bundle.fit n = true)
    (hk : (Cond.classLink own ik cls).before args s = true) (hini : (Cond.initialized cls).before args s = true) (hat : ∀ w ∈ vx_at0 own ic cls names, w.before args s = true)
    (hgood : ∀ w ∈ Cond.classLink own ik cls :: Cond.initialized cls :: vx_at0 own ic cls names, vx_ot w = true)
    (hU : vx_Zq Bundle.tN "UNASSIGNED_STACK" Bundle.steD A s s.heap) (hN : vx_Zq Bundle.tN "SUPPRESSED_SENTINEL" Bundle.listD A s s.heap) (hS : va_S A s.heap H locs) (hsize : ls.size = c.maxLocals)
    (d0 : decode cc pc = .ok (.new ik, 3)) (d3 : decode cc (pc + 3) = .ok (.dup, 1)) (d4 : decode cc (pc + 4) = .ok (.invokespecial ic, 3)) (d7 : decode cc (pc + 7) = .ok (.athrow, 1))
    (hout : ∀ x ∈ c.exceptionTable.toList, covers x (pc + 7) = false)
    (hRframes : names.length + 3 < R.frames) (hRlocals : (rest.map fun v => v.category).sum + (13 * (names.length + 1) + 42) ≤ R.locals) (hRcells : cells + 1 ≤ R.cells) (hRslots : slots + 6 ≤ R.slots) (hlocks : meth.locks = false)
    (hx : ∀ t : State, s.vm.Alike t.vm → H.size ≤ t.heap.size → (∀ q : Nat, q < H.size → t.heap[q]? = H[q]?) → XC cls s t)
    (hf : ∀ z ∈ locs, free z.base) (hc : cells + 1 ≤ mc) (hs : slots + 6 ≤ ms) :
    W p l e R s m args below meth c H locs cells slots (vx_MQ below Qc XC args s mc ms free) (F0 m pc ls rest) := by
  intro T hT X
  have htr : e.platform.stackTraces = false := (show e.platform.stackTraces = l.stackTraces by rw [X.admits.platform]).trans hl
  have Y := vx_rebase X (R' := { frames := R.frames, locals := R.locals, cells := 1, slots := 6 }) (Nat.le_refl _) (Nat.le_refl _) hRcells hRslots
  obtain ⟨s', hA⟩ : ∃ z, z = (T.setVm s.vm).setFrames (.invoking m args :: below) := ⟨_, rfl⟩
  rw [← hA] at Y
  have hvm : s'.vm = s.vm := by rw [hA]; rfl
  have hhp : s'.heap = H := by rw [hA]; exact hT
  have hW0 : s.WarmedH s'.vm := by rw [hvm]; exact State.WarmedH.refl s
  have hat' : ∀ w ∈ vx_at0 own ic cls names, w.before args s' = true := fun w hw => vx_ot_at hW0 hvm.symm (hgood w (List.mem_cons_of_mem _ (List.mem_cons_of_mem _ hw))) (hat w hw)
  have hk' : (Cond.classLink own ik cls).before args s' = true := vx_ot_at hW0 hvm.symm (hgood _ List.mem_cons_self) hk
  have hini' : (Cond.initialized cls).before args s' = true := vx_ot_at hW0 hvm.symm (hgood _ (List.mem_cons_of_mem _ List.mem_cons_self)) hini
  have hU' : vx_Zq Bundle.tN "UNASSIGNED_STACK" Bundle.steD A s' s'.heap := by rw [hhp]; exact vx_Zq.moved hW0.alike (hU.kept hS.2.1)
  have hN' : vx_Zq Bundle.tN "SUPPRESSED_SENTINEL" Bundle.listD A s' s'.heap := by rw [hhp]; exact vx_Zq.moved hW0.alike (hN.kept hS.2.1)
  have h : ∀ w ∈ Bundle.ownAtoms0 own ic cls names, w.before args s' = true := vx_own hat' (vx_isRefq hU'.1) (vx_isRefq hN'.1) hU'.2.word hN'.2.word
  have hown' : s'.vm.findClass own = some m.cls := by rw [hvm]; exact hown
  have hins : (Cond.instantiable cls 6).before args s' = true := h _ (by simp [Bundle.ownAtoms0])
  obtain ⟨vm₁, cX, kX, hfX, hkX, -, -, X₁, st1⟩ := Y.newCold hexec (own := own) (C := cls) (index := ik) (n := 6) hown' hk' hins hini'
    (g := F0 m pc ls rest) rfl (by rw [hb]; exact d0) (Nat.le_refl _) (Nat.le_refl _)
  generalize hT1 : (T.setVm vm₁).pushCell { cls := cX, slots := kX.instanceTypes.map defaultValue, vm := .none } = T1 at X₁ st1
  have hcat : (Value.ref T.heap.size).category = 1 := rfl
  have hcellA : T1.heap[T.heap.size]? = some (freshCell cX kX) := by rw [← hT1]; exact State.heap_pushCell_size _ _
  have d3' : decode c.code (pc + 3) = .ok (.dup, 1) := by rw [hb]; exact d3
  obtain ⟨U, hsteps, hrun, hend, hW, hsame, ce, hce, hO⟩ := X₁.ctorThrow0 hexec htr (own := own) (cls := cls) (names := names) (ic := ic) hown' hcls hnames h (fun x hx => nomatch hx) hfX hkX hcellA (by rw [hhp, hT]; exact Nat.le_refl _)
    (g := { method := m, pc := pc + 4, locals := ls, stack := .ref T.heap.size :: .ref T.heap.size :: rest, locked := none }) rfl hsize rfl rfl (rest := rest) rfl
    (by rw [hb]; exact d4) (by rw [hb]; exact d7) hout hRframes (by simp only [List.map_cons, List.sum_cons, hcat]; omega) hlocks
  obtain ⟨f1, f2⟩ := vx_frame hsame
  rw [hhp] at f1 f2
  have hWs : s.WarmedH U.vm := State.WarmedH.trans hW0 hW
  have hcl : s.vm.findClass cls = some ce.cls := by
    have h9 := hO.cls
    rw [hvm] at h9
    exact h9
  have hall : s.sameButNew ({ U with vm := s.vm } : State) locs mc ms := by
    subst hA
    obtain ⟨e1, e2⟩ := hsame
    rw [State.setFrames_setFrames] at e1
    have h2 : (T.setVm s.vm).sameButNew ({ U with vm := s.vm } : State) [] (0 + 1) (0 + 6) := ⟨e1, e2⟩
    have h3 := X.same.trans h2
    rw [List.append_nil] at h3
    exact h3.mono hc hs
  refine ⟨U, ?_, .threw T.heap.size, hrun, hend, Or.inr ⟨T.heap.size, rfl, cls, ce, locs, hx U hWs.alike f1 (fun q hq => f2 q hq (fun z hz => nomatch hz)), hce, hO.vm, hcl, hWs, hall, hf⟩⟩
  refine st1 _ ?_
  show Steps p.tables e below (T1.setTop { method := m, pc := pc + 3, locals := ls, stack := .ref T.heap.size :: rest, locked := none }) _
  jvm_step X₁.here [X₁.here.top, hexec, d3', Value.category]
  exact hsteps
/-- 'throw new E("text")': new; dup; ldc; invokespecial; athrow -/
theorem vx_throwS {cc : ByteArray} {pc : Nat} (hexec : p.tables.exec = Jvm.exec) (hb : c.code = cc) (hl : l.stackTraces = false) {own cls text : String} {names : List String} {ik is ic mc ms sa : Nat} {A : Nat → Prop}
    (hown : s.vm.findClass own = some m.cls) (hcls : Bundle.fit cls = true) (hnames : ∀ n ∈ names, Bundle.fit n = true)
    (hk : (Cond.classLink own ik cls).before args s = true) (hini : (Cond.initialized cls).before args s = true) (hstr : vk_R own is text sa s) (hat : ∀ w ∈ vx_atS own ic cls names, w.before args s = true)
    (hgood : ∀ w ∈ Cond.classLink own ik cls :: Cond.initialized cls :: vx_atS own ic cls names, vx_ot w = true)
    (hU : vx_Zq Bundle.tN "UNASSIGNED_STACK" Bundle.steD A s s.heap) (hN : vx_Zq Bundle.tN "SUPPRESSED_SENTINEL" Bundle.listD A s s.heap) (hS : va_S A s.heap H locs) (hsize : ls.size = c.maxLocals)
    (d0 : decode cc pc = .ok (.new ik, 3)) (d3 : decode cc (pc + 3) = .ok (.dup, 1)) (d4 : decode cc (pc + 4) = .ok (.ldc is, 2)) (d6 : decode cc (pc + 6) = .ok (.invokespecial ic, 3)) (d9 : decode cc (pc + 9) = .ok (.athrow, 1))
    (hout : ∀ x ∈ c.exceptionTable.toList, covers x (pc + 9) = false)
    (hRframes : names.length + 3 < R.frames) (hRlocals : (rest.map fun v => v.category).sum + (13 * (names.length + 1) + 43) ≤ R.locals) (hRcells : cells + 1 ≤ R.cells) (hRslots : slots + 6 ≤ R.slots) (hlocks : meth.locks = false)
    (hx : ∀ t : State, s.vm.Alike t.vm → H.size ≤ t.heap.size → (∀ q : Nat, q < H.size → t.heap[q]? = H[q]?) → XC cls s t)
    (hf : ∀ z ∈ locs, free z.base) (hc : cells + 1 ≤ mc) (hs : slots + 6 ≤ ms) :
    W p l e R s m args below meth c H locs cells slots (vx_MQ below Qc XC args s mc ms free) (F0 m pc ls rest) := by
  intro T hT X
  have htr : e.platform.stackTraces = false := (show e.platform.stackTraces = l.stackTraces by rw [X.admits.platform]).trans hl
  have Y := vx_rebase X (R' := { frames := R.frames, locals := R.locals, cells := 1, slots := 6 }) (Nat.le_refl _) (Nat.le_refl _) hRcells hRslots
  obtain ⟨s', hA⟩ : ∃ z, z = (T.setVm s.vm).setFrames (.invoking m args :: below) := ⟨_, rfl⟩
  rw [← hA] at Y
  have hvm : s'.vm = s.vm := by rw [hA]; rfl
  have hhp : s'.heap = H := by rw [hA]; exact hT
  have hW0 : s.WarmedH s'.vm := by rw [hvm]; exact State.WarmedH.refl s
  have hat' : ∀ w ∈ vx_atS own ic cls names, w.before args s' = true := fun w hw => vx_ot_at hW0 hvm.symm (hgood w (List.mem_cons_of_mem _ (List.mem_cons_of_mem _ hw))) (hat w hw)
  have hk' : (Cond.classLink own ik cls).before args s' = true := vx_ot_at hW0 hvm.symm (hgood _ List.mem_cons_self) hk
  have hini' : (Cond.initialized cls).before args s' = true := vx_ot_at hW0 hvm.symm (hgood _ (List.mem_cons_of_mem _ List.mem_cons_self)) hini
  have hU' : vx_Zq Bundle.tN "UNASSIGNED_STACK" Bundle.steD A s' s'.heap := by rw [hhp]; exact vx_Zq.moved hW0.alike (hU.kept hS.2.1)
  have hN' : vx_Zq Bundle.tN "SUPPRESSED_SENTINEL" Bundle.listD A s' s'.heap := by rw [hhp]; exact vx_Zq.moved hW0.alike (hN.kept hS.2.1)
  have h : ∀ w ∈ Bundle.ownAtoms own ic cls names, w.before args s' = true := vx_own hat' (vx_isRefq hU'.1) (vx_isRefq hN'.1) hU'.2.word hN'.2.word
  have hown' : s'.vm.findClass own = some m.cls := by rw [hvm]; exact hown
  have hins : (Cond.instantiable cls 6).before args s' = true := h _ (by simp [Bundle.ownAtoms])
  obtain ⟨vm₁, cX, kX, hfX, hkX, -, -, X₁, st1⟩ := Y.newCold hexec (own := own) (C := cls) (index := ik) (n := 6) hown' hk' hins hini'
    (g := F0 m pc ls rest) rfl (by rw [hb]; exact d0) (Nat.le_refl _) (Nat.le_refl _)
  generalize hT1 : (T.setVm vm₁).pushCell { cls := cX, slots := kX.instanceTypes.map defaultValue, vm := .none } = T1 at X₁ st1
  have hcat : (Value.ref T.heap.size).category = 1 := rfl
  have hcellA : T1.heap[T.heap.size]? = some (freshCell cX kX) := by rw [← hT1]; exact State.heap_pushCell_size _ _
  have d3' : decode c.code (pc + 3) = .ok (.dup, 1) := by rw [hb]; exact d3
  have d4' : decode c.code (pc + 4) = .ok (.ldc is, 2) := by rw [hb]; exact d4
  have hstr' : vk_R own is text sa s' := vk_R.warm hW0 hstr
  obtain ⟨U, hsteps, hrun, hend, hW, hsame, ce, hce, hO⟩ := X₁.ctorThrowS hexec htr (own := own) (cls := cls) (names := names) (ic := ic) hown' hcls hnames h (fun x hx => nomatch hx) hfX hkX hcellA (by rw [hhp, hT]; exact Nat.le_refl _) (msg := .ref sa) rfl
    (g := { method := m, pc := pc + 6, locals := ls, stack := .ref sa :: .ref T.heap.size :: .ref T.heap.size :: rest, locked := none }) rfl hsize rfl rfl (rest := rest) rfl
    (by rw [hb]; exact d6) (by rw [hb]; exact d9) hout hRframes (by simp only [List.map_cons, List.sum_cons, hcat]; omega) hlocks
  obtain ⟨f1, f2⟩ := vx_frame hsame
  rw [hhp] at f1 f2
  have hWs : s.WarmedH U.vm := State.WarmedH.trans hW0 hW
  have hcl : s.vm.findClass cls = some ce.cls := by
    have h9 := hO.cls
    rw [hvm] at h9
    exact h9
  have hall : s.sameButNew ({ U with vm := s.vm } : State) locs mc ms := by
    subst hA
    obtain ⟨e1, e2⟩ := hsame
    rw [State.setFrames_setFrames] at e1
    have h2 : (T.setVm s.vm).sameButNew ({ U with vm := s.vm } : State) [] (0 + 1) (0 + 6) := ⟨e1, e2⟩
    have h3 := X.same.trans h2
    rw [List.append_nil] at h3
    exact h3.mono hc hs
  refine ⟨U, ?_, .threw T.heap.size, hrun, hend, Or.inr ⟨T.heap.size, rfl, cls, ce, locs, hx U hWs.alike f1 (fun q hq => f2 q hq (fun z hz => nomatch hz)), hce, hO.vm, hcl, hWs, hall, hf⟩⟩
  refine st1 _ ?_
  show Steps p.tables e below (T1.setTop { method := m, pc := pc + 3, locals := ls, stack := .ref T.heap.size :: rest, locked := none }) _
  jvm_step X₁.here [X₁.here.top, hexec, d3', Value.category]
  exact X₁.ldcString hexec (own := own) (text := text) (index := is) (a := sa) hown' hstr'.1 hstr'.2
    (g := { method := m, pc := pc + 4, locals := ls, stack := .ref T.heap.size :: .ref T.heap.size :: rest, locked := none }) rfl d4' _ hsteps
/-- 'throw new E("text")', the text by a wide index -/
theorem vx_throwSW {cc : ByteArray} {pc : Nat} (hexec : p.tables.exec = Jvm.exec) (hb : c.code = cc) (hl : l.stackTraces = false) {own cls text : String} {names : List String} {ik is ic mc ms sa : Nat} {A : Nat → Prop}
    (hown : s.vm.findClass own = some m.cls) (hcls : Bundle.fit cls = true) (hnames : ∀ n ∈ names, Bundle.fit n = true)
    (hk : (Cond.classLink own ik cls).before args s = true) (hini : (Cond.initialized cls).before args s = true) (hstr : vk_R own is text sa s) (hat : ∀ w ∈ vx_atS own ic cls names, w.before args s = true)
    (hgood : ∀ w ∈ Cond.classLink own ik cls :: Cond.initialized cls :: vx_atS own ic cls names, vx_ot w = true)
    (hU : vx_Zq Bundle.tN "UNASSIGNED_STACK" Bundle.steD A s s.heap) (hN : vx_Zq Bundle.tN "SUPPRESSED_SENTINEL" Bundle.listD A s s.heap) (hS : va_S A s.heap H locs) (hsize : ls.size = c.maxLocals)
    (d0 : decode cc pc = .ok (.new ik, 3)) (d3 : decode cc (pc + 3) = .ok (.dup, 1)) (d4 : decode cc (pc + 4) = .ok (.ldc_w is, 3)) (d7 : decode cc (pc + 7) = .ok (.invokespecial ic, 3)) (d10 : decode cc (pc + 10) = .ok (.athrow, 1))
    (hout : ∀ x ∈ c.exceptionTable.toList, covers x (pc + 10) = false)
    (hRframes : names.length + 3 < R.frames) (hRlocals : (rest.map fun v => v.category).sum + (13 * (names.length + 1) + 43) ≤ R.locals) (hRcells : cells + 1 ≤ R.cells) (hRslots : slots + 6 ≤ R.slots) (hlocks : meth.locks = false)
    (hx : ∀ t : State, s.vm.Alike t.vm → H.size ≤ t.heap.size → (∀ q : Nat, q < H.size → t.heap[q]? = H[q]?) → XC cls s t)
    (hf : ∀ z ∈ locs, free z.base) (hc : cells + 1 ≤ mc) (hs : slots + 6 ≤ ms) :
    W p l e R s m args below meth c H locs cells slots (vx_MQ below Qc XC args s mc ms free) (F0 m pc ls rest) := by
  intro T hT X
  have htr : e.platform.stackTraces = false := (show e.platform.stackTraces = l.stackTraces by rw [X.admits.platform]).trans hl
  have Y := vx_rebase X (R' := { frames := R.frames, locals := R.locals, cells := 1, slots := 6 }) (Nat.le_refl _) (Nat.le_refl _) hRcells hRslots
  obtain ⟨s', hA⟩ : ∃ z, z = (T.setVm s.vm).setFrames (.invoking m args :: below) := ⟨_, rfl⟩
  rw [← hA] at Y
  have hvm : s'.vm = s.vm := by rw [hA]; rfl
  have hhp : s'.heap = H := by rw [hA]; exact hT
  have hW0 : s.WarmedH s'.vm := by rw [hvm]; exact State.WarmedH.refl s
  have hat' : ∀ w ∈ vx_atS own ic cls names, w.before args s' = true := fun w hw => vx_ot_at hW0 hvm.symm (hgood w (List.mem_cons_of_mem _ (List.mem_cons_of_mem _ hw))) (hat w hw)
  have hk' : (Cond.classLink own ik cls).before args s' = true := vx_ot_at hW0 hvm.symm (hgood _ List.mem_cons_self) hk
  have hini' : (Cond.initialized cls).before args s' = true := vx_ot_at hW0 hvm.symm (hgood _ (List.mem_cons_of_mem _ List.mem_cons_self)) hini
  have hU' : vx_Zq Bundle.tN "UNASSIGNED_STACK" Bundle.steD A s' s'.heap := by rw [hhp]; exact vx_Zq.moved hW0.alike (hU.kept hS.2.1)
  have hN' : vx_Zq Bundle.tN "SUPPRESSED_SENTINEL" Bundle.listD A s' s'.heap := by rw [hhp]; exact vx_Zq.moved hW0.alike (hN.kept hS.2.1)
  have h : ∀ w ∈ Bundle.ownAtoms own ic cls names, w.before args s' = true := vx_own hat' (vx_isRefq hU'.1) (vx_isRefq hN'.1) hU'.2.word hN'.2.word
  have hown' : s'.vm.findClass own = some m.cls := by rw [hvm]; exact hown
  have hins : (Cond.instantiable cls 6).before args s' = true := h _ (by simp [Bundle.ownAtoms])
  obtain ⟨vm₁, cX, kX, hfX, hkX, -, -, X₁, st1⟩ := Y.newCold hexec (own := own) (C := cls) (index := ik) (n := 6) hown' hk' hins hini'
    (g := F0 m pc ls rest) rfl (by rw [hb]; exact d0) (Nat.le_refl _) (Nat.le_refl _)
  generalize hT1 : (T.setVm vm₁).pushCell { cls := cX, slots := kX.instanceTypes.map defaultValue, vm := .none } = T1 at X₁ st1
  have hcat : (Value.ref T.heap.size).category = 1 := rfl
  have hcellA : T1.heap[T.heap.size]? = some (freshCell cX kX) := by rw [← hT1]; exact State.heap_pushCell_size _ _
  have d3' : decode c.code (pc + 3) = .ok (.dup, 1) := by rw [hb]; exact d3
  have d4' : decode c.code (pc + 4) = .ok (.ldc_w is, 3) := by rw [hb]; exact d4
  have hstr' : vk_R own is text sa s' := vk_R.warm hW0 hstr
  obtain ⟨U, hsteps, hrun, hend, hW, hsame, ce, hce, hO⟩ := X₁.ctorThrowS hexec htr (own := own) (cls := cls) (names := names) (ic := ic) hown' hcls hnames h (fun x hx => nomatch hx) hfX hkX hcellA (by rw [hhp, hT]; exact Nat.le_refl _) (msg := .ref sa) rfl
    (g := { method := m, pc := pc + 7, locals := ls, stack := .ref sa :: .ref T.heap.size :: .ref T.heap.size :: rest, locked := none }) rfl hsize rfl rfl (rest := rest) rfl
    (by rw [hb]; exact d7) (by rw [hb]; exact d10) hout hRframes (by simp only [List.map_cons, List.sum_cons, hcat]; omega) hlocks
  obtain ⟨f1, f2⟩ := vx_frame hsame
  rw [hhp] at f1 f2
  have hWs : s.WarmedH U.vm := State.WarmedH.trans hW0 hW
  have hcl : s.vm.findClass cls = some ce.cls := by
    have h9 := hO.cls
    rw [hvm] at h9
    exact h9
  have hall : s.sameButNew ({ U with vm := s.vm } : State) locs mc ms := by
    subst hA
    obtain ⟨e1, e2⟩ := hsame
    rw [State.setFrames_setFrames] at e1
    have h2 : (T.setVm s.vm).sameButNew ({ U with vm := s.vm } : State) [] (0 + 1) (0 + 6) := ⟨e1, e2⟩
    have h3 := X.same.trans h2
    rw [List.append_nil] at h3
    exact h3.mono hc hs
  refine ⟨U, ?_, .threw T.heap.size, hrun, hend, Or.inr ⟨T.heap.size, rfl, cls, ce, locs, hx U hWs.alike f1 (fun q hq => f2 q hq (fun z hz => nomatch hz)), hce, hO.vm, hcl, hWs, hall, hf⟩⟩
  refine st1 _ ?_
  show Steps p.tables e below (T1.setTop { method := m, pc := pc + 3, locals := ls, stack := .ref T.heap.size :: rest, locked := none }) _
  jvm_step X₁.here [X₁.here.top, hexec, d3', Value.category]
  exact X₁.ldcStringW hexec (own := own) (text := text) (index := is) (a := sa) hown' hstr'.1 hstr'.2
    (g := { method := m, pc := pc + 4, locals := ls, stack := .ref T.heap.size :: .ref T.heap.size :: rest, locked := none }) rfl d4' _ hsteps
end Ends
section Bodies
variable {l : Launch}
theorem vx_ofW {y : MethodName} {ws ws' : List Cond} {rm : Room} {Pc : Array Value → State → Prop} {Qc : Array Value → State → Outcome → State → Prop} {XC : String → State → State → Prop} {mc ms : Nat} {free : Addr → Prop} {cc : ByteArray} {maxL : Nat} {ret : Option FieldType}
    (hy : plainName y.cls = true) (hw : ws = Cond.code y cc maxL ret :: ws')
    (body : ∀ p e s m args below meth c s₁, BodyLoose p l y (headSpec ws rm) cc maxL ret e s m args below meth c s₁ → c.maxLocals = maxL → (∀ x ∈ c.exceptionTable.toList, False) → Pc args s →
      W p l e (headSpec ws rm).room s m args below meth c s.heap [] 0 0 (vx_MQ below Qc XC args s mc ms free) (entryFrame m args maxL)) : vx_Met l y ws rm Pc Qc XC mc ms free := by
  refine MetFree.of_bodyS (code := cc) (maxLocals := maxL) (ret := ret) hy ?_ ?_
  · intro args s m h hn
    obtain ⟨meth, c, h1, h2, h3, h4, h5, h6, -, -⟩ := Cond.code_spec hn (atoms_spec (ws := ws) h _ (by rw [hw]; exact List.mem_cons_self))
    exact ⟨meth, c, h1, h2, h3, h4, h5, h6⟩
  · intro p e s m args below meth c s₁ B hml hP _
    have hh0 : s₁.heap = s.heap := by rw [B.state]; rfl
    have ht : ∀ x ∈ c.exceptionTable.toList, False := by
      obtain ⟨meth9, c9, h1, h2, -, -, -, -, h7, -⟩ := Cond.code_spec B.named (atoms_spec (ws := ws) B.pre _ (by rw [hw]; exact List.mem_cons_self))
      cases Option.some.inj (h1.symm.trans B.method)
      cases Option.some.inj (h2.symm.trans (Stand.of_body B).code)
      intro x hx
      rw [Array.isEmpty_iff.mp h7] at hx
      cases hx
    obtain ⟨t, a1, o, b1, b2, b3⟩ := body p e s m args below meth c s₁ B hml ht hP s₁ hh0 (Stand.of_body B)
    exact ⟨t, o, a1, b1, b2, b3⟩
/-- the table of a body with handlers -/
theorem vx_table {p : Program} {x y : MethodName} {S : Spec} {cc bytes : ByteArray} {maxL maxL' : Nat} {ret ret' : Option FieldType} {e : Env} {s s₁ : State} {m : MethodId} {args : Array Value} {below : List Frame} {meth : Method} {c : Code} {hh : List (Nat × Nat × Nat × Nat)}
    (B : BodyLoose p l y S cc maxL ret e s m args below meth c s₁) (h : (Cond.codeWith y bytes maxL' ret' hh).before args s = true) : c.exceptionTable.toList = tableOf hh := by
  obtain ⟨m9, meth9, c9, hn9, h1, h2, -, -, h6, -⟩ := Cond.codeWith_spec h
  cases Option.some.inj (hn9.symm.trans B.named)
  cases Option.some.inj (h1.symm.trans B.method)
  cases Option.some.inj (h2.symm.trans (Stand.of_body B).code)
  rw [← h6, table_eq]
end Bodies
end VXA
/-! ===== END ===== -/
/-! ===== BEGIN a static call of a method with an exception table ===== -/
section VXS
variable {p : Program} {l : Launch} {e : Env} {R : Room} {s : State} {m : MethodId} {args : Array Value} {below : List Frame} {meth : Method} {c : Code} {T : State} {H : Heap} {locs : List Loc} {cells slots : Nat}
abbrev vx_CSW (R : Room) (s : State) (args : Array Value) (own : String) (index : Nat) (y : MethodName) (bytes : ByteArray) (maxL : Nat) (ret : Option FieldType) (hh : List (Nat × Nat × Nat × Nat)) (ws : List Cond) (rm : Room) (mc ms n : Nat) : Prop :=
  (rm.cells = mc ∧ rm.slots = ms ∧ rm.frames + 1 ≤ R.frames ∧ 8 + (maxL + 11) + rm.locals ≤ R.locals ∧ (∀ w ∈ ws, ∀ (a' : Array Value) (U : State), s.WarmedH U.vm → w.before a' U = true) ∧ Cond.codeWith y bytes maxL ret hh ∈ ws) ∧
  (Cond.codeWith y bytes maxL ret hh).before args s = true ∧ (Cond.initialized y.cls).before args s = true ∧ (y.cls ≠ "java/lang/invoke/MethodHandle" ∧ y.cls ≠ "java/lang/invoke/VarHandle") ∧
  (∀ sig, parseMethodDescriptor y.desc = some sig → n = sig.parameters.length) ∧ (Cond.methodLink own index y).before args s = true ∧ (Cond.static y).before args s = true
theorem vx_cwSW {own : String} {index maxL mc ms : Nat} {y : MethodName} {bytes : ByteArray} {ret : Option FieldType} {hh : List (Nat × Nat × Nat × Nat)} {Ts ws ws' : List Cond} {rm : Room} (n : Nat) (ht : ∀ w ∈ Ts, w.before args s = true) (hT : GoodIn Ts (va_wsS own index y ws)) (hw : ws = Cond.codeWith y bytes maxL ret hh :: ws') (hrc : rm.cells = mc) (hrs : rm.slots = ms)
    (hd : y.cls ≠ "java/lang/invoke/MethodHandle" ∧ y.cls ≠ "java/lang/invoke/VarHandle" ∧ (parseMethodDescriptor y.desc).map (fun d => d.parameters.length) = some n) (hR : rm.frames + 1 ≤ R.frames ∧ 8 + (maxL + 11) + rm.locals ≤ R.locals) :
    vx_CSW R s args own index y bytes maxL ret hh ws rm mc ms n := by
  have ok : ∀ w ∈ va_wsS own index y ws, w.before args s = true := fun w h => ht w (hT w h).1
  have hG : GoodIn Ts ws := fun w h => hT w (by unfold va_wsS; exact List.mem_append_right _ h)
  have hc : Cond.codeWith y bytes maxL ret hh ∈ ws := by rw [hw]; exact List.mem_cons_self
  refine ⟨⟨hrc, hrs, hR.1, hR.2, pay_in ht hG, hc⟩, ht _ (hG _ hc).1, ok _ (by simp [va_wsS]), ⟨hd.1, hd.2.1⟩, fun sig h => ?_, ok _ (by simp [va_wsS]), ok _ (by simp [va_wsS])⟩
  have h2 := hd.2.2
  rw [h] at h2
  exact (Option.some.inj h2).symm
theorem vx_callSW (X : Stand p l e R s m args below meth c T locs cells slots) (hexec : p.tables.exec = Jvm.exec) {own : String} {index : Nat} {y : MethodName} {bytes : ByteArray} {maxL : Nat} {ret : Option FieldType} {hh : List (Nat × Nat × Nat × Nat)}
    (hown : s.vm.findClass own = some m.cls) (hlink : (Cond.methodLink own index y).before args s = true) (hstat : (Cond.static y).before args s = true) (hinit : (Cond.initialized y.cls).before args s = true)
    (hcode : (Cond.codeWith y bytes maxL ret hh).before args s = true) (hy : y.cls ≠ "java/lang/invoke/MethodHandle" ∧ y.cls ≠ "java/lang/invoke/VarHandle")
    {W9 : Nat} {Pre : Pt → Array Value → Prop} {Post : Pt → Array Value → Option Value → Pt → Prop} (hK : Back l R p e below s args y 3 W9 Pre Post)
    {g : JFrame} (hg : g.method = m) (hsize : g.locals.size = c.maxLocals) {argsL rest : List Value} (hlen : ∀ sig, parseMethodDescriptor y.desc = some sig → argsL.length = sig.parameters.length)
    (hstack : g.stack = argsL.reverse ++ rest) (hW : 2 * g.monitorRoom + (rest.map fun v => v.category).sum ≤ W9) (hdg : decode c.code g.pc = .ok (.invokestatic index, 3))
    (hpre : ∀ vm₁, s.WarmedH vm₁ → Pre ⟨T.setVm vm₁, locs, cells, slots⟩ argsL.toArray) :
    ∃ (v : Option Value) (vm₁ : Vm) (B : Pt), s.WarmedH vm₁ ∧ Stand p l e R s m args below meth c B.U B.locs B.cells B.slots ∧ Post ⟨T.setVm vm₁, locs, cells, slots⟩ argsL.toArray v B ∧
      ∀ target, Steps p.tables e below (B.U.setTop { g with pc := g.pc + 3, stack := v.toList ++ rest }) target → Steps p.tables e below (T.setTop g) target := by
  obtain ⟨mk, methM, cM, hnamed, hmethM, -, -, -, -, -, -, hsigM⟩ := Cond.codeWith_spec hcode
  have hstatic : methM.isStatic = true := Cond.static_spec hnamed hmethM hstat
  obtain ⟨kP, hkP, -⟩ := className_of_methodNamed hnamed
  have hinitP : kP.init = .initialized := Cond.initialized_spec (findClass_of_methodNamed hnamed) hkP hinit
  obtain ⟨vm₁, X₁, hstep₁⟩ := X.invokestatic hexec hown hlink hnamed hmethM hstatic hkP hinitP hy (g := g) hg (argsL := argsL) (rest := rest) (hlen _ hsigM) hstack hdg
  obtain ⟨v, B, X', hpost, hsteps⟩ := hK m meth c ⟨T.setVm vm₁, locs, cells, slots⟩ { g with stack := rest } (.invokestatic index) mk argsL.toArray X₁ hg hsize hdg hW (X₁.named hnamed) (hpre vm₁ X₁.warmed)
  exact ⟨v, vm₁, B, X₁.warmed, X', hpost, fun target h => hstep₁ _ fun acts => by rw [doInvoke_state]; exact hsteps.trans h⟩
theorem vx_runSW {y : MethodName} {bytes cc : ByteArray} {maxL nL mc ms n index : Nat} {ret : Option FieldType} {hh : List (Nat × Nat × Nat × Nat)} {ws : List Cond} {rm : Room} {Pc : Array Value → State → Prop} {Qc : Array Value → State → Outcome → State → Prop} {free : Addr → Prop} {Ts : List Cond} {own : String} {As rest : List Value} {g : JFrame}
    (S : CallFix p m c cc nL s args Ts own) (hM : Met l y ws rm Pc Qc mc ms free) (cw : vx_CSW R s args own index y bytes maxL ret hh ws rm mc ms n) (hp : PreS s H Pc As)
    (hg : g.method = m) (hn : As.length = n) (hsize : g.locals.size = nL) (hstack : g.stack = As.reverse ++ rest) (hW : 2 * g.monitorRoom + (rest.map fun v => v.category).sum ≤ 8) (hdg : decode cc g.pc = .ok (.invokestatic index, 3)) (hf : cells + mc ≤ R.cells ∧ slots + ms ≤ R.slots) :
    va_Run p l e R s m args below meth c H locs cells slots mc ms g rest (Qc As.toArray) (free) := by
  obtain ⟨⟨hrc, hrs, hfr, hlo, hws, hcw⟩, hcode, hini, hy, hlen, hl, hstt⟩ := cw
  have hK : Back l R p e below s args y 3 8 (PreOf R mc ms Pc) (PostOf Qc mc ms free) := va_backW (hh := hh) (bytes := bytes) (maxL := maxL) (ret := ret) hM hp.1 hrc hrs hfr hlo hws hcw (fun a' U hW => word_at hW (Or.inl (by first | rfl | simp [Cond.onTables, Cond.keeps, Cond.steady])) hini)
  obtain ⟨hx, hb, hml, ho, -⟩ := S
  intro T hT X
  obtain ⟨v, vm₁, ⟨U', l2, c2, s2⟩, hW₁, X', ⟨g', mk, t, L, e1, e2, hq, h1, hL, h2, h3⟩, st⟩ := vx_callSW X hx (hh := hh) (bytes := bytes) (maxL := maxL) (ret := ret) ho hl hstt hini hcode hy hK hg (hsize.trans hml.symm) (argsL := As) (rest := rest) (fun sig h => hn.trans (hlen sig h)) hstack hW (by rw [hb]; exact hdg)
    (fun vm₁ hW₁ => ⟨hf.1, hf.2, hp.2 (T.setVm vm₁) hT hW₁⟩)
  dsimp only [Pt.U, Pt.locs, Pt.cells, Pt.slots] at X' e1 e2 h1 h2 h3 st
  subst h1; subst h2; subst h3
  exact ⟨v, (T.setVm vm₁).calling g' mk As.toArray, t, U', L, hT, X', hL, e1, e2, hq, st⟩
/-- not caught here, past rows that name other classes: it goes on to the caller -/
theorem vx_outP {p : Program} {l : Launch} {e : Env} {R : Room} {s : State} {m : MethodId} {args : Array Value} {below : List Frame} {meth : Method} {c : Code} {H : Heap} {locs : List Loc} {cells slots : Nat} {free : Addr → Prop} {ls : Array Slot} {rest : List Value} {Qc : Array Value → State → Outcome → State → Prop} {XC : String → State → State → Prop}
    {pc : Nat} {own E : String} {ce : Cell} {q : Addr} {mc ms : Nat} (hown : s.vm.findClass own = some m.cls) (hlocks : meth.locks = false)
    (hpass : ∀ z ∈ c.exceptionTable.toList, covers z pc = false ∨ (z.catchType ≠ 0 ∧ ∃ nm : String, (Cond.classLink own z.catchType nm).before args s = true ∧ va_Nc E nm s)) (hcell : H[q]? = some ce) (hv : ce.vm = .none) (hcl : s.vm.findClass E = some ce.cls)
    (hx : ∀ t : State, t.heap = H → s.vm.Alike t.vm → XC E s t) (hf : ∀ z ∈ locs, free z.base) (hc : cells ≤ mc) (hs : slots ≤ ms) :
    vx_W p l e R s m args below meth c H locs cells slots (vx_MQ below Qc XC args s mc ms free) (F0 m pc ls rest) q := by
  intro T hT X
  have hpl : e.platform.magicAccessors = ({} : Platform).magicAccessors := by rw [X.admits.platform]
  obtain ⟨vm', hW', X', st⟩ := _root_.Jvm.Stand.outThrough X hlocks q (g := F0 m pc ls rest) rfl rfl rfl (cell := ce) (by rw [hT]; exact hcell) (by rw [hv]; rfl)
    (by obtain ⟨k9, h9, -⟩ := Vm.findClass_spec hcl; exact ⟨k9, h9⟩) (fun z hz => by
      rcases hpass z hz with h | ⟨hz0, nm, hl1, hn1⟩
      · exact Or.inl h
      · obtain ⟨c6, hc6, hcl6⟩ := Cond.classLink_spec hown hl1 e.platform hpl
        obtain ⟨a8, b8, h1, h2, h3⟩ := hn1
        cases Option.some.inj (h1.symm.trans hcl)
        cases Option.some.inj (h2.symm.trans hc6)
        exact Or.inr ⟨hz0, _, hcl6, h3⟩)
  obtain ⟨g₀, hfr⟩ := X'.frames_eq
  have hcell9 : ((T.setVm vm').setFrames (.throwing q :: below)).heap[q]? = some ce := by
    show T.heap[q]? = some ce
    rw [hT]; exact hcell
  have hend : Ended ((T.setVm vm').setFrames (.throwing q :: below)) below (.threw q) := State.frames_setFrames _ (State.cur_lt_of_frames hfr)
  refine ⟨(T.setVm vm').setFrames (.throwing q :: below), ?_, .threw q, X'.here.running, hend, Or.inr ⟨q, rfl, E, ce, locs, hx _ hT (X'.ends _).1.alike, hcell9, hv, hcl, (X'.ends _).1, (X'.ends _).2.mono hc hs, hf⟩⟩
  rw [X.pushThrowing_eq]
  exact st
/-- a thing of a world lies in the heap -/
theorem vx_lt {D : va_G} {cl : List vw_C} {ws : va_W} {H1 : Heap} (h : va_P D cl ws H1) {k : Nat} {q : Nat × va_E} (hk : ws[k]? = some q) : q.1 < H1.size := (h k q hk).lt
end VXS
/-! ===== END ===== -/
/-! ===== BEGIN methods with a table of their own: called by a name, returning or throwing ===== -/
section VXH
/-! vx_backW, vx_callVX, vx_callSX, vx_callVW, vx_runVW, vx_runVX, vx_runSX, vx_ofWH follow the same proofs as their sisters above (Free/Laws.lean, Shelf42/LK1.lean); vx_outP calls Shelf42/NT130.lean (outThrough). -/
section
variable {l : Launch} {R : Room} {p : Program} {e : Env} {below : List Frame} {s : State} {sargs : Array Value} {y : MethodName} {len W9 : Nat}
theorem vx_backW {ws : List Cond} {rm : Room} {Pc : Array Value → State → Prop} {Qc : Array Value → State → Outcome → State → Prop} {XC : String → State → State → Prop} {mc ms : Nat} {free : Addr → Prop} {bytes : ByteArray} {maxL : Nat} {ret : Option FieldType} {hh : List (Nat × Nat × Nat × Nat)}
    (hM : vx_Met l y ws rm Pc Qc XC mc ms free) (hblind : FrameBlind Pc) (hrc : rm.cells = mc) (hrs : rm.slots = ms)
    (hframes : rm.frames + 1 ≤ R.frames) (hlocals : W9 + (maxL + 11) + rm.locals ≤ R.locals)
    (hws : ∀ w ∈ ws, ∀ a' U, s.WarmedH U.vm → w.before a' U = true) (hcode : Cond.codeWith y bytes maxL ret hh ∈ ws) (hinit : ∀ a' U, s.WarmedH U.vm → (Cond.initialized y.cls).before a' U = true) :
    vx_Back l R p e below s sargs y len W9 (PreOf R mc ms Pc) (PostOf Qc mc ms free) (vx_Post XC mc ms free) := by
  intro m meth c A g ig mk a X hg hsize hdg hW hn hp
  have h1 : (headSpec ws rm).pre.before a A.U = true := atoms_intro fun w hw => hws w hw _ _ X.warmed
  have h2 : (Cond.codeWith y bytes maxL ret hh).before a A.U = true := hws _ hcode _ _ X.warmed
  have h3 : (Cond.initialized y.cls).before a A.U = true := hinit _ _ X.warmed
  have h4 : A.cells + (headSpec ws rm).room.cells ≤ R.cells := by rw [show (headSpec ws rm).room.cells = mc from hrc]; exact hp.1
  have h5 : A.slots + (headSpec ws rm).room.slots ≤ R.slots := by rw [show (headSpec ws rm).room.slots = ms from hrs]; exact hp.2.1
  have hPc : Pc a (A.U.calling g mk a) := hblind _ _ _ _ hp.2.2
  obtain ⟨U, Ls, c0, s0⟩ := A
  dsimp only [Pt.U, Pt.locs, Pt.cells, Pt.slots] at h1 h2 h3 h4 h5 X hn hPc ⊢
  obtain ⟨m9, methY, cY, hn9, hmY, hcY, -, hlY, -⟩ := Cond.codeWith_spec h2
  cases Option.some.inj (hn9.symm.trans hn)
  obtain ⟨kY, hkY, -⟩ := className_of_methodNamed hn
  have hinitY : kY.init = .initialized := Cond.initialized_spec (findClass_of_methodNamed hn) hkY h3
  have h : At U g.method c below := by rw [hg]; exact X.here
  have hlocals9 : W9 + (maxL + 11) + (headSpec ws rm).room.locals ≤ R.locals := hlocals
  have happ : (headSpec ws rm).appliesLoose y e.platform (U.calling g mk a) = true :=
    Spec.appliesLoose_calling (g := g) h hdg hn hkY hinitY
      (X.room_calling (g := g) (R' := (headSpec ws rm).room) hsize hmY hcY hframes (by rw [hlY]; omega) h4 h5) h1
  obtain ⟨mid, hmid⟩ := h.above
  have hfr : (U.setTop g).frames = (.java g :: mid) ++ below := by rw [State.frames_setTop' g h.top, hmid]; rfl
  obtain ⟨o, s₂, hsteps, -, hend, hq⟩ := Steps.callFree hM p X.admits X.cas X.clock (acts := []) hfr happ hPc trivial
  have hq' : vx_Q Qc XC mc ms free a (U.calling g mk a) o s₂ := hq
  rw [State.frames_setTop' g h.top] at hend
  obtain ⟨g₀, hg0⟩ := Option.isSome_iff_exists.mp h.top
  obtain ⟨r, hr⟩ := State.topJava?_eq_some.mp hg0
  have hr' : (({ U with heap := s₂.heap, slotsUsed := s₂.slotsUsed } : State).setVm s₂.vm).frames = .java g₀ :: r := hr
  rcases hq' with ⟨hqc, L, hfe, hL⟩ | ⟨q, rfl, E, ce, L, hx, hce, hcv, hcl, hW₂, hsm, hL⟩
  · obtain ⟨⟨v, rfl⟩, hW₂, e2, q2, q3, q4, q5, q6⟩ := id hfe
    have e3 : s₂ = ({ (U.calling g mk a).setFrames s₂.frames with heap := s₂.heap, slotsUsed := s₂.slotsUsed } : State).setVm s₂.vm := by
      have : s₂ = ({ s₂ with vm := (U.calling g mk a).vm } : State).setVm s₂.vm := rfl
      rw [e2] at this
      exact this
    obtain ⟨c₂, i₂, len₂, hc₂, hd₂, hf₂⟩ := hend
    have hW' : U.WarmedH s₂.vm := hW₂
    have hcc : c₂ = c := by
      have h1 : s₂.code? g.method = U.code? g.method := by
        rw [State.code?_eq, State.code?_eq, hW'.alike.method?]
      exact Option.some.inj (hc₂.symm.trans (h1.trans h.code))
    subst hcc
    have hlen : len₂ = len := by rw [hdg] at hd₂; cases hd₂; rfl
    subst hlen
    have hs₂ : s₂ = (({ U with heap := s₂.heap, slotsUsed := s₂.slotsUsed } : State).setVm s₂.vm).setTop { g with pc := g.pc + len₂, stack := v.toList ++ g.stack } := by
      refine e3.trans ?_
      rw [hf₂, State.calling_eq h.top, State.setFrames_setFrames, State.setTop_of_frames _ hr', hr]
      rfl
    have hsame : U.sameButNew ({ U with heap := s₂.heap, slotsUsed := s₂.slotsUsed } : State) L mc ms := by
      refine ⟨?_, q2, q3, q4, q5, q6⟩
      obtain ⟨t, ht, -⟩ := State.frames_cons hr
      show ({ U with heap := s₂.heap, slotsUsed := s₂.slotsUsed } : State) = { U.setFrames U.frames with heap := s₂.heap, slotsUsed := s₂.slotsUsed }
      rw [State.setFrames_self ht]
    subst hg
    refine Or.inl ⟨v, ⟨(({ U with heap := s₂.heap, slotsUsed := s₂.slotsUsed } : State).setVm s₂.vm), Ls ++ L, c0 + mc, s0 + ms⟩,
      ⟨X.admits, X.cas, X.clock, X.frames, X.room, X.hears, X.method, X.code, (X.here.setHeapUsed s₂.heap s₂.slotsUsed).setVm hW'.alike, X.tail, State.WarmedH.trans X.warmed hW', X.limits, X.bytes, X.same.trans (hsame.setVm s.vm)⟩,
      ⟨g, mk, s₂, L, rfl, rfl, hqc, rfl, hL, rfl, rfl⟩, ?_⟩
    show Steps p.tables e below _ ((({ U with heap := s₂.heap, slotsUsed := s₂.slotsUsed } : State).setVm s₂.vm).setTop { g with pc := g.pc + len₂, stack := v.toList ++ g.stack })
    rw [← hs₂]
    exact hsteps
  · obtain ⟨e2, q2, q3, q4, q5, q6⟩ := id hsm
    have e3 : s₂ = ({ (U.calling g mk a).setFrames s₂.frames with heap := s₂.heap, slotsUsed := s₂.slotsUsed } : State).setVm s₂.vm := by
      have : s₂ = ({ s₂ with vm := (U.calling g mk a).vm } : State).setVm s₂.vm := rfl
      rw [e2] at this
      exact this
    have hf₂ : s₂.frames = .throwing q :: .java g :: U.frames.tail := hend
    have hW' : U.WarmedH s₂.vm := hW₂
    have hs₂ : s₂ = ((({ U with heap := s₂.heap, slotsUsed := s₂.slotsUsed } : State).setVm s₂.vm).setTop g).pushFrame (.throwing q) := by
      refine e3.trans ?_
      rw [hf₂, State.calling_eq h.top, State.setFrames_setFrames, State.pushFrame, State.frames_setTop _ hr', State.setTop_of_frames _ hr', State.setFrames_setFrames, hr]
      rfl
    have hsame : U.sameButNew ({ U with heap := s₂.heap, slotsUsed := s₂.slotsUsed } : State) L mc ms := by
      refine ⟨?_, q2, q3, q4, q5, q6⟩
      obtain ⟨t, ht, -⟩ := State.frames_cons hr
      show ({ U with heap := s₂.heap, slotsUsed := s₂.slotsUsed } : State) = { U.setFrames U.frames with heap := s₂.heap, slotsUsed := s₂.slotsUsed }
      rw [State.setFrames_self ht]
    subst hg
    refine Or.inr ⟨q, ⟨(({ U with heap := s₂.heap, slotsUsed := s₂.slotsUsed } : State).setVm s₂.vm), Ls ++ L, c0 + mc, s0 + ms⟩,
      ⟨X.admits, X.cas, X.clock, X.frames, X.room, X.hears, X.method, X.code, (X.here.setHeapUsed s₂.heap s₂.slotsUsed).setVm hW'.alike, X.tail, State.WarmedH.trans X.warmed hW', X.limits, X.bytes, X.same.trans (hsame.setVm s.vm)⟩,
      ⟨g, mk, s₂, L, E, ce, rfl, rfl, hx, hce, hcv, hcl, rfl, hL, rfl, rfl⟩, ?_⟩
    show Steps p.tables e below _ (((({ U with heap := s₂.heap, slotsUsed := s₂.slotsUsed } : State).setVm s₂.vm).setTop g).pushFrame (.throwing q))
    rw [← hs₂]
    exact hsteps
end
variable {p : Program} {l : Launch} {e : Env} {R : Room} {s : State} {m : MethodId} {args : Array Value} {below : List Frame} {meth : Method} {c : Code} {T : State} {H : Heap} {locs : List Loc} {cells slots : Nat}
theorem vx_callVX (X : Stand p l e R s m args below meth c T locs cells slots) (hexec : p.tables.exec = Jvm.exec) {own C : String} {index : Nat} {y : MethodName} {bytes : ByteArray} {maxL : Nat} {ret : Option FieldType} {hh : List (Nat × Nat × Nat × Nat)}
    (hown : s.vm.findClass own = some m.cls) (hlink : (Cond.methodLink own index y).before args s = true) (hinst : (Cond.instanceMethod y).before args s = true) (hsel : (Cond.selects C y y).before args s = true)
    (hcode : (Cond.codeWith y bytes maxL ret hh).before args s = true) (hy : y.cls ≠ "java/lang/invoke/MethodHandle" ∧ y.cls ≠ "java/lang/invoke/VarHandle")
    {W9 : Nat} {Pre : Pt → Array Value → Prop} {Post : Pt → Array Value → Option Value → Pt → Prop} {PostX : Pt → Array Value → Addr → Pt → Prop} (hK : vx_Back l R p e below s args y 3 W9 Pre Post PostX)
    {b : Addr} {cellB : Cell} (hcell : T.heap[b]? = some cellB) (hobj : cellB.vm.isStatics = false) (hcls : s.vm.findClass C = some cellB.cls)
    {g : JFrame} (hg : g.method = m) (hsize : g.locals.size = c.maxLocals) {argsL rest : List Value} (hlen : ∀ sig, parseMethodDescriptor y.desc = some sig → argsL.length = sig.parameters.length)
    (hstack : g.stack = argsL.reverse ++ .ref b :: rest) (hW : 2 * g.monitorRoom + (rest.map fun v => v.category).sum ≤ W9) (hdg : decode c.code g.pc = .ok (.invokevirtual index, 3))
    (hpre : ∀ vm₁, s.WarmedH vm₁ → Pre ⟨T.setVm vm₁, locs, cells, slots⟩ (Value.ref b :: argsL).toArray) :
    (∃ (v : Option Value) (vm₁ : Vm) (B : Pt), s.WarmedH vm₁ ∧ Stand p l e R s m args below meth c B.U B.locs B.cells B.slots ∧ Post ⟨T.setVm vm₁, locs, cells, slots⟩ (Value.ref b :: argsL).toArray v B ∧
      ∀ target, Steps p.tables e below (B.U.setTop { g with pc := g.pc + 3, stack := v.toList ++ rest }) target → Steps p.tables e below (T.setTop g) target) ∨
    (∃ (q : Addr) (vm₁ : Vm) (B : Pt), s.WarmedH vm₁ ∧ Stand p l e R s m args below meth c B.U B.locs B.cells B.slots ∧ PostX ⟨T.setVm vm₁, locs, cells, slots⟩ (Value.ref b :: argsL).toArray q B ∧
      Steps p.tables e below (T.setTop g) ((B.U.setTop { g with stack := rest }).pushFrame (.throwing q))) := by
  obtain ⟨mk, methM, hnamed, hmethM, hstM, habM⟩ := Cond.instanceMethod_spec hinst
  obtain ⟨m8, methM', cM, hn8, hmethM', -, -, -, -, -, -, hsigM⟩ := Cond.codeWith_spec hcode
  cases Option.some.inj (hn8.symm.trans hnamed)
  cases hmethM.symm.trans hmethM'
  obtain ⟨c2, r2, m2, q1, q2, q3, q4, kP, hkP, hkPi⟩ := Cond.selects_spec hsel
  cases hcls.symm.trans q1
  cases (State.methodFound?_of_named hnamed hy).symm.trans q2
  cases hnamed.symm.trans q3
  have hselP : selectMethod e.platform s.vm cellB.cls mk = .method mk := by rw [Launch.admits_selectMethod X.admits]; exact q4
  obtain ⟨vm₁, X₁, hstep₁⟩ := X.invokevirtual hexec hown hlink hnamed hmethM hstM hkP hkPi hy (a := b) (cell := cellB) hcell
    (fun z h => by rw [h] at hobj; cases hobj) hselP hmethM habM hkP hkPi (g := g) hg (argsL := argsL) (rest := rest) (hlen _ hsigM) hstack hdg
  rcases hK m meth c ⟨T.setVm vm₁, locs, cells, slots⟩ { g with stack := rest } (.invokevirtual index) mk (Value.ref b :: argsL).toArray X₁ hg hsize hdg hW (X₁.named hnamed) (hpre vm₁ X₁.warmed) with ⟨v, B, X', hpost, hsteps⟩ | ⟨q, B, X', hpost, hsteps⟩
  · exact Or.inl ⟨v, vm₁, B, X₁.warmed, X', hpost, fun target h => hstep₁ _ fun acts => by rw [doInvoke_state]; exact hsteps.trans h⟩
  · exact Or.inr ⟨q, vm₁, B, X₁.warmed, X', hpost, hstep₁ _ fun acts => by rw [doInvoke_state]; exact hsteps⟩
theorem vx_callSX (X : Stand p l e R s m args below meth c T locs cells slots) (hexec : p.tables.exec = Jvm.exec) {own : String} {index : Nat} {y : MethodName} {bytes : ByteArray} {maxL : Nat} {ret : Option FieldType} {hh : List (Nat × Nat × Nat × Nat)}
    (hown : s.vm.findClass own = some m.cls) (hlink : (Cond.methodLink own index y).before args s = true) (hstat : (Cond.static y).before args s = true) (hinit : (Cond.initialized y.cls).before args s = true)
    (hcode : (Cond.codeWith y bytes maxL ret hh).before args s = true) (hy : y.cls ≠ "java/lang/invoke/MethodHandle" ∧ y.cls ≠ "java/lang/invoke/VarHandle")
    {W9 : Nat} {Pre : Pt → Array Value → Prop} {Post : Pt → Array Value → Option Value → Pt → Prop} {PostX : Pt → Array Value → Addr → Pt → Prop} (hK : vx_Back l R p e below s args y 3 W9 Pre Post PostX)
    {g : JFrame} (hg : g.method = m) (hsize : g.locals.size = c.maxLocals) {argsL rest : List Value} (hlen : ∀ sig, parseMethodDescriptor y.desc = some sig → argsL.length = sig.parameters.length)
    (hstack : g.stack = argsL.reverse ++ rest) (hW : 2 * g.monitorRoom + (rest.map fun v => v.category).sum ≤ W9) (hdg : decode c.code g.pc = .ok (.invokestatic index, 3))
    (hpre : ∀ vm₁, s.WarmedH vm₁ → Pre ⟨T.setVm vm₁, locs, cells, slots⟩ argsL.toArray) :
    (∃ (v : Option Value) (vm₁ : Vm) (B : Pt), s.WarmedH vm₁ ∧ Stand p l e R s m args below meth c B.U B.locs B.cells B.slots ∧ Post ⟨T.setVm vm₁, locs, cells, slots⟩ argsL.toArray v B ∧
      ∀ target, Steps p.tables e below (B.U.setTop { g with pc := g.pc + 3, stack := v.toList ++ rest }) target → Steps p.tables e below (T.setTop g) target) ∨
    (∃ (q : Addr) (vm₁ : Vm) (B : Pt), s.WarmedH vm₁ ∧ Stand p l e R s m args below meth c B.U B.locs B.cells B.slots ∧ PostX ⟨T.setVm vm₁, locs, cells, slots⟩ argsL.toArray q B ∧
      Steps p.tables e below (T.setTop g) ((B.U.setTop { g with stack := rest }).pushFrame (.throwing q))) := by
  obtain ⟨mk, methM, cM, hnamed, hmethM, -, -, -, -, -, -, hsigM⟩ := Cond.codeWith_spec hcode
  have hstatic : methM.isStatic = true := Cond.static_spec hnamed hmethM hstat
  obtain ⟨kP, hkP, -⟩ := className_of_methodNamed hnamed
  have hinitP : kP.init = .initialized := Cond.initialized_spec (findClass_of_methodNamed hnamed) hkP hinit
  obtain ⟨vm₁, X₁, hstep₁⟩ := X.invokestatic hexec hown hlink hnamed hmethM hstatic hkP hinitP hy (g := g) hg (argsL := argsL) (rest := rest) (hlen _ hsigM) hstack hdg
  rcases hK m meth c ⟨T.setVm vm₁, locs, cells, slots⟩ { g with stack := rest } (.invokestatic index) mk argsL.toArray X₁ hg hsize hdg hW (X₁.named hnamed) (hpre vm₁ X₁.warmed) with ⟨v, B, X', hpost, hsteps⟩ | ⟨q, B, X', hpost, hsteps⟩
  · exact Or.inl ⟨v, vm₁, B, X₁.warmed, X', hpost, fun target h => hstep₁ _ fun acts => by rw [doInvoke_state]; exact hsteps.trans h⟩
  · exact Or.inr ⟨q, vm₁, B, X₁.warmed, X', hpost, hstep₁ _ fun acts => by rw [doInvoke_state]; exact hsteps⟩
theorem vx_callVW (X : Stand p l e R s m args below meth c T locs cells slots) (hexec : p.tables.exec = Jvm.exec) {own C : String} {index : Nat} {y : MethodName} {bytes : ByteArray} {maxL : Nat} {ret : Option FieldType} {hh : List (Nat × Nat × Nat × Nat)}
    (hown : s.vm.findClass own = some m.cls) (hlink : (Cond.methodLink own index y).before args s = true) (hinst : (Cond.instanceMethod y).before args s = true) (hsel : (Cond.selects C y y).before args s = true)
    (hcode : (Cond.codeWith y bytes maxL ret hh).before args s = true) (hy : y.cls ≠ "java/lang/invoke/MethodHandle" ∧ y.cls ≠ "java/lang/invoke/VarHandle")
    {W9 : Nat} {Pre : Pt → Array Value → Prop} {Post : Pt → Array Value → Option Value → Pt → Prop} (hK : Back l R p e below s args y 3 W9 Pre Post)
    {b : Addr} {cellB : Cell} (hcell : T.heap[b]? = some cellB) (hobj : cellB.vm.isStatics = false) (hcls : s.vm.findClass C = some cellB.cls)
    {g : JFrame} (hg : g.method = m) (hsize : g.locals.size = c.maxLocals) {argsL rest : List Value} (hlen : ∀ sig, parseMethodDescriptor y.desc = some sig → argsL.length = sig.parameters.length)
    (hstack : g.stack = argsL.reverse ++ .ref b :: rest) (hW : 2 * g.monitorRoom + (rest.map fun v => v.category).sum ≤ W9) (hdg : decode c.code g.pc = .ok (.invokevirtual index, 3))
    (hpre : ∀ vm₁, s.WarmedH vm₁ → Pre ⟨T.setVm vm₁, locs, cells, slots⟩ (Value.ref b :: argsL).toArray) :
    ∃ (v : Option Value) (vm₁ : Vm) (B : Pt), s.WarmedH vm₁ ∧ Stand p l e R s m args below meth c B.U B.locs B.cells B.slots ∧ Post ⟨T.setVm vm₁, locs, cells, slots⟩ (Value.ref b :: argsL).toArray v B ∧
      ∀ target, Steps p.tables e below (B.U.setTop { g with pc := g.pc + 3, stack := v.toList ++ rest }) target → Steps p.tables e below (T.setTop g) target := by
  obtain ⟨mk, methM, hnamed, hmethM, hstM, habM⟩ := Cond.instanceMethod_spec hinst
  obtain ⟨m8, methM', cM, hn8, hmethM', -, -, -, -, -, -, hsigM⟩ := Cond.codeWith_spec hcode
  cases Option.some.inj (hn8.symm.trans hnamed)
  cases hmethM.symm.trans hmethM'
  obtain ⟨c2, r2, m2, q1, q2, q3, q4, kP, hkP, hkPi⟩ := Cond.selects_spec hsel
  cases hcls.symm.trans q1
  cases (State.methodFound?_of_named hnamed hy).symm.trans q2
  cases hnamed.symm.trans q3
  have hselP : selectMethod e.platform s.vm cellB.cls mk = .method mk := by rw [Launch.admits_selectMethod X.admits]; exact q4
  obtain ⟨vm₁, X₁, hstep₁⟩ := X.invokevirtual hexec hown hlink hnamed hmethM hstM hkP hkPi hy (a := b) (cell := cellB) hcell
    (fun z h => by rw [h] at hobj; cases hobj) hselP hmethM habM hkP hkPi (g := g) hg (argsL := argsL) (rest := rest) (hlen _ hsigM) hstack hdg
  obtain ⟨v, B, X', hpost, hsteps⟩ := hK m meth c ⟨T.setVm vm₁, locs, cells, slots⟩ { g with stack := rest } (.invokevirtual index) mk (Value.ref b :: argsL).toArray X₁ hg hsize hdg hW (X₁.named hnamed) (hpre vm₁ X₁.warmed)
  exact ⟨v, vm₁, B, X₁.warmed, X', hpost, fun target h => hstep₁ _ fun acts => by rw [doInvoke_state]; exact hsteps.trans h⟩
abbrev vx_CVW (R : Room) (s : State) (args : Array Value) (own C : String) (index : Nat) (y : MethodName) (bytes : ByteArray) (maxL : Nat) (ret : Option FieldType) (hh : List (Nat × Nat × Nat × Nat)) (ws : List Cond) (rm : Room) (mc ms n : Nat) : Prop :=
  (rm.cells = mc ∧ rm.slots = ms ∧ rm.frames + 1 ≤ R.frames ∧ 8 + (maxL + 11) + rm.locals ≤ R.locals ∧ (∀ w ∈ ws, ∀ (a' : Array Value) (U : State), s.WarmedH U.vm → w.before a' U = true) ∧ Cond.codeWith y bytes maxL ret hh ∈ ws) ∧
  (Cond.codeWith y bytes maxL ret hh).before args s = true ∧ (Cond.initialized y.cls).before args s = true ∧ (y.cls ≠ "java/lang/invoke/MethodHandle" ∧ y.cls ≠ "java/lang/invoke/VarHandle") ∧
  (∀ sig, parseMethodDescriptor y.desc = some sig → n = sig.parameters.length) ∧ (Cond.methodLink own index y).before args s = true ∧ (Cond.instanceMethod y).before args s = true ∧ (Cond.selects C y y).before args s = true
theorem vx_cwVW {own C : String} {index maxL mc ms : Nat} {y : MethodName} {bytes : ByteArray} {ret : Option FieldType} {hh : List (Nat × Nat × Nat × Nat)} {Ts ws ws' : List Cond} {rm : Room} (n : Nat) (ht : ∀ w ∈ Ts, w.before args s = true) (hT : GoodIn Ts (wsV own index C y ws)) (hw : ws = Cond.codeWith y bytes maxL ret hh :: ws') (hrc : rm.cells = mc) (hrs : rm.slots = ms)
    (hd : y.cls = C ∧ y.cls ≠ "java/lang/invoke/MethodHandle" ∧ y.cls ≠ "java/lang/invoke/VarHandle" ∧ (parseMethodDescriptor y.desc).map (fun d => d.parameters.length) = some n) (hR : rm.frames + 1 ≤ R.frames ∧ 8 + (maxL + 11) + rm.locals ≤ R.locals) :
    vx_CVW R s args own C index y bytes maxL ret hh ws rm mc ms n := by
  obtain ⟨hC, hd⟩ := hd
  subst hC
  have ok : ∀ w ∈ wsV own index y.cls y ws, w.before args s = true := fun w h => ht w (hT w h).1
  have hG : GoodIn Ts ws := fun w h => hT w (by unfold wsV; exact List.mem_append_right _ h)
  have hc : Cond.codeWith y bytes maxL ret hh ∈ ws := by rw [hw]; exact List.mem_cons_self
  refine ⟨⟨hrc, hrs, hR.1, hR.2, pay_in ht hG, hc⟩, ht _ (hG _ hc).1, ok _ (by simp [wsV]), ⟨hd.1, hd.2.1⟩, fun sig h => ?_, ok _ (by simp [wsV]), ok _ (by simp [wsV]), ok _ (by simp [wsV])⟩
  have h2 := hd.2.2
  rw [h] at h2
  exact (Option.some.inj h2).symm
theorem vx_runVW {y : MethodName} {bytes cc : ByteArray} {maxL nL mc ms n index : Nat} {ret : Option FieldType} {hh : List (Nat × Nat × Nat × Nat)} {ws : List Cond} {rm : Room} {Pc : Array Value → State → Prop} {Qc : Array Value → State → Outcome → State → Prop} {free : Addr → Prop} {Ts : List Cond} {own C : String} {b : Addr} {As rest : List Value} {g : JFrame}
    (S : CallFix p m c cc nL s args Ts own) (hM : Met l y ws rm Pc Qc mc ms free) (cw : vx_CVW R s args own C index y bytes maxL ret hh ws rm mc ms n) (hp : PreV s H C b Pc As)
    (hg : g.method = m) (hn : As.length = n) (hsize : g.locals.size = nL) (hstack : g.stack = As.reverse ++ .ref b :: rest) (hW : 2 * g.monitorRoom + (rest.map fun v => v.category).sum ≤ 8) (hdg : decode cc g.pc = .ok (.invokevirtual index, 3)) (hf : cells + mc ≤ R.cells ∧ slots + ms ≤ R.slots) :
    va_Run p l e R s m args below meth c H locs cells slots mc ms g rest (Qc (Value.ref b :: As).toArray) free := by
  obtain ⟨⟨hrc, hrs, hfr, hlo, hws, hcw⟩, hcode, hini, hy, hlen, hl, hin, hse⟩ := cw
  have hK : Back l R p e below s args y 3 8 (PreOf R mc ms Pc) (PostOf Qc mc ms free) := va_backW (hh := hh) (bytes := bytes) (maxL := maxL) (ret := ret) hM hp.1 hrc hrs hfr hlo hws hcw (fun a' U hW => word_at hW (Or.inl (by first | rfl | simp [Cond.onTables, Cond.keeps, Cond.steady])) hini)
  obtain ⟨hx, hb, hml, ho, -⟩ := S
  obtain ⟨-, ⟨cellB, hcB, hoB, hclB⟩, hPc⟩ := hp
  intro T hT X
  obtain ⟨v, vm₁, ⟨U', l2, c2, s2⟩, hW₁, X', ⟨g', mk, t, L, e1, e2, hq, h1, hL, h2, h3⟩, st⟩ := vx_callVW X hx (C := C) (hh := hh) (bytes := bytes) (maxL := maxL) (ret := ret) ho hl hin hse hcode hy hK (by rw [hT]; exact hcB) hoB hclB hg (hsize.trans hml.symm) (argsL := As) (rest := rest) (fun sig h => hn.trans (hlen sig h)) hstack hW (by rw [hb]; exact hdg)
    (fun vm₁ hW₁ => ⟨hf.1, hf.2, hPc (T.setVm vm₁) hT hW₁⟩)
  dsimp only [Pt.U, Pt.locs, Pt.cells, Pt.slots] at X' e1 e2 h1 h2 h3 st
  subst h1; subst h2; subst h3
  exact ⟨v, (T.setVm vm₁).calling g' mk (Value.ref b :: As).toArray, t, U', L, hT, X', hL, e1, e2, hq, st⟩
section
variable {y : MethodName} {bytes cc : ByteArray} {maxL nL mc ms n index : Nat} {ret : Option FieldType} {ws : List Cond} {rm : Room} {Pc : Array Value → State → Prop} {Qc : Array Value → State → Outcome → State → Prop} {XC : String → State → State → Prop} {free : Addr → Prop} {Ts : List Cond} {own C : String} {b : Addr} {As rest : List Value} {g : JFrame}
theorem vx_runVX {hh : List (Nat × Nat × Nat × Nat)} (S : CallFix p m c cc nL s args Ts own) (hM : vx_Met l y ws rm Pc Qc XC mc ms free) (cw : vx_CVW R s args own C index y bytes maxL ret hh ws rm mc ms n) (hp : PreV s H C b Pc As)
    (hg : g.method = m) (hn : As.length = n) (hsize : g.locals.size = nL) (hstack : g.stack = As.reverse ++ .ref b :: rest) (hW : 2 * g.monitorRoom + (rest.map fun v => v.category).sum ≤ 8) (hdg : decode cc g.pc = .ok (.invokevirtual index, 3)) (hf : cells + mc ≤ R.cells ∧ slots + ms ≤ R.slots) :
    vx_Run p l e R s m args below meth c H locs cells slots mc ms g rest (Qc (Value.ref b :: As).toArray) XC free := by
  obtain ⟨⟨hrc, hrs, hfr, hlo, hws, hcw⟩, hcode, hini, hy, hlen, hl, hin, hse⟩ := cw
  have hK : vx_Back l R p e below s args y 3 8 (PreOf R mc ms Pc) (PostOf Qc mc ms free) (vx_Post XC mc ms free) := vx_backW (hh := hh) (bytes := bytes) (maxL := maxL) (ret := ret) hM hp.1 hrc hrs hfr hlo hws hcw (fun a' U hW => word_at hW (Or.inl (by first | rfl | simp [Cond.onTables, Cond.keeps, Cond.steady])) hini)
  obtain ⟨hx, hb, hml, ho, -⟩ := S
  obtain ⟨-, ⟨cellB, hcB, hoB, hclB⟩, hPc⟩ := hp
  intro T hT X
  rcases vx_callVX X hx (C := C) (hh := hh) (bytes := bytes) (maxL := maxL) (ret := ret) ho hl hin hse hcode hy hK (by rw [hT]; exact hcB) hoB hclB hg (hsize.trans hml.symm) (argsL := As) (rest := rest) (fun sig h => hn.trans (hlen sig h)) hstack hW (by rw [hb]; exact hdg)
    (fun vm₁ hW₁ => ⟨hf.1, hf.2, hPc (T.setVm vm₁) hT hW₁⟩) with ⟨v, vm₁, ⟨U', l2, c2, s2⟩, hW₁, X', ⟨g', mk, t, L, e1, e2, hq, h1, hL, h2, h3⟩, st⟩ | ⟨q, vm₁, ⟨U', l2, c2, s2⟩, hW₁, X', ⟨g', mk, t, L, E, ce, e1, e2, hq, hce, hcv, hcl, h1, hL, h2, h3⟩, st⟩
  · dsimp only [Pt.U, Pt.locs, Pt.cells, Pt.slots] at X' e1 e2 h1 h2 h3 st
    subst h1; subst h2; subst h3
    exact Or.inl ⟨v, (T.setVm vm₁).calling g' mk (Value.ref b :: As).toArray, t, U', L, hT, X', hL, e1, e2, hq, st⟩
  · dsimp only [Pt.U, Pt.locs, Pt.cells, Pt.slots] at X' e1 e2 h1 h2 h3 st hcl
    subst h1; subst h2; subst h3
    exact Or.inr ⟨q, (T.setVm vm₁).calling g' mk (Value.ref b :: As).toArray, t, U', L, E, ce, hT, X', hL, e1, e2, hq, hce, hcv, vx_cls hW₁ hcl, st⟩
theorem vx_runSX {hh : List (Nat × Nat × Nat × Nat)} (S : CallFix p m c cc nL s args Ts own) (hM : vx_Met l y ws rm Pc Qc XC mc ms free) (cw : vx_CSW R s args own index y bytes maxL ret hh ws rm mc ms n) (hp : PreS s H Pc As)
    (hg : g.method = m) (hn : As.length = n) (hsize : g.locals.size = nL) (hstack : g.stack = As.reverse ++ rest) (hW : 2 * g.monitorRoom + (rest.map fun v => v.category).sum ≤ 8) (hdg : decode cc g.pc = .ok (.invokestatic index, 3)) (hf : cells + mc ≤ R.cells ∧ slots + ms ≤ R.slots) :
    vx_Run p l e R s m args below meth c H locs cells slots mc ms g rest (Qc As.toArray) XC free := by
  obtain ⟨⟨hrc, hrs, hfr, hlo, hws, hcw⟩, hcode, hini, hy, hlen, hl, hstt⟩ := cw
  have hK : vx_Back l R p e below s args y 3 8 (PreOf R mc ms Pc) (PostOf Qc mc ms free) (vx_Post XC mc ms free) := vx_backW (hh := hh) (bytes := bytes) (maxL := maxL) (ret := ret) hM hp.1 hrc hrs hfr hlo hws hcw (fun a' U hW => word_at hW (Or.inl (by first | rfl | simp [Cond.onTables, Cond.keeps, Cond.steady])) hini)
  obtain ⟨hx, hb, hml, ho, -⟩ := S
  intro T hT X
  rcases vx_callSX X hx (hh := hh) (bytes := bytes) (maxL := maxL) (ret := ret) ho hl hstt hini hcode hy hK hg (hsize.trans hml.symm) (argsL := As) (rest := rest) (fun sig h => hn.trans (hlen sig h)) hstack hW (by rw [hb]; exact hdg)
    (fun vm₁ hW₁ => ⟨hf.1, hf.2, hp.2 (T.setVm vm₁) hT hW₁⟩) with ⟨v, vm₁, ⟨U', l2, c2, s2⟩, hW₁, X', ⟨g', mk, t, L, e1, e2, hq, h1, hL, h2, h3⟩, st⟩ | ⟨q, vm₁, ⟨U', l2, c2, s2⟩, hW₁, X', ⟨g', mk, t, L, E, ce, e1, e2, hq, hce, hcv, hcl, h1, hL, h2, h3⟩, st⟩
  · dsimp only [Pt.U, Pt.locs, Pt.cells, Pt.slots] at X' e1 e2 h1 h2 h3 st
    subst h1; subst h2; subst h3
    exact Or.inl ⟨v, (T.setVm vm₁).calling g' mk As.toArray, t, U', L, hT, X', hL, e1, e2, hq, st⟩
  · dsimp only [Pt.U, Pt.locs, Pt.cells, Pt.slots] at X' e1 e2 h1 h2 h3 st hcl
    subst h1; subst h2; subst h3
    exact Or.inr ⟨q, (T.setVm vm₁).calling g' mk As.toArray, t, U', L, E, ce, hT, X', hL, e1, e2, hq, hce, hcv, vx_cls hW₁ hcl, st⟩
end
end VXH
theorem vx_ofWH {l : Launch} {y : MethodName} {ws ws' : List Cond} {rm : Room} {Pc : Array Value → State → Prop} {Qc : Array Value → State → Outcome → State → Prop} {XC : String → State → State → Prop} {mc ms : Nat} {free : Addr → Prop} {cc : ByteArray} {maxL : Nat} {ret : Option FieldType} {hh : List (Nat × Nat × Nat × Nat)}
    (hy : plainName y.cls = true) (hw : ws = Cond.codeWith y cc maxL ret hh :: ws')
    (body : ∀ p e s m args below meth c s₁, BodyLoose p l y (headSpec ws rm) cc maxL ret e s m args below meth c s₁ → c.maxLocals = maxL → Pc args s →
      W p l e (headSpec ws rm).room s m args below meth c s.heap [] 0 0 (vx_MQ below Qc XC args s mc ms free) (entryFrame m args maxL)) : vx_Met l y ws rm Pc Qc XC mc ms free := by
  refine MetFree.of_bodyS (code := cc) (maxLocals := maxL) (ret := ret) hy ?_ ?_
  · intro args s m h hn
    obtain ⟨m9, meth, c, hn9, h1, h2, h3, h4, -, h5, h6, -⟩ := Cond.codeWith_spec (atoms_spec (ws := ws) h _ (by rw [hw]; exact List.mem_cons_self))
    cases hn.symm.trans hn9
    exact ⟨meth, c, h1, h2, h3, h4, h5, h6⟩
  · intro p e s m args below meth c s₁ B hml hP _
    have hh0 : s₁.heap = s.heap := by rw [B.state]; rfl
    obtain ⟨t, a1, o, b1, b2, b3⟩ := body p e s m args below meth c s₁ B hml hP s₁ hh0 (Stand.of_body B)
    exact ⟨t, o, a1, b1, b2, b3⟩
/-! ===== END ===== -/
end
section
def RX0 : String := "SourcePositions$Deliveries"
def TX0 : u_T := fun k => match k with
  | 0 => ("SourcePositions$Deliveries", "toLose", "[Z", true)
  | 1 => ("SourcePositions$Deliveries", "toRepeat", "[Z", true)
  | 2 => ("SourcePositions$Deliveries", "made", "I", false)
  | 3 => ("SourcePositions$Deliveries", "lost", "I", false)
  | 4 => ("SourcePositions$Deliveries", "doubled", "I", false)
  | _ => ("SourcePositions$Deliveries", "toldToCome", "I", false)
def tyX0 : Nat → FieldType := fun k => match k with
  | 0 => .array .boolean
  | 1 => .array .boolean
  | 2 => .int
  | 3 => .int
  | 4 => .int
  | _ => .int
abbrev wsX00 : List Cond := u_ws RX0 TX0 6
theorem nmX0 : ∀ a, a < 6 → ∀ b, b < 6 → a ≠ b → (TX0 a).2.1 ≠ (TX0 b).2.1 := by decide +kernel
theorem tyX0_ok : ∀ k, k < 6 → parseFieldDescriptor (TX0 k).2.2.1 = some (tyX0 k) := by decide +kernel
abbrev cX0_init : ByteArray := prog_2_method_1_code
def yX0_init : MethodName := ⟨RX0, "<init>", "()V"⟩
abbrev cX0_forget : ByteArray := prog_2_method_2_code
def yX0_forget : MethodName := ⟨RX0, "forget", "()V"⟩
abbrev cX0_tell : ByteArray := prog_2_method_3_code
def yX0_tell : MethodName := ⟨RX0, "tell", "(IZ)Z"⟩
abbrev cX0_take : ByteArray := prog_2_method_4_code
def yX0_take : MethodName := ⟨RX0, "take", "([Z)Z"⟩
def RX1 : String := "SourcePositions$Findings"
def TX1 : u_T := fun k => match k with
  | 0 => ("SourcePositions$Findings", "isGiven", "[Z", true)
  | 1 => ("SourcePositions$Findings", "asideParts", "[I", true)
  | 2 => ("SourcePositions$Findings", "asidePlaces", "[I", true)
  | 3 => ("SourcePositions$Findings", "givenCount", "I", false)
  | _ => ("SourcePositions$Findings", "asideCount", "I", false)
def tyX1 : Nat → FieldType := fun k => match k with
  | 0 => .array .boolean
  | 1 => .array .int
  | 2 => .array .int
  | 3 => .int
  | _ => .int
abbrev wsX10 : List Cond := u_ws RX1 TX1 5
theorem nmX1 : ∀ a, a < 5 → ∀ b, b < 5 → a ≠ b → (TX1 a).2.1 ≠ (TX1 b).2.1 := by decide +kernel
theorem tyX1_ok : ∀ k, k < 5 → parseFieldDescriptor (TX1 k).2.2.1 = some (tyX1 k) := by decide +kernel
abbrev cX1_init : ByteArray := prog_3_method_1_code
def yX1_init : MethodName := ⟨RX1, "<init>", "()V"⟩
abbrev cX1_forget : ByteArray := prog_3_method_2_code
def yX1_forget : MethodName := ⟨RX1, "forget", "()V"⟩
abbrev cX1_copyFrom : ByteArray := prog_3_method_3_code
def yX1_copyFrom : MethodName := ⟨RX1, "copyFrom", "(LSourcePositions$Findings;)V"⟩
abbrev cX1_addGiven : ByteArray := prog_3_method_4_code
def yX1_addGiven : MethodName := ⟨RX1, "addGiven", "(I)V"⟩
abbrev cX1_setAside : ByteArray := prog_3_method_5_code
def yX1_setAside : MethodName := ⟨RX1, "setAside", "(II)V"⟩
def RX2 : String := "SourcePositions$Mark"
def TX2 : u_T := fun k => match k with
  | 0 => ("SourcePositions$Mark", "positions", "[I", true)
  | 1 => ("SourcePositions$Mark", "waters", "[I", true)
  | 2 => ("SourcePositions$Mark", "credits", "[I", true)
  | 3 => ("SourcePositions$Mark", "readers", "[I", true)
  | 4 => ("SourcePositions$Mark", "findings", "LSourcePositions$Findings;", true)
  | _ => ("SourcePositions$Mark", "keptParts", "I", false)
def tyX2 : Nat → FieldType := fun k => match k with
  | 0 => .array .int
  | 1 => .array .int
  | 2 => .array .int
  | 3 => .array .int
  | 4 => .object "SourcePositions$Findings"
  | _ => .int
abbrev wsX20 : List Cond := u_ws RX2 TX2 6
theorem nmX2 : ∀ a, a < 6 → ∀ b, b < 6 → a ≠ b → (TX2 a).2.1 ≠ (TX2 b).2.1 := by decide +kernel
theorem tyX2_ok : ∀ k, k < 6 → parseFieldDescriptor (TX2 k).2.2.1 = some (tyX2 k) := by decide +kernel
abbrev cX2_init : ByteArray := prog_4_method_1_code
def yX2_init : MethodName := ⟨RX2, "<init>", "()V"⟩
abbrev cX2_keep : ByteArray := prog_4_method_2_code
def yX2_keep : MethodName := ⟨RX2, "keep", "([LSourcePositions$Part;ILSourcePositions$Findings;)V"⟩
abbrev cX2_bringBack : ByteArray := prog_4_method_3_code
def yX2_bringBack : MethodName := ⟨RX2, "bringBack", "(ILSourcePositions$Part;I)V"⟩
def RX3 : String := "SourcePositions$Part"
def TX3 : u_T := fun k => match k with
  | 0 => ("SourcePositions$Part", "numbers", "[I", true)
  | 1 => ("SourcePositions$Part", "times", "[I", true)
  | 2 => ("SourcePositions$Part", "sounds", "[Z", true)
  | 3 => ("SourcePositions$Part", "rowCount", "I", false)
  | 4 => ("SourcePositions$Part", "ended", "Z", false)
  | 5 => ("SourcePositions$Part", "position", "I", false)
  | 6 => ("SourcePositions$Part", "water", "I", false)
  | 7 => ("SourcePositions$Part", "credit", "I", false)
  | 8 => ("SourcePositions$Part", "share", "I", false)
  | 9 => ("SourcePositions$Part", "reader", "I", false)
  | _ => ("SourcePositions$Part", "origin", "I", false)
def tyX3 : Nat → FieldType := fun k => match k with
  | 0 => .array .int
  | 1 => .array .int
  | 2 => .array .boolean
  | 3 => .int
  | 4 => .boolean
  | 5 => .int
  | 6 => .int
  | 7 => .int
  | 8 => .int
  | 9 => .int
  | _ => .int
abbrev wsX30 : List Cond := u_ws RX3 TX3 11
theorem nmX3 : ∀ a, a < 11 → ∀ b, b < 11 → a ≠ b → (TX3 a).2.1 ≠ (TX3 b).2.1 := by decide +kernel
theorem tyX3_ok : ∀ k, k < 11 → parseFieldDescriptor (TX3 k).2.2.1 = some (tyX3 k) := by decide +kernel
abbrev cX3_init : ByteArray := prog_5_method_1_code
def yX3_init : MethodName := ⟨RX3, "<init>", "()V"⟩
abbrev cX3_beginAnew : ByteArray := prog_5_method_2_code
def yX3_beginAnew : MethodName := ⟨RX3, "beginAnew", "(II)V"⟩
abbrev cX3_stand : ByteArray := prog_5_method_3_code
def yX3_stand : MethodName := ⟨RX3, "stand", "(III)V"⟩
abbrev cX3_hasRow : ByteArray := prog_5_method_4_code
def yX3_hasRow : MethodName := ⟨RX3, "hasRow", "(I)Z"⟩
abbrev cX3_isReady : ByteArray := prog_5_method_5_code
def yX3_isReady : MethodName := ⟨RX3, "isReady", "()Z"⟩
abbrev cX3_isReadyFor : ByteArray := prog_5_method_6_code
def yX3_isReadyFor : MethodName := ⟨RX3, "isReadyFor", "(I)Z"⟩
abbrev cX3_isDone : ByteArray := prog_5_method_7_code
def yX3_isDone : MethodName := ⟨RX3, "isDone", "()Z"⟩
abbrev cX3_addRow : ByteArray := prog_5_method_8_code
def yX3_addRow : MethodName := ⟨RX3, "addRow", "(IIZ)V"⟩
abbrev cX3_moveRowsFrom : ByteArray := prog_5_method_9_code
def yX3_moveRowsFrom : MethodName := ⟨RX3, "moveRowsFrom", "(ILSourcePositions$Part;)V"⟩
abbrev cX3_firstPlaceFrom : ByteArray := prog_5_method_10_code
def yX3_firstPlaceFrom : MethodName := ⟨RX3, "firstPlaceFrom", "(I)I"⟩
abbrev cX3_pass : ByteArray := prog_5_method_11_code
def yX3_pass : MethodName := ⟨RX3, "pass", "()V"⟩
def RX4 : String := "SourcePositions"
def TX4 : u_T := fun k => match k with
  | 0 => ("SourcePositions", "parts", "[LSourcePositions$Part;", true)
  | 1 => ("SourcePositions", "marks", "[LSourcePositions$Mark;", true)
  | 2 => ("SourcePositions", "findings", "LSourcePositions$Findings;", true)
  | 3 => ("SourcePositions", "deliveries", "LSourcePositions$Deliveries;", true)
  | 4 => ("SourcePositions", "latestRead", "[I", true)
  | 5 => ("SourcePositions", "partCount", "I", false)
  | 6 => ("SourcePositions", "markCount", "I", false)
  | _ => ("SourcePositions", "taskCount", "I", false)
def tyX4 : Nat → FieldType := fun k => match k with
  | 0 => .array (.object "SourcePositions$Part")
  | 1 => .array (.object "SourcePositions$Mark")
  | 2 => .object "SourcePositions$Findings"
  | 3 => .object "SourcePositions$Deliveries"
  | 4 => .array .int
  | 5 => .int
  | 6 => .int
  | _ => .int
abbrev wsX40 : List Cond := u_ws RX4 TX4 8
theorem nmX4 : ∀ a, a < 8 → ∀ b, b < 8 → a ≠ b → (TX4 a).2.1 ≠ (TX4 b).2.1 := by decide +kernel
theorem tyX4_ok : ∀ k, k < 8 → parseFieldDescriptor (TX4 k).2.2.1 = some (tyX4 k) := by decide +kernel
abbrev cX4_init : ByteArray := prog_1_method_1_code
def yX4_init : MethodName := ⟨RX4, "<init>", "()V"⟩
abbrev cX4_part : ByteArray := prog_1_method_2_code
def yX4_part : MethodName := ⟨RX4, "part", "(I)I"⟩
abbrev cX4_row : ByteArray := prog_1_method_3_code
def yX4_row : MethodName := ⟨RX4, "row", "(IIIZ)I"⟩
abbrev cX4_end : ByteArray := prog_1_method_4_code
def yX4_end : MethodName := ⟨RX4, "end", "(I)I"⟩
abbrev cX4_split : ByteArray := prog_1_method_5_code
def yX4_split : MethodName := ⟨RX4, "split", "(II)I"⟩
abbrev cX4_give : ByteArray := prog_1_method_6_code
def yX4_give : MethodName := ⟨RX4, "give", "(II)I"⟩
abbrev cX4_read : ByteArray := prog_1_method_7_code
def yX4_read : MethodName := ⟨RX4, "read", "(I)I"⟩
abbrev cX4_latest : ByteArray := prog_1_method_8_code
def yX4_latest : MethodName := ⟨RX4, "latest", "(I)I"⟩
abbrev cX4_lose : ByteArray := prog_1_method_9_code
def yX4_lose : MethodName := ⟨RX4, "lose", "(IZ)I"⟩
abbrev cX4_mark : ByteArray := prog_1_method_10_code
def yX4_mark : MethodName := ⟨RX4, "mark", "()I"⟩
abbrev cX4_restore : ByteArray := prog_1_method_11_code
def yX4_restore : MethodName := ⟨RX4, "restore", "(I)I"⟩
abbrev cX4_start : ByteArray := prog_1_method_12_code
def yX4_start : MethodName := ⟨RX4, "start", "(I)I"⟩
abbrev cX4_scale : ByteArray := prog_1_method_13_code
def yX4_scale : MethodName := ⟨RX4, "scale", "(I)I"⟩
abbrev cX4_told : ByteArray := prog_1_method_14_code
def yX4_told : MethodName := ⟨RX4, "told", "(II)I"⟩
abbrev cX4_given : ByteArray := prog_1_method_15_code
def yX4_given : MethodName := ⟨RX4, "given", "(I)I"⟩
abbrev cX4_number : ByteArray := prog_1_method_16_code
def yX4_number : MethodName := ⟨RX4, "number", "(II)I"⟩
abbrev cX4_aside : ByteArray := prog_1_method_17_code
def yX4_aside : MethodName := ⟨RX4, "aside", "(II)I"⟩
abbrev cX4_rate : ByteArray := prog_1_method_18_code
def yX4_rate : MethodName := ⟨RX4, "rate", "(I)I"⟩
abbrev cX4_water : ByteArray := prog_1_method_19_code
def yX4_water : MethodName := ⟨RX4, "water", "()I"⟩
abbrev cX4_count : ByteArray := prog_1_method_20_code
def yX4_count : MethodName := ⟨RX4, "count", "(I)I"⟩
abbrev cX4_clear : ByteArray := prog_1_method_21_code
def yX4_clear : MethodName := ⟨RX4, "clear", "()I"⟩
abbrev cX4_begin : ByteArray := prog_1_method_22_code
def yX4_begin : MethodName := ⟨RX4, "begin", "()V"⟩
abbrev cX4_isPart : ByteArray := prog_1_method_23_code
def yX4_isPart : MethodName := ⟨RX4, "isPart", "(I)Z"⟩
abbrev cX4_isTask : ByteArray := prog_1_method_24_code
def yX4_isTask : MethodName := ⟨RX4, "isTask", "(I)Z"⟩
abbrev cX4_isNumber : ByteArray := prog_1_method_25_code
def yX4_isNumber : MethodName := ⟨RX4, "isNumber", "(I)Z"⟩
abbrev cX4_isTime : ByteArray := prog_1_method_26_code
def yX4_isTime : MethodName := ⟨RX4, "isTime", "(I)Z"⟩
abbrev cX4_addPart : ByteArray := prog_1_method_27_code
def yX4_addPart : MethodName := ⟨RX4, "addPart", "(II)I"⟩
abbrev cX4_chooseByCredit : ByteArray := prog_1_method_28_code
def yX4_chooseByCredit : MethodName := ⟨RX4, "chooseByCredit", "(I)I"⟩
abbrev cX4_deliverFrom : ByteArray := prog_1_method_29_code
def yX4_deliverFrom : MethodName := ⟨RX4, "deliverFrom", "(I)I"⟩
abbrev cX4_noteLatest : ByteArray := prog_1_method_30_code
def yX4_noteLatest : MethodName := ⟨RX4, "noteLatest", "(II)V"⟩
abbrev cX4_countDone : ByteArray := prog_1_method_31_code
def yX4_countDone : MethodName := ⟨RX4, "countDone", "()I"⟩
def RX5 : String := "SourcePositionsModel"
def TX5 : u_T := fun k => match k with
  | 0 => ("SourcePositionsModel", "fault", "I", false)
  | 1 => ("SourcePositionsModel", "parts", "I", false)
  | 2 => ("SourcePositionsModel", "tasks", "I", false)
  | 3 => ("SourcePositionsModel", "numbers", "[I", true)
  | 4 => ("SourcePositionsModel", "times", "[I", true)
  | 5 => ("SourcePositionsModel", "sound", "[Z", true)
  | 6 => ("SourcePositionsModel", "rows", "[I", true)
  | 7 => ("SourcePositionsModel", "ended", "[Z", true)
  | 8 => ("SourcePositionsModel", "shares", "[I", true)
  | 9 => ("SourcePositionsModel", "origins", "[I", true)
  | 10 => ("SourcePositionsModel", "at", "[I", true)
  | 11 => ("SourcePositionsModel", "given", "[Z", true)
  | 12 => ("SourcePositionsModel", "noted", "[I", true)
  | 13 => ("SourcePositionsModel", "notes", "I", false)
  | 14 => ("SourcePositionsModel", "marks", "I", false)
  | 15 => ("SourcePositionsModel", "markAt", "[I", true)
  | 16 => ("SourcePositionsModel", "markGiven", "[Z", true)
  | 17 => ("SourcePositionsModel", "markNoted", "[I", true)
  | 18 => ("SourcePositionsModel", "markNotes", "[I", true)
  | 19 => ("SourcePositionsModel", "markParts", "[I", true)
  | 20 => ("SourcePositionsModel", "isLost", "[Z", true)
  | 21 => ("SourcePositionsModel", "isTwice", "[Z", true)
  | 22 => ("SourcePositionsModel", "deliveries", "I", false)
  | 23 => ("SourcePositionsModel", "lost", "I", false)
  | 24 => ("SourcePositionsModel", "doubles", "I", false)
  | _ => ("SourcePositionsModel", "latest", "[I", true)
def tyX5 : Nat → FieldType := fun k => match k with
  | 0 => .int
  | 1 => .int
  | 2 => .int
  | 3 => .array .int
  | 4 => .array .int
  | 5 => .array .boolean
  | 6 => .array .int
  | 7 => .array .boolean
  | 8 => .array .int
  | 9 => .array .int
  | 10 => .array .int
  | 11 => .array .boolean
  | 12 => .array .int
  | 13 => .int
  | 14 => .int
  | 15 => .array .int
  | 16 => .array .boolean
  | 17 => .array .int
  | 18 => .array .int
  | 19 => .array .int
  | 20 => .array .boolean
  | 21 => .array .boolean
  | 22 => .int
  | 23 => .int
  | 24 => .int
  | _ => .array .int
abbrev wsX50 : List Cond := u_ws RX5 TX5 26
theorem nmX5 : ∀ a, a < 26 → ∀ b, b < 26 → a ≠ b → (TX5 a).2.1 ≠ (TX5 b).2.1 := by decide +kernel
theorem tyX5_ok : ∀ k, k < 26 → parseFieldDescriptor (TX5 k).2.2.1 = some (tyX5 k) := by decide +kernel
abbrev cX5_init : ByteArray := prog_7_method_1_code
def yX5_init : MethodName := ⟨RX5, "<init>", "()V"⟩
abbrev cX5_forgets : ByteArray := prog_7_method_2_code
def yX5_forgets : MethodName := ⟨RX5, "forgets", "()V"⟩
abbrev cX5_thrown : ByteArray := prog_7_method_3_code
def yX5_thrown : MethodName := ⟨RX5, "thrown", "()I"⟩
abbrev cX5_in : ByteArray := prog_7_method_4_code
def yX5_in : MethodName := ⟨RX5, "in", "(III)Z"⟩
abbrev cX5_isPart : ByteArray := prog_7_method_5_code
def yX5_isPart : MethodName := ⟨RX5, "isPart", "(I)Z"⟩
abbrev cX5_isReady : ByteArray := prog_7_method_6_code
def yX5_isReady : MethodName := ⟨RX5, "isReady", "(I)Z"⟩
abbrev cX5_isDone : ByteArray := prog_7_method_7_code
def yX5_isDone : MethodName := ⟨RX5, "isDone", "(I)Z"⟩
abbrev cX5_reader : ByteArray := prog_7_method_8_code
def yX5_reader : MethodName := ⟨RX5, "reader", "(I)I"⟩
abbrev cX5_fresh : ByteArray := prog_7_method_9_code
def yX5_fresh : MethodName := ⟨RX5, "fresh", "(I)V"⟩
abbrev cX5_adds : ByteArray := prog_7_method_10_code
def yX5_adds : MethodName := ⟨RX5, "adds", "(II)I"⟩
abbrev cX5_part : ByteArray := prog_7_method_11_code
def yX5_part : MethodName := ⟨RX5, "part", "(I)I"⟩
abbrev cX5_lays : ByteArray := prog_7_method_12_code
def yX5_lays : MethodName := ⟨RX5, "lays", "(IIIZ)V"⟩
abbrev cX5_row : ByteArray := prog_7_method_13_code
def yX5_row : MethodName := ⟨RX5, "row", "(IIIZ)I"⟩
abbrev cX5_end : ByteArray := prog_7_method_14_code
def yX5_end : MethodName := ⟨RX5, "end", "(I)I"⟩
abbrev cX5_split : ByteArray := prog_7_method_15_code
def yX5_split : MethodName := ⟨RX5, "split", "(II)I"⟩
abbrev cX5_give : ByteArray := prog_7_method_16_code
def yX5_give : MethodName := ⟨RX5, "give", "(II)I"⟩
abbrev cX5_nextOf : ByteArray := prog_7_method_17_code
def yX5_nextOf : MethodName := ⟨RX5, "nextOf", "(I)I"⟩
abbrev cX5_passes : ByteArray := prog_7_method_18_code
def yX5_passes : MethodName := ⟨RX5, "passes", "(I)V"⟩
abbrev cX5_read : ByteArray := prog_7_method_19_code
def yX5_read : MethodName := ⟨RX5, "read", "(I)I"⟩
abbrev cX5_notes : ByteArray := prog_7_method_20_code
def yX5_notes : MethodName := ⟨RX5, "notes", "(II)V"⟩
abbrev cX5_latest : ByteArray := prog_7_method_21_code
def yX5_latest : MethodName := ⟨RX5, "latest", "(I)I"⟩
abbrev cX5_lose : ByteArray := prog_7_method_22_code
def yX5_lose : MethodName := ⟨RX5, "lose", "(IZ)I"⟩
abbrev cX5_mark : ByteArray := prog_7_method_23_code
def yX5_mark : MethodName := ⟨RX5, "mark", "()I"⟩
abbrev cX5_restore : ByteArray := prog_7_method_24_code
def yX5_restore : MethodName := ⟨RX5, "restore", "(I)I"⟩
abbrev cX5_givesNone : ByteArray := prog_7_method_25_code
def yX5_givesNone : MethodName := ⟨RX5, "givesNone", "()V"⟩
abbrev cX5_start : ByteArray := prog_7_method_26_code
def yX5_start : MethodName := ⟨RX5, "start", "(I)I"⟩
abbrev cX5_scale : ByteArray := prog_7_method_27_code
def yX5_scale : MethodName := ⟨RX5, "scale", "(I)I"⟩
abbrev cX5_told : ByteArray := prog_7_method_28_code
def yX5_told : MethodName := ⟨RX5, "told", "(II)I"⟩
abbrev cX5_given : ByteArray := prog_7_method_29_code
def yX5_given : MethodName := ⟨RX5, "given", "(I)I"⟩
abbrev cX5_number : ByteArray := prog_7_method_30_code
def yX5_number : MethodName := ⟨RX5, "number", "(II)I"⟩
abbrev cX5_aside : ByteArray := prog_7_method_31_code
def yX5_aside : MethodName := ⟨RX5, "aside", "(II)I"⟩
abbrev cX5_rate : ByteArray := prog_7_method_32_code
def yX5_rate : MethodName := ⟨RX5, "rate", "(I)I"⟩
abbrev cX5_water : ByteArray := prog_7_method_33_code
def yX5_water : MethodName := ⟨RX5, "water", "()I"⟩
abbrev cX5_count : ByteArray := prog_7_method_34_code
def yX5_count : MethodName := ⟨RX5, "count", "(I)I"⟩
abbrev cX5_clear : ByteArray := prog_7_method_35_code
def yX5_clear : MethodName := ⟨RX5, "clear", "()I"⟩
def RL : String := "SourcePositionsLaw"
abbrev cL_number : ByteArray := method_3_code
def yL_number : MethodName := ⟨RL, "number", "(LSourcePositions;II[J)I"⟩
abbrev cL_rate : ByteArray := method_4_code
def yL_rate : MethodName := ⟨RL, "rate", "(LSourcePositions;I[J)I"⟩
abbrev cL_law : ByteArray := code
def yL_law : MethodName := ⟨RL, "law", "([I)Z"⟩
end
section
theorem dX0_init_0 : decode cX0_init 0 = .ok (.aload_n 0, 1) := by decide +kernel
theorem dX0_init_1 : decode cX0_init 1 = .ok (.invokespecial 3, 3) := by decide +kernel
theorem dX0_init_4 : decode cX0_init 4 = .ok (.aload_n 0, 1) := by decide +kernel
theorem dX0_init_5 : decode cX0_init 5 = .ok (.bipush 64, 2) := by decide +kernel
theorem dX0_init_7 : decode cX0_init 7 = .ok (.newarray .boolean, 2) := by decide +kernel
theorem dX0_init_9 : decode cX0_init 9 = .ok (.putfield 9, 3) := by decide +kernel
theorem dX0_init_12 : decode cX0_init 12 = .ok (.aload_n 0, 1) := by decide +kernel
theorem dX0_init_13 : decode cX0_init 13 = .ok (.bipush 64, 2) := by decide +kernel
theorem dX0_init_15 : decode cX0_init 15 = .ok (.newarray .boolean, 2) := by decide +kernel
theorem dX0_init_17 : decode cX0_init 17 = .ok (.putfield 15, 3) := by decide +kernel
theorem dX0_init_20 : decode cX0_init 20 = .ok (.return_, 1) := by decide +kernel
theorem dX0_forget_0 : decode cX0_forget 0 = .ok (.iconst 0, 1) := by decide +kernel
theorem dX0_forget_1 : decode cX0_forget 1 = .ok (.istore_n 1, 1) := by decide +kernel
theorem dX0_forget_2 : decode cX0_forget 2 = .ok (.iload_n 1, 1) := by decide +kernel
theorem dX0_forget_3 : decode cX0_forget 3 = .ok (.bipush 64, 2) := by decide +kernel
theorem dX0_forget_5 : decode cX0_forget 5 = .ok (.if_icmp .ge 23, 3) := by decide +kernel
theorem dX0_forget_8 : decode cX0_forget 8 = .ok (.aload_n 0, 1) := by decide +kernel
theorem dX0_forget_9 : decode cX0_forget 9 = .ok (.getfield 9, 3) := by decide +kernel
theorem dX0_forget_12 : decode cX0_forget 12 = .ok (.iload_n 1, 1) := by decide +kernel
theorem dX0_forget_13 : decode cX0_forget 13 = .ok (.iconst 0, 1) := by decide +kernel
theorem dX0_forget_14 : decode cX0_forget 14 = .ok (.bastore, 1) := by decide +kernel
theorem dX0_forget_15 : decode cX0_forget 15 = .ok (.aload_n 0, 1) := by decide +kernel
theorem dX0_forget_16 : decode cX0_forget 16 = .ok (.getfield 15, 3) := by decide +kernel
theorem dX0_forget_19 : decode cX0_forget 19 = .ok (.iload_n 1, 1) := by decide +kernel
theorem dX0_forget_20 : decode cX0_forget 20 = .ok (.iconst 0, 1) := by decide +kernel
theorem dX0_forget_21 : decode cX0_forget 21 = .ok (.bastore, 1) := by decide +kernel
theorem dX0_forget_22 : decode cX0_forget 22 = .ok (.iinc 1 1, 3) := by decide +kernel
theorem dX0_forget_25 : decode cX0_forget 25 = .ok (.goto (-23), 3) := by decide +kernel
theorem dX0_forget_28 : decode cX0_forget 28 = .ok (.aload_n 0, 1) := by decide +kernel
theorem dX0_forget_29 : decode cX0_forget 29 = .ok (.iconst 0, 1) := by decide +kernel
theorem dX0_forget_30 : decode cX0_forget 30 = .ok (.putfield 18, 3) := by decide +kernel
theorem dX0_forget_33 : decode cX0_forget 33 = .ok (.aload_n 0, 1) := by decide +kernel
theorem dX0_forget_34 : decode cX0_forget 34 = .ok (.iconst 0, 1) := by decide +kernel
theorem dX0_forget_35 : decode cX0_forget 35 = .ok (.putfield 22, 3) := by decide +kernel
theorem dX0_forget_38 : decode cX0_forget 38 = .ok (.aload_n 0, 1) := by decide +kernel
theorem dX0_forget_39 : decode cX0_forget 39 = .ok (.iconst 0, 1) := by decide +kernel
theorem dX0_forget_40 : decode cX0_forget 40 = .ok (.putfield 25, 3) := by decide +kernel
theorem dX0_forget_43 : decode cX0_forget 43 = .ok (.aload_n 0, 1) := by decide +kernel
theorem dX0_forget_44 : decode cX0_forget 44 = .ok (.iconst 0, 1) := by decide +kernel
theorem dX0_forget_45 : decode cX0_forget 45 = .ok (.putfield 28, 3) := by decide +kernel
theorem dX0_forget_48 : decode cX0_forget 48 = .ok (.return_, 1) := by decide +kernel
theorem dX0_tell_0 : decode cX0_tell 0 = .ok (.iload_n 2, 1) := by decide +kernel
theorem dX0_tell_1 : decode cX0_tell 1 = .ok (.ifCond .eq 10, 3) := by decide +kernel
theorem dX0_tell_4 : decode cX0_tell 4 = .ok (.aload_n 0, 1) := by decide +kernel
theorem dX0_tell_5 : decode cX0_tell 5 = .ok (.getfield 15, 3) := by decide +kernel
theorem dX0_tell_8 : decode cX0_tell 8 = .ok (.goto 7, 3) := by decide +kernel
theorem dX0_tell_11 : decode cX0_tell 11 = .ok (.aload_n 0, 1) := by decide +kernel
theorem dX0_tell_12 : decode cX0_tell 12 = .ok (.getfield 9, 3) := by decide +kernel
theorem dX0_tell_15 : decode cX0_tell 15 = .ok (.astore_n 3, 1) := by decide +kernel
theorem dX0_tell_16 : decode cX0_tell 16 = .ok (.aload_n 0, 1) := by decide +kernel
theorem dX0_tell_17 : decode cX0_tell 17 = .ok (.getfield 18, 3) := by decide +kernel
theorem dX0_tell_20 : decode cX0_tell 20 = .ok (.iload_n 1, 1) := by decide +kernel
theorem dX0_tell_21 : decode cX0_tell 21 = .ok (.iadd, 1) := by decide +kernel
theorem dX0_tell_22 : decode cX0_tell 22 = .ok (.bipush 63, 2) := by decide +kernel
theorem dX0_tell_24 : decode cX0_tell 24 = .ok (.iand, 1) := by decide +kernel
theorem dX0_tell_25 : decode cX0_tell 25 = .ok (.istore 4, 2) := by decide +kernel
theorem dX0_tell_27 : decode cX0_tell 27 = .ok (.aload_n 3, 1) := by decide +kernel
theorem dX0_tell_28 : decode cX0_tell 28 = .ok (.iload 4, 2) := by decide +kernel
theorem dX0_tell_30 : decode cX0_tell 30 = .ok (.baload, 1) := by decide +kernel
theorem dX0_tell_31 : decode cX0_tell 31 = .ok (.ifCond .eq 5, 3) := by decide +kernel
theorem dX0_tell_34 : decode cX0_tell 34 = .ok (.iconst 0, 1) := by decide +kernel
theorem dX0_tell_35 : decode cX0_tell 35 = .ok (.ireturn, 1) := by decide +kernel
theorem dX0_tell_36 : decode cX0_tell 36 = .ok (.aload_n 3, 1) := by decide +kernel
theorem dX0_tell_37 : decode cX0_tell 37 = .ok (.iload 4, 2) := by decide +kernel
theorem dX0_tell_39 : decode cX0_tell 39 = .ok (.iconst 1, 1) := by decide +kernel
theorem dX0_tell_40 : decode cX0_tell 40 = .ok (.bastore, 1) := by decide +kernel
theorem dX0_tell_41 : decode cX0_tell 41 = .ok (.aload_n 0, 1) := by decide +kernel
theorem dX0_tell_42 : decode cX0_tell 42 = .ok (.dup, 1) := by decide +kernel
theorem dX0_tell_43 : decode cX0_tell 43 = .ok (.getfield 28, 3) := by decide +kernel
theorem dX0_tell_46 : decode cX0_tell 46 = .ok (.iconst 1, 1) := by decide +kernel
theorem dX0_tell_47 : decode cX0_tell 47 = .ok (.iadd, 1) := by decide +kernel
theorem dX0_tell_48 : decode cX0_tell 48 = .ok (.putfield 28, 3) := by decide +kernel
theorem dX0_tell_51 : decode cX0_tell 51 = .ok (.iconst 1, 1) := by decide +kernel
theorem dX0_tell_52 : decode cX0_tell 52 = .ok (.ireturn, 1) := by decide +kernel
theorem dX0_take_0 : decode cX0_take 0 = .ok (.aload_n 0, 1) := by decide +kernel
theorem dX0_take_1 : decode cX0_take 1 = .ok (.getfield 18, 3) := by decide +kernel
theorem dX0_take_4 : decode cX0_take 4 = .ok (.bipush 63, 2) := by decide +kernel
theorem dX0_take_6 : decode cX0_take 6 = .ok (.iand, 1) := by decide +kernel
theorem dX0_take_7 : decode cX0_take 7 = .ok (.istore_n 2, 1) := by decide +kernel
theorem dX0_take_8 : decode cX0_take 8 = .ok (.aload_n 1, 1) := by decide +kernel
theorem dX0_take_9 : decode cX0_take 9 = .ok (.iload_n 2, 1) := by decide +kernel
theorem dX0_take_10 : decode cX0_take 10 = .ok (.baload, 1) := by decide +kernel
theorem dX0_take_11 : decode cX0_take 11 = .ok (.ifCond .ne 5, 3) := by decide +kernel
theorem dX0_take_14 : decode cX0_take 14 = .ok (.iconst 0, 1) := by decide +kernel
theorem dX0_take_15 : decode cX0_take 15 = .ok (.ireturn, 1) := by decide +kernel
theorem dX0_take_16 : decode cX0_take 16 = .ok (.aload_n 1, 1) := by decide +kernel
theorem dX0_take_17 : decode cX0_take 17 = .ok (.iload_n 2, 1) := by decide +kernel
theorem dX0_take_18 : decode cX0_take 18 = .ok (.iconst 0, 1) := by decide +kernel
theorem dX0_take_19 : decode cX0_take 19 = .ok (.bastore, 1) := by decide +kernel
theorem dX0_take_20 : decode cX0_take 20 = .ok (.aload_n 0, 1) := by decide +kernel
theorem dX0_take_21 : decode cX0_take 21 = .ok (.dup, 1) := by decide +kernel
theorem dX0_take_22 : decode cX0_take 22 = .ok (.getfield 28, 3) := by decide +kernel
theorem dX0_take_25 : decode cX0_take 25 = .ok (.iconst 1, 1) := by decide +kernel
theorem dX0_take_26 : decode cX0_take 26 = .ok (.isub, 1) := by decide +kernel
theorem dX0_take_27 : decode cX0_take 27 = .ok (.putfield 28, 3) := by decide +kernel
theorem dX0_take_30 : decode cX0_take 30 = .ok (.iconst 1, 1) := by decide +kernel
theorem dX0_take_31 : decode cX0_take 31 = .ok (.ireturn, 1) := by decide +kernel
theorem dX1_init_0 : decode cX1_init 0 = .ok (.aload_n 0, 1) := by decide +kernel
theorem dX1_init_1 : decode cX1_init 1 = .ok (.invokespecial 3, 3) := by decide +kernel
theorem dX1_init_4 : decode cX1_init 4 = .ok (.aload_n 0, 1) := by decide +kernel
theorem dX1_init_5 : decode cX1_init 5 = .ok (.sipush 256, 3) := by decide +kernel
theorem dX1_init_8 : decode cX1_init 8 = .ok (.newarray .boolean, 2) := by decide +kernel
theorem dX1_init_10 : decode cX1_init 10 = .ok (.putfield 9, 3) := by decide +kernel
theorem dX1_init_13 : decode cX1_init 13 = .ok (.aload_n 0, 1) := by decide +kernel
theorem dX1_init_14 : decode cX1_init 14 = .ok (.bipush 100, 2) := by decide +kernel
theorem dX1_init_16 : decode cX1_init 16 = .ok (.newarray .int, 2) := by decide +kernel
theorem dX1_init_18 : decode cX1_init 18 = .ok (.putfield 15, 3) := by decide +kernel
theorem dX1_init_21 : decode cX1_init 21 = .ok (.aload_n 0, 1) := by decide +kernel
theorem dX1_init_22 : decode cX1_init 22 = .ok (.bipush 100, 2) := by decide +kernel
theorem dX1_init_24 : decode cX1_init 24 = .ok (.newarray .int, 2) := by decide +kernel
theorem dX1_init_26 : decode cX1_init 26 = .ok (.putfield 19, 3) := by decide +kernel
theorem dX1_init_29 : decode cX1_init 29 = .ok (.return_, 1) := by decide +kernel
theorem dX1_forget_0 : decode cX1_forget 0 = .ok (.iconst 0, 1) := by decide +kernel
theorem dX1_forget_1 : decode cX1_forget 1 = .ok (.istore_n 1, 1) := by decide +kernel
theorem dX1_forget_2 : decode cX1_forget 2 = .ok (.iload_n 1, 1) := by decide +kernel
theorem dX1_forget_3 : decode cX1_forget 3 = .ok (.sipush 255, 3) := by decide +kernel
theorem dX1_forget_6 : decode cX1_forget 6 = .ok (.if_icmp .gt 16, 3) := by decide +kernel
theorem dX1_forget_9 : decode cX1_forget 9 = .ok (.aload_n 0, 1) := by decide +kernel
theorem dX1_forget_10 : decode cX1_forget 10 = .ok (.getfield 9, 3) := by decide +kernel
theorem dX1_forget_13 : decode cX1_forget 13 = .ok (.iload_n 1, 1) := by decide +kernel
theorem dX1_forget_14 : decode cX1_forget 14 = .ok (.iconst 0, 1) := by decide +kernel
theorem dX1_forget_15 : decode cX1_forget 15 = .ok (.bastore, 1) := by decide +kernel
theorem dX1_forget_16 : decode cX1_forget 16 = .ok (.iinc 1 1, 3) := by decide +kernel
theorem dX1_forget_19 : decode cX1_forget 19 = .ok (.goto (-17), 3) := by decide +kernel
theorem dX1_forget_22 : decode cX1_forget 22 = .ok (.aload_n 0, 1) := by decide +kernel
theorem dX1_forget_23 : decode cX1_forget 23 = .ok (.iconst 0, 1) := by decide +kernel
theorem dX1_forget_24 : decode cX1_forget 24 = .ok (.putfield 22, 3) := by decide +kernel
theorem dX1_forget_27 : decode cX1_forget 27 = .ok (.aload_n 0, 1) := by decide +kernel
theorem dX1_forget_28 : decode cX1_forget 28 = .ok (.iconst 0, 1) := by decide +kernel
theorem dX1_forget_29 : decode cX1_forget 29 = .ok (.putfield 26, 3) := by decide +kernel
theorem dX1_forget_32 : decode cX1_forget 32 = .ok (.return_, 1) := by decide +kernel
theorem dX1_copyFrom_0 : decode cX1_copyFrom 0 = .ok (.aload_n 1, 1) := by decide +kernel
theorem dX1_copyFrom_1 : decode cX1_copyFrom 1 = .ok (.getfield 9, 3) := by decide +kernel
theorem dX1_copyFrom_4 : decode cX1_copyFrom 4 = .ok (.iconst 0, 1) := by decide +kernel
theorem dX1_copyFrom_5 : decode cX1_copyFrom 5 = .ok (.aload_n 0, 1) := by decide +kernel
theorem dX1_copyFrom_6 : decode cX1_copyFrom 6 = .ok (.getfield 9, 3) := by decide +kernel
theorem dX1_copyFrom_9 : decode cX1_copyFrom 9 = .ok (.iconst 0, 1) := by decide +kernel
theorem dX1_copyFrom_10 : decode cX1_copyFrom 10 = .ok (.sipush 256, 3) := by decide +kernel
theorem dX1_copyFrom_13 : decode cX1_copyFrom 13 = .ok (.invokestatic 29, 3) := by decide +kernel
theorem dX1_copyFrom_16 : decode cX1_copyFrom 16 = .ok (.aload_n 1, 1) := by decide +kernel
theorem dX1_copyFrom_17 : decode cX1_copyFrom 17 = .ok (.getfield 15, 3) := by decide +kernel
theorem dX1_copyFrom_20 : decode cX1_copyFrom 20 = .ok (.iconst 0, 1) := by decide +kernel
theorem dX1_copyFrom_21 : decode cX1_copyFrom 21 = .ok (.aload_n 0, 1) := by decide +kernel
theorem dX1_copyFrom_22 : decode cX1_copyFrom 22 = .ok (.getfield 15, 3) := by decide +kernel
theorem dX1_copyFrom_25 : decode cX1_copyFrom 25 = .ok (.iconst 0, 1) := by decide +kernel
theorem dX1_copyFrom_26 : decode cX1_copyFrom 26 = .ok (.bipush 100, 2) := by decide +kernel
theorem dX1_copyFrom_28 : decode cX1_copyFrom 28 = .ok (.invokestatic 29, 3) := by decide +kernel
theorem dX1_copyFrom_31 : decode cX1_copyFrom 31 = .ok (.aload_n 1, 1) := by decide +kernel
theorem dX1_copyFrom_32 : decode cX1_copyFrom 32 = .ok (.getfield 19, 3) := by decide +kernel
theorem dX1_copyFrom_35 : decode cX1_copyFrom 35 = .ok (.iconst 0, 1) := by decide +kernel
theorem dX1_copyFrom_36 : decode cX1_copyFrom 36 = .ok (.aload_n 0, 1) := by decide +kernel
theorem dX1_copyFrom_37 : decode cX1_copyFrom 37 = .ok (.getfield 19, 3) := by decide +kernel
theorem dX1_copyFrom_40 : decode cX1_copyFrom 40 = .ok (.iconst 0, 1) := by decide +kernel
theorem dX1_copyFrom_41 : decode cX1_copyFrom 41 = .ok (.bipush 100, 2) := by decide +kernel
theorem dX1_copyFrom_43 : decode cX1_copyFrom 43 = .ok (.invokestatic 29, 3) := by decide +kernel
theorem dX1_copyFrom_46 : decode cX1_copyFrom 46 = .ok (.aload_n 0, 1) := by decide +kernel
theorem dX1_copyFrom_47 : decode cX1_copyFrom 47 = .ok (.aload_n 1, 1) := by decide +kernel
theorem dX1_copyFrom_48 : decode cX1_copyFrom 48 = .ok (.getfield 22, 3) := by decide +kernel
theorem dX1_copyFrom_51 : decode cX1_copyFrom 51 = .ok (.putfield 22, 3) := by decide +kernel
theorem dX1_copyFrom_54 : decode cX1_copyFrom 54 = .ok (.aload_n 0, 1) := by decide +kernel
theorem dX1_copyFrom_55 : decode cX1_copyFrom 55 = .ok (.aload_n 1, 1) := by decide +kernel
theorem dX1_copyFrom_56 : decode cX1_copyFrom 56 = .ok (.getfield 26, 3) := by decide +kernel
theorem dX1_copyFrom_59 : decode cX1_copyFrom 59 = .ok (.putfield 26, 3) := by decide +kernel
theorem dX1_copyFrom_62 : decode cX1_copyFrom 62 = .ok (.return_, 1) := by decide +kernel
theorem dX1_addGiven_0 : decode cX1_addGiven 0 = .ok (.aload_n 0, 1) := by decide +kernel
theorem dX1_addGiven_1 : decode cX1_addGiven 1 = .ok (.getfield 9, 3) := by decide +kernel
theorem dX1_addGiven_4 : decode cX1_addGiven 4 = .ok (.iload_n 1, 1) := by decide +kernel
theorem dX1_addGiven_5 : decode cX1_addGiven 5 = .ok (.iconst 1, 1) := by decide +kernel
theorem dX1_addGiven_6 : decode cX1_addGiven 6 = .ok (.bastore, 1) := by decide +kernel
theorem dX1_addGiven_7 : decode cX1_addGiven 7 = .ok (.aload_n 0, 1) := by decide +kernel
theorem dX1_addGiven_8 : decode cX1_addGiven 8 = .ok (.dup, 1) := by decide +kernel
theorem dX1_addGiven_9 : decode cX1_addGiven 9 = .ok (.getfield 22, 3) := by decide +kernel
theorem dX1_addGiven_12 : decode cX1_addGiven 12 = .ok (.iconst 1, 1) := by decide +kernel
theorem dX1_addGiven_13 : decode cX1_addGiven 13 = .ok (.iadd, 1) := by decide +kernel
theorem dX1_addGiven_14 : decode cX1_addGiven 14 = .ok (.putfield 22, 3) := by decide +kernel
theorem dX1_addGiven_17 : decode cX1_addGiven 17 = .ok (.return_, 1) := by decide +kernel
theorem dX1_setAside_0 : decode cX1_setAside 0 = .ok (.aload_n 0, 1) := by decide +kernel
theorem dX1_setAside_1 : decode cX1_setAside 1 = .ok (.getfield 26, 3) := by decide +kernel
theorem dX1_setAside_4 : decode cX1_setAside 4 = .ok (.bipush 100, 2) := by decide +kernel
theorem dX1_setAside_6 : decode cX1_setAside 6 = .ok (.if_icmp .ge 33, 3) := by decide +kernel
theorem dX1_setAside_9 : decode cX1_setAside 9 = .ok (.aload_n 0, 1) := by decide +kernel
theorem dX1_setAside_10 : decode cX1_setAside 10 = .ok (.getfield 15, 3) := by decide +kernel
theorem dX1_setAside_13 : decode cX1_setAside 13 = .ok (.aload_n 0, 1) := by decide +kernel
theorem dX1_setAside_14 : decode cX1_setAside 14 = .ok (.getfield 26, 3) := by decide +kernel
theorem dX1_setAside_17 : decode cX1_setAside 17 = .ok (.iload_n 1, 1) := by decide +kernel
theorem dX1_setAside_18 : decode cX1_setAside 18 = .ok (.iastore, 1) := by decide +kernel
theorem dX1_setAside_19 : decode cX1_setAside 19 = .ok (.aload_n 0, 1) := by decide +kernel
theorem dX1_setAside_20 : decode cX1_setAside 20 = .ok (.getfield 19, 3) := by decide +kernel
theorem dX1_setAside_23 : decode cX1_setAside 23 = .ok (.aload_n 0, 1) := by decide +kernel
theorem dX1_setAside_24 : decode cX1_setAside 24 = .ok (.getfield 26, 3) := by decide +kernel
theorem dX1_setAside_27 : decode cX1_setAside 27 = .ok (.iload_n 2, 1) := by decide +kernel
theorem dX1_setAside_28 : decode cX1_setAside 28 = .ok (.iastore, 1) := by decide +kernel
theorem dX1_setAside_29 : decode cX1_setAside 29 = .ok (.aload_n 0, 1) := by decide +kernel
theorem dX1_setAside_30 : decode cX1_setAside 30 = .ok (.dup, 1) := by decide +kernel
theorem dX1_setAside_31 : decode cX1_setAside 31 = .ok (.getfield 26, 3) := by decide +kernel
theorem dX1_setAside_34 : decode cX1_setAside 34 = .ok (.iconst 1, 1) := by decide +kernel
theorem dX1_setAside_35 : decode cX1_setAside 35 = .ok (.iadd, 1) := by decide +kernel
theorem dX1_setAside_36 : decode cX1_setAside 36 = .ok (.putfield 26, 3) := by decide +kernel
theorem dX1_setAside_39 : decode cX1_setAside 39 = .ok (.return_, 1) := by decide +kernel
theorem dX2_init_0 : decode cX2_init 0 = .ok (.aload_n 0, 1) := by decide +kernel
theorem dX2_init_1 : decode cX2_init 1 = .ok (.invokespecial 3, 3) := by decide +kernel
theorem dX2_init_4 : decode cX2_init 4 = .ok (.aload_n 0, 1) := by decide +kernel
theorem dX2_init_5 : decode cX2_init 5 = .ok (.bipush 12, 2) := by decide +kernel
theorem dX2_init_7 : decode cX2_init 7 = .ok (.newarray .int, 2) := by decide +kernel
theorem dX2_init_9 : decode cX2_init 9 = .ok (.putfield 9, 3) := by decide +kernel
theorem dX2_init_12 : decode cX2_init 12 = .ok (.aload_n 0, 1) := by decide +kernel
theorem dX2_init_13 : decode cX2_init 13 = .ok (.bipush 12, 2) := by decide +kernel
theorem dX2_init_15 : decode cX2_init 15 = .ok (.newarray .int, 2) := by decide +kernel
theorem dX2_init_17 : decode cX2_init 17 = .ok (.putfield 15, 3) := by decide +kernel
theorem dX2_init_20 : decode cX2_init 20 = .ok (.aload_n 0, 1) := by decide +kernel
theorem dX2_init_21 : decode cX2_init 21 = .ok (.bipush 12, 2) := by decide +kernel
theorem dX2_init_23 : decode cX2_init 23 = .ok (.newarray .int, 2) := by decide +kernel
theorem dX2_init_25 : decode cX2_init 25 = .ok (.putfield 18, 3) := by decide +kernel
theorem dX2_init_28 : decode cX2_init 28 = .ok (.aload_n 0, 1) := by decide +kernel
theorem dX2_init_29 : decode cX2_init 29 = .ok (.bipush 12, 2) := by decide +kernel
theorem dX2_init_31 : decode cX2_init 31 = .ok (.newarray .int, 2) := by decide +kernel
theorem dX2_init_33 : decode cX2_init 33 = .ok (.putfield 21, 3) := by decide +kernel
theorem dX2_init_36 : decode cX2_init 36 = .ok (.aload_n 0, 1) := by decide +kernel
theorem dX2_init_37 : decode cX2_init 37 = .ok (.new 24, 3) := by decide +kernel
theorem dX2_init_40 : decode cX2_init 40 = .ok (.dup, 1) := by decide +kernel
theorem dX2_init_41 : decode cX2_init 41 = .ok (.invokespecial 26, 3) := by decide +kernel
theorem dX2_init_44 : decode cX2_init 44 = .ok (.putfield 27, 3) := by decide +kernel
theorem dX2_init_47 : decode cX2_init 47 = .ok (.return_, 1) := by decide +kernel
theorem dX2_keep_0 : decode cX2_keep 0 = .ok (.aload_n 0, 1) := by decide +kernel
theorem dX2_keep_1 : decode cX2_keep 1 = .ok (.iload_n 2, 1) := by decide +kernel
theorem dX2_keep_2 : decode cX2_keep 2 = .ok (.bipush 12, 2) := by decide +kernel
theorem dX2_keep_4 : decode cX2_keep 4 = .ok (.invokestatic 31, 3) := by decide +kernel
theorem dX2_keep_7 : decode cX2_keep 7 = .ok (.putfield 37, 3) := by decide +kernel
theorem dX2_keep_10 : decode cX2_keep 10 = .ok (.iconst 0, 1) := by decide +kernel
theorem dX2_keep_11 : decode cX2_keep 11 = .ok (.istore 4, 2) := by decide +kernel
theorem dX2_keep_13 : decode cX2_keep 13 = .ok (.iload 4, 2) := by decide +kernel
theorem dX2_keep_15 : decode cX2_keep 15 = .ok (.aload_n 0, 1) := by decide +kernel
theorem dX2_keep_16 : decode cX2_keep 16 = .ok (.getfield 37, 3) := by decide +kernel
theorem dX2_keep_19 : decode cX2_keep 19 = .ok (.if_icmp .ge 65, 3) := by decide +kernel
theorem dX2_keep_22 : decode cX2_keep 22 = .ok (.aload_n 0, 1) := by decide +kernel
theorem dX2_keep_23 : decode cX2_keep 23 = .ok (.getfield 9, 3) := by decide +kernel
theorem dX2_keep_26 : decode cX2_keep 26 = .ok (.iload 4, 2) := by decide +kernel
theorem dX2_keep_28 : decode cX2_keep 28 = .ok (.aload_n 1, 1) := by decide +kernel
theorem dX2_keep_29 : decode cX2_keep 29 = .ok (.iload 4, 2) := by decide +kernel
theorem dX2_keep_31 : decode cX2_keep 31 = .ok (.aaload, 1) := by decide +kernel
theorem dX2_keep_32 : decode cX2_keep 32 = .ok (.getfield 41, 3) := by decide +kernel
theorem dX2_keep_35 : decode cX2_keep 35 = .ok (.iastore, 1) := by decide +kernel
theorem dX2_keep_36 : decode cX2_keep 36 = .ok (.aload_n 0, 1) := by decide +kernel
theorem dX2_keep_37 : decode cX2_keep 37 = .ok (.getfield 15, 3) := by decide +kernel
theorem dX2_keep_40 : decode cX2_keep 40 = .ok (.iload 4, 2) := by decide +kernel
theorem dX2_keep_42 : decode cX2_keep 42 = .ok (.aload_n 1, 1) := by decide +kernel
theorem dX2_keep_43 : decode cX2_keep 43 = .ok (.iload 4, 2) := by decide +kernel
theorem dX2_keep_45 : decode cX2_keep 45 = .ok (.aaload, 1) := by decide +kernel
theorem dX2_keep_46 : decode cX2_keep 46 = .ok (.getfield 46, 3) := by decide +kernel
theorem dX2_keep_49 : decode cX2_keep 49 = .ok (.iastore, 1) := by decide +kernel
theorem dX2_keep_50 : decode cX2_keep 50 = .ok (.aload_n 0, 1) := by decide +kernel
theorem dX2_keep_51 : decode cX2_keep 51 = .ok (.getfield 18, 3) := by decide +kernel
theorem dX2_keep_54 : decode cX2_keep 54 = .ok (.iload 4, 2) := by decide +kernel
theorem dX2_keep_56 : decode cX2_keep 56 = .ok (.aload_n 1, 1) := by decide +kernel
theorem dX2_keep_57 : decode cX2_keep 57 = .ok (.iload 4, 2) := by decide +kernel
theorem dX2_keep_59 : decode cX2_keep 59 = .ok (.aaload, 1) := by decide +kernel
theorem dX2_keep_60 : decode cX2_keep 60 = .ok (.getfield 49, 3) := by decide +kernel
theorem dX2_keep_63 : decode cX2_keep 63 = .ok (.iastore, 1) := by decide +kernel
theorem dX2_keep_64 : decode cX2_keep 64 = .ok (.aload_n 0, 1) := by decide +kernel
theorem dX2_keep_65 : decode cX2_keep 65 = .ok (.getfield 21, 3) := by decide +kernel
theorem dX2_keep_68 : decode cX2_keep 68 = .ok (.iload 4, 2) := by decide +kernel
theorem dX2_keep_70 : decode cX2_keep 70 = .ok (.aload_n 1, 1) := by decide +kernel
theorem dX2_keep_71 : decode cX2_keep 71 = .ok (.iload 4, 2) := by decide +kernel
theorem dX2_keep_73 : decode cX2_keep 73 = .ok (.aaload, 1) := by decide +kernel
theorem dX2_keep_74 : decode cX2_keep 74 = .ok (.getfield 52, 3) := by decide +kernel
theorem dX2_keep_77 : decode cX2_keep 77 = .ok (.iastore, 1) := by decide +kernel
theorem dX2_keep_78 : decode cX2_keep 78 = .ok (.iinc 4 1, 3) := by decide +kernel
theorem dX2_keep_81 : decode cX2_keep 81 = .ok (.goto (-68), 3) := by decide +kernel
theorem dX2_keep_84 : decode cX2_keep 84 = .ok (.aload_n 0, 1) := by decide +kernel
theorem dX2_keep_85 : decode cX2_keep 85 = .ok (.getfield 27, 3) := by decide +kernel
theorem dX2_keep_88 : decode cX2_keep 88 = .ok (.aload_n 3, 1) := by decide +kernel
theorem dX2_keep_89 : decode cX2_keep 89 = .ok (.invokevirtual 55, 3) := by decide +kernel
theorem dX2_keep_92 : decode cX2_keep 92 = .ok (.return_, 1) := by decide +kernel
theorem dX2_bringBack_0 : decode cX2_bringBack 0 = .ok (.iload_n 1, 1) := by decide +kernel
theorem dX2_bringBack_1 : decode cX2_bringBack 1 = .ok (.ifCond .lt 11, 3) := by decide +kernel
theorem dX2_bringBack_4 : decode cX2_bringBack 4 = .ok (.iload_n 1, 1) := by decide +kernel
theorem dX2_bringBack_5 : decode cX2_bringBack 5 = .ok (.aload_n 0, 1) := by decide +kernel
theorem dX2_bringBack_6 : decode cX2_bringBack 6 = .ok (.getfield 37, 3) := by decide +kernel
theorem dX2_bringBack_9 : decode cX2_bringBack 9 = .ok (.if_icmp .lt 16, 3) := by decide +kernel
theorem dX2_bringBack_12 : decode cX2_bringBack 12 = .ok (.aload_n 2, 1) := by decide +kernel
theorem dX2_bringBack_13 : decode cX2_bringBack 13 = .ok (.iconst 0, 1) := by decide +kernel
theorem dX2_bringBack_14 : decode cX2_bringBack 14 = .ok (.iconst (-1), 1) := by decide +kernel
theorem dX2_bringBack_15 : decode cX2_bringBack 15 = .ok (.iconst 0, 1) := by decide +kernel
theorem dX2_bringBack_16 : decode cX2_bringBack 16 = .ok (.invokevirtual 59, 3) := by decide +kernel
theorem dX2_bringBack_19 : decode cX2_bringBack 19 = .ok (.aload_n 2, 1) := by decide +kernel
theorem dX2_bringBack_20 : decode cX2_bringBack 20 = .ok (.iconst (-1), 1) := by decide +kernel
theorem dX2_bringBack_21 : decode cX2_bringBack 21 = .ok (.putfield 52, 3) := by decide +kernel
theorem dX2_bringBack_24 : decode cX2_bringBack 24 = .ok (.return_, 1) := by decide +kernel
theorem dX2_bringBack_25 : decode cX2_bringBack 25 = .ok (.aload_n 2, 1) := by decide +kernel
theorem dX2_bringBack_26 : decode cX2_bringBack 26 = .ok (.aload_n 0, 1) := by decide +kernel
theorem dX2_bringBack_27 : decode cX2_bringBack 27 = .ok (.getfield 9, 3) := by decide +kernel
theorem dX2_bringBack_30 : decode cX2_bringBack 30 = .ok (.iload_n 1, 1) := by decide +kernel
theorem dX2_bringBack_31 : decode cX2_bringBack 31 = .ok (.iaload, 1) := by decide +kernel
theorem dX2_bringBack_32 : decode cX2_bringBack 32 = .ok (.aload_n 0, 1) := by decide +kernel
theorem dX2_bringBack_33 : decode cX2_bringBack 33 = .ok (.getfield 15, 3) := by decide +kernel
theorem dX2_bringBack_36 : decode cX2_bringBack 36 = .ok (.iload_n 1, 1) := by decide +kernel
theorem dX2_bringBack_37 : decode cX2_bringBack 37 = .ok (.iaload, 1) := by decide +kernel
theorem dX2_bringBack_38 : decode cX2_bringBack 38 = .ok (.aload_n 0, 1) := by decide +kernel
theorem dX2_bringBack_39 : decode cX2_bringBack 39 = .ok (.getfield 18, 3) := by decide +kernel
theorem dX2_bringBack_42 : decode cX2_bringBack 42 = .ok (.iload_n 1, 1) := by decide +kernel
theorem dX2_bringBack_43 : decode cX2_bringBack 43 = .ok (.iaload, 1) := by decide +kernel
theorem dX2_bringBack_44 : decode cX2_bringBack 44 = .ok (.invokevirtual 59, 3) := by decide +kernel
theorem dX2_bringBack_47 : decode cX2_bringBack 47 = .ok (.aload_n 2, 1) := by decide +kernel
theorem dX2_bringBack_48 : decode cX2_bringBack 48 = .ok (.aload_n 0, 1) := by decide +kernel
theorem dX2_bringBack_49 : decode cX2_bringBack 49 = .ok (.getfield 21, 3) := by decide +kernel
theorem dX2_bringBack_52 : decode cX2_bringBack 52 = .ok (.iload_n 1, 1) := by decide +kernel
theorem dX2_bringBack_53 : decode cX2_bringBack 53 = .ok (.iaload, 1) := by decide +kernel
theorem dX2_bringBack_54 : decode cX2_bringBack 54 = .ok (.iload_n 3, 1) := by decide +kernel
theorem dX2_bringBack_55 : decode cX2_bringBack 55 = .ok (.if_icmp .ge 12, 3) := by decide +kernel
theorem dX2_bringBack_58 : decode cX2_bringBack 58 = .ok (.aload_n 0, 1) := by decide +kernel
theorem dX2_bringBack_59 : decode cX2_bringBack 59 = .ok (.getfield 21, 3) := by decide +kernel
theorem dX2_bringBack_62 : decode cX2_bringBack 62 = .ok (.iload_n 1, 1) := by decide +kernel
theorem dX2_bringBack_63 : decode cX2_bringBack 63 = .ok (.iaload, 1) := by decide +kernel
theorem dX2_bringBack_64 : decode cX2_bringBack 64 = .ok (.goto 4, 3) := by decide +kernel
theorem dX2_bringBack_67 : decode cX2_bringBack 67 = .ok (.iconst (-1), 1) := by decide +kernel
theorem dX2_bringBack_68 : decode cX2_bringBack 68 = .ok (.putfield 52, 3) := by decide +kernel
theorem dX2_bringBack_71 : decode cX2_bringBack 71 = .ok (.return_, 1) := by decide +kernel
theorem dX3_init_0 : decode cX3_init 0 = .ok (.aload_n 0, 1) := by decide +kernel
theorem dX3_init_1 : decode cX3_init 1 = .ok (.invokespecial 3, 3) := by decide +kernel
theorem dX3_init_4 : decode cX3_init 4 = .ok (.aload_n 0, 1) := by decide +kernel
theorem dX3_init_5 : decode cX3_init 5 = .ok (.bipush 40, 2) := by decide +kernel
theorem dX3_init_7 : decode cX3_init 7 = .ok (.newarray .int, 2) := by decide +kernel
theorem dX3_init_9 : decode cX3_init 9 = .ok (.putfield 9, 3) := by decide +kernel
theorem dX3_init_12 : decode cX3_init 12 = .ok (.aload_n 0, 1) := by decide +kernel
theorem dX3_init_13 : decode cX3_init 13 = .ok (.bipush 40, 2) := by decide +kernel
theorem dX3_init_15 : decode cX3_init 15 = .ok (.newarray .int, 2) := by decide +kernel
theorem dX3_init_17 : decode cX3_init 17 = .ok (.putfield 15, 3) := by decide +kernel
theorem dX3_init_20 : decode cX3_init 20 = .ok (.aload_n 0, 1) := by decide +kernel
theorem dX3_init_21 : decode cX3_init 21 = .ok (.bipush 40, 2) := by decide +kernel
theorem dX3_init_23 : decode cX3_init 23 = .ok (.newarray .boolean, 2) := by decide +kernel
theorem dX3_init_25 : decode cX3_init 25 = .ok (.putfield 18, 3) := by decide +kernel
theorem dX3_init_28 : decode cX3_init 28 = .ok (.return_, 1) := by decide +kernel
theorem dX3_beginAnew_0 : decode cX3_beginAnew 0 = .ok (.aload_n 0, 1) := by decide +kernel
theorem dX3_beginAnew_1 : decode cX3_beginAnew 1 = .ok (.iconst 0, 1) := by decide +kernel
theorem dX3_beginAnew_2 : decode cX3_beginAnew 2 = .ok (.putfield 22, 3) := by decide +kernel
theorem dX3_beginAnew_5 : decode cX3_beginAnew 5 = .ok (.aload_n 0, 1) := by decide +kernel
theorem dX3_beginAnew_6 : decode cX3_beginAnew 6 = .ok (.iconst 0, 1) := by decide +kernel
theorem dX3_beginAnew_7 : decode cX3_beginAnew 7 = .ok (.putfield 26, 3) := by decide +kernel
theorem dX3_beginAnew_10 : decode cX3_beginAnew 10 = .ok (.aload_n 0, 1) := by decide +kernel
theorem dX3_beginAnew_11 : decode cX3_beginAnew 11 = .ok (.iload_n 1, 1) := by decide +kernel
theorem dX3_beginAnew_12 : decode cX3_beginAnew 12 = .ok (.putfield 30, 3) := by decide +kernel
theorem dX3_beginAnew_15 : decode cX3_beginAnew 15 = .ok (.aload_n 0, 1) := by decide +kernel
theorem dX3_beginAnew_16 : decode cX3_beginAnew 16 = .ok (.iload_n 2, 1) := by decide +kernel
theorem dX3_beginAnew_17 : decode cX3_beginAnew 17 = .ok (.putfield 33, 3) := by decide +kernel
theorem dX3_beginAnew_20 : decode cX3_beginAnew 20 = .ok (.aload_n 0, 1) := by decide +kernel
theorem dX3_beginAnew_21 : decode cX3_beginAnew 21 = .ok (.iconst (-1), 1) := by decide +kernel
theorem dX3_beginAnew_22 : decode cX3_beginAnew 22 = .ok (.putfield 36, 3) := by decide +kernel
theorem dX3_beginAnew_25 : decode cX3_beginAnew 25 = .ok (.aload_n 0, 1) := by decide +kernel
theorem dX3_beginAnew_26 : decode cX3_beginAnew 26 = .ok (.iconst 0, 1) := by decide +kernel
theorem dX3_beginAnew_27 : decode cX3_beginAnew 27 = .ok (.iconst (-1), 1) := by decide +kernel
theorem dX3_beginAnew_28 : decode cX3_beginAnew 28 = .ok (.iconst 0, 1) := by decide +kernel
theorem dX3_beginAnew_29 : decode cX3_beginAnew 29 = .ok (.invokevirtual 39, 3) := by decide +kernel
theorem dX3_beginAnew_32 : decode cX3_beginAnew 32 = .ok (.return_, 1) := by decide +kernel
theorem dX3_stand_0 : decode cX3_stand 0 = .ok (.aload_n 0, 1) := by decide +kernel
theorem dX3_stand_1 : decode cX3_stand 1 = .ok (.iload_n 1, 1) := by decide +kernel
theorem dX3_stand_2 : decode cX3_stand 2 = .ok (.putfield 43, 3) := by decide +kernel
theorem dX3_stand_5 : decode cX3_stand 5 = .ok (.aload_n 0, 1) := by decide +kernel
theorem dX3_stand_6 : decode cX3_stand 6 = .ok (.iload_n 2, 1) := by decide +kernel
theorem dX3_stand_7 : decode cX3_stand 7 = .ok (.putfield 46, 3) := by decide +kernel
theorem dX3_stand_10 : decode cX3_stand 10 = .ok (.aload_n 0, 1) := by decide +kernel
theorem dX3_stand_11 : decode cX3_stand 11 = .ok (.iload_n 3, 1) := by decide +kernel
theorem dX3_stand_12 : decode cX3_stand 12 = .ok (.putfield 49, 3) := by decide +kernel
theorem dX3_stand_15 : decode cX3_stand 15 = .ok (.return_, 1) := by decide +kernel
theorem dX3_hasRow_0 : decode cX3_hasRow 0 = .ok (.iload_n 1, 1) := by decide +kernel
theorem dX3_hasRow_1 : decode cX3_hasRow 1 = .ok (.ifCond .lt 15, 3) := by decide +kernel
theorem dX3_hasRow_4 : decode cX3_hasRow 4 = .ok (.iload_n 1, 1) := by decide +kernel
theorem dX3_hasRow_5 : decode cX3_hasRow 5 = .ok (.aload_n 0, 1) := by decide +kernel
theorem dX3_hasRow_6 : decode cX3_hasRow 6 = .ok (.getfield 22, 3) := by decide +kernel
theorem dX3_hasRow_9 : decode cX3_hasRow 9 = .ok (.if_icmp .ge 7, 3) := by decide +kernel
theorem dX3_hasRow_12 : decode cX3_hasRow 12 = .ok (.iconst 1, 1) := by decide +kernel
theorem dX3_hasRow_13 : decode cX3_hasRow 13 = .ok (.goto 4, 3) := by decide +kernel
theorem dX3_hasRow_16 : decode cX3_hasRow 16 = .ok (.iconst 0, 1) := by decide +kernel
theorem dX3_hasRow_17 : decode cX3_hasRow 17 = .ok (.ireturn, 1) := by decide +kernel
theorem dX3_isReady_0 : decode cX3_isReady 0 = .ok (.aload_n 0, 1) := by decide +kernel
theorem dX3_isReady_1 : decode cX3_isReady 1 = .ok (.aload_n 0, 1) := by decide +kernel
theorem dX3_isReady_2 : decode cX3_isReady 2 = .ok (.getfield 43, 3) := by decide +kernel
theorem dX3_isReady_5 : decode cX3_isReady 5 = .ok (.invokevirtual 52, 3) := by decide +kernel
theorem dX3_isReady_8 : decode cX3_isReady 8 = .ok (.ireturn, 1) := by decide +kernel
theorem dX3_isReadyFor_0 : decode cX3_isReadyFor 0 = .ok (.aload_n 0, 1) := by decide +kernel
theorem dX3_isReadyFor_1 : decode cX3_isReadyFor 1 = .ok (.getfield 36, 3) := by decide +kernel
theorem dX3_isReadyFor_4 : decode cX3_isReadyFor 4 = .ok (.iload_n 1, 1) := by decide +kernel
theorem dX3_isReadyFor_5 : decode cX3_isReadyFor 5 = .ok (.if_icmp .ne 14, 3) := by decide +kernel
theorem dX3_isReadyFor_8 : decode cX3_isReadyFor 8 = .ok (.aload_n 0, 1) := by decide +kernel
theorem dX3_isReadyFor_9 : decode cX3_isReadyFor 9 = .ok (.invokevirtual 56, 3) := by decide +kernel
theorem dX3_isReadyFor_12 : decode cX3_isReadyFor 12 = .ok (.ifCond .eq 7, 3) := by decide +kernel
theorem dX3_isReadyFor_15 : decode cX3_isReadyFor 15 = .ok (.iconst 1, 1) := by decide +kernel
theorem dX3_isReadyFor_16 : decode cX3_isReadyFor 16 = .ok (.goto 4, 3) := by decide +kernel
theorem dX3_isReadyFor_19 : decode cX3_isReadyFor 19 = .ok (.iconst 0, 1) := by decide +kernel
theorem dX3_isReadyFor_20 : decode cX3_isReadyFor 20 = .ok (.ireturn, 1) := by decide +kernel
theorem dX3_isDone_0 : decode cX3_isDone 0 = .ok (.aload_n 0, 1) := by decide +kernel
theorem dX3_isDone_1 : decode cX3_isDone 1 = .ok (.getfield 26, 3) := by decide +kernel
theorem dX3_isDone_4 : decode cX3_isDone 4 = .ok (.ifCond .eq 14, 3) := by decide +kernel
theorem dX3_isDone_7 : decode cX3_isDone 7 = .ok (.aload_n 0, 1) := by decide +kernel
theorem dX3_isDone_8 : decode cX3_isDone 8 = .ok (.invokevirtual 56, 3) := by decide +kernel
theorem dX3_isDone_11 : decode cX3_isDone 11 = .ok (.ifCond .ne 7, 3) := by decide +kernel
theorem dX3_isDone_14 : decode cX3_isDone 14 = .ok (.iconst 1, 1) := by decide +kernel
theorem dX3_isDone_15 : decode cX3_isDone 15 = .ok (.goto 4, 3) := by decide +kernel
theorem dX3_isDone_18 : decode cX3_isDone 18 = .ok (.iconst 0, 1) := by decide +kernel
theorem dX3_isDone_19 : decode cX3_isDone 19 = .ok (.ireturn, 1) := by decide +kernel
theorem dX3_addRow_0 : decode cX3_addRow 0 = .ok (.aload_n 0, 1) := by decide +kernel
theorem dX3_addRow_1 : decode cX3_addRow 1 = .ok (.getfield 22, 3) := by decide +kernel
theorem dX3_addRow_4 : decode cX3_addRow 4 = .ok (.bipush 40, 2) := by decide +kernel
theorem dX3_addRow_6 : decode cX3_addRow 6 = .ok (.if_icmp .ge 43, 3) := by decide +kernel
theorem dX3_addRow_9 : decode cX3_addRow 9 = .ok (.aload_n 0, 1) := by decide +kernel
theorem dX3_addRow_10 : decode cX3_addRow 10 = .ok (.getfield 9, 3) := by decide +kernel
theorem dX3_addRow_13 : decode cX3_addRow 13 = .ok (.aload_n 0, 1) := by decide +kernel
theorem dX3_addRow_14 : decode cX3_addRow 14 = .ok (.getfield 22, 3) := by decide +kernel
theorem dX3_addRow_17 : decode cX3_addRow 17 = .ok (.iload_n 1, 1) := by decide +kernel
theorem dX3_addRow_18 : decode cX3_addRow 18 = .ok (.iastore, 1) := by decide +kernel
theorem dX3_addRow_19 : decode cX3_addRow 19 = .ok (.aload_n 0, 1) := by decide +kernel
theorem dX3_addRow_20 : decode cX3_addRow 20 = .ok (.getfield 15, 3) := by decide +kernel
theorem dX3_addRow_23 : decode cX3_addRow 23 = .ok (.aload_n 0, 1) := by decide +kernel
theorem dX3_addRow_24 : decode cX3_addRow 24 = .ok (.getfield 22, 3) := by decide +kernel
theorem dX3_addRow_27 : decode cX3_addRow 27 = .ok (.iload_n 2, 1) := by decide +kernel
theorem dX3_addRow_28 : decode cX3_addRow 28 = .ok (.iastore, 1) := by decide +kernel
theorem dX3_addRow_29 : decode cX3_addRow 29 = .ok (.aload_n 0, 1) := by decide +kernel
theorem dX3_addRow_30 : decode cX3_addRow 30 = .ok (.getfield 18, 3) := by decide +kernel
theorem dX3_addRow_33 : decode cX3_addRow 33 = .ok (.aload_n 0, 1) := by decide +kernel
theorem dX3_addRow_34 : decode cX3_addRow 34 = .ok (.getfield 22, 3) := by decide +kernel
theorem dX3_addRow_37 : decode cX3_addRow 37 = .ok (.iload_n 3, 1) := by decide +kernel
theorem dX3_addRow_38 : decode cX3_addRow 38 = .ok (.bastore, 1) := by decide +kernel
theorem dX3_addRow_39 : decode cX3_addRow 39 = .ok (.aload_n 0, 1) := by decide +kernel
theorem dX3_addRow_40 : decode cX3_addRow 40 = .ok (.dup, 1) := by decide +kernel
theorem dX3_addRow_41 : decode cX3_addRow 41 = .ok (.getfield 22, 3) := by decide +kernel
theorem dX3_addRow_44 : decode cX3_addRow 44 = .ok (.iconst 1, 1) := by decide +kernel
theorem dX3_addRow_45 : decode cX3_addRow 45 = .ok (.iadd, 1) := by decide +kernel
theorem dX3_addRow_46 : decode cX3_addRow 46 = .ok (.putfield 22, 3) := by decide +kernel
theorem dX3_addRow_49 : decode cX3_addRow 49 = .ok (.return_, 1) := by decide +kernel
theorem dX3_moveRowsFrom_0 : decode cX3_moveRowsFrom 0 = .ok (.iload_n 1, 1) := by decide +kernel
theorem dX3_moveRowsFrom_1 : decode cX3_moveRowsFrom 1 = .ok (.istore_n 3, 1) := by decide +kernel
theorem dX3_moveRowsFrom_2 : decode cX3_moveRowsFrom 2 = .ok (.iload_n 3, 1) := by decide +kernel
theorem dX3_moveRowsFrom_3 : decode cX3_moveRowsFrom 3 = .ok (.aload_n 0, 1) := by decide +kernel
theorem dX3_moveRowsFrom_4 : decode cX3_moveRowsFrom 4 = .ok (.getfield 22, 3) := by decide +kernel
theorem dX3_moveRowsFrom_7 : decode cX3_moveRowsFrom 7 = .ok (.if_icmp .ge 31, 3) := by decide +kernel
theorem dX3_moveRowsFrom_10 : decode cX3_moveRowsFrom 10 = .ok (.aload_n 2, 1) := by decide +kernel
theorem dX3_moveRowsFrom_11 : decode cX3_moveRowsFrom 11 = .ok (.aload_n 0, 1) := by decide +kernel
theorem dX3_moveRowsFrom_12 : decode cX3_moveRowsFrom 12 = .ok (.getfield 9, 3) := by decide +kernel
theorem dX3_moveRowsFrom_15 : decode cX3_moveRowsFrom 15 = .ok (.iload_n 3, 1) := by decide +kernel
theorem dX3_moveRowsFrom_16 : decode cX3_moveRowsFrom 16 = .ok (.iaload, 1) := by decide +kernel
theorem dX3_moveRowsFrom_17 : decode cX3_moveRowsFrom 17 = .ok (.aload_n 0, 1) := by decide +kernel
theorem dX3_moveRowsFrom_18 : decode cX3_moveRowsFrom 18 = .ok (.getfield 15, 3) := by decide +kernel
theorem dX3_moveRowsFrom_21 : decode cX3_moveRowsFrom 21 = .ok (.iload_n 3, 1) := by decide +kernel
theorem dX3_moveRowsFrom_22 : decode cX3_moveRowsFrom 22 = .ok (.iaload, 1) := by decide +kernel
theorem dX3_moveRowsFrom_23 : decode cX3_moveRowsFrom 23 = .ok (.aload_n 0, 1) := by decide +kernel
theorem dX3_moveRowsFrom_24 : decode cX3_moveRowsFrom 24 = .ok (.getfield 18, 3) := by decide +kernel
theorem dX3_moveRowsFrom_27 : decode cX3_moveRowsFrom 27 = .ok (.iload_n 3, 1) := by decide +kernel
theorem dX3_moveRowsFrom_28 : decode cX3_moveRowsFrom 28 = .ok (.baload, 1) := by decide +kernel
theorem dX3_moveRowsFrom_29 : decode cX3_moveRowsFrom 29 = .ok (.invokevirtual 60, 3) := by decide +kernel
theorem dX3_moveRowsFrom_32 : decode cX3_moveRowsFrom 32 = .ok (.iinc 3 1, 3) := by decide +kernel
theorem dX3_moveRowsFrom_35 : decode cX3_moveRowsFrom 35 = .ok (.goto (-33), 3) := by decide +kernel
theorem dX3_moveRowsFrom_38 : decode cX3_moveRowsFrom 38 = .ok (.aload_n 2, 1) := by decide +kernel
theorem dX3_moveRowsFrom_39 : decode cX3_moveRowsFrom 39 = .ok (.aload_n 0, 1) := by decide +kernel
theorem dX3_moveRowsFrom_40 : decode cX3_moveRowsFrom 40 = .ok (.getfield 26, 3) := by decide +kernel
theorem dX3_moveRowsFrom_43 : decode cX3_moveRowsFrom 43 = .ok (.putfield 26, 3) := by decide +kernel
theorem dX3_moveRowsFrom_46 : decode cX3_moveRowsFrom 46 = .ok (.aload_n 0, 1) := by decide +kernel
theorem dX3_moveRowsFrom_47 : decode cX3_moveRowsFrom 47 = .ok (.iload_n 1, 1) := by decide +kernel
theorem dX3_moveRowsFrom_48 : decode cX3_moveRowsFrom 48 = .ok (.putfield 22, 3) := by decide +kernel
theorem dX3_moveRowsFrom_51 : decode cX3_moveRowsFrom 51 = .ok (.aload_n 0, 1) := by decide +kernel
theorem dX3_moveRowsFrom_52 : decode cX3_moveRowsFrom 52 = .ok (.iconst 1, 1) := by decide +kernel
theorem dX3_moveRowsFrom_53 : decode cX3_moveRowsFrom 53 = .ok (.putfield 26, 3) := by decide +kernel
theorem dX3_moveRowsFrom_56 : decode cX3_moveRowsFrom 56 = .ok (.return_, 1) := by decide +kernel
theorem dX3_firstPlaceFrom_0 : decode cX3_firstPlaceFrom 0 = .ok (.iconst 0, 1) := by decide +kernel
theorem dX3_firstPlaceFrom_1 : decode cX3_firstPlaceFrom 1 = .ok (.istore_n 2, 1) := by decide +kernel
theorem dX3_firstPlaceFrom_2 : decode cX3_firstPlaceFrom 2 = .ok (.iload_n 2, 1) := by decide +kernel
theorem dX3_firstPlaceFrom_3 : decode cX3_firstPlaceFrom 3 = .ok (.aload_n 0, 1) := by decide +kernel
theorem dX3_firstPlaceFrom_4 : decode cX3_firstPlaceFrom 4 = .ok (.getfield 22, 3) := by decide +kernel
theorem dX3_firstPlaceFrom_7 : decode cX3_firstPlaceFrom 7 = .ok (.if_icmp .ge 21, 3) := by decide +kernel
theorem dX3_firstPlaceFrom_10 : decode cX3_firstPlaceFrom 10 = .ok (.aload_n 0, 1) := by decide +kernel
theorem dX3_firstPlaceFrom_11 : decode cX3_firstPlaceFrom 11 = .ok (.getfield 15, 3) := by decide +kernel
theorem dX3_firstPlaceFrom_14 : decode cX3_firstPlaceFrom 14 = .ok (.iload_n 2, 1) := by decide +kernel
theorem dX3_firstPlaceFrom_15 : decode cX3_firstPlaceFrom 15 = .ok (.iaload, 1) := by decide +kernel
theorem dX3_firstPlaceFrom_16 : decode cX3_firstPlaceFrom 16 = .ok (.iload_n 1, 1) := by decide +kernel
theorem dX3_firstPlaceFrom_17 : decode cX3_firstPlaceFrom 17 = .ok (.if_icmp .lt 5, 3) := by decide +kernel
theorem dX3_firstPlaceFrom_20 : decode cX3_firstPlaceFrom 20 = .ok (.iload_n 2, 1) := by decide +kernel
theorem dX3_firstPlaceFrom_21 : decode cX3_firstPlaceFrom 21 = .ok (.ireturn, 1) := by decide +kernel
theorem dX3_firstPlaceFrom_22 : decode cX3_firstPlaceFrom 22 = .ok (.iinc 2 1, 3) := by decide +kernel
theorem dX3_firstPlaceFrom_25 : decode cX3_firstPlaceFrom 25 = .ok (.goto (-23), 3) := by decide +kernel
theorem dX3_firstPlaceFrom_28 : decode cX3_firstPlaceFrom 28 = .ok (.aload_n 0, 1) := by decide +kernel
theorem dX3_firstPlaceFrom_29 : decode cX3_firstPlaceFrom 29 = .ok (.getfield 22, 3) := by decide +kernel
theorem dX3_firstPlaceFrom_32 : decode cX3_firstPlaceFrom 32 = .ok (.ireturn, 1) := by decide +kernel
theorem dX3_pass_0 : decode cX3_pass 0 = .ok (.aload_n 0, 1) := by decide +kernel
theorem dX3_pass_1 : decode cX3_pass 1 = .ok (.invokevirtual 56, 3) := by decide +kernel
theorem dX3_pass_4 : decode cX3_pass 4 = .ok (.ifCond .eq 33, 3) := by decide +kernel
theorem dX3_pass_7 : decode cX3_pass 7 = .ok (.aload_n 0, 1) := by decide +kernel
theorem dX3_pass_8 : decode cX3_pass 8 = .ok (.aload_n 0, 1) := by decide +kernel
theorem dX3_pass_9 : decode cX3_pass 9 = .ok (.getfield 46, 3) := by decide +kernel
theorem dX3_pass_12 : decode cX3_pass 12 = .ok (.aload_n 0, 1) := by decide +kernel
theorem dX3_pass_13 : decode cX3_pass 13 = .ok (.getfield 15, 3) := by decide +kernel
theorem dX3_pass_16 : decode cX3_pass 16 = .ok (.aload_n 0, 1) := by decide +kernel
theorem dX3_pass_17 : decode cX3_pass 17 = .ok (.getfield 43, 3) := by decide +kernel
theorem dX3_pass_20 : decode cX3_pass 20 = .ok (.iaload, 1) := by decide +kernel
theorem dX3_pass_21 : decode cX3_pass 21 = .ok (.invokestatic 64, 3) := by decide +kernel
theorem dX3_pass_24 : decode cX3_pass 24 = .ok (.putfield 46, 3) := by decide +kernel
theorem dX3_pass_27 : decode cX3_pass 27 = .ok (.aload_n 0, 1) := by decide +kernel
theorem dX3_pass_28 : decode cX3_pass 28 = .ok (.dup, 1) := by decide +kernel
theorem dX3_pass_29 : decode cX3_pass 29 = .ok (.getfield 43, 3) := by decide +kernel
theorem dX3_pass_32 : decode cX3_pass 32 = .ok (.iconst 1, 1) := by decide +kernel
theorem dX3_pass_33 : decode cX3_pass 33 = .ok (.iadd, 1) := by decide +kernel
theorem dX3_pass_34 : decode cX3_pass 34 = .ok (.putfield 43, 3) := by decide +kernel
theorem dX3_pass_37 : decode cX3_pass 37 = .ok (.return_, 1) := by decide +kernel
theorem dX4_init_0 : decode cX4_init 0 = .ok (.aload_n 0, 1) := by decide +kernel
theorem dX4_init_1 : decode cX4_init 1 = .ok (.invokespecial 1, 3) := by decide +kernel
theorem dX4_init_4 : decode cX4_init 4 = .ok (.aload_n 0, 1) := by decide +kernel
theorem dX4_init_5 : decode cX4_init 5 = .ok (.bipush 12, 2) := by decide +kernel
theorem dX4_init_7 : decode cX4_init 7 = .ok (.anewarray 9, 3) := by decide +kernel
theorem dX4_init_10 : decode cX4_init 10 = .ok (.putfield 11, 3) := by decide +kernel
theorem dX4_init_13 : decode cX4_init 13 = .ok (.aload_n 0, 1) := by decide +kernel
theorem dX4_init_14 : decode cX4_init 14 = .ok (.bipush 6, 2) := by decide +kernel
theorem dX4_init_16 : decode cX4_init 16 = .ok (.anewarray 15, 3) := by decide +kernel
theorem dX4_init_19 : decode cX4_init 19 = .ok (.putfield 17, 3) := by decide +kernel
theorem dX4_init_22 : decode cX4_init 22 = .ok (.aload_n 0, 1) := by decide +kernel
theorem dX4_init_23 : decode cX4_init 23 = .ok (.new 21, 3) := by decide +kernel
theorem dX4_init_26 : decode cX4_init 26 = .ok (.dup, 1) := by decide +kernel
theorem dX4_init_27 : decode cX4_init 27 = .ok (.invokespecial 23, 3) := by decide +kernel
theorem dX4_init_30 : decode cX4_init 30 = .ok (.putfield 24, 3) := by decide +kernel
theorem dX4_init_33 : decode cX4_init 33 = .ok (.aload_n 0, 1) := by decide +kernel
theorem dX4_init_34 : decode cX4_init 34 = .ok (.new 28, 3) := by decide +kernel
theorem dX4_init_37 : decode cX4_init 37 = .ok (.dup, 1) := by decide +kernel
theorem dX4_init_38 : decode cX4_init 38 = .ok (.invokespecial 30, 3) := by decide +kernel
theorem dX4_init_41 : decode cX4_init 41 = .ok (.putfield 31, 3) := by decide +kernel
theorem dX4_init_44 : decode cX4_init 44 = .ok (.aload_n 0, 1) := by decide +kernel
theorem dX4_init_45 : decode cX4_init 45 = .ok (.iconst 5, 1) := by decide +kernel
theorem dX4_init_46 : decode cX4_init 46 = .ok (.newarray .int, 2) := by decide +kernel
theorem dX4_init_48 : decode cX4_init 48 = .ok (.putfield 35, 3) := by decide +kernel
theorem dX4_init_51 : decode cX4_init 51 = .ok (.iconst 0, 1) := by decide +kernel
theorem dX4_init_52 : decode cX4_init 52 = .ok (.istore_n 1, 1) := by decide +kernel
theorem dX4_init_53 : decode cX4_init 53 = .ok (.iload_n 1, 1) := by decide +kernel
theorem dX4_init_54 : decode cX4_init 54 = .ok (.bipush 12, 2) := by decide +kernel
theorem dX4_init_56 : decode cX4_init 56 = .ok (.if_icmp .ge 22, 3) := by decide +kernel
theorem dX4_init_59 : decode cX4_init 59 = .ok (.aload_n 0, 1) := by decide +kernel
theorem dX4_init_60 : decode cX4_init 60 = .ok (.getfield 11, 3) := by decide +kernel
theorem dX4_init_63 : decode cX4_init 63 = .ok (.iload_n 1, 1) := by decide +kernel
theorem dX4_init_64 : decode cX4_init 64 = .ok (.new 9, 3) := by decide +kernel
theorem dX4_init_67 : decode cX4_init 67 = .ok (.dup, 1) := by decide +kernel
theorem dX4_init_68 : decode cX4_init 68 = .ok (.invokespecial 39, 3) := by decide +kernel
theorem dX4_init_71 : decode cX4_init 71 = .ok (.aastore, 1) := by decide +kernel
theorem dX4_init_72 : decode cX4_init 72 = .ok (.iinc 1 1, 3) := by decide +kernel
theorem dX4_init_75 : decode cX4_init 75 = .ok (.goto (-22), 3) := by decide +kernel
theorem dX4_init_78 : decode cX4_init 78 = .ok (.iconst 0, 1) := by decide +kernel
theorem dX4_init_79 : decode cX4_init 79 = .ok (.istore_n 1, 1) := by decide +kernel
theorem dX4_init_80 : decode cX4_init 80 = .ok (.iload_n 1, 1) := by decide +kernel
theorem dX4_init_81 : decode cX4_init 81 = .ok (.bipush 6, 2) := by decide +kernel
theorem dX4_init_83 : decode cX4_init 83 = .ok (.if_icmp .ge 22, 3) := by decide +kernel
theorem dX4_init_86 : decode cX4_init 86 = .ok (.aload_n 0, 1) := by decide +kernel
theorem dX4_init_87 : decode cX4_init 87 = .ok (.getfield 17, 3) := by decide +kernel
theorem dX4_init_90 : decode cX4_init 90 = .ok (.iload_n 1, 1) := by decide +kernel
theorem dX4_init_91 : decode cX4_init 91 = .ok (.new 15, 3) := by decide +kernel
theorem dX4_init_94 : decode cX4_init 94 = .ok (.dup, 1) := by decide +kernel
theorem dX4_init_95 : decode cX4_init 95 = .ok (.invokespecial 40, 3) := by decide +kernel
theorem dX4_init_98 : decode cX4_init 98 = .ok (.aastore, 1) := by decide +kernel
theorem dX4_init_99 : decode cX4_init 99 = .ok (.iinc 1 1, 3) := by decide +kernel
theorem dX4_init_102 : decode cX4_init 102 = .ok (.goto (-22), 3) := by decide +kernel
theorem dX4_init_105 : decode cX4_init 105 = .ok (.aload_n 0, 1) := by decide +kernel
theorem dX4_init_106 : decode cX4_init 106 = .ok (.invokevirtual 41, 3) := by decide +kernel
theorem dX4_init_109 : decode cX4_init 109 = .ok (.return_, 1) := by decide +kernel
theorem dX4_part_0 : decode cX4_part 0 = .ok (.iload_n 1, 1) := by decide +kernel
theorem dX4_part_1 : decode cX4_part 1 = .ok (.iconst 1, 1) := by decide +kernel
theorem dX4_part_2 : decode cX4_part 2 = .ok (.if_icmp .lt 9, 3) := by decide +kernel
theorem dX4_part_5 : decode cX4_part 5 = .ok (.iload_n 1, 1) := by decide +kernel
theorem dX4_part_6 : decode cX4_part 6 = .ok (.bipush 9, 2) := by decide +kernel
theorem dX4_part_8 : decode cX4_part 8 = .ok (.if_icmp .le 6, 3) := by decide +kernel
theorem dX4_part_11 : decode cX4_part 11 = .ok (.bipush (-12), 2) := by decide +kernel
theorem dX4_part_13 : decode cX4_part 13 = .ok (.ireturn, 1) := by decide +kernel
theorem dX4_part_14 : decode cX4_part 14 = .ok (.aload_n 0, 1) := by decide +kernel
theorem dX4_part_15 : decode cX4_part 15 = .ok (.getfield 44, 3) := by decide +kernel
theorem dX4_part_18 : decode cX4_part 18 = .ok (.bipush 12, 2) := by decide +kernel
theorem dX4_part_20 : decode cX4_part 20 = .ok (.if_icmp .lt 6, 3) := by decide +kernel
theorem dX4_part_23 : decode cX4_part 23 = .ok (.bipush (-14), 2) := by decide +kernel
theorem dX4_part_25 : decode cX4_part 25 = .ok (.ireturn, 1) := by decide +kernel
theorem dX4_part_26 : decode cX4_part 26 = .ok (.aload_n 0, 1) := by decide +kernel
theorem dX4_part_27 : decode cX4_part 27 = .ok (.iload_n 1, 1) := by decide +kernel
theorem dX4_part_28 : decode cX4_part 28 = .ok (.iconst (-1), 1) := by decide +kernel
theorem dX4_part_29 : decode cX4_part 29 = .ok (.invokevirtual 48, 3) := by decide +kernel
theorem dX4_part_32 : decode cX4_part 32 = .ok (.ireturn, 1) := by decide +kernel
theorem dX4_row_0 : decode cX4_row 0 = .ok (.aload_n 0, 1) := by decide +kernel
theorem dX4_row_1 : decode cX4_row 1 = .ok (.iload_n 1, 1) := by decide +kernel
theorem dX4_row_2 : decode cX4_row 2 = .ok (.invokevirtual 52, 3) := by decide +kernel
theorem dX4_row_5 : decode cX4_row 5 = .ok (.ifCond .ne 6, 3) := by decide +kernel
theorem dX4_row_8 : decode cX4_row 8 = .ok (.bipush (-11), 2) := by decide +kernel
theorem dX4_row_10 : decode cX4_row 10 = .ok (.ireturn, 1) := by decide +kernel
theorem dX4_row_11 : decode cX4_row 11 = .ok (.iload_n 2, 1) := by decide +kernel
theorem dX4_row_12 : decode cX4_row 12 = .ok (.invokestatic 56, 3) := by decide +kernel
theorem dX4_row_15 : decode cX4_row 15 = .ok (.ifCond .eq 10, 3) := by decide +kernel
theorem dX4_row_18 : decode cX4_row 18 = .ok (.iload_n 3, 1) := by decide +kernel
theorem dX4_row_19 : decode cX4_row 19 = .ok (.invokestatic 59, 3) := by decide +kernel
theorem dX4_row_22 : decode cX4_row 22 = .ok (.ifCond .ne 6, 3) := by decide +kernel
theorem dX4_row_25 : decode cX4_row 25 = .ok (.bipush (-12), 2) := by decide +kernel
theorem dX4_row_27 : decode cX4_row 27 = .ok (.ireturn, 1) := by decide +kernel
theorem dX4_row_28 : decode cX4_row 28 = .ok (.aload_n 0, 1) := by decide +kernel
theorem dX4_row_29 : decode cX4_row 29 = .ok (.getfield 11, 3) := by decide +kernel
theorem dX4_row_32 : decode cX4_row 32 = .ok (.iload_n 1, 1) := by decide +kernel
theorem dX4_row_33 : decode cX4_row 33 = .ok (.aaload, 1) := by decide +kernel
theorem dX4_row_34 : decode cX4_row 34 = .ok (.astore 5, 2) := by decide +kernel
theorem dX4_row_36 : decode cX4_row 36 = .ok (.aload 5, 2) := by decide +kernel
theorem dX4_row_38 : decode cX4_row 38 = .ok (.getfield 62, 3) := by decide +kernel
theorem dX4_row_41 : decode cX4_row 41 = .ok (.ifCond .eq 6, 3) := by decide +kernel
theorem dX4_row_44 : decode cX4_row 44 = .ok (.bipush (-13), 2) := by decide +kernel
theorem dX4_row_46 : decode cX4_row 46 = .ok (.ireturn, 1) := by decide +kernel
theorem dX4_row_47 : decode cX4_row 47 = .ok (.aload 5, 2) := by decide +kernel
theorem dX4_row_49 : decode cX4_row 49 = .ok (.getfield 66, 3) := by decide +kernel
theorem dX4_row_52 : decode cX4_row 52 = .ok (.bipush 40, 2) := by decide +kernel
theorem dX4_row_54 : decode cX4_row 54 = .ok (.if_icmp .lt 6, 3) := by decide +kernel
theorem dX4_row_57 : decode cX4_row 57 = .ok (.bipush (-14), 2) := by decide +kernel
theorem dX4_row_59 : decode cX4_row 59 = .ok (.ireturn, 1) := by decide +kernel
theorem dX4_row_60 : decode cX4_row 60 = .ok (.aload 5, 2) := by decide +kernel
theorem dX4_row_62 : decode cX4_row 62 = .ok (.iload_n 2, 1) := by decide +kernel
theorem dX4_row_63 : decode cX4_row 63 = .ok (.iload_n 3, 1) := by decide +kernel
theorem dX4_row_64 : decode cX4_row 64 = .ok (.iload 4, 2) := by decide +kernel
theorem dX4_row_66 : decode cX4_row 66 = .ok (.invokevirtual 69, 3) := by decide +kernel
theorem dX4_row_69 : decode cX4_row 69 = .ok (.aload 5, 2) := by decide +kernel
theorem dX4_row_71 : decode cX4_row 71 = .ok (.getfield 66, 3) := by decide +kernel
theorem dX4_row_74 : decode cX4_row 74 = .ok (.ireturn, 1) := by decide +kernel
theorem dX4_end_0 : decode cX4_end 0 = .ok (.aload_n 0, 1) := by decide +kernel
theorem dX4_end_1 : decode cX4_end 1 = .ok (.iload_n 1, 1) := by decide +kernel
theorem dX4_end_2 : decode cX4_end 2 = .ok (.invokevirtual 52, 3) := by decide +kernel
theorem dX4_end_5 : decode cX4_end 5 = .ok (.ifCond .ne 6, 3) := by decide +kernel
theorem dX4_end_8 : decode cX4_end 8 = .ok (.bipush (-11), 2) := by decide +kernel
theorem dX4_end_10 : decode cX4_end 10 = .ok (.ireturn, 1) := by decide +kernel
theorem dX4_end_11 : decode cX4_end 11 = .ok (.aload_n 0, 1) := by decide +kernel
theorem dX4_end_12 : decode cX4_end 12 = .ok (.getfield 11, 3) := by decide +kernel
theorem dX4_end_15 : decode cX4_end 15 = .ok (.iload_n 1, 1) := by decide +kernel
theorem dX4_end_16 : decode cX4_end 16 = .ok (.aaload, 1) := by decide +kernel
theorem dX4_end_17 : decode cX4_end 17 = .ok (.astore_n 2, 1) := by decide +kernel
theorem dX4_end_18 : decode cX4_end 18 = .ok (.aload_n 2, 1) := by decide +kernel
theorem dX4_end_19 : decode cX4_end 19 = .ok (.getfield 62, 3) := by decide +kernel
theorem dX4_end_22 : decode cX4_end 22 = .ok (.ifCond .eq 6, 3) := by decide +kernel
theorem dX4_end_25 : decode cX4_end 25 = .ok (.bipush (-13), 2) := by decide +kernel
theorem dX4_end_27 : decode cX4_end 27 = .ok (.ireturn, 1) := by decide +kernel
theorem dX4_end_28 : decode cX4_end 28 = .ok (.aload_n 2, 1) := by decide +kernel
theorem dX4_end_29 : decode cX4_end 29 = .ok (.iconst 1, 1) := by decide +kernel
theorem dX4_end_30 : decode cX4_end 30 = .ok (.putfield 62, 3) := by decide +kernel
theorem dX4_end_33 : decode cX4_end 33 = .ok (.aload_n 2, 1) := by decide +kernel
theorem dX4_end_34 : decode cX4_end 34 = .ok (.getfield 66, 3) := by decide +kernel
theorem dX4_end_37 : decode cX4_end 37 = .ok (.ireturn, 1) := by decide +kernel
theorem dX4_split_0 : decode cX4_split 0 = .ok (.aload_n 0, 1) := by decide +kernel
theorem dX4_split_1 : decode cX4_split 1 = .ok (.iload_n 1, 1) := by decide +kernel
theorem dX4_split_2 : decode cX4_split 2 = .ok (.invokevirtual 52, 3) := by decide +kernel
theorem dX4_split_5 : decode cX4_split 5 = .ok (.ifCond .eq 16, 3) := by decide +kernel
theorem dX4_split_8 : decode cX4_split 8 = .ok (.aload_n 0, 1) := by decide +kernel
theorem dX4_split_9 : decode cX4_split 9 = .ok (.getfield 11, 3) := by decide +kernel
theorem dX4_split_12 : decode cX4_split 12 = .ok (.iload_n 1, 1) := by decide +kernel
theorem dX4_split_13 : decode cX4_split 13 = .ok (.aaload, 1) := by decide +kernel
theorem dX4_split_14 : decode cX4_split 14 = .ok (.iload_n 2, 1) := by decide +kernel
theorem dX4_split_15 : decode cX4_split 15 = .ok (.invokevirtual 73, 3) := by decide +kernel
theorem dX4_split_18 : decode cX4_split 18 = .ok (.ifCond .ne 6, 3) := by decide +kernel
theorem dX4_split_21 : decode cX4_split 21 = .ok (.bipush (-11), 2) := by decide +kernel
theorem dX4_split_23 : decode cX4_split 23 = .ok (.ireturn, 1) := by decide +kernel
theorem dX4_split_24 : decode cX4_split 24 = .ok (.aload_n 0, 1) := by decide +kernel
theorem dX4_split_25 : decode cX4_split 25 = .ok (.getfield 11, 3) := by decide +kernel
theorem dX4_split_28 : decode cX4_split 28 = .ok (.iload_n 1, 1) := by decide +kernel
theorem dX4_split_29 : decode cX4_split 29 = .ok (.aaload, 1) := by decide +kernel
theorem dX4_split_30 : decode cX4_split 30 = .ok (.astore_n 3, 1) := by decide +kernel
theorem dX4_split_31 : decode cX4_split 31 = .ok (.iload_n 2, 1) := by decide +kernel
theorem dX4_split_32 : decode cX4_split 32 = .ok (.ifCond .eq 11, 3) := by decide +kernel
theorem dX4_split_35 : decode cX4_split 35 = .ok (.iload_n 2, 1) := by decide +kernel
theorem dX4_split_36 : decode cX4_split 36 = .ok (.aload_n 3, 1) := by decide +kernel
theorem dX4_split_37 : decode cX4_split 37 = .ok (.getfield 76, 3) := by decide +kernel
theorem dX4_split_40 : decode cX4_split 40 = .ok (.if_icmp .ge 6, 3) := by decide +kernel
theorem dX4_split_43 : decode cX4_split 43 = .ok (.bipush (-13), 2) := by decide +kernel
theorem dX4_split_45 : decode cX4_split 45 = .ok (.ireturn, 1) := by decide +kernel
theorem dX4_split_46 : decode cX4_split 46 = .ok (.aload_n 0, 1) := by decide +kernel
theorem dX4_split_47 : decode cX4_split 47 = .ok (.getfield 44, 3) := by decide +kernel
theorem dX4_split_50 : decode cX4_split 50 = .ok (.bipush 12, 2) := by decide +kernel
theorem dX4_split_52 : decode cX4_split 52 = .ok (.if_icmp .lt 6, 3) := by decide +kernel
theorem dX4_split_55 : decode cX4_split 55 = .ok (.bipush (-14), 2) := by decide +kernel
theorem dX4_split_57 : decode cX4_split 57 = .ok (.ireturn, 1) := by decide +kernel
theorem dX4_split_58 : decode cX4_split 58 = .ok (.aload_n 0, 1) := by decide +kernel
theorem dX4_split_59 : decode cX4_split 59 = .ok (.aload_n 3, 1) := by decide +kernel
theorem dX4_split_60 : decode cX4_split 60 = .ok (.getfield 79, 3) := by decide +kernel
theorem dX4_split_63 : decode cX4_split 63 = .ok (.iload_n 1, 1) := by decide +kernel
theorem dX4_split_64 : decode cX4_split 64 = .ok (.invokevirtual 48, 3) := by decide +kernel
theorem dX4_split_67 : decode cX4_split 67 = .ok (.istore 4, 2) := by decide +kernel
theorem dX4_split_69 : decode cX4_split 69 = .ok (.aload_n 3, 1) := by decide +kernel
theorem dX4_split_70 : decode cX4_split 70 = .ok (.iload_n 2, 1) := by decide +kernel
theorem dX4_split_71 : decode cX4_split 71 = .ok (.aload_n 0, 1) := by decide +kernel
theorem dX4_split_72 : decode cX4_split 72 = .ok (.getfield 11, 3) := by decide +kernel
theorem dX4_split_75 : decode cX4_split 75 = .ok (.iload 4, 2) := by decide +kernel
theorem dX4_split_77 : decode cX4_split 77 = .ok (.aaload, 1) := by decide +kernel
theorem dX4_split_78 : decode cX4_split 78 = .ok (.invokevirtual 82, 3) := by decide +kernel
theorem dX4_split_81 : decode cX4_split 81 = .ok (.iload 4, 2) := by decide +kernel
theorem dX4_split_83 : decode cX4_split 83 = .ok (.ireturn, 1) := by decide +kernel
theorem dX4_give_0 : decode cX4_give 0 = .ok (.aload_n 0, 1) := by decide +kernel
theorem dX4_give_1 : decode cX4_give 1 = .ok (.iload_n 1, 1) := by decide +kernel
theorem dX4_give_2 : decode cX4_give 2 = .ok (.invokevirtual 52, 3) := by decide +kernel
theorem dX4_give_5 : decode cX4_give 5 = .ok (.ifCond .eq 16, 3) := by decide +kernel
theorem dX4_give_8 : decode cX4_give 8 = .ok (.iload_n 2, 1) := by decide +kernel
theorem dX4_give_9 : decode cX4_give 9 = .ok (.iconst (-1), 1) := by decide +kernel
theorem dX4_give_10 : decode cX4_give 10 = .ok (.if_icmp .eq 14, 3) := by decide +kernel
theorem dX4_give_13 : decode cX4_give 13 = .ok (.aload_n 0, 1) := by decide +kernel
theorem dX4_give_14 : decode cX4_give 14 = .ok (.iload_n 2, 1) := by decide +kernel
theorem dX4_give_15 : decode cX4_give 15 = .ok (.invokevirtual 86, 3) := by decide +kernel
theorem dX4_give_18 : decode cX4_give 18 = .ok (.ifCond .ne 6, 3) := by decide +kernel
theorem dX4_give_21 : decode cX4_give 21 = .ok (.bipush (-11), 2) := by decide +kernel
theorem dX4_give_23 : decode cX4_give 23 = .ok (.ireturn, 1) := by decide +kernel
theorem dX4_give_24 : decode cX4_give 24 = .ok (.aload_n 0, 1) := by decide +kernel
theorem dX4_give_25 : decode cX4_give 25 = .ok (.getfield 11, 3) := by decide +kernel
theorem dX4_give_28 : decode cX4_give 28 = .ok (.iload_n 1, 1) := by decide +kernel
theorem dX4_give_29 : decode cX4_give 29 = .ok (.aaload, 1) := by decide +kernel
theorem dX4_give_30 : decode cX4_give 30 = .ok (.astore_n 3, 1) := by decide +kernel
theorem dX4_give_31 : decode cX4_give 31 = .ok (.aload_n 3, 1) := by decide +kernel
theorem dX4_give_32 : decode cX4_give 32 = .ok (.invokevirtual 89, 3) := by decide +kernel
theorem dX4_give_35 : decode cX4_give 35 = .ok (.ifCond .eq 6, 3) := by decide +kernel
theorem dX4_give_38 : decode cX4_give 38 = .ok (.bipush (-13), 2) := by decide +kernel
theorem dX4_give_40 : decode cX4_give 40 = .ok (.ireturn, 1) := by decide +kernel
theorem dX4_give_41 : decode cX4_give 41 = .ok (.aload_n 3, 1) := by decide +kernel
theorem dX4_give_42 : decode cX4_give 42 = .ok (.getfield 93, 3) := by decide +kernel
theorem dX4_give_45 : decode cX4_give 45 = .ok (.istore 4, 2) := by decide +kernel
theorem dX4_give_47 : decode cX4_give 47 = .ok (.aload_n 3, 1) := by decide +kernel
theorem dX4_give_48 : decode cX4_give 48 = .ok (.iload_n 2, 1) := by decide +kernel
theorem dX4_give_49 : decode cX4_give 49 = .ok (.putfield 93, 3) := by decide +kernel
theorem dX4_give_52 : decode cX4_give 52 = .ok (.iload 4, 2) := by decide +kernel
theorem dX4_give_54 : decode cX4_give 54 = .ok (.ireturn, 1) := by decide +kernel
theorem dX4_read_0 : decode cX4_read 0 = .ok (.aload_n 0, 1) := by decide +kernel
theorem dX4_read_1 : decode cX4_read 1 = .ok (.iload_n 1, 1) := by decide +kernel
theorem dX4_read_2 : decode cX4_read 2 = .ok (.invokevirtual 86, 3) := by decide +kernel
theorem dX4_read_5 : decode cX4_read 5 = .ok (.ifCond .ne 6, 3) := by decide +kernel
theorem dX4_read_8 : decode cX4_read 8 = .ok (.bipush (-11), 2) := by decide +kernel
theorem dX4_read_10 : decode cX4_read 10 = .ok (.ireturn, 1) := by decide +kernel
theorem dX4_read_11 : decode cX4_read 11 = .ok (.aload_n 0, 1) := by decide +kernel
theorem dX4_read_12 : decode cX4_read 12 = .ok (.iload_n 1, 1) := by decide +kernel
theorem dX4_read_13 : decode cX4_read 13 = .ok (.invokevirtual 96, 3) := by decide +kernel
theorem dX4_read_16 : decode cX4_read 16 = .ok (.istore_n 2, 1) := by decide +kernel
theorem dX4_read_17 : decode cX4_read 17 = .ok (.aload_n 0, 1) := by decide +kernel
theorem dX4_read_18 : decode cX4_read 18 = .ok (.iload_n 2, 1) := by decide +kernel
theorem dX4_read_19 : decode cX4_read 19 = .ok (.invokevirtual 52, 3) := by decide +kernel
theorem dX4_read_22 : decode cX4_read 22 = .ok (.ifCond .ne 5, 3) := by decide +kernel
theorem dX4_read_25 : decode cX4_read 25 = .ok (.iconst (-1), 1) := by decide +kernel
theorem dX4_read_26 : decode cX4_read 26 = .ok (.ireturn, 1) := by decide +kernel
theorem dX4_read_27 : decode cX4_read 27 = .ok (.aload_n 0, 1) := by decide +kernel
theorem dX4_read_28 : decode cX4_read 28 = .ok (.iload_n 2, 1) := by decide +kernel
theorem dX4_read_29 : decode cX4_read 29 = .ok (.invokevirtual 100, 3) := by decide +kernel
theorem dX4_read_32 : decode cX4_read 32 = .ok (.ireturn, 1) := by decide +kernel
theorem dX4_latest_0 : decode cX4_latest 0 = .ok (.iload_n 1, 1) := by decide +kernel
theorem dX4_latest_1 : decode cX4_latest 1 = .ok (.ifCond .lt 8, 3) := by decide +kernel
theorem dX4_latest_4 : decode cX4_latest 4 = .ok (.iload_n 1, 1) := by decide +kernel
theorem dX4_latest_5 : decode cX4_latest 5 = .ok (.iconst 5, 1) := by decide +kernel
theorem dX4_latest_6 : decode cX4_latest 6 = .ok (.if_icmp .lt 6, 3) := by decide +kernel
theorem dX4_latest_9 : decode cX4_latest 9 = .ok (.bipush (-12), 2) := by decide +kernel
theorem dX4_latest_11 : decode cX4_latest 11 = .ok (.ireturn, 1) := by decide +kernel
theorem dX4_latest_12 : decode cX4_latest 12 = .ok (.aload_n 0, 1) := by decide +kernel
theorem dX4_latest_13 : decode cX4_latest 13 = .ok (.getfield 35, 3) := by decide +kernel
theorem dX4_latest_16 : decode cX4_latest 16 = .ok (.iload_n 1, 1) := by decide +kernel
theorem dX4_latest_17 : decode cX4_latest 17 = .ok (.iaload, 1) := by decide +kernel
theorem dX4_latest_18 : decode cX4_latest 18 = .ok (.ireturn, 1) := by decide +kernel
theorem dX4_lose_0 : decode cX4_lose 0 = .ok (.iload_n 1, 1) := by decide +kernel
theorem dX4_lose_1 : decode cX4_lose 1 = .ok (.iconst 1, 1) := by decide +kernel
theorem dX4_lose_2 : decode cX4_lose 2 = .ok (.if_icmp .lt 9, 3) := by decide +kernel
theorem dX4_lose_5 : decode cX4_lose 5 = .ok (.iload_n 1, 1) := by decide +kernel
theorem dX4_lose_6 : decode cX4_lose 6 = .ok (.bipush 50, 2) := by decide +kernel
theorem dX4_lose_8 : decode cX4_lose 8 = .ok (.if_icmp .le 6, 3) := by decide +kernel
theorem dX4_lose_11 : decode cX4_lose 11 = .ok (.bipush (-12), 2) := by decide +kernel
theorem dX4_lose_13 : decode cX4_lose 13 = .ok (.ireturn, 1) := by decide +kernel
theorem dX4_lose_14 : decode cX4_lose 14 = .ok (.aload_n 0, 1) := by decide +kernel
theorem dX4_lose_15 : decode cX4_lose 15 = .ok (.getfield 31, 3) := by decide +kernel
theorem dX4_lose_18 : decode cX4_lose 18 = .ok (.iload_n 1, 1) := by decide +kernel
theorem dX4_lose_19 : decode cX4_lose 19 = .ok (.iload_n 2, 1) := by decide +kernel
theorem dX4_lose_20 : decode cX4_lose 20 = .ok (.invokevirtual 103, 3) := by decide +kernel
theorem dX4_lose_23 : decode cX4_lose 23 = .ok (.ifCond .eq 7, 3) := by decide +kernel
theorem dX4_lose_26 : decode cX4_lose 26 = .ok (.iconst 1, 1) := by decide +kernel
theorem dX4_lose_27 : decode cX4_lose 27 = .ok (.goto 4, 3) := by decide +kernel
theorem dX4_lose_30 : decode cX4_lose 30 = .ok (.iconst 0, 1) := by decide +kernel
theorem dX4_lose_31 : decode cX4_lose 31 = .ok (.ireturn, 1) := by decide +kernel
theorem dX4_mark_0 : decode cX4_mark 0 = .ok (.aload_n 0, 1) := by decide +kernel
theorem dX4_mark_1 : decode cX4_mark 1 = .ok (.getfield 107, 3) := by decide +kernel
theorem dX4_mark_4 : decode cX4_mark 4 = .ok (.bipush 6, 2) := by decide +kernel
theorem dX4_mark_6 : decode cX4_mark 6 = .ok (.if_icmp .lt 6, 3) := by decide +kernel
theorem dX4_mark_9 : decode cX4_mark 9 = .ok (.bipush (-14), 2) := by decide +kernel
theorem dX4_mark_11 : decode cX4_mark 11 = .ok (.ireturn, 1) := by decide +kernel
theorem dX4_mark_12 : decode cX4_mark 12 = .ok (.aload_n 0, 1) := by decide +kernel
theorem dX4_mark_13 : decode cX4_mark 13 = .ok (.getfield 17, 3) := by decide +kernel
theorem dX4_mark_16 : decode cX4_mark 16 = .ok (.aload_n 0, 1) := by decide +kernel
theorem dX4_mark_17 : decode cX4_mark 17 = .ok (.getfield 107, 3) := by decide +kernel
theorem dX4_mark_20 : decode cX4_mark 20 = .ok (.aaload, 1) := by decide +kernel
theorem dX4_mark_21 : decode cX4_mark 21 = .ok (.aload_n 0, 1) := by decide +kernel
theorem dX4_mark_22 : decode cX4_mark 22 = .ok (.getfield 11, 3) := by decide +kernel
theorem dX4_mark_25 : decode cX4_mark 25 = .ok (.aload_n 0, 1) := by decide +kernel
theorem dX4_mark_26 : decode cX4_mark 26 = .ok (.getfield 44, 3) := by decide +kernel
theorem dX4_mark_29 : decode cX4_mark 29 = .ok (.aload_n 0, 1) := by decide +kernel
theorem dX4_mark_30 : decode cX4_mark 30 = .ok (.getfield 24, 3) := by decide +kernel
theorem dX4_mark_33 : decode cX4_mark 33 = .ok (.invokevirtual 110, 3) := by decide +kernel
theorem dX4_mark_36 : decode cX4_mark 36 = .ok (.aload_n 0, 1) := by decide +kernel
theorem dX4_mark_37 : decode cX4_mark 37 = .ok (.dup, 1) := by decide +kernel
theorem dX4_mark_38 : decode cX4_mark 38 = .ok (.getfield 107, 3) := by decide +kernel
theorem dX4_mark_41 : decode cX4_mark 41 = .ok (.iconst 1, 1) := by decide +kernel
theorem dX4_mark_42 : decode cX4_mark 42 = .ok (.iadd, 1) := by decide +kernel
theorem dX4_mark_43 : decode cX4_mark 43 = .ok (.putfield 107, 3) := by decide +kernel
theorem dX4_mark_46 : decode cX4_mark 46 = .ok (.aload_n 0, 1) := by decide +kernel
theorem dX4_mark_47 : decode cX4_mark 47 = .ok (.getfield 107, 3) := by decide +kernel
theorem dX4_mark_50 : decode cX4_mark 50 = .ok (.iconst 1, 1) := by decide +kernel
theorem dX4_mark_51 : decode cX4_mark 51 = .ok (.isub, 1) := by decide +kernel
theorem dX4_mark_52 : decode cX4_mark 52 = .ok (.ireturn, 1) := by decide +kernel
theorem dX4_restore_0 : decode cX4_restore 0 = .ok (.iload_n 1, 1) := by decide +kernel
theorem dX4_restore_1 : decode cX4_restore 1 = .ok (.ifCond .lt 11, 3) := by decide +kernel
theorem dX4_restore_4 : decode cX4_restore 4 = .ok (.iload_n 1, 1) := by decide +kernel
theorem dX4_restore_5 : decode cX4_restore 5 = .ok (.aload_n 0, 1) := by decide +kernel
theorem dX4_restore_6 : decode cX4_restore 6 = .ok (.getfield 107, 3) := by decide +kernel
theorem dX4_restore_9 : decode cX4_restore 9 = .ok (.if_icmp .lt 6, 3) := by decide +kernel
theorem dX4_restore_12 : decode cX4_restore 12 = .ok (.bipush (-11), 2) := by decide +kernel
theorem dX4_restore_14 : decode cX4_restore 14 = .ok (.ireturn, 1) := by decide +kernel
theorem dX4_restore_15 : decode cX4_restore 15 = .ok (.aload_n 0, 1) := by decide +kernel
theorem dX4_restore_16 : decode cX4_restore 16 = .ok (.getfield 17, 3) := by decide +kernel
theorem dX4_restore_19 : decode cX4_restore 19 = .ok (.iload_n 1, 1) := by decide +kernel
theorem dX4_restore_20 : decode cX4_restore 20 = .ok (.aaload, 1) := by decide +kernel
theorem dX4_restore_21 : decode cX4_restore 21 = .ok (.astore_n 2, 1) := by decide +kernel
theorem dX4_restore_22 : decode cX4_restore 22 = .ok (.iconst 0, 1) := by decide +kernel
theorem dX4_restore_23 : decode cX4_restore 23 = .ok (.istore_n 3, 1) := by decide +kernel
theorem dX4_restore_24 : decode cX4_restore 24 = .ok (.iconst 0, 1) := by decide +kernel
theorem dX4_restore_25 : decode cX4_restore 25 = .ok (.istore 4, 2) := by decide +kernel
theorem dX4_restore_27 : decode cX4_restore 27 = .ok (.iload 4, 2) := by decide +kernel
theorem dX4_restore_29 : decode cX4_restore 29 = .ok (.aload_n 0, 1) := by decide +kernel
theorem dX4_restore_30 : decode cX4_restore 30 = .ok (.getfield 44, 3) := by decide +kernel
theorem dX4_restore_33 : decode cX4_restore 33 = .ok (.if_icmp .ge 56, 3) := by decide +kernel
theorem dX4_restore_36 : decode cX4_restore 36 = .ok (.aload_n 0, 1) := by decide +kernel
theorem dX4_restore_37 : decode cX4_restore 37 = .ok (.getfield 11, 3) := by decide +kernel
theorem dX4_restore_40 : decode cX4_restore 40 = .ok (.iload 4, 2) := by decide +kernel
theorem dX4_restore_42 : decode cX4_restore 42 = .ok (.aaload, 1) := by decide +kernel
theorem dX4_restore_43 : decode cX4_restore 43 = .ok (.getfield 76, 3) := by decide +kernel
theorem dX4_restore_46 : decode cX4_restore 46 = .ok (.istore 5, 2) := by decide +kernel
theorem dX4_restore_48 : decode cX4_restore 48 = .ok (.aload_n 2, 1) := by decide +kernel
theorem dX4_restore_49 : decode cX4_restore 49 = .ok (.iload 4, 2) := by decide +kernel
theorem dX4_restore_51 : decode cX4_restore 51 = .ok (.aload_n 0, 1) := by decide +kernel
theorem dX4_restore_52 : decode cX4_restore 52 = .ok (.getfield 11, 3) := by decide +kernel
theorem dX4_restore_55 : decode cX4_restore 55 = .ok (.iload 4, 2) := by decide +kernel
theorem dX4_restore_57 : decode cX4_restore 57 = .ok (.aaload, 1) := by decide +kernel
theorem dX4_restore_58 : decode cX4_restore 58 = .ok (.aload_n 0, 1) := by decide +kernel
theorem dX4_restore_59 : decode cX4_restore 59 = .ok (.getfield 114, 3) := by decide +kernel
theorem dX4_restore_62 : decode cX4_restore 62 = .ok (.invokevirtual 117, 3) := by decide +kernel
theorem dX4_restore_65 : decode cX4_restore 65 = .ok (.aload_n 0, 1) := by decide +kernel
theorem dX4_restore_66 : decode cX4_restore 66 = .ok (.getfield 11, 3) := by decide +kernel
theorem dX4_restore_69 : decode cX4_restore 69 = .ok (.iload 4, 2) := by decide +kernel
theorem dX4_restore_71 : decode cX4_restore 71 = .ok (.aaload, 1) := by decide +kernel
theorem dX4_restore_72 : decode cX4_restore 72 = .ok (.getfield 76, 3) := by decide +kernel
theorem dX4_restore_75 : decode cX4_restore 75 = .ok (.iload 5, 2) := by decide +kernel
theorem dX4_restore_77 : decode cX4_restore 77 = .ok (.if_icmp .eq 6, 3) := by decide +kernel
theorem dX4_restore_80 : decode cX4_restore 80 = .ok (.iinc 3 1, 3) := by decide +kernel
theorem dX4_restore_83 : decode cX4_restore 83 = .ok (.iinc 4 1, 3) := by decide +kernel
theorem dX4_restore_86 : decode cX4_restore 86 = .ok (.goto (-59), 3) := by decide +kernel
theorem dX4_restore_89 : decode cX4_restore 89 = .ok (.aload_n 0, 1) := by decide +kernel
theorem dX4_restore_90 : decode cX4_restore 90 = .ok (.getfield 24, 3) := by decide +kernel
theorem dX4_restore_93 : decode cX4_restore 93 = .ok (.aload_n 2, 1) := by decide +kernel
theorem dX4_restore_94 : decode cX4_restore 94 = .ok (.getfield 121, 3) := by decide +kernel
theorem dX4_restore_97 : decode cX4_restore 97 = .ok (.invokevirtual 122, 3) := by decide +kernel
theorem dX4_restore_100 : decode cX4_restore 100 = .ok (.iload_n 3, 1) := by decide +kernel
theorem dX4_restore_101 : decode cX4_restore 101 = .ok (.ireturn, 1) := by decide +kernel
theorem dX4_start_0 : decode cX4_start 0 = .ok (.iload_n 1, 1) := by decide +kernel
theorem dX4_start_1 : decode cX4_start 1 = .ok (.invokestatic 59, 3) := by decide +kernel
theorem dX4_start_4 : decode cX4_start 4 = .ok (.ifCond .ne 6, 3) := by decide +kernel
theorem dX4_start_7 : decode cX4_start 7 = .ok (.bipush (-12), 2) := by decide +kernel
theorem dX4_start_9 : decode cX4_start 9 = .ok (.ireturn, 1) := by decide +kernel
theorem dX4_start_10 : decode cX4_start 10 = .ok (.aload_n 0, 1) := by decide +kernel
theorem dX4_start_11 : decode cX4_start 11 = .ok (.getfield 24, 3) := by decide +kernel
theorem dX4_start_14 : decode cX4_start 14 = .ok (.invokevirtual 126, 3) := by decide +kernel
theorem dX4_start_17 : decode cX4_start 17 = .ok (.iconst 0, 1) := by decide +kernel
theorem dX4_start_18 : decode cX4_start 18 = .ok (.istore_n 2, 1) := by decide +kernel
theorem dX4_start_19 : decode cX4_start 19 = .ok (.iconst 0, 1) := by decide +kernel
theorem dX4_start_20 : decode cX4_start 20 = .ok (.istore_n 3, 1) := by decide +kernel
theorem dX4_start_21 : decode cX4_start 21 = .ok (.iload_n 3, 1) := by decide +kernel
theorem dX4_start_22 : decode cX4_start 22 = .ok (.aload_n 0, 1) := by decide +kernel
theorem dX4_start_23 : decode cX4_start 23 = .ok (.getfield 44, 3) := by decide +kernel
theorem dX4_start_26 : decode cX4_start 26 = .ok (.if_icmp .ge 45, 3) := by decide +kernel
theorem dX4_start_29 : decode cX4_start 29 = .ok (.aload_n 0, 1) := by decide +kernel
theorem dX4_start_30 : decode cX4_start 30 = .ok (.getfield 11, 3) := by decide +kernel
theorem dX4_start_33 : decode cX4_start 33 = .ok (.iload_n 3, 1) := by decide +kernel
theorem dX4_start_34 : decode cX4_start 34 = .ok (.aaload, 1) := by decide +kernel
theorem dX4_start_35 : decode cX4_start 35 = .ok (.aload_n 0, 1) := by decide +kernel
theorem dX4_start_36 : decode cX4_start 36 = .ok (.getfield 11, 3) := by decide +kernel
theorem dX4_start_39 : decode cX4_start 39 = .ok (.iload_n 3, 1) := by decide +kernel
theorem dX4_start_40 : decode cX4_start 40 = .ok (.aaload, 1) := by decide +kernel
theorem dX4_start_41 : decode cX4_start 41 = .ok (.iload_n 1, 1) := by decide +kernel
theorem dX4_start_42 : decode cX4_start 42 = .ok (.invokevirtual 129, 3) := by decide +kernel
theorem dX4_start_45 : decode cX4_start 45 = .ok (.iconst (-1), 1) := by decide +kernel
theorem dX4_start_46 : decode cX4_start 46 = .ok (.iconst 0, 1) := by decide +kernel
theorem dX4_start_47 : decode cX4_start 47 = .ok (.invokevirtual 132, 3) := by decide +kernel
theorem dX4_start_50 : decode cX4_start 50 = .ok (.aload_n 0, 1) := by decide +kernel
theorem dX4_start_51 : decode cX4_start 51 = .ok (.getfield 11, 3) := by decide +kernel
theorem dX4_start_54 : decode cX4_start 54 = .ok (.iload_n 3, 1) := by decide +kernel
theorem dX4_start_55 : decode cX4_start 55 = .ok (.aaload, 1) := by decide +kernel
theorem dX4_start_56 : decode cX4_start 56 = .ok (.invokevirtual 136, 3) := by decide +kernel
theorem dX4_start_59 : decode cX4_start 59 = .ok (.ifCond .eq 6, 3) := by decide +kernel
theorem dX4_start_62 : decode cX4_start 62 = .ok (.iinc 2 1, 3) := by decide +kernel
theorem dX4_start_65 : decode cX4_start 65 = .ok (.iinc 3 1, 3) := by decide +kernel
theorem dX4_start_68 : decode cX4_start 68 = .ok (.goto (-47), 3) := by decide +kernel
theorem dX4_start_71 : decode cX4_start 71 = .ok (.iload_n 2, 1) := by decide +kernel
theorem dX4_start_72 : decode cX4_start 72 = .ok (.ireturn, 1) := by decide +kernel
theorem dX4_scale_0 : decode cX4_scale 0 = .ok (.iload_n 1, 1) := by decide +kernel
theorem dX4_scale_1 : decode cX4_scale 1 = .ok (.iconst 1, 1) := by decide +kernel
theorem dX4_scale_2 : decode cX4_scale 2 = .ok (.if_icmp .lt 9, 3) := by decide +kernel
theorem dX4_scale_5 : decode cX4_scale 5 = .ok (.iload_n 1, 1) := by decide +kernel
theorem dX4_scale_6 : decode cX4_scale 6 = .ok (.bipush 6, 2) := by decide +kernel
theorem dX4_scale_8 : decode cX4_scale 8 = .ok (.if_icmp .le 6, 3) := by decide +kernel
theorem dX4_scale_11 : decode cX4_scale 11 = .ok (.bipush (-12), 2) := by decide +kernel
theorem dX4_scale_13 : decode cX4_scale 13 = .ok (.ireturn, 1) := by decide +kernel
theorem dX4_scale_14 : decode cX4_scale 14 = .ok (.aload_n 0, 1) := by decide +kernel
theorem dX4_scale_15 : decode cX4_scale 15 = .ok (.iload_n 1, 1) := by decide +kernel
theorem dX4_scale_16 : decode cX4_scale 16 = .ok (.putfield 114, 3) := by decide +kernel
theorem dX4_scale_19 : decode cX4_scale 19 = .ok (.iconst 0, 1) := by decide +kernel
theorem dX4_scale_20 : decode cX4_scale 20 = .ok (.istore_n 2, 1) := by decide +kernel
theorem dX4_scale_21 : decode cX4_scale 21 = .ok (.iconst 0, 1) := by decide +kernel
theorem dX4_scale_22 : decode cX4_scale 22 = .ok (.istore_n 3, 1) := by decide +kernel
theorem dX4_scale_23 : decode cX4_scale 23 = .ok (.iconst 0, 1) := by decide +kernel
theorem dX4_scale_24 : decode cX4_scale 24 = .ok (.istore 4, 2) := by decide +kernel
theorem dX4_scale_26 : decode cX4_scale 26 = .ok (.iload 4, 2) := by decide +kernel
theorem dX4_scale_28 : decode cX4_scale 28 = .ok (.aload_n 0, 1) := by decide +kernel
theorem dX4_scale_29 : decode cX4_scale 29 = .ok (.getfield 44, 3) := by decide +kernel
theorem dX4_scale_32 : decode cX4_scale 32 = .ok (.if_icmp .ge 65, 3) := by decide +kernel
theorem dX4_scale_35 : decode cX4_scale 35 = .ok (.aload_n 0, 1) := by decide +kernel
theorem dX4_scale_36 : decode cX4_scale 36 = .ok (.getfield 11, 3) := by decide +kernel
theorem dX4_scale_39 : decode cX4_scale 39 = .ok (.iload 4, 2) := by decide +kernel
theorem dX4_scale_41 : decode cX4_scale 41 = .ok (.aaload, 1) := by decide +kernel
theorem dX4_scale_42 : decode cX4_scale 42 = .ok (.invokevirtual 89, 3) := by decide +kernel
theorem dX4_scale_45 : decode cX4_scale 45 = .ok (.ifCond .eq 17, 3) := by decide +kernel
theorem dX4_scale_48 : decode cX4_scale 48 = .ok (.aload_n 0, 1) := by decide +kernel
theorem dX4_scale_49 : decode cX4_scale 49 = .ok (.getfield 11, 3) := by decide +kernel
theorem dX4_scale_52 : decode cX4_scale 52 = .ok (.iload 4, 2) := by decide +kernel
theorem dX4_scale_54 : decode cX4_scale 54 = .ok (.aaload, 1) := by decide +kernel
theorem dX4_scale_55 : decode cX4_scale 55 = .ok (.iconst (-1), 1) := by decide +kernel
theorem dX4_scale_56 : decode cX4_scale 56 = .ok (.putfield 93, 3) := by decide +kernel
theorem dX4_scale_59 : decode cX4_scale 59 = .ok (.goto 32, 3) := by decide +kernel
theorem dX4_scale_62 : decode cX4_scale 62 = .ok (.aload_n 0, 1) := by decide +kernel
theorem dX4_scale_63 : decode cX4_scale 63 = .ok (.getfield 11, 3) := by decide +kernel
theorem dX4_scale_66 : decode cX4_scale 66 = .ok (.iload 4, 2) := by decide +kernel
theorem dX4_scale_68 : decode cX4_scale 68 = .ok (.aaload, 1) := by decide +kernel
theorem dX4_scale_69 : decode cX4_scale 69 = .ok (.iload_n 3, 1) := by decide +kernel
theorem dX4_scale_70 : decode cX4_scale 70 = .ok (.putfield 93, 3) := by decide +kernel
theorem dX4_scale_73 : decode cX4_scale 73 = .ok (.iload_n 3, 1) := by decide +kernel
theorem dX4_scale_74 : decode cX4_scale 74 = .ok (.iconst 1, 1) := by decide +kernel
theorem dX4_scale_75 : decode cX4_scale 75 = .ok (.iadd, 1) := by decide +kernel
theorem dX4_scale_76 : decode cX4_scale 76 = .ok (.iload_n 1, 1) := by decide +kernel
theorem dX4_scale_77 : decode cX4_scale 77 = .ok (.if_icmp .ge 9, 3) := by decide +kernel
theorem dX4_scale_80 : decode cX4_scale 80 = .ok (.iload_n 3, 1) := by decide +kernel
theorem dX4_scale_81 : decode cX4_scale 81 = .ok (.iconst 1, 1) := by decide +kernel
theorem dX4_scale_82 : decode cX4_scale 82 = .ok (.iadd, 1) := by decide +kernel
theorem dX4_scale_83 : decode cX4_scale 83 = .ok (.goto 4, 3) := by decide +kernel
theorem dX4_scale_86 : decode cX4_scale 86 = .ok (.iconst 0, 1) := by decide +kernel
theorem dX4_scale_87 : decode cX4_scale 87 = .ok (.istore_n 3, 1) := by decide +kernel
theorem dX4_scale_88 : decode cX4_scale 88 = .ok (.iinc 2 1, 3) := by decide +kernel
theorem dX4_scale_91 : decode cX4_scale 91 = .ok (.iinc 4 1, 3) := by decide +kernel
theorem dX4_scale_94 : decode cX4_scale 94 = .ok (.goto (-68), 3) := by decide +kernel
theorem dX4_scale_97 : decode cX4_scale 97 = .ok (.iload_n 2, 1) := by decide +kernel
theorem dX4_scale_98 : decode cX4_scale 98 = .ok (.ireturn, 1) := by decide +kernel
theorem dX4_told_0 : decode cX4_told 0 = .ok (.aload_n 0, 1) := by decide +kernel
theorem dX4_told_1 : decode cX4_told 1 = .ok (.iload_n 1, 1) := by decide +kernel
theorem dX4_told_2 : decode cX4_told 2 = .ok (.invokevirtual 52, 3) := by decide +kernel
theorem dX4_told_5 : decode cX4_told 5 = .ok (.ifCond .ne 6, 3) := by decide +kernel
theorem dX4_told_8 : decode cX4_told 8 = .ok (.bipush (-11), 2) := by decide +kernel
theorem dX4_told_10 : decode cX4_told 10 = .ok (.ireturn, 1) := by decide +kernel
theorem dX4_told_11 : decode cX4_told 11 = .ok (.aload_n 0, 1) := by decide +kernel
theorem dX4_told_12 : decode cX4_told 12 = .ok (.getfield 11, 3) := by decide +kernel
theorem dX4_told_15 : decode cX4_told 15 = .ok (.iload_n 1, 1) := by decide +kernel
theorem dX4_told_16 : decode cX4_told 16 = .ok (.aaload, 1) := by decide +kernel
theorem dX4_told_17 : decode cX4_told 17 = .ok (.astore_n 3, 1) := by decide +kernel
theorem dX4_told_18 : decode cX4_told 18 = .ok (.iload_n 2, 1) := by decide +kernel
theorem dX4_told_19 : decode cX4_told 19 = .ok (.tableswitch 127 0 9 #[53, 58, 63, 68, 73, 78, 83, 96, 109, 122], 53) := by decide +kernel
theorem dX4_told_72 : decode cX4_told 72 = .ok (.aload_n 3, 1) := by decide +kernel
theorem dX4_told_73 : decode cX4_told 73 = .ok (.getfield 76, 3) := by decide +kernel
theorem dX4_told_76 : decode cX4_told 76 = .ok (.ireturn, 1) := by decide +kernel
theorem dX4_told_77 : decode cX4_told 77 = .ok (.aload_n 3, 1) := by decide +kernel
theorem dX4_told_78 : decode cX4_told 78 = .ok (.getfield 139, 3) := by decide +kernel
theorem dX4_told_81 : decode cX4_told 81 = .ok (.ireturn, 1) := by decide +kernel
theorem dX4_told_82 : decode cX4_told 82 = .ok (.aload_n 3, 1) := by decide +kernel
theorem dX4_told_83 : decode cX4_told 83 = .ok (.getfield 142, 3) := by decide +kernel
theorem dX4_told_86 : decode cX4_told 86 = .ok (.ireturn, 1) := by decide +kernel
theorem dX4_told_87 : decode cX4_told 87 = .ok (.aload_n 3, 1) := by decide +kernel
theorem dX4_told_88 : decode cX4_told 88 = .ok (.getfield 79, 3) := by decide +kernel
theorem dX4_told_91 : decode cX4_told 91 = .ok (.ireturn, 1) := by decide +kernel
theorem dX4_told_92 : decode cX4_told 92 = .ok (.aload_n 3, 1) := by decide +kernel
theorem dX4_told_93 : decode cX4_told 93 = .ok (.getfield 93, 3) := by decide +kernel
theorem dX4_told_96 : decode cX4_told 96 = .ok (.ireturn, 1) := by decide +kernel
theorem dX4_told_97 : decode cX4_told 97 = .ok (.aload_n 3, 1) := by decide +kernel
theorem dX4_told_98 : decode cX4_told 98 = .ok (.getfield 66, 3) := by decide +kernel
theorem dX4_told_101 : decode cX4_told 101 = .ok (.ireturn, 1) := by decide +kernel
theorem dX4_told_102 : decode cX4_told 102 = .ok (.aload_n 3, 1) := by decide +kernel
theorem dX4_told_103 : decode cX4_told 103 = .ok (.getfield 62, 3) := by decide +kernel
theorem dX4_told_106 : decode cX4_told 106 = .ok (.ifCond .eq 7, 3) := by decide +kernel
theorem dX4_told_109 : decode cX4_told 109 = .ok (.iconst 1, 1) := by decide +kernel
theorem dX4_told_110 : decode cX4_told 110 = .ok (.goto 4, 3) := by decide +kernel
theorem dX4_told_113 : decode cX4_told 113 = .ok (.iconst 0, 1) := by decide +kernel
theorem dX4_told_114 : decode cX4_told 114 = .ok (.ireturn, 1) := by decide +kernel
theorem dX4_told_115 : decode cX4_told 115 = .ok (.aload_n 3, 1) := by decide +kernel
theorem dX4_told_116 : decode cX4_told 116 = .ok (.invokevirtual 136, 3) := by decide +kernel
theorem dX4_told_119 : decode cX4_told 119 = .ok (.ifCond .eq 7, 3) := by decide +kernel
theorem dX4_told_122 : decode cX4_told 122 = .ok (.iconst 1, 1) := by decide +kernel
theorem dX4_told_123 : decode cX4_told 123 = .ok (.goto 4, 3) := by decide +kernel
theorem dX4_told_126 : decode cX4_told 126 = .ok (.iconst 0, 1) := by decide +kernel
theorem dX4_told_127 : decode cX4_told 127 = .ok (.ireturn, 1) := by decide +kernel
theorem dX4_told_128 : decode cX4_told 128 = .ok (.aload_n 3, 1) := by decide +kernel
theorem dX4_told_129 : decode cX4_told 129 = .ok (.invokevirtual 89, 3) := by decide +kernel
theorem dX4_told_132 : decode cX4_told 132 = .ok (.ifCond .eq 7, 3) := by decide +kernel
theorem dX4_told_135 : decode cX4_told 135 = .ok (.iconst 1, 1) := by decide +kernel
theorem dX4_told_136 : decode cX4_told 136 = .ok (.goto 4, 3) := by decide +kernel
theorem dX4_told_139 : decode cX4_told 139 = .ok (.iconst 0, 1) := by decide +kernel
theorem dX4_told_140 : decode cX4_told 140 = .ok (.ireturn, 1) := by decide +kernel
theorem dX4_told_141 : decode cX4_told 141 = .ok (.aload_n 3, 1) := by decide +kernel
theorem dX4_told_142 : decode cX4_told 142 = .ok (.getfield 145, 3) := by decide +kernel
theorem dX4_told_145 : decode cX4_told 145 = .ok (.ireturn, 1) := by decide +kernel
theorem dX4_told_146 : decode cX4_told 146 = .ok (.ldc 148, 2) := by decide +kernel
theorem dX4_told_148 : decode cX4_told 148 = .ok (.ireturn, 1) := by decide +kernel
theorem dX4_given_0 : decode cX4_given 0 = .ok (.iload_n 1, 1) := by decide +kernel
theorem dX4_given_1 : decode cX4_given 1 = .ok (.invokestatic 56, 3) := by decide +kernel
theorem dX4_given_4 : decode cX4_given 4 = .ok (.ifCond .ne 6, 3) := by decide +kernel
theorem dX4_given_7 : decode cX4_given 7 = .ok (.bipush (-12), 2) := by decide +kernel
theorem dX4_given_9 : decode cX4_given 9 = .ok (.ireturn, 1) := by decide +kernel
theorem dX4_given_10 : decode cX4_given 10 = .ok (.aload_n 0, 1) := by decide +kernel
theorem dX4_given_11 : decode cX4_given 11 = .ok (.getfield 24, 3) := by decide +kernel
theorem dX4_given_14 : decode cX4_given 14 = .ok (.getfield 149, 3) := by decide +kernel
theorem dX4_given_17 : decode cX4_given 17 = .ok (.iload_n 1, 1) := by decide +kernel
theorem dX4_given_18 : decode cX4_given 18 = .ok (.baload, 1) := by decide +kernel
theorem dX4_given_19 : decode cX4_given 19 = .ok (.ifCond .eq 7, 3) := by decide +kernel
theorem dX4_given_22 : decode cX4_given 22 = .ok (.iconst 1, 1) := by decide +kernel
theorem dX4_given_23 : decode cX4_given 23 = .ok (.goto 4, 3) := by decide +kernel
theorem dX4_given_26 : decode cX4_given 26 = .ok (.iconst 0, 1) := by decide +kernel
theorem dX4_given_27 : decode cX4_given 27 = .ok (.ireturn, 1) := by decide +kernel
theorem dX4_number_0 : decode cX4_number 0 = .ok (.aload_n 0, 1) := by decide +kernel
theorem dX4_number_1 : decode cX4_number 1 = .ok (.iload_n 1, 1) := by decide +kernel
theorem dX4_number_2 : decode cX4_number 2 = .ok (.invokevirtual 52, 3) := by decide +kernel
theorem dX4_number_5 : decode cX4_number 5 = .ok (.ifCond .eq 13, 3) := by decide +kernel
theorem dX4_number_8 : decode cX4_number 8 = .ok (.iload_n 2, 1) := by decide +kernel
theorem dX4_number_9 : decode cX4_number 9 = .ok (.ifCond .lt 9, 3) := by decide +kernel
theorem dX4_number_12 : decode cX4_number 12 = .ok (.iload_n 2, 1) := by decide +kernel
theorem dX4_number_13 : decode cX4_number 13 = .ok (.bipush 40, 2) := by decide +kernel
theorem dX4_number_15 : decode cX4_number 15 = .ok (.if_icmp .lt 13, 3) := by decide +kernel
theorem dX4_number_18 : decode cX4_number 18 = .ok (.new 153, 3) := by decide +kernel
theorem dX4_number_21 : decode cX4_number 21 = .ok (.dup, 1) := by decide +kernel
theorem dX4_number_22 : decode cX4_number 22 = .ok (.ldc 155, 2) := by decide +kernel
theorem dX4_number_24 : decode cX4_number 24 = .ok (.invokespecial 157, 3) := by decide +kernel
theorem dX4_number_27 : decode cX4_number 27 = .ok (.athrow, 1) := by decide +kernel
theorem dX4_number_28 : decode cX4_number 28 = .ok (.aload_n 0, 1) := by decide +kernel
theorem dX4_number_29 : decode cX4_number 29 = .ok (.getfield 11, 3) := by decide +kernel
theorem dX4_number_32 : decode cX4_number 32 = .ok (.iload_n 1, 1) := by decide +kernel
theorem dX4_number_33 : decode cX4_number 33 = .ok (.aaload, 1) := by decide +kernel
theorem dX4_number_34 : decode cX4_number 34 = .ok (.iload_n 2, 1) := by decide +kernel
theorem dX4_number_35 : decode cX4_number 35 = .ok (.invokevirtual 73, 3) := by decide +kernel
theorem dX4_number_38 : decode cX4_number 38 = .ok (.ifCond .ne 13, 3) := by decide +kernel
theorem dX4_number_41 : decode cX4_number 41 = .ok (.new 160, 3) := by decide +kernel
theorem dX4_number_44 : decode cX4_number 44 = .ok (.dup, 1) := by decide +kernel
theorem dX4_number_45 : decode cX4_number 45 = .ok (.ldc 162, 2) := by decide +kernel
theorem dX4_number_47 : decode cX4_number 47 = .ok (.invokespecial 164, 3) := by decide +kernel
theorem dX4_number_50 : decode cX4_number 50 = .ok (.athrow, 1) := by decide +kernel
theorem dX4_number_51 : decode cX4_number 51 = .ok (.aload_n 0, 1) := by decide +kernel
theorem dX4_number_52 : decode cX4_number 52 = .ok (.getfield 11, 3) := by decide +kernel
theorem dX4_number_55 : decode cX4_number 55 = .ok (.iload_n 1, 1) := by decide +kernel
theorem dX4_number_56 : decode cX4_number 56 = .ok (.aaload, 1) := by decide +kernel
theorem dX4_number_57 : decode cX4_number 57 = .ok (.getfield 165, 3) := by decide +kernel
theorem dX4_number_60 : decode cX4_number 60 = .ok (.iload_n 2, 1) := by decide +kernel
theorem dX4_number_61 : decode cX4_number 61 = .ok (.iaload, 1) := by decide +kernel
theorem dX4_number_62 : decode cX4_number 62 = .ok (.ireturn, 1) := by decide +kernel
theorem dX4_aside_0 : decode cX4_aside 0 = .ok (.iload_n 1, 1) := by decide +kernel
theorem dX4_aside_1 : decode cX4_aside 1 = .ok (.ifCond .lt 14, 3) := by decide +kernel
theorem dX4_aside_4 : decode cX4_aside 4 = .ok (.iload_n 1, 1) := by decide +kernel
theorem dX4_aside_5 : decode cX4_aside 5 = .ok (.aload_n 0, 1) := by decide +kernel
theorem dX4_aside_6 : decode cX4_aside 6 = .ok (.getfield 24, 3) := by decide +kernel
theorem dX4_aside_9 : decode cX4_aside 9 = .ok (.getfield 168, 3) := by decide +kernel
theorem dX4_aside_12 : decode cX4_aside 12 = .ok (.if_icmp .lt 6, 3) := by decide +kernel
theorem dX4_aside_15 : decode cX4_aside 15 = .ok (.bipush (-11), 2) := by decide +kernel
theorem dX4_aside_17 : decode cX4_aside 17 = .ok (.ireturn, 1) := by decide +kernel
theorem dX4_aside_18 : decode cX4_aside 18 = .ok (.iload_n 2, 1) := by decide +kernel
theorem dX4_aside_19 : decode cX4_aside 19 = .ok (.lookupswitch 45 #[(0, 25), (1, 35)], 25) := by decide +kernel
theorem dX4_aside_44 : decode cX4_aside 44 = .ok (.aload_n 0, 1) := by decide +kernel
theorem dX4_aside_45 : decode cX4_aside 45 = .ok (.getfield 24, 3) := by decide +kernel
theorem dX4_aside_48 : decode cX4_aside 48 = .ok (.getfield 171, 3) := by decide +kernel
theorem dX4_aside_51 : decode cX4_aside 51 = .ok (.iload_n 1, 1) := by decide +kernel
theorem dX4_aside_52 : decode cX4_aside 52 = .ok (.iaload, 1) := by decide +kernel
theorem dX4_aside_53 : decode cX4_aside 53 = .ok (.ireturn, 1) := by decide +kernel
theorem dX4_aside_54 : decode cX4_aside 54 = .ok (.aload_n 0, 1) := by decide +kernel
theorem dX4_aside_55 : decode cX4_aside 55 = .ok (.getfield 24, 3) := by decide +kernel
theorem dX4_aside_58 : decode cX4_aside 58 = .ok (.getfield 174, 3) := by decide +kernel
theorem dX4_aside_61 : decode cX4_aside 61 = .ok (.iload_n 1, 1) := by decide +kernel
theorem dX4_aside_62 : decode cX4_aside 62 = .ok (.iaload, 1) := by decide +kernel
theorem dX4_aside_63 : decode cX4_aside 63 = .ok (.ireturn, 1) := by decide +kernel
theorem dX4_aside_64 : decode cX4_aside 64 = .ok (.bipush (-12), 2) := by decide +kernel
theorem dX4_aside_66 : decode cX4_aside 66 = .ok (.ireturn, 1) := by decide +kernel
theorem dX4_rate_0 : decode cX4_rate 0 = .ok (.aload_n 0, 1) := by decide +kernel
theorem dX4_rate_1 : decode cX4_rate 1 = .ok (.iload_n 1, 1) := by decide +kernel
theorem dX4_rate_2 : decode cX4_rate 2 = .ok (.invokevirtual 52, 3) := by decide +kernel
theorem dX4_rate_5 : decode cX4_rate 5 = .ok (.ifCond .ne 6, 3) := by decide +kernel
theorem dX4_rate_8 : decode cX4_rate 8 = .ok (.bipush (-11), 2) := by decide +kernel
theorem dX4_rate_10 : decode cX4_rate 10 = .ok (.ireturn, 1) := by decide +kernel
theorem dX4_rate_11 : decode cX4_rate 11 = .ok (.aload_n 0, 1) := by decide +kernel
theorem dX4_rate_12 : decode cX4_rate 12 = .ok (.getfield 11, 3) := by decide +kernel
theorem dX4_rate_15 : decode cX4_rate 15 = .ok (.iload_n 1, 1) := by decide +kernel
theorem dX4_rate_16 : decode cX4_rate 16 = .ok (.aaload, 1) := by decide +kernel
theorem dX4_rate_17 : decode cX4_rate 17 = .ok (.astore_n 2, 1) := by decide +kernel
theorem dX4_rate_18 : decode cX4_rate 18 = .ok (.aload_n 2, 1) := by decide +kernel
theorem dX4_rate_19 : decode cX4_rate 19 = .ok (.getfield 93, 3) := by decide +kernel
theorem dX4_rate_22 : decode cX4_rate 22 = .ok (.iconst (-1), 1) := by decide +kernel
theorem dX4_rate_23 : decode cX4_rate 23 = .ok (.if_icmp .ne 13, 3) := by decide +kernel
theorem dX4_rate_26 : decode cX4_rate 26 = .ok (.new 160, 3) := by decide +kernel
theorem dX4_rate_29 : decode cX4_rate 29 = .ok (.dup, 1) := by decide +kernel
theorem dX4_rate_30 : decode cX4_rate 30 = .ok (.ldc 177, 2) := by decide +kernel
theorem dX4_rate_32 : decode cX4_rate 32 = .ok (.invokespecial 164, 3) := by decide +kernel
theorem dX4_rate_35 : decode cX4_rate 35 = .ok (.athrow, 1) := by decide +kernel
theorem dX4_rate_36 : decode cX4_rate 36 = .ok (.aload_n 2, 1) := by decide +kernel
theorem dX4_rate_37 : decode cX4_rate 37 = .ok (.getfield 79, 3) := by decide +kernel
theorem dX4_rate_40 : decode cX4_rate 40 = .ok (.istore_n 3, 1) := by decide +kernel
theorem dX4_rate_41 : decode cX4_rate 41 = .ok (.iconst 0, 1) := by decide +kernel
theorem dX4_rate_42 : decode cX4_rate 42 = .ok (.istore 4, 2) := by decide +kernel
theorem dX4_rate_44 : decode cX4_rate 44 = .ok (.iload 4, 2) := by decide +kernel
theorem dX4_rate_46 : decode cX4_rate 46 = .ok (.aload_n 0, 1) := by decide +kernel
theorem dX4_rate_47 : decode cX4_rate 47 = .ok (.getfield 44, 3) := by decide +kernel
theorem dX4_rate_50 : decode cX4_rate 50 = .ok (.if_icmp .ge 45, 3) := by decide +kernel
theorem dX4_rate_53 : decode cX4_rate 53 = .ok (.iload 4, 2) := by decide +kernel
theorem dX4_rate_55 : decode cX4_rate 55 = .ok (.iload_n 1, 1) := by decide +kernel
theorem dX4_rate_56 : decode cX4_rate 56 = .ok (.if_icmp .eq 33, 3) := by decide +kernel
theorem dX4_rate_59 : decode cX4_rate 59 = .ok (.aload_n 0, 1) := by decide +kernel
theorem dX4_rate_60 : decode cX4_rate 60 = .ok (.getfield 11, 3) := by decide +kernel
theorem dX4_rate_63 : decode cX4_rate 63 = .ok (.iload 4, 2) := by decide +kernel
theorem dX4_rate_65 : decode cX4_rate 65 = .ok (.aaload, 1) := by decide +kernel
theorem dX4_rate_66 : decode cX4_rate 66 = .ok (.aload_n 2, 1) := by decide +kernel
theorem dX4_rate_67 : decode cX4_rate 67 = .ok (.getfield 93, 3) := by decide +kernel
theorem dX4_rate_70 : decode cX4_rate 70 = .ok (.invokevirtual 179, 3) := by decide +kernel
theorem dX4_rate_73 : decode cX4_rate 73 = .ok (.ifCond .eq 16, 3) := by decide +kernel
theorem dX4_rate_76 : decode cX4_rate 76 = .ok (.iload_n 3, 1) := by decide +kernel
theorem dX4_rate_77 : decode cX4_rate 77 = .ok (.aload_n 0, 1) := by decide +kernel
theorem dX4_rate_78 : decode cX4_rate 78 = .ok (.getfield 11, 3) := by decide +kernel
theorem dX4_rate_81 : decode cX4_rate 81 = .ok (.iload 4, 2) := by decide +kernel
theorem dX4_rate_83 : decode cX4_rate 83 = .ok (.aaload, 1) := by decide +kernel
theorem dX4_rate_84 : decode cX4_rate 84 = .ok (.getfield 79, 3) := by decide +kernel
theorem dX4_rate_87 : decode cX4_rate 87 = .ok (.iadd, 1) := by decide +kernel
theorem dX4_rate_88 : decode cX4_rate 88 = .ok (.istore_n 3, 1) := by decide +kernel
theorem dX4_rate_89 : decode cX4_rate 89 = .ok (.iinc 4 1, 3) := by decide +kernel
theorem dX4_rate_92 : decode cX4_rate 92 = .ok (.goto (-48), 3) := by decide +kernel
theorem dX4_rate_95 : decode cX4_rate 95 = .ok (.iload_n 3, 1) := by decide +kernel
theorem dX4_rate_96 : decode cX4_rate 96 = .ok (.iconst 1, 1) := by decide +kernel
theorem dX4_rate_97 : decode cX4_rate 97 = .ok (.if_icmp .ge 7, 3) := by decide +kernel
theorem dX4_rate_100 : decode cX4_rate 100 = .ok (.iconst 0, 1) := by decide +kernel
theorem dX4_rate_101 : decode cX4_rate 101 = .ok (.goto 13, 3) := by decide +kernel
theorem dX4_rate_104 : decode cX4_rate 104 = .ok (.sipush 1000, 3) := by decide +kernel
theorem dX4_rate_107 : decode cX4_rate 107 = .ok (.aload_n 2, 1) := by decide +kernel
theorem dX4_rate_108 : decode cX4_rate 108 = .ok (.getfield 79, 3) := by decide +kernel
theorem dX4_rate_111 : decode cX4_rate 111 = .ok (.imul, 1) := by decide +kernel
theorem dX4_rate_112 : decode cX4_rate 112 = .ok (.iload_n 3, 1) := by decide +kernel
theorem dX4_rate_113 : decode cX4_rate 113 = .ok (.idiv, 1) := by decide +kernel
theorem dX4_rate_114 : decode cX4_rate 114 = .ok (.ireturn, 1) := by decide +kernel
theorem dX4_water_0 : decode cX4_water 0 = .ok (.iconst (-1), 1) := by decide +kernel
theorem dX4_water_1 : decode cX4_water 1 = .ok (.istore_n 1, 1) := by decide +kernel
theorem dX4_water_2 : decode cX4_water 2 = .ok (.iconst (-1), 1) := by decide +kernel
theorem dX4_water_3 : decode cX4_water 3 = .ok (.istore_n 2, 1) := by decide +kernel
theorem dX4_water_4 : decode cX4_water 4 = .ok (.iconst 1, 1) := by decide +kernel
theorem dX4_water_5 : decode cX4_water 5 = .ok (.istore_n 3, 1) := by decide +kernel
theorem dX4_water_6 : decode cX4_water 6 = .ok (.iconst 0, 1) := by decide +kernel
theorem dX4_water_7 : decode cX4_water 7 = .ok (.istore 4, 2) := by decide +kernel
theorem dX4_water_9 : decode cX4_water 9 = .ok (.iload 4, 2) := by decide +kernel
theorem dX4_water_11 : decode cX4_water 11 = .ok (.aload_n 0, 1) := by decide +kernel
theorem dX4_water_12 : decode cX4_water 12 = .ok (.getfield 44, 3) := by decide +kernel
theorem dX4_water_15 : decode cX4_water 15 = .ok (.if_icmp .ge 59, 3) := by decide +kernel
theorem dX4_water_18 : decode cX4_water 18 = .ok (.aload_n 0, 1) := by decide +kernel
theorem dX4_water_19 : decode cX4_water 19 = .ok (.getfield 11, 3) := by decide +kernel
theorem dX4_water_22 : decode cX4_water 22 = .ok (.iload 4, 2) := by decide +kernel
theorem dX4_water_24 : decode cX4_water 24 = .ok (.aaload, 1) := by decide +kernel
theorem dX4_water_25 : decode cX4_water 25 = .ok (.getfield 139, 3) := by decide +kernel
theorem dX4_water_28 : decode cX4_water 28 = .ok (.istore 5, 2) := by decide +kernel
theorem dX4_water_30 : decode cX4_water 30 = .ok (.iload_n 2, 1) := by decide +kernel
theorem dX4_water_31 : decode cX4_water 31 = .ok (.iload 5, 2) := by decide +kernel
theorem dX4_water_33 : decode cX4_water 33 = .ok (.invokestatic 182, 3) := by decide +kernel
theorem dX4_water_36 : decode cX4_water 36 = .ok (.istore_n 2, 1) := by decide +kernel
theorem dX4_water_37 : decode cX4_water 37 = .ok (.aload_n 0, 1) := by decide +kernel
theorem dX4_water_38 : decode cX4_water 38 = .ok (.getfield 11, 3) := by decide +kernel
theorem dX4_water_41 : decode cX4_water 41 = .ok (.iload 4, 2) := by decide +kernel
theorem dX4_water_43 : decode cX4_water 43 = .ok (.aaload, 1) := by decide +kernel
theorem dX4_water_44 : decode cX4_water 44 = .ok (.invokevirtual 89, 3) := by decide +kernel
theorem dX4_water_47 : decode cX4_water 47 = .ok (.ifCond .ne 21, 3) := by decide +kernel
theorem dX4_water_50 : decode cX4_water 50 = .ok (.iload_n 3, 1) := by decide +kernel
theorem dX4_water_51 : decode cX4_water 51 = .ok (.ifCond .eq 8, 3) := by decide +kernel
theorem dX4_water_54 : decode cX4_water 54 = .ok (.iload 5, 2) := by decide +kernel
theorem dX4_water_56 : decode cX4_water 56 = .ok (.goto 9, 3) := by decide +kernel
theorem dX4_water_59 : decode cX4_water 59 = .ok (.iload_n 1, 1) := by decide +kernel
theorem dX4_water_60 : decode cX4_water 60 = .ok (.iload 5, 2) := by decide +kernel
theorem dX4_water_62 : decode cX4_water 62 = .ok (.invokestatic 187, 3) := by decide +kernel
theorem dX4_water_65 : decode cX4_water 65 = .ok (.istore_n 1, 1) := by decide +kernel
theorem dX4_water_66 : decode cX4_water 66 = .ok (.iconst 0, 1) := by decide +kernel
theorem dX4_water_67 : decode cX4_water 67 = .ok (.istore_n 3, 1) := by decide +kernel
theorem dX4_water_68 : decode cX4_water 68 = .ok (.iinc 4 1, 3) := by decide +kernel
theorem dX4_water_71 : decode cX4_water 71 = .ok (.goto (-62), 3) := by decide +kernel
theorem dX4_water_74 : decode cX4_water 74 = .ok (.iload_n 3, 1) := by decide +kernel
theorem dX4_water_75 : decode cX4_water 75 = .ok (.ifCond .eq 7, 3) := by decide +kernel
theorem dX4_water_78 : decode cX4_water 78 = .ok (.iload_n 2, 1) := by decide +kernel
theorem dX4_water_79 : decode cX4_water 79 = .ok (.goto 4, 3) := by decide +kernel
theorem dX4_water_82 : decode cX4_water 82 = .ok (.iload_n 1, 1) := by decide +kernel
theorem dX4_water_83 : decode cX4_water 83 = .ok (.ireturn, 1) := by decide +kernel
theorem dX4_count_0 : decode cX4_count 0 = .ok (.iload_n 1, 1) := by decide +kernel
theorem dX4_count_1 : decode cX4_count 1 = .ok (.tableswitch 123 0 9 #[55, 60, 65, 70, 78, 86, 94, 99, 107, 115], 55) := by decide +kernel
theorem dX4_count_56 : decode cX4_count 56 = .ok (.aload_n 0, 1) := by decide +kernel
theorem dX4_count_57 : decode cX4_count 57 = .ok (.getfield 44, 3) := by decide +kernel
theorem dX4_count_60 : decode cX4_count 60 = .ok (.ireturn, 1) := by decide +kernel
theorem dX4_count_61 : decode cX4_count 61 = .ok (.aload_n 0, 1) := by decide +kernel
theorem dX4_count_62 : decode cX4_count 62 = .ok (.getfield 114, 3) := by decide +kernel
theorem dX4_count_65 : decode cX4_count 65 = .ok (.ireturn, 1) := by decide +kernel
theorem dX4_count_66 : decode cX4_count 66 = .ok (.aload_n 0, 1) := by decide +kernel
theorem dX4_count_67 : decode cX4_count 67 = .ok (.getfield 107, 3) := by decide +kernel
theorem dX4_count_70 : decode cX4_count 70 = .ok (.ireturn, 1) := by decide +kernel
theorem dX4_count_71 : decode cX4_count 71 = .ok (.aload_n 0, 1) := by decide +kernel
theorem dX4_count_72 : decode cX4_count 72 = .ok (.getfield 31, 3) := by decide +kernel
theorem dX4_count_75 : decode cX4_count 75 = .ok (.getfield 190, 3) := by decide +kernel
theorem dX4_count_78 : decode cX4_count 78 = .ok (.ireturn, 1) := by decide +kernel
theorem dX4_count_79 : decode cX4_count 79 = .ok (.aload_n 0, 1) := by decide +kernel
theorem dX4_count_80 : decode cX4_count 80 = .ok (.getfield 24, 3) := by decide +kernel
theorem dX4_count_83 : decode cX4_count 83 = .ok (.getfield 193, 3) := by decide +kernel
theorem dX4_count_86 : decode cX4_count 86 = .ok (.ireturn, 1) := by decide +kernel
theorem dX4_count_87 : decode cX4_count 87 = .ok (.aload_n 0, 1) := by decide +kernel
theorem dX4_count_88 : decode cX4_count 88 = .ok (.getfield 24, 3) := by decide +kernel
end
section
theorem dX4_count_91 : decode cX4_count 91 = .ok (.getfield 168, 3) := by decide +kernel
theorem dX4_count_94 : decode cX4_count 94 = .ok (.ireturn, 1) := by decide +kernel
theorem dX4_count_95 : decode cX4_count 95 = .ok (.aload_n 0, 1) := by decide +kernel
theorem dX4_count_96 : decode cX4_count 96 = .ok (.invokevirtual 196, 3) := by decide +kernel
theorem dX4_count_99 : decode cX4_count 99 = .ok (.ireturn, 1) := by decide +kernel
theorem dX4_count_100 : decode cX4_count 100 = .ok (.aload_n 0, 1) := by decide +kernel
theorem dX4_count_101 : decode cX4_count 101 = .ok (.getfield 31, 3) := by decide +kernel
theorem dX4_count_104 : decode cX4_count 104 = .ok (.getfield 200, 3) := by decide +kernel
theorem dX4_count_107 : decode cX4_count 107 = .ok (.ireturn, 1) := by decide +kernel
theorem dX4_count_108 : decode cX4_count 108 = .ok (.aload_n 0, 1) := by decide +kernel
theorem dX4_count_109 : decode cX4_count 109 = .ok (.getfield 31, 3) := by decide +kernel
theorem dX4_count_112 : decode cX4_count 112 = .ok (.getfield 203, 3) := by decide +kernel
theorem dX4_count_115 : decode cX4_count 115 = .ok (.ireturn, 1) := by decide +kernel
theorem dX4_count_116 : decode cX4_count 116 = .ok (.aload_n 0, 1) := by decide +kernel
theorem dX4_count_117 : decode cX4_count 117 = .ok (.getfield 31, 3) := by decide +kernel
theorem dX4_count_120 : decode cX4_count 120 = .ok (.getfield 206, 3) := by decide +kernel
theorem dX4_count_123 : decode cX4_count 123 = .ok (.ireturn, 1) := by decide +kernel
theorem dX4_count_124 : decode cX4_count 124 = .ok (.bipush (-12), 2) := by decide +kernel
theorem dX4_count_126 : decode cX4_count 126 = .ok (.ireturn, 1) := by decide +kernel
theorem dX4_clear_0 : decode cX4_clear 0 = .ok (.aload_n 0, 1) := by decide +kernel
theorem dX4_clear_1 : decode cX4_clear 1 = .ok (.getfield 44, 3) := by decide +kernel
theorem dX4_clear_4 : decode cX4_clear 4 = .ok (.istore_n 1, 1) := by decide +kernel
theorem dX4_clear_5 : decode cX4_clear 5 = .ok (.aload_n 0, 1) := by decide +kernel
theorem dX4_clear_6 : decode cX4_clear 6 = .ok (.invokevirtual 41, 3) := by decide +kernel
theorem dX4_clear_9 : decode cX4_clear 9 = .ok (.iload_n 1, 1) := by decide +kernel
theorem dX4_clear_10 : decode cX4_clear 10 = .ok (.ireturn, 1) := by decide +kernel
theorem dX4_begin_0 : decode cX4_begin 0 = .ok (.aload_n 0, 1) := by decide +kernel
theorem dX4_begin_1 : decode cX4_begin 1 = .ok (.iconst 0, 1) := by decide +kernel
theorem dX4_begin_2 : decode cX4_begin 2 = .ok (.putfield 44, 3) := by decide +kernel
theorem dX4_begin_5 : decode cX4_begin 5 = .ok (.aload_n 0, 1) := by decide +kernel
theorem dX4_begin_6 : decode cX4_begin 6 = .ok (.iconst 0, 1) := by decide +kernel
theorem dX4_begin_7 : decode cX4_begin 7 = .ok (.putfield 107, 3) := by decide +kernel
theorem dX4_begin_10 : decode cX4_begin 10 = .ok (.aload_n 0, 1) := by decide +kernel
theorem dX4_begin_11 : decode cX4_begin 11 = .ok (.iconst 1, 1) := by decide +kernel
theorem dX4_begin_12 : decode cX4_begin 12 = .ok (.putfield 114, 3) := by decide +kernel
theorem dX4_begin_15 : decode cX4_begin 15 = .ok (.aload_n 0, 1) := by decide +kernel
theorem dX4_begin_16 : decode cX4_begin 16 = .ok (.getfield 24, 3) := by decide +kernel
theorem dX4_begin_19 : decode cX4_begin 19 = .ok (.invokevirtual 126, 3) := by decide +kernel
theorem dX4_begin_22 : decode cX4_begin 22 = .ok (.aload_n 0, 1) := by decide +kernel
theorem dX4_begin_23 : decode cX4_begin 23 = .ok (.getfield 31, 3) := by decide +kernel
theorem dX4_begin_26 : decode cX4_begin 26 = .ok (.invokevirtual 209, 3) := by decide +kernel
theorem dX4_begin_29 : decode cX4_begin 29 = .ok (.iconst 0, 1) := by decide +kernel
theorem dX4_begin_30 : decode cX4_begin 30 = .ok (.istore_n 1, 1) := by decide +kernel
theorem dX4_begin_31 : decode cX4_begin 31 = .ok (.iload_n 1, 1) := by decide +kernel
theorem dX4_begin_32 : decode cX4_begin 32 = .ok (.iconst 5, 1) := by decide +kernel
theorem dX4_begin_33 : decode cX4_begin 33 = .ok (.if_icmp .ge 16, 3) := by decide +kernel
theorem dX4_begin_36 : decode cX4_begin 36 = .ok (.aload_n 0, 1) := by decide +kernel
theorem dX4_begin_37 : decode cX4_begin 37 = .ok (.getfield 35, 3) := by decide +kernel
theorem dX4_begin_40 : decode cX4_begin 40 = .ok (.iload_n 1, 1) := by decide +kernel
theorem dX4_begin_41 : decode cX4_begin 41 = .ok (.iconst (-1), 1) := by decide +kernel
theorem dX4_begin_42 : decode cX4_begin 42 = .ok (.iastore, 1) := by decide +kernel
theorem dX4_begin_43 : decode cX4_begin 43 = .ok (.iinc 1 1, 3) := by decide +kernel
theorem dX4_begin_46 : decode cX4_begin 46 = .ok (.goto (-15), 3) := by decide +kernel
theorem dX4_begin_49 : decode cX4_begin 49 = .ok (.return_, 1) := by decide +kernel
theorem dX4_isPart_0 : decode cX4_isPart 0 = .ok (.iload_n 1, 1) := by decide +kernel
theorem dX4_isPart_1 : decode cX4_isPart 1 = .ok (.ifCond .lt 15, 3) := by decide +kernel
theorem dX4_isPart_4 : decode cX4_isPart 4 = .ok (.iload_n 1, 1) := by decide +kernel
theorem dX4_isPart_5 : decode cX4_isPart 5 = .ok (.aload_n 0, 1) := by decide +kernel
theorem dX4_isPart_6 : decode cX4_isPart 6 = .ok (.getfield 44, 3) := by decide +kernel
theorem dX4_isPart_9 : decode cX4_isPart 9 = .ok (.if_icmp .ge 7, 3) := by decide +kernel
theorem dX4_isPart_12 : decode cX4_isPart 12 = .ok (.iconst 1, 1) := by decide +kernel
theorem dX4_isPart_13 : decode cX4_isPart 13 = .ok (.goto 4, 3) := by decide +kernel
theorem dX4_isPart_16 : decode cX4_isPart 16 = .ok (.iconst 0, 1) := by decide +kernel
theorem dX4_isPart_17 : decode cX4_isPart 17 = .ok (.ireturn, 1) := by decide +kernel
theorem dX4_isTask_0 : decode cX4_isTask 0 = .ok (.iload_n 1, 1) := by decide +kernel
theorem dX4_isTask_1 : decode cX4_isTask 1 = .ok (.ifCond .lt 15, 3) := by decide +kernel
theorem dX4_isTask_4 : decode cX4_isTask 4 = .ok (.iload_n 1, 1) := by decide +kernel
theorem dX4_isTask_5 : decode cX4_isTask 5 = .ok (.aload_n 0, 1) := by decide +kernel
theorem dX4_isTask_6 : decode cX4_isTask 6 = .ok (.getfield 114, 3) := by decide +kernel
theorem dX4_isTask_9 : decode cX4_isTask 9 = .ok (.if_icmp .ge 7, 3) := by decide +kernel
theorem dX4_isTask_12 : decode cX4_isTask 12 = .ok (.iconst 1, 1) := by decide +kernel
theorem dX4_isTask_13 : decode cX4_isTask 13 = .ok (.goto 4, 3) := by decide +kernel
theorem dX4_isTask_16 : decode cX4_isTask 16 = .ok (.iconst 0, 1) := by decide +kernel
theorem dX4_isTask_17 : decode cX4_isTask 17 = .ok (.ireturn, 1) := by decide +kernel
theorem dX4_isNumber_0 : decode cX4_isNumber 0 = .ok (.iload_n 0, 1) := by decide +kernel
theorem dX4_isNumber_1 : decode cX4_isNumber 1 = .ok (.ifCond .lt 14, 3) := by decide +kernel
theorem dX4_isNumber_4 : decode cX4_isNumber 4 = .ok (.iload_n 0, 1) := by decide +kernel
theorem dX4_isNumber_5 : decode cX4_isNumber 5 = .ok (.sipush 255, 3) := by decide +kernel
theorem dX4_isNumber_8 : decode cX4_isNumber 8 = .ok (.if_icmp .gt 7, 3) := by decide +kernel
theorem dX4_isNumber_11 : decode cX4_isNumber 11 = .ok (.iconst 1, 1) := by decide +kernel
theorem dX4_isNumber_12 : decode cX4_isNumber 12 = .ok (.goto 4, 3) := by decide +kernel
theorem dX4_isNumber_15 : decode cX4_isNumber 15 = .ok (.iconst 0, 1) := by decide +kernel
theorem dX4_isNumber_16 : decode cX4_isNumber 16 = .ok (.ireturn, 1) := by decide +kernel
theorem dX4_isTime_0 : decode cX4_isTime 0 = .ok (.iload_n 0, 1) := by decide +kernel
theorem dX4_isTime_1 : decode cX4_isTime 1 = .ok (.ifCond .lt 13, 3) := by decide +kernel
theorem dX4_isTime_4 : decode cX4_isTime 4 = .ok (.iload_n 0, 1) := by decide +kernel
theorem dX4_isTime_5 : decode cX4_isTime 5 = .ok (.ldc 210, 2) := by decide +kernel
theorem dX4_isTime_7 : decode cX4_isTime 7 = .ok (.if_icmp .gt 7, 3) := by decide +kernel
theorem dX4_isTime_10 : decode cX4_isTime 10 = .ok (.iconst 1, 1) := by decide +kernel
theorem dX4_isTime_11 : decode cX4_isTime 11 = .ok (.goto 4, 3) := by decide +kernel
theorem dX4_isTime_14 : decode cX4_isTime 14 = .ok (.iconst 0, 1) := by decide +kernel
theorem dX4_isTime_15 : decode cX4_isTime 15 = .ok (.ireturn, 1) := by decide +kernel
theorem dX4_addPart_0 : decode cX4_addPart 0 = .ok (.aload_n 0, 1) := by decide +kernel
theorem dX4_addPart_1 : decode cX4_addPart 1 = .ok (.getfield 11, 3) := by decide +kernel
theorem dX4_addPart_4 : decode cX4_addPart 4 = .ok (.aload_n 0, 1) := by decide +kernel
theorem dX4_addPart_5 : decode cX4_addPart 5 = .ok (.getfield 44, 3) := by decide +kernel
theorem dX4_addPart_8 : decode cX4_addPart 8 = .ok (.aaload, 1) := by decide +kernel
theorem dX4_addPart_9 : decode cX4_addPart 9 = .ok (.iload_n 1, 1) := by decide +kernel
theorem dX4_addPart_10 : decode cX4_addPart 10 = .ok (.iload_n 2, 1) := by decide +kernel
theorem dX4_addPart_11 : decode cX4_addPart 11 = .ok (.invokevirtual 211, 3) := by decide +kernel
theorem dX4_addPart_14 : decode cX4_addPart 14 = .ok (.aload_n 0, 1) := by decide +kernel
theorem dX4_addPart_15 : decode cX4_addPart 15 = .ok (.dup, 1) := by decide +kernel
theorem dX4_addPart_16 : decode cX4_addPart 16 = .ok (.getfield 44, 3) := by decide +kernel
theorem dX4_addPart_19 : decode cX4_addPart 19 = .ok (.iconst 1, 1) := by decide +kernel
theorem dX4_addPart_20 : decode cX4_addPart 20 = .ok (.iadd, 1) := by decide +kernel
theorem dX4_addPart_21 : decode cX4_addPart 21 = .ok (.putfield 44, 3) := by decide +kernel
theorem dX4_addPart_24 : decode cX4_addPart 24 = .ok (.aload_n 0, 1) := by decide +kernel
theorem dX4_addPart_25 : decode cX4_addPart 25 = .ok (.getfield 44, 3) := by decide +kernel
theorem dX4_addPart_28 : decode cX4_addPart 28 = .ok (.iconst 1, 1) := by decide +kernel
theorem dX4_addPart_29 : decode cX4_addPart 29 = .ok (.isub, 1) := by decide +kernel
theorem dX4_addPart_30 : decode cX4_addPart 30 = .ok (.ireturn, 1) := by decide +kernel
theorem dX4_chooseByCredit_0 : decode cX4_chooseByCredit 0 = .ok (.iconst (-1), 1) := by decide +kernel
theorem dX4_chooseByCredit_1 : decode cX4_chooseByCredit 1 = .ok (.istore_n 2, 1) := by decide +kernel
theorem dX4_chooseByCredit_2 : decode cX4_chooseByCredit 2 = .ok (.iconst 0, 1) := by decide +kernel
theorem dX4_chooseByCredit_3 : decode cX4_chooseByCredit 3 = .ok (.istore_n 3, 1) := by decide +kernel
theorem dX4_chooseByCredit_4 : decode cX4_chooseByCredit 4 = .ok (.iconst 0, 1) := by decide +kernel
theorem dX4_chooseByCredit_5 : decode cX4_chooseByCredit 5 = .ok (.istore 4, 2) := by decide +kernel
theorem dX4_chooseByCredit_7 : decode cX4_chooseByCredit 7 = .ok (.iload 4, 2) := by decide +kernel
theorem dX4_chooseByCredit_9 : decode cX4_chooseByCredit 9 = .ok (.aload_n 0, 1) := by decide +kernel
theorem dX4_chooseByCredit_10 : decode cX4_chooseByCredit 10 = .ok (.getfield 44, 3) := by decide +kernel
theorem dX4_chooseByCredit_13 : decode cX4_chooseByCredit 13 = .ok (.if_icmp .ge 75, 3) := by decide +kernel
theorem dX4_chooseByCredit_16 : decode cX4_chooseByCredit 16 = .ok (.aload_n 0, 1) := by decide +kernel
theorem dX4_chooseByCredit_17 : decode cX4_chooseByCredit 17 = .ok (.getfield 11, 3) := by decide +kernel
theorem dX4_chooseByCredit_20 : decode cX4_chooseByCredit 20 = .ok (.iload 4, 2) := by decide +kernel
theorem dX4_chooseByCredit_22 : decode cX4_chooseByCredit 22 = .ok (.aaload, 1) := by decide +kernel
theorem dX4_chooseByCredit_23 : decode cX4_chooseByCredit 23 = .ok (.astore 5, 2) := by decide +kernel
theorem dX4_chooseByCredit_25 : decode cX4_chooseByCredit 25 = .ok (.aload 5, 2) := by decide +kernel
theorem dX4_chooseByCredit_27 : decode cX4_chooseByCredit 27 = .ok (.iload_n 1, 1) := by decide +kernel
theorem dX4_chooseByCredit_28 : decode cX4_chooseByCredit 28 = .ok (.invokevirtual 179, 3) := by decide +kernel
theorem dX4_chooseByCredit_31 : decode cX4_chooseByCredit 31 = .ok (.ifCond .eq 51, 3) := by decide +kernel
theorem dX4_chooseByCredit_34 : decode cX4_chooseByCredit 34 = .ok (.aload 5, 2) := by decide +kernel
theorem dX4_chooseByCredit_36 : decode cX4_chooseByCredit 36 = .ok (.dup, 1) := by decide +kernel
theorem dX4_chooseByCredit_37 : decode cX4_chooseByCredit 37 = .ok (.getfield 142, 3) := by decide +kernel
theorem dX4_chooseByCredit_40 : decode cX4_chooseByCredit 40 = .ok (.aload 5, 2) := by decide +kernel
theorem dX4_chooseByCredit_42 : decode cX4_chooseByCredit 42 = .ok (.getfield 79, 3) := by decide +kernel
theorem dX4_chooseByCredit_45 : decode cX4_chooseByCredit 45 = .ok (.iadd, 1) := by decide +kernel
theorem dX4_chooseByCredit_46 : decode cX4_chooseByCredit 46 = .ok (.putfield 142, 3) := by decide +kernel
theorem dX4_chooseByCredit_49 : decode cX4_chooseByCredit 49 = .ok (.iload_n 3, 1) := by decide +kernel
theorem dX4_chooseByCredit_50 : decode cX4_chooseByCredit 50 = .ok (.aload 5, 2) := by decide +kernel
theorem dX4_chooseByCredit_52 : decode cX4_chooseByCredit 52 = .ok (.getfield 79, 3) := by decide +kernel
theorem dX4_chooseByCredit_55 : decode cX4_chooseByCredit 55 = .ok (.iadd, 1) := by decide +kernel
theorem dX4_chooseByCredit_56 : decode cX4_chooseByCredit 56 = .ok (.istore_n 3, 1) := by decide +kernel
theorem dX4_chooseByCredit_57 : decode cX4_chooseByCredit 57 = .ok (.iload_n 2, 1) := by decide +kernel
theorem dX4_chooseByCredit_58 : decode cX4_chooseByCredit 58 = .ok (.iconst (-1), 1) := by decide +kernel
theorem dX4_chooseByCredit_59 : decode cX4_chooseByCredit 59 = .ok (.if_icmp .eq 20, 3) := by decide +kernel
theorem dX4_chooseByCredit_62 : decode cX4_chooseByCredit 62 = .ok (.aload 5, 2) := by decide +kernel
theorem dX4_chooseByCredit_64 : decode cX4_chooseByCredit 64 = .ok (.getfield 142, 3) := by decide +kernel
theorem dX4_chooseByCredit_67 : decode cX4_chooseByCredit 67 = .ok (.aload_n 0, 1) := by decide +kernel
theorem dX4_chooseByCredit_68 : decode cX4_chooseByCredit 68 = .ok (.getfield 11, 3) := by decide +kernel
theorem dX4_chooseByCredit_71 : decode cX4_chooseByCredit 71 = .ok (.iload_n 2, 1) := by decide +kernel
theorem dX4_chooseByCredit_72 : decode cX4_chooseByCredit 72 = .ok (.aaload, 1) := by decide +kernel
theorem dX4_chooseByCredit_73 : decode cX4_chooseByCredit 73 = .ok (.getfield 142, 3) := by decide +kernel
theorem dX4_chooseByCredit_76 : decode cX4_chooseByCredit 76 = .ok (.if_icmp .le 6, 3) := by decide +kernel
theorem dX4_chooseByCredit_79 : decode cX4_chooseByCredit 79 = .ok (.iload 4, 2) := by decide +kernel
theorem dX4_chooseByCredit_81 : decode cX4_chooseByCredit 81 = .ok (.istore_n 2, 1) := by decide +kernel
theorem dX4_chooseByCredit_82 : decode cX4_chooseByCredit 82 = .ok (.iinc 4 1, 3) := by decide +kernel
theorem dX4_chooseByCredit_85 : decode cX4_chooseByCredit 85 = .ok (.goto (-78), 3) := by decide +kernel
theorem dX4_chooseByCredit_88 : decode cX4_chooseByCredit 88 = .ok (.iload_n 2, 1) := by decide +kernel
theorem dX4_chooseByCredit_89 : decode cX4_chooseByCredit 89 = .ok (.iconst (-1), 1) := by decide +kernel
theorem dX4_chooseByCredit_90 : decode cX4_chooseByCredit 90 = .ok (.if_icmp .eq 18, 3) := by decide +kernel
theorem dX4_chooseByCredit_93 : decode cX4_chooseByCredit 93 = .ok (.aload_n 0, 1) := by decide +kernel
theorem dX4_chooseByCredit_94 : decode cX4_chooseByCredit 94 = .ok (.getfield 11, 3) := by decide +kernel
theorem dX4_chooseByCredit_97 : decode cX4_chooseByCredit 97 = .ok (.iload_n 2, 1) := by decide +kernel
theorem dX4_chooseByCredit_98 : decode cX4_chooseByCredit 98 = .ok (.aaload, 1) := by decide +kernel
theorem dX4_chooseByCredit_99 : decode cX4_chooseByCredit 99 = .ok (.dup, 1) := by decide +kernel
theorem dX4_chooseByCredit_100 : decode cX4_chooseByCredit 100 = .ok (.getfield 142, 3) := by decide +kernel
theorem dX4_chooseByCredit_103 : decode cX4_chooseByCredit 103 = .ok (.iload_n 3, 1) := by decide +kernel
theorem dX4_chooseByCredit_104 : decode cX4_chooseByCredit 104 = .ok (.isub, 1) := by decide +kernel
theorem dX4_chooseByCredit_105 : decode cX4_chooseByCredit 105 = .ok (.putfield 142, 3) := by decide +kernel
theorem dX4_chooseByCredit_108 : decode cX4_chooseByCredit 108 = .ok (.iload_n 2, 1) := by decide +kernel
theorem dX4_chooseByCredit_109 : decode cX4_chooseByCredit 109 = .ok (.ireturn, 1) := by decide +kernel
theorem dX4_deliverFrom_0 : decode cX4_deliverFrom 0 = .ok (.aload_n 0, 1) := by decide +kernel
theorem dX4_deliverFrom_1 : decode cX4_deliverFrom 1 = .ok (.getfield 11, 3) := by decide +kernel
theorem dX4_deliverFrom_4 : decode cX4_deliverFrom 4 = .ok (.iload_n 1, 1) := by decide +kernel
theorem dX4_deliverFrom_5 : decode cX4_deliverFrom 5 = .ok (.aaload, 1) := by decide +kernel
theorem dX4_deliverFrom_6 : decode cX4_deliverFrom 6 = .ok (.astore_n 2, 1) := by decide +kernel
theorem dX4_deliverFrom_7 : decode cX4_deliverFrom 7 = .ok (.aload_n 2, 1) := by decide +kernel
theorem dX4_deliverFrom_8 : decode cX4_deliverFrom 8 = .ok (.invokevirtual 136, 3) := by decide +kernel
theorem dX4_deliverFrom_11 : decode cX4_deliverFrom 11 = .ok (.ifCond .ne 5, 3) := by decide +kernel
theorem dX4_deliverFrom_14 : decode cX4_deliverFrom 14 = .ok (.iconst (-1), 1) := by decide +kernel
theorem dX4_deliverFrom_15 : decode cX4_deliverFrom 15 = .ok (.ireturn, 1) := by decide +kernel
theorem dX4_deliverFrom_16 : decode cX4_deliverFrom 16 = .ok (.aload_n 2, 1) := by decide +kernel
theorem dX4_deliverFrom_17 : decode cX4_deliverFrom 17 = .ok (.getfield 76, 3) := by decide +kernel
theorem dX4_deliverFrom_20 : decode cX4_deliverFrom 20 = .ok (.istore_n 3, 1) := by decide +kernel
theorem dX4_deliverFrom_21 : decode cX4_deliverFrom 21 = .ok (.aload_n 2, 1) := by decide +kernel
theorem dX4_deliverFrom_22 : decode cX4_deliverFrom 22 = .ok (.getfield 165, 3) := by decide +kernel
theorem dX4_deliverFrom_25 : decode cX4_deliverFrom 25 = .ok (.iload_n 3, 1) := by decide +kernel
theorem dX4_deliverFrom_26 : decode cX4_deliverFrom 26 = .ok (.iaload, 1) := by decide +kernel
theorem dX4_deliverFrom_27 : decode cX4_deliverFrom 27 = .ok (.istore 4, 2) := by decide +kernel
theorem dX4_deliverFrom_29 : decode cX4_deliverFrom 29 = .ok (.aload_n 0, 1) := by decide +kernel
theorem dX4_deliverFrom_30 : decode cX4_deliverFrom 30 = .ok (.getfield 31, 3) := by decide +kernel
theorem dX4_deliverFrom_33 : decode cX4_deliverFrom 33 = .ok (.dup, 1) := by decide +kernel
theorem dX4_deliverFrom_34 : decode cX4_deliverFrom 34 = .ok (.getfield 190, 3) := by decide +kernel
theorem dX4_deliverFrom_37 : decode cX4_deliverFrom 37 = .ok (.iconst 1, 1) := by decide +kernel
theorem dX4_deliverFrom_38 : decode cX4_deliverFrom 38 = .ok (.iadd, 1) := by decide +kernel
theorem dX4_deliverFrom_39 : decode cX4_deliverFrom 39 = .ok (.putfield 190, 3) := by decide +kernel
theorem dX4_deliverFrom_42 : decode cX4_deliverFrom 42 = .ok (.aload_n 0, 1) := by decide +kernel
theorem dX4_deliverFrom_43 : decode cX4_deliverFrom 43 = .ok (.iload_n 1, 1) := by decide +kernel
theorem dX4_deliverFrom_44 : decode cX4_deliverFrom 44 = .ok (.iload_n 3, 1) := by decide +kernel
theorem dX4_deliverFrom_45 : decode cX4_deliverFrom 45 = .ok (.invokevirtual 215, 3) := by decide +kernel
theorem dX4_deliverFrom_48 : decode cX4_deliverFrom 48 = .ok (.aload_n 0, 1) := by decide +kernel
theorem dX4_deliverFrom_49 : decode cX4_deliverFrom 49 = .ok (.getfield 31, 3) := by decide +kernel
theorem dX4_deliverFrom_52 : decode cX4_deliverFrom 52 = .ok (.aload_n 0, 1) := by decide +kernel
theorem dX4_deliverFrom_53 : decode cX4_deliverFrom 53 = .ok (.getfield 31, 3) := by decide +kernel
theorem dX4_deliverFrom_56 : decode cX4_deliverFrom 56 = .ok (.getfield 218, 3) := by decide +kernel
theorem dX4_deliverFrom_59 : decode cX4_deliverFrom 59 = .ok (.invokevirtual 221, 3) := by decide +kernel
theorem dX4_deliverFrom_62 : decode cX4_deliverFrom 62 = .ok (.istore 5, 2) := by decide +kernel
theorem dX4_deliverFrom_64 : decode cX4_deliverFrom 64 = .ok (.aload_n 0, 1) := by decide +kernel
theorem dX4_deliverFrom_65 : decode cX4_deliverFrom 65 = .ok (.getfield 31, 3) := by decide +kernel
theorem dX4_deliverFrom_68 : decode cX4_deliverFrom 68 = .ok (.aload_n 0, 1) := by decide +kernel
theorem dX4_deliverFrom_69 : decode cX4_deliverFrom 69 = .ok (.getfield 31, 3) := by decide +kernel
theorem dX4_deliverFrom_72 : decode cX4_deliverFrom 72 = .ok (.getfield 225, 3) := by decide +kernel
theorem dX4_deliverFrom_75 : decode cX4_deliverFrom 75 = .ok (.invokevirtual 221, 3) := by decide +kernel
theorem dX4_deliverFrom_78 : decode cX4_deliverFrom 78 = .ok (.istore 6, 2) := by decide +kernel
theorem dX4_deliverFrom_80 : decode cX4_deliverFrom 80 = .ok (.iload 5, 2) := by decide +kernel
theorem dX4_deliverFrom_82 : decode cX4_deliverFrom 82 = .ok (.ifCond .eq 19, 3) := by decide +kernel
theorem dX4_deliverFrom_85 : decode cX4_deliverFrom 85 = .ok (.aload_n 0, 1) := by decide +kernel
theorem dX4_deliverFrom_86 : decode cX4_deliverFrom 86 = .ok (.getfield 31, 3) := by decide +kernel
theorem dX4_deliverFrom_89 : decode cX4_deliverFrom 89 = .ok (.dup, 1) := by decide +kernel
theorem dX4_deliverFrom_90 : decode cX4_deliverFrom 90 = .ok (.getfield 200, 3) := by decide +kernel
theorem dX4_deliverFrom_93 : decode cX4_deliverFrom 93 = .ok (.iconst 1, 1) := by decide +kernel
theorem dX4_deliverFrom_94 : decode cX4_deliverFrom 94 = .ok (.iadd, 1) := by decide +kernel
theorem dX4_deliverFrom_95 : decode cX4_deliverFrom 95 = .ok (.putfield 200, 3) := by decide +kernel
theorem dX4_deliverFrom_98 : decode cX4_deliverFrom 98 = .ok (.bipush (-2), 2) := by decide +kernel
theorem dX4_deliverFrom_100 : decode cX4_deliverFrom 100 = .ok (.ireturn, 1) := by decide +kernel
theorem dX4_deliverFrom_101 : decode cX4_deliverFrom 101 = .ok (.aload_n 2, 1) := by decide +kernel
theorem dX4_deliverFrom_102 : decode cX4_deliverFrom 102 = .ok (.getfield 228, 3) := by decide +kernel
theorem dX4_deliverFrom_105 : decode cX4_deliverFrom 105 = .ok (.iload_n 3, 1) := by decide +kernel
theorem dX4_deliverFrom_106 : decode cX4_deliverFrom 106 = .ok (.baload, 1) := by decide +kernel
theorem dX4_deliverFrom_107 : decode cX4_deliverFrom 107 = .ok (.ifCond .ne 19, 3) := by decide +kernel
theorem dX4_deliverFrom_110 : decode cX4_deliverFrom 110 = .ok (.aload_n 0, 1) := by decide +kernel
theorem dX4_deliverFrom_111 : decode cX4_deliverFrom 111 = .ok (.getfield 24, 3) := by decide +kernel
theorem dX4_deliverFrom_114 : decode cX4_deliverFrom 114 = .ok (.iload_n 1, 1) := by decide +kernel
theorem dX4_deliverFrom_115 : decode cX4_deliverFrom 115 = .ok (.iload_n 3, 1) := by decide +kernel
theorem dX4_deliverFrom_116 : decode cX4_deliverFrom 116 = .ok (.invokevirtual 231, 3) := by decide +kernel
theorem dX4_deliverFrom_119 : decode cX4_deliverFrom 119 = .ok (.aload_n 2, 1) := by decide +kernel
theorem dX4_deliverFrom_120 : decode cX4_deliverFrom 120 = .ok (.invokevirtual 234, 3) := by decide +kernel
theorem dX4_deliverFrom_123 : decode cX4_deliverFrom 123 = .ok (.bipush (-3), 2) := by decide +kernel
theorem dX4_deliverFrom_125 : decode cX4_deliverFrom 125 = .ok (.ireturn, 1) := by decide +kernel
theorem dX4_deliverFrom_126 : decode cX4_deliverFrom 126 = .ok (.aload_n 0, 1) := by decide +kernel
theorem dX4_deliverFrom_127 : decode cX4_deliverFrom 127 = .ok (.getfield 24, 3) := by decide +kernel
theorem dX4_deliverFrom_130 : decode cX4_deliverFrom 130 = .ok (.getfield 149, 3) := by decide +kernel
theorem dX4_deliverFrom_133 : decode cX4_deliverFrom 133 = .ok (.iload 4, 2) := by decide +kernel
theorem dX4_deliverFrom_135 : decode cX4_deliverFrom 135 = .ok (.baload, 1) := by decide +kernel
theorem dX4_deliverFrom_136 : decode cX4_deliverFrom 136 = .ok (.ifCond .eq 23, 3) := by decide +kernel
theorem dX4_deliverFrom_139 : decode cX4_deliverFrom 139 = .ok (.aload_n 0, 1) := by decide +kernel
theorem dX4_deliverFrom_140 : decode cX4_deliverFrom 140 = .ok (.getfield 31, 3) := by decide +kernel
theorem dX4_deliverFrom_143 : decode cX4_deliverFrom 143 = .ok (.dup, 1) := by decide +kernel
theorem dX4_deliverFrom_144 : decode cX4_deliverFrom 144 = .ok (.getfield 203, 3) := by decide +kernel
theorem dX4_deliverFrom_147 : decode cX4_deliverFrom 147 = .ok (.iconst 1, 1) := by decide +kernel
theorem dX4_deliverFrom_148 : decode cX4_deliverFrom 148 = .ok (.iadd, 1) := by decide +kernel
theorem dX4_deliverFrom_149 : decode cX4_deliverFrom 149 = .ok (.putfield 203, 3) := by decide +kernel
theorem dX4_deliverFrom_152 : decode cX4_deliverFrom 152 = .ok (.aload_n 2, 1) := by decide +kernel
theorem dX4_deliverFrom_153 : decode cX4_deliverFrom 153 = .ok (.invokevirtual 234, 3) := by decide +kernel
theorem dX4_deliverFrom_156 : decode cX4_deliverFrom 156 = .ok (.bipush (-4), 2) := by decide +kernel
theorem dX4_deliverFrom_158 : decode cX4_deliverFrom 158 = .ok (.ireturn, 1) := by decide +kernel
theorem dX4_deliverFrom_159 : decode cX4_deliverFrom 159 = .ok (.aload_n 0, 1) := by decide +kernel
theorem dX4_deliverFrom_160 : decode cX4_deliverFrom 160 = .ok (.getfield 24, 3) := by decide +kernel
theorem dX4_deliverFrom_163 : decode cX4_deliverFrom 163 = .ok (.iload 4, 2) := by decide +kernel
theorem dX4_deliverFrom_165 : decode cX4_deliverFrom 165 = .ok (.invokevirtual 237, 3) := by decide +kernel
theorem dX4_deliverFrom_168 : decode cX4_deliverFrom 168 = .ok (.iload 6, 2) := by decide +kernel
theorem dX4_deliverFrom_170 : decode cX4_deliverFrom 170 = .ok (.ifCond .ne 7, 3) := by decide +kernel
theorem dX4_deliverFrom_173 : decode cX4_deliverFrom 173 = .ok (.aload_n 2, 1) := by decide +kernel
theorem dX4_deliverFrom_174 : decode cX4_deliverFrom 174 = .ok (.invokevirtual 234, 3) := by decide +kernel
theorem dX4_deliverFrom_177 : decode cX4_deliverFrom 177 = .ok (.iload 4, 2) := by decide +kernel
theorem dX4_deliverFrom_179 : decode cX4_deliverFrom 179 = .ok (.ireturn, 1) := by decide +kernel
theorem dX4_noteLatest_0 : decode cX4_noteLatest 0 = .ok (.aload_n 0, 1) := by decide +kernel
theorem dX4_noteLatest_1 : decode cX4_noteLatest 1 = .ok (.getfield 35, 3) := by decide +kernel
theorem dX4_noteLatest_4 : decode cX4_noteLatest 4 = .ok (.iconst 0, 1) := by decide +kernel
theorem dX4_noteLatest_5 : decode cX4_noteLatest 5 = .ok (.iload_n 1, 1) := by decide +kernel
theorem dX4_noteLatest_6 : decode cX4_noteLatest 6 = .ok (.iastore, 1) := by decide +kernel
theorem dX4_noteLatest_7 : decode cX4_noteLatest 7 = .ok (.aload_n 0, 1) := by decide +kernel
theorem dX4_noteLatest_8 : decode cX4_noteLatest 8 = .ok (.getfield 35, 3) := by decide +kernel
theorem dX4_noteLatest_11 : decode cX4_noteLatest 11 = .ok (.iconst 1, 1) := by decide +kernel
theorem dX4_noteLatest_12 : decode cX4_noteLatest 12 = .ok (.iload_n 2, 1) := by decide +kernel
theorem dX4_noteLatest_13 : decode cX4_noteLatest 13 = .ok (.iastore, 1) := by decide +kernel
theorem dX4_noteLatest_14 : decode cX4_noteLatest 14 = .ok (.aload_n 0, 1) := by decide +kernel
theorem dX4_noteLatest_15 : decode cX4_noteLatest 15 = .ok (.getfield 35, 3) := by decide +kernel
theorem dX4_noteLatest_18 : decode cX4_noteLatest 18 = .ok (.iconst 2, 1) := by decide +kernel
theorem dX4_noteLatest_19 : decode cX4_noteLatest 19 = .ok (.aload_n 0, 1) := by decide +kernel
theorem dX4_noteLatest_20 : decode cX4_noteLatest 20 = .ok (.getfield 11, 3) := by decide +kernel
theorem dX4_noteLatest_23 : decode cX4_noteLatest 23 = .ok (.iload_n 1, 1) := by decide +kernel
theorem dX4_noteLatest_24 : decode cX4_noteLatest 24 = .ok (.aaload, 1) := by decide +kernel
theorem dX4_noteLatest_25 : decode cX4_noteLatest 25 = .ok (.getfield 241, 3) := by decide +kernel
theorem dX4_noteLatest_28 : decode cX4_noteLatest 28 = .ok (.iload_n 2, 1) := by decide +kernel
theorem dX4_noteLatest_29 : decode cX4_noteLatest 29 = .ok (.iaload, 1) := by decide +kernel
theorem dX4_noteLatest_30 : decode cX4_noteLatest 30 = .ok (.iastore, 1) := by decide +kernel
theorem dX4_noteLatest_31 : decode cX4_noteLatest 31 = .ok (.aload_n 0, 1) := by decide +kernel
theorem dX4_noteLatest_32 : decode cX4_noteLatest 32 = .ok (.getfield 35, 3) := by decide +kernel
theorem dX4_noteLatest_35 : decode cX4_noteLatest 35 = .ok (.iconst 3, 1) := by decide +kernel
theorem dX4_noteLatest_36 : decode cX4_noteLatest 36 = .ok (.aload_n 0, 1) := by decide +kernel
theorem dX4_noteLatest_37 : decode cX4_noteLatest 37 = .ok (.getfield 31, 3) := by decide +kernel
theorem dX4_noteLatest_40 : decode cX4_noteLatest 40 = .ok (.getfield 190, 3) := by decide +kernel
theorem dX4_noteLatest_43 : decode cX4_noteLatest 43 = .ok (.iastore, 1) := by decide +kernel
theorem dX4_noteLatest_44 : decode cX4_noteLatest 44 = .ok (.aload_n 0, 1) := by decide +kernel
theorem dX4_noteLatest_45 : decode cX4_noteLatest 45 = .ok (.getfield 35, 3) := by decide +kernel
theorem dX4_noteLatest_48 : decode cX4_noteLatest 48 = .ok (.iconst 4, 1) := by decide +kernel
theorem dX4_noteLatest_49 : decode cX4_noteLatest 49 = .ok (.aload_n 0, 1) := by decide +kernel
theorem dX4_noteLatest_50 : decode cX4_noteLatest 50 = .ok (.getfield 11, 3) := by decide +kernel
theorem dX4_noteLatest_53 : decode cX4_noteLatest 53 = .ok (.iload_n 1, 1) := by decide +kernel
theorem dX4_noteLatest_54 : decode cX4_noteLatest 54 = .ok (.aaload, 1) := by decide +kernel
theorem dX4_noteLatest_55 : decode cX4_noteLatest 55 = .ok (.getfield 142, 3) := by decide +kernel
theorem dX4_noteLatest_58 : decode cX4_noteLatest 58 = .ok (.iastore, 1) := by decide +kernel
theorem dX4_noteLatest_59 : decode cX4_noteLatest 59 = .ok (.return_, 1) := by decide +kernel
theorem dX4_countDone_0 : decode cX4_countDone 0 = .ok (.iconst 0, 1) := by decide +kernel
theorem dX4_countDone_1 : decode cX4_countDone 1 = .ok (.istore_n 1, 1) := by decide +kernel
theorem dX4_countDone_2 : decode cX4_countDone 2 = .ok (.iconst 0, 1) := by decide +kernel
theorem dX4_countDone_3 : decode cX4_countDone 3 = .ok (.istore_n 2, 1) := by decide +kernel
theorem dX4_countDone_4 : decode cX4_countDone 4 = .ok (.iload_n 2, 1) := by decide +kernel
theorem dX4_countDone_5 : decode cX4_countDone 5 = .ok (.aload_n 0, 1) := by decide +kernel
theorem dX4_countDone_6 : decode cX4_countDone 6 = .ok (.getfield 44, 3) := by decide +kernel
theorem dX4_countDone_9 : decode cX4_countDone 9 = .ok (.if_icmp .ge 24, 3) := by decide +kernel
theorem dX4_countDone_12 : decode cX4_countDone 12 = .ok (.aload_n 0, 1) := by decide +kernel
theorem dX4_countDone_13 : decode cX4_countDone 13 = .ok (.getfield 11, 3) := by decide +kernel
theorem dX4_countDone_16 : decode cX4_countDone 16 = .ok (.iload_n 2, 1) := by decide +kernel
theorem dX4_countDone_17 : decode cX4_countDone 17 = .ok (.aaload, 1) := by decide +kernel
theorem dX4_countDone_18 : decode cX4_countDone 18 = .ok (.invokevirtual 89, 3) := by decide +kernel
theorem dX4_countDone_21 : decode cX4_countDone 21 = .ok (.ifCond .eq 6, 3) := by decide +kernel
theorem dX4_countDone_24 : decode cX4_countDone 24 = .ok (.iinc 1 1, 3) := by decide +kernel
theorem dX4_countDone_27 : decode cX4_countDone 27 = .ok (.iinc 2 1, 3) := by decide +kernel
theorem dX4_countDone_30 : decode cX4_countDone 30 = .ok (.goto (-26), 3) := by decide +kernel
theorem dX4_countDone_33 : decode cX4_countDone 33 = .ok (.iload_n 1, 1) := by decide +kernel
theorem dX4_countDone_34 : decode cX4_countDone 34 = .ok (.ireturn, 1) := by decide +kernel
theorem dX5_init_0 : decode cX5_init 0 = .ok (.aload_n 0, 1) := by decide +kernel
theorem dX5_init_1 : decode cX5_init 1 = .ok (.invokespecial 1, 3) := by decide +kernel
theorem dX5_init_4 : decode cX5_init 4 = .ok (.aload_n 0, 1) := by decide +kernel
theorem dX5_init_5 : decode cX5_init 5 = .ok (.iconst 1, 1) := by decide +kernel
theorem dX5_init_6 : decode cX5_init 6 = .ok (.putfield 7, 3) := by decide +kernel
theorem dX5_init_9 : decode cX5_init 9 = .ok (.aload_n 0, 1) := by decide +kernel
theorem dX5_init_10 : decode cX5_init 10 = .ok (.sipush 480, 3) := by decide +kernel
theorem dX5_init_13 : decode cX5_init 13 = .ok (.newarray .int, 2) := by decide +kernel
theorem dX5_init_15 : decode cX5_init 15 = .ok (.putfield 13, 3) := by decide +kernel
theorem dX5_init_18 : decode cX5_init 18 = .ok (.aload_n 0, 1) := by decide +kernel
theorem dX5_init_19 : decode cX5_init 19 = .ok (.sipush 480, 3) := by decide +kernel
theorem dX5_init_22 : decode cX5_init 22 = .ok (.newarray .int, 2) := by decide +kernel
theorem dX5_init_24 : decode cX5_init 24 = .ok (.putfield 17, 3) := by decide +kernel
theorem dX5_init_27 : decode cX5_init 27 = .ok (.aload_n 0, 1) := by decide +kernel
theorem dX5_init_28 : decode cX5_init 28 = .ok (.sipush 480, 3) := by decide +kernel
theorem dX5_init_31 : decode cX5_init 31 = .ok (.newarray .boolean, 2) := by decide +kernel
theorem dX5_init_33 : decode cX5_init 33 = .ok (.putfield 20, 3) := by decide +kernel
theorem dX5_init_36 : decode cX5_init 36 = .ok (.aload_n 0, 1) := by decide +kernel
theorem dX5_init_37 : decode cX5_init 37 = .ok (.bipush 12, 2) := by decide +kernel
theorem dX5_init_39 : decode cX5_init 39 = .ok (.newarray .int, 2) := by decide +kernel
theorem dX5_init_41 : decode cX5_init 41 = .ok (.putfield 24, 3) := by decide +kernel
theorem dX5_init_44 : decode cX5_init 44 = .ok (.aload_n 0, 1) := by decide +kernel
theorem dX5_init_45 : decode cX5_init 45 = .ok (.bipush 12, 2) := by decide +kernel
theorem dX5_init_47 : decode cX5_init 47 = .ok (.newarray .boolean, 2) := by decide +kernel
theorem dX5_init_49 : decode cX5_init 49 = .ok (.putfield 27, 3) := by decide +kernel
theorem dX5_init_52 : decode cX5_init 52 = .ok (.aload_n 0, 1) := by decide +kernel
theorem dX5_init_53 : decode cX5_init 53 = .ok (.bipush 12, 2) := by decide +kernel
theorem dX5_init_55 : decode cX5_init 55 = .ok (.newarray .int, 2) := by decide +kernel
theorem dX5_init_57 : decode cX5_init 57 = .ok (.putfield 30, 3) := by decide +kernel
theorem dX5_init_60 : decode cX5_init 60 = .ok (.aload_n 0, 1) := by decide +kernel
theorem dX5_init_61 : decode cX5_init 61 = .ok (.bipush 12, 2) := by decide +kernel
theorem dX5_init_63 : decode cX5_init 63 = .ok (.newarray .int, 2) := by decide +kernel
theorem dX5_init_65 : decode cX5_init 65 = .ok (.putfield 33, 3) := by decide +kernel
theorem dX5_init_68 : decode cX5_init 68 = .ok (.aload_n 0, 1) := by decide +kernel
theorem dX5_init_69 : decode cX5_init 69 = .ok (.bipush 48, 2) := by decide +kernel
theorem dX5_init_71 : decode cX5_init 71 = .ok (.newarray .int, 2) := by decide +kernel
theorem dX5_init_73 : decode cX5_init 73 = .ok (.putfield 36, 3) := by decide +kernel
theorem dX5_init_76 : decode cX5_init 76 = .ok (.aload_n 0, 1) := by decide +kernel
theorem dX5_init_77 : decode cX5_init 77 = .ok (.sipush 256, 3) := by decide +kernel
theorem dX5_init_80 : decode cX5_init 80 = .ok (.newarray .boolean, 2) := by decide +kernel
theorem dX5_init_82 : decode cX5_init 82 = .ok (.putfield 39, 3) := by decide +kernel
theorem dX5_init_85 : decode cX5_init 85 = .ok (.aload_n 0, 1) := by decide +kernel
theorem dX5_init_86 : decode cX5_init 86 = .ok (.sipush 200, 3) := by decide +kernel
theorem dX5_init_89 : decode cX5_init 89 = .ok (.newarray .int, 2) := by decide +kernel
theorem dX5_init_91 : decode cX5_init 91 = .ok (.putfield 42, 3) := by decide +kernel
theorem dX5_init_94 : decode cX5_init 94 = .ok (.aload_n 0, 1) := by decide +kernel
theorem dX5_init_95 : decode cX5_init 95 = .ok (.sipush 288, 3) := by decide +kernel
theorem dX5_init_98 : decode cX5_init 98 = .ok (.newarray .int, 2) := by decide +kernel
theorem dX5_init_100 : decode cX5_init 100 = .ok (.putfield 45, 3) := by decide +kernel
theorem dX5_init_103 : decode cX5_init 103 = .ok (.aload_n 0, 1) := by decide +kernel
theorem dX5_init_104 : decode cX5_init 104 = .ok (.sipush 1536, 3) := by decide +kernel
theorem dX5_init_107 : decode cX5_init 107 = .ok (.newarray .boolean, 2) := by decide +kernel
theorem dX5_init_109 : decode cX5_init 109 = .ok (.putfield 48, 3) := by decide +kernel
theorem dX5_init_112 : decode cX5_init 112 = .ok (.aload_n 0, 1) := by decide +kernel
theorem dX5_init_113 : decode cX5_init 113 = .ok (.sipush 1200, 3) := by decide +kernel
theorem dX5_init_116 : decode cX5_init 116 = .ok (.newarray .int, 2) := by decide +kernel
theorem dX5_init_118 : decode cX5_init 118 = .ok (.putfield 51, 3) := by decide +kernel
theorem dX5_init_121 : decode cX5_init 121 = .ok (.aload_n 0, 1) := by decide +kernel
theorem dX5_init_122 : decode cX5_init 122 = .ok (.bipush 6, 2) := by decide +kernel
theorem dX5_init_124 : decode cX5_init 124 = .ok (.newarray .int, 2) := by decide +kernel
theorem dX5_init_126 : decode cX5_init 126 = .ok (.putfield 54, 3) := by decide +kernel
theorem dX5_init_129 : decode cX5_init 129 = .ok (.aload_n 0, 1) := by decide +kernel
theorem dX5_init_130 : decode cX5_init 130 = .ok (.bipush 6, 2) := by decide +kernel
theorem dX5_init_132 : decode cX5_init 132 = .ok (.newarray .int, 2) := by decide +kernel
theorem dX5_init_134 : decode cX5_init 134 = .ok (.putfield 57, 3) := by decide +kernel
theorem dX5_init_137 : decode cX5_init 137 = .ok (.aload_n 0, 1) := by decide +kernel
theorem dX5_init_138 : decode cX5_init 138 = .ok (.bipush 64, 2) := by decide +kernel
theorem dX5_init_140 : decode cX5_init 140 = .ok (.newarray .boolean, 2) := by decide +kernel
theorem dX5_init_142 : decode cX5_init 142 = .ok (.putfield 60, 3) := by decide +kernel
theorem dX5_init_145 : decode cX5_init 145 = .ok (.aload_n 0, 1) := by decide +kernel
theorem dX5_init_146 : decode cX5_init 146 = .ok (.bipush 64, 2) := by decide +kernel
theorem dX5_init_148 : decode cX5_init 148 = .ok (.newarray .boolean, 2) := by decide +kernel
theorem dX5_init_150 : decode cX5_init 150 = .ok (.putfield 63, 3) := by decide +kernel
theorem dX5_init_153 : decode cX5_init 153 = .ok (.aload_n 0, 1) := by decide +kernel
theorem dX5_init_154 : decode cX5_init 154 = .ok (.iconst 5, 1) := by decide +kernel
theorem dX5_init_155 : decode cX5_init 155 = .ok (.newarray .int, 2) := by decide +kernel
theorem dX5_init_157 : decode cX5_init 157 = .ok (.putfield 66, 3) := by decide +kernel
theorem dX5_init_160 : decode cX5_init 160 = .ok (.aload_n 0, 1) := by decide +kernel
theorem dX5_init_161 : decode cX5_init 161 = .ok (.invokevirtual 69, 3) := by decide +kernel
theorem dX5_init_164 : decode cX5_init 164 = .ok (.return_, 1) := by decide +kernel
theorem dX5_forgets_0 : decode cX5_forgets 0 = .ok (.iconst 0, 1) := by decide +kernel
theorem dX5_forgets_1 : decode cX5_forgets 1 = .ok (.istore_n 1, 1) := by decide +kernel
theorem dX5_forgets_2 : decode cX5_forgets 2 = .ok (.iload_n 1, 1) := by decide +kernel
theorem dX5_forgets_3 : decode cX5_forgets 3 = .ok (.iconst 5, 1) := by decide +kernel
theorem dX5_forgets_4 : decode cX5_forgets 4 = .ok (.if_icmp .ge 16, 3) := by decide +kernel
theorem dX5_forgets_7 : decode cX5_forgets 7 = .ok (.aload_n 0, 1) := by decide +kernel
theorem dX5_forgets_8 : decode cX5_forgets 8 = .ok (.getfield 66, 3) := by decide +kernel
theorem dX5_forgets_11 : decode cX5_forgets 11 = .ok (.iload_n 1, 1) := by decide +kernel
theorem dX5_forgets_12 : decode cX5_forgets 12 = .ok (.iconst (-1), 1) := by decide +kernel
theorem dX5_forgets_13 : decode cX5_forgets 13 = .ok (.iastore, 1) := by decide +kernel
theorem dX5_forgets_14 : decode cX5_forgets 14 = .ok (.iinc 1 1, 3) := by decide +kernel
theorem dX5_forgets_17 : decode cX5_forgets 17 = .ok (.goto (-15), 3) := by decide +kernel
theorem dX5_forgets_20 : decode cX5_forgets 20 = .ok (.return_, 1) := by decide +kernel
theorem dX5_thrown_0 : decode cX5_thrown 0 = .ok (.aload_n 0, 1) := by decide +kernel
theorem dX5_thrown_1 : decode cX5_thrown 1 = .ok (.getfield 72, 3) := by decide +kernel
theorem dX5_thrown_4 : decode cX5_thrown 4 = .ok (.ireturn, 1) := by decide +kernel
theorem dX5_in_0 : decode cX5_in 0 = .ok (.iload_n 0, 1) := by decide +kernel
theorem dX5_in_1 : decode cX5_in 1 = .ok (.iload_n 1, 1) := by decide +kernel
theorem dX5_in_2 : decode cX5_in 2 = .ok (.if_icmp .lt 12, 3) := by decide +kernel
theorem dX5_in_5 : decode cX5_in 5 = .ok (.iload_n 0, 1) := by decide +kernel
theorem dX5_in_6 : decode cX5_in 6 = .ok (.iload_n 2, 1) := by decide +kernel
theorem dX5_in_7 : decode cX5_in 7 = .ok (.if_icmp .gt 7, 3) := by decide +kernel
theorem dX5_in_10 : decode cX5_in 10 = .ok (.iconst 1, 1) := by decide +kernel
theorem dX5_in_11 : decode cX5_in 11 = .ok (.goto 4, 3) := by decide +kernel
theorem dX5_in_14 : decode cX5_in 14 = .ok (.iconst 0, 1) := by decide +kernel
theorem dX5_in_15 : decode cX5_in 15 = .ok (.ireturn, 1) := by decide +kernel
theorem dX5_isPart_0 : decode cX5_isPart 0 = .ok (.iload_n 1, 1) := by decide +kernel
theorem dX5_isPart_1 : decode cX5_isPart 1 = .ok (.iconst 0, 1) := by decide +kernel
theorem dX5_isPart_2 : decode cX5_isPart 2 = .ok (.aload_n 0, 1) := by decide +kernel
theorem dX5_isPart_3 : decode cX5_isPart 3 = .ok (.getfield 75, 3) := by decide +kernel
theorem dX5_isPart_6 : decode cX5_isPart 6 = .ok (.iconst 1, 1) := by decide +kernel
theorem dX5_isPart_7 : decode cX5_isPart 7 = .ok (.isub, 1) := by decide +kernel
theorem dX5_isPart_8 : decode cX5_isPart 8 = .ok (.invokestatic 78, 3) := by decide +kernel
theorem dX5_isPart_11 : decode cX5_isPart 11 = .ok (.ireturn, 1) := by decide +kernel
theorem dX5_isReady_0 : decode cX5_isReady 0 = .ok (.aload_n 0, 1) := by decide +kernel
theorem dX5_isReady_1 : decode cX5_isReady 1 = .ok (.getfield 36, 3) := by decide +kernel
theorem dX5_isReady_4 : decode cX5_isReady 4 = .ok (.iload_n 1, 1) := by decide +kernel
theorem dX5_isReady_5 : decode cX5_isReady 5 = .ok (.iaload, 1) := by decide +kernel
theorem dX5_isReady_6 : decode cX5_isReady 6 = .ok (.aload_n 0, 1) := by decide +kernel
theorem dX5_isReady_7 : decode cX5_isReady 7 = .ok (.getfield 24, 3) := by decide +kernel
theorem dX5_isReady_10 : decode cX5_isReady 10 = .ok (.iload_n 1, 1) := by decide +kernel
theorem dX5_isReady_11 : decode cX5_isReady 11 = .ok (.iaload, 1) := by decide +kernel
theorem dX5_isReady_12 : decode cX5_isReady 12 = .ok (.if_icmp .ge 7, 3) := by decide +kernel
theorem dX5_isReady_15 : decode cX5_isReady 15 = .ok (.iconst 1, 1) := by decide +kernel
theorem dX5_isReady_16 : decode cX5_isReady 16 = .ok (.goto 4, 3) := by decide +kernel
theorem dX5_isReady_19 : decode cX5_isReady 19 = .ok (.iconst 0, 1) := by decide +kernel
theorem dX5_isReady_20 : decode cX5_isReady 20 = .ok (.ireturn, 1) := by decide +kernel
theorem dX5_isDone_0 : decode cX5_isDone 0 = .ok (.aload_n 0, 1) := by decide +kernel
theorem dX5_isDone_1 : decode cX5_isDone 1 = .ok (.getfield 27, 3) := by decide +kernel
theorem dX5_isDone_4 : decode cX5_isDone 4 = .ok (.iload_n 1, 1) := by decide +kernel
theorem dX5_isDone_5 : decode cX5_isDone 5 = .ok (.baload, 1) := by decide +kernel
theorem dX5_isDone_6 : decode cX5_isDone 6 = .ok (.ifCond .eq 15, 3) := by decide +kernel
theorem dX5_isDone_9 : decode cX5_isDone 9 = .ok (.aload_n 0, 1) := by decide +kernel
theorem dX5_isDone_10 : decode cX5_isDone 10 = .ok (.iload_n 1, 1) := by decide +kernel
theorem dX5_isDone_11 : decode cX5_isDone 11 = .ok (.invokevirtual 82, 3) := by decide +kernel
theorem dX5_isDone_14 : decode cX5_isDone 14 = .ok (.ifCond .ne 7, 3) := by decide +kernel
theorem dX5_isDone_17 : decode cX5_isDone 17 = .ok (.iconst 1, 1) := by decide +kernel
theorem dX5_isDone_18 : decode cX5_isDone 18 = .ok (.goto 4, 3) := by decide +kernel
theorem dX5_isDone_21 : decode cX5_isDone 21 = .ok (.iconst 0, 1) := by decide +kernel
theorem dX5_isDone_22 : decode cX5_isDone 22 = .ok (.ireturn, 1) := by decide +kernel
theorem dX5_reader_0 : decode cX5_reader 0 = .ok (.aload_n 0, 1) := by decide +kernel
theorem dX5_reader_1 : decode cX5_reader 1 = .ok (.getfield 36, 3) := by decide +kernel
theorem dX5_reader_4 : decode cX5_reader 4 = .ok (.bipush 36, 2) := by decide +kernel
theorem dX5_reader_6 : decode cX5_reader 6 = .ok (.iload_n 1, 1) := by decide +kernel
theorem dX5_reader_7 : decode cX5_reader 7 = .ok (.iadd, 1) := by decide +kernel
theorem dX5_reader_8 : decode cX5_reader 8 = .ok (.iaload, 1) := by decide +kernel
theorem dX5_reader_9 : decode cX5_reader 9 = .ok (.ireturn, 1) := by decide +kernel
theorem dX5_fresh_0 : decode cX5_fresh 0 = .ok (.aload_n 0, 1) := by decide +kernel
theorem dX5_fresh_1 : decode cX5_fresh 1 = .ok (.getfield 36, 3) := by decide +kernel
theorem dX5_fresh_4 : decode cX5_fresh 4 = .ok (.iload_n 1, 1) := by decide +kernel
theorem dX5_fresh_5 : decode cX5_fresh 5 = .ok (.iconst 0, 1) := by decide +kernel
theorem dX5_fresh_6 : decode cX5_fresh 6 = .ok (.iastore, 1) := by decide +kernel
theorem dX5_fresh_7 : decode cX5_fresh 7 = .ok (.aload_n 0, 1) := by decide +kernel
theorem dX5_fresh_8 : decode cX5_fresh 8 = .ok (.getfield 36, 3) := by decide +kernel
theorem dX5_fresh_11 : decode cX5_fresh 11 = .ok (.bipush 12, 2) := by decide +kernel
theorem dX5_fresh_13 : decode cX5_fresh 13 = .ok (.iload_n 1, 1) := by decide +kernel
theorem dX5_fresh_14 : decode cX5_fresh 14 = .ok (.iadd, 1) := by decide +kernel
theorem dX5_fresh_15 : decode cX5_fresh 15 = .ok (.iconst (-1), 1) := by decide +kernel
theorem dX5_fresh_16 : decode cX5_fresh 16 = .ok (.iastore, 1) := by decide +kernel
theorem dX5_fresh_17 : decode cX5_fresh 17 = .ok (.aload_n 0, 1) := by decide +kernel
theorem dX5_fresh_18 : decode cX5_fresh 18 = .ok (.getfield 36, 3) := by decide +kernel
theorem dX5_fresh_21 : decode cX5_fresh 21 = .ok (.bipush 24, 2) := by decide +kernel
theorem dX5_fresh_23 : decode cX5_fresh 23 = .ok (.iload_n 1, 1) := by decide +kernel
theorem dX5_fresh_24 : decode cX5_fresh 24 = .ok (.iadd, 1) := by decide +kernel
theorem dX5_fresh_25 : decode cX5_fresh 25 = .ok (.iconst 0, 1) := by decide +kernel
theorem dX5_fresh_26 : decode cX5_fresh 26 = .ok (.iastore, 1) := by decide +kernel
theorem dX5_fresh_27 : decode cX5_fresh 27 = .ok (.aload_n 0, 1) := by decide +kernel
theorem dX5_fresh_28 : decode cX5_fresh 28 = .ok (.getfield 36, 3) := by decide +kernel
theorem dX5_fresh_31 : decode cX5_fresh 31 = .ok (.bipush 36, 2) := by decide +kernel
theorem dX5_fresh_33 : decode cX5_fresh 33 = .ok (.iload_n 1, 1) := by decide +kernel
theorem dX5_fresh_34 : decode cX5_fresh 34 = .ok (.iadd, 1) := by decide +kernel
theorem dX5_fresh_35 : decode cX5_fresh 35 = .ok (.iconst (-1), 1) := by decide +kernel
theorem dX5_fresh_36 : decode cX5_fresh 36 = .ok (.iastore, 1) := by decide +kernel
theorem dX5_fresh_37 : decode cX5_fresh 37 = .ok (.return_, 1) := by decide +kernel
theorem dX5_adds_0 : decode cX5_adds 0 = .ok (.aload_n 0, 1) := by decide +kernel
theorem dX5_adds_1 : decode cX5_adds 1 = .ok (.getfield 24, 3) := by decide +kernel
theorem dX5_adds_4 : decode cX5_adds 4 = .ok (.aload_n 0, 1) := by decide +kernel
theorem dX5_adds_5 : decode cX5_adds 5 = .ok (.getfield 75, 3) := by decide +kernel
theorem dX5_adds_8 : decode cX5_adds 8 = .ok (.iconst 0, 1) := by decide +kernel
theorem dX5_adds_9 : decode cX5_adds 9 = .ok (.iastore, 1) := by decide +kernel
theorem dX5_adds_10 : decode cX5_adds 10 = .ok (.aload_n 0, 1) := by decide +kernel
theorem dX5_adds_11 : decode cX5_adds 11 = .ok (.getfield 27, 3) := by decide +kernel
theorem dX5_adds_14 : decode cX5_adds 14 = .ok (.aload_n 0, 1) := by decide +kernel
theorem dX5_adds_15 : decode cX5_adds 15 = .ok (.getfield 75, 3) := by decide +kernel
theorem dX5_adds_18 : decode cX5_adds 18 = .ok (.iconst 0, 1) := by decide +kernel
theorem dX5_adds_19 : decode cX5_adds 19 = .ok (.bastore, 1) := by decide +kernel
theorem dX5_adds_20 : decode cX5_adds 20 = .ok (.aload_n 0, 1) := by decide +kernel
theorem dX5_adds_21 : decode cX5_adds 21 = .ok (.getfield 30, 3) := by decide +kernel
theorem dX5_adds_24 : decode cX5_adds 24 = .ok (.aload_n 0, 1) := by decide +kernel
theorem dX5_adds_25 : decode cX5_adds 25 = .ok (.getfield 75, 3) := by decide +kernel
theorem dX5_adds_28 : decode cX5_adds 28 = .ok (.iload_n 1, 1) := by decide +kernel
theorem dX5_adds_29 : decode cX5_adds 29 = .ok (.iastore, 1) := by decide +kernel
theorem dX5_adds_30 : decode cX5_adds 30 = .ok (.aload_n 0, 1) := by decide +kernel
theorem dX5_adds_31 : decode cX5_adds 31 = .ok (.getfield 33, 3) := by decide +kernel
theorem dX5_adds_34 : decode cX5_adds 34 = .ok (.aload_n 0, 1) := by decide +kernel
theorem dX5_adds_35 : decode cX5_adds 35 = .ok (.getfield 75, 3) := by decide +kernel
theorem dX5_adds_38 : decode cX5_adds 38 = .ok (.iload_n 2, 1) := by decide +kernel
theorem dX5_adds_39 : decode cX5_adds 39 = .ok (.iastore, 1) := by decide +kernel
theorem dX5_adds_40 : decode cX5_adds 40 = .ok (.aload_n 0, 1) := by decide +kernel
theorem dX5_adds_41 : decode cX5_adds 41 = .ok (.aload_n 0, 1) := by decide +kernel
theorem dX5_adds_42 : decode cX5_adds 42 = .ok (.getfield 75, 3) := by decide +kernel
theorem dX5_adds_45 : decode cX5_adds 45 = .ok (.invokevirtual 86, 3) := by decide +kernel
theorem dX5_adds_48 : decode cX5_adds 48 = .ok (.aload_n 0, 1) := by decide +kernel
theorem dX5_adds_49 : decode cX5_adds 49 = .ok (.dup, 1) := by decide +kernel
theorem dX5_adds_50 : decode cX5_adds 50 = .ok (.getfield 75, 3) := by decide +kernel
theorem dX5_adds_53 : decode cX5_adds 53 = .ok (.iconst 1, 1) := by decide +kernel
theorem dX5_adds_54 : decode cX5_adds 54 = .ok (.iadd, 1) := by decide +kernel
theorem dX5_adds_55 : decode cX5_adds 55 = .ok (.putfield 75, 3) := by decide +kernel
theorem dX5_adds_58 : decode cX5_adds 58 = .ok (.aload_n 0, 1) := by decide +kernel
theorem dX5_adds_59 : decode cX5_adds 59 = .ok (.getfield 75, 3) := by decide +kernel
theorem dX5_adds_62 : decode cX5_adds 62 = .ok (.iconst 1, 1) := by decide +kernel
theorem dX5_adds_63 : decode cX5_adds 63 = .ok (.isub, 1) := by decide +kernel
theorem dX5_adds_64 : decode cX5_adds 64 = .ok (.ireturn, 1) := by decide +kernel
theorem dX5_part_0 : decode cX5_part 0 = .ok (.aload_n 0, 1) := by decide +kernel
theorem dX5_part_1 : decode cX5_part 1 = .ok (.iconst 0, 1) := by decide +kernel
theorem dX5_part_2 : decode cX5_part 2 = .ok (.putfield 72, 3) := by decide +kernel
theorem dX5_part_5 : decode cX5_part 5 = .ok (.iload_n 1, 1) := by decide +kernel
theorem dX5_part_6 : decode cX5_part 6 = .ok (.iconst 1, 1) := by decide +kernel
theorem dX5_part_7 : decode cX5_part 7 = .ok (.bipush 9, 2) := by decide +kernel
theorem dX5_part_9 : decode cX5_part 9 = .ok (.invokestatic 78, 3) := by decide +kernel
theorem dX5_part_12 : decode cX5_part 12 = .ok (.ifCond .ne 8, 3) := by decide +kernel
theorem dX5_part_15 : decode cX5_part 15 = .ok (.bipush (-12), 2) := by decide +kernel
theorem dX5_part_17 : decode cX5_part 17 = .ok (.goto 23, 3) := by decide +kernel
theorem dX5_part_20 : decode cX5_part 20 = .ok (.aload_n 0, 1) := by decide +kernel
theorem dX5_part_21 : decode cX5_part 21 = .ok (.getfield 75, 3) := by decide +kernel
theorem dX5_part_24 : decode cX5_part 24 = .ok (.bipush 12, 2) := by decide +kernel
theorem dX5_part_26 : decode cX5_part 26 = .ok (.if_icmp .ne 8, 3) := by decide +kernel
theorem dX5_part_29 : decode cX5_part 29 = .ok (.bipush (-14), 2) := by decide +kernel
theorem dX5_part_31 : decode cX5_part 31 = .ok (.goto 9, 3) := by decide +kernel
theorem dX5_part_34 : decode cX5_part 34 = .ok (.aload_n 0, 1) := by decide +kernel
theorem dX5_part_35 : decode cX5_part 35 = .ok (.iload_n 1, 1) := by decide +kernel
theorem dX5_part_36 : decode cX5_part 36 = .ok (.iconst (-1), 1) := by decide +kernel
theorem dX5_part_37 : decode cX5_part 37 = .ok (.invokevirtual 90, 3) := by decide +kernel
theorem dX5_part_40 : decode cX5_part 40 = .ok (.ireturn, 1) := by decide +kernel
theorem dX5_lays_0 : decode cX5_lays 0 = .ok (.bipush 40, 2) := by decide +kernel
theorem dX5_lays_2 : decode cX5_lays 2 = .ok (.iload_n 1, 1) := by decide +kernel
theorem dX5_lays_3 : decode cX5_lays 3 = .ok (.imul, 1) := by decide +kernel
theorem dX5_lays_4 : decode cX5_lays 4 = .ok (.aload_n 0, 1) := by decide +kernel
theorem dX5_lays_5 : decode cX5_lays 5 = .ok (.getfield 24, 3) := by decide +kernel
theorem dX5_lays_8 : decode cX5_lays 8 = .ok (.iload_n 1, 1) := by decide +kernel
theorem dX5_lays_9 : decode cX5_lays 9 = .ok (.iaload, 1) := by decide +kernel
theorem dX5_lays_10 : decode cX5_lays 10 = .ok (.iadd, 1) := by decide +kernel
theorem dX5_lays_11 : decode cX5_lays 11 = .ok (.istore 5, 2) := by decide +kernel
theorem dX5_lays_13 : decode cX5_lays 13 = .ok (.aload_n 0, 1) := by decide +kernel
theorem dX5_lays_14 : decode cX5_lays 14 = .ok (.getfield 13, 3) := by decide +kernel
theorem dX5_lays_17 : decode cX5_lays 17 = .ok (.iload 5, 2) := by decide +kernel
theorem dX5_lays_19 : decode cX5_lays 19 = .ok (.iload_n 2, 1) := by decide +kernel
theorem dX5_lays_20 : decode cX5_lays 20 = .ok (.iastore, 1) := by decide +kernel
theorem dX5_lays_21 : decode cX5_lays 21 = .ok (.aload_n 0, 1) := by decide +kernel
theorem dX5_lays_22 : decode cX5_lays 22 = .ok (.getfield 17, 3) := by decide +kernel
theorem dX5_lays_25 : decode cX5_lays 25 = .ok (.iload 5, 2) := by decide +kernel
theorem dX5_lays_27 : decode cX5_lays 27 = .ok (.iload_n 3, 1) := by decide +kernel
theorem dX5_lays_28 : decode cX5_lays 28 = .ok (.iastore, 1) := by decide +kernel
theorem dX5_lays_29 : decode cX5_lays 29 = .ok (.aload_n 0, 1) := by decide +kernel
theorem dX5_lays_30 : decode cX5_lays 30 = .ok (.getfield 20, 3) := by decide +kernel
theorem dX5_lays_33 : decode cX5_lays 33 = .ok (.iload 5, 2) := by decide +kernel
theorem dX5_lays_35 : decode cX5_lays 35 = .ok (.iload 4, 2) := by decide +kernel
theorem dX5_lays_37 : decode cX5_lays 37 = .ok (.bastore, 1) := by decide +kernel
theorem dX5_lays_38 : decode cX5_lays 38 = .ok (.aload_n 0, 1) := by decide +kernel
theorem dX5_lays_39 : decode cX5_lays 39 = .ok (.getfield 24, 3) := by decide +kernel
theorem dX5_lays_42 : decode cX5_lays 42 = .ok (.iload_n 1, 1) := by decide +kernel
theorem dX5_lays_43 : decode cX5_lays 43 = .ok (.dup2, 1) := by decide +kernel
theorem dX5_lays_44 : decode cX5_lays 44 = .ok (.iaload, 1) := by decide +kernel
theorem dX5_lays_45 : decode cX5_lays 45 = .ok (.iconst 1, 1) := by decide +kernel
theorem dX5_lays_46 : decode cX5_lays 46 = .ok (.iadd, 1) := by decide +kernel
theorem dX5_lays_47 : decode cX5_lays 47 = .ok (.iastore, 1) := by decide +kernel
theorem dX5_lays_48 : decode cX5_lays 48 = .ok (.return_, 1) := by decide +kernel
theorem dX5_row_0 : decode cX5_row 0 = .ok (.aload_n 0, 1) := by decide +kernel
theorem dX5_row_1 : decode cX5_row 1 = .ok (.iconst 0, 1) := by decide +kernel
theorem dX5_row_2 : decode cX5_row 2 = .ok (.putfield 72, 3) := by decide +kernel
theorem dX5_row_5 : decode cX5_row 5 = .ok (.aload_n 0, 1) := by decide +kernel
theorem dX5_row_6 : decode cX5_row 6 = .ok (.iload_n 1, 1) := by decide +kernel
theorem dX5_row_7 : decode cX5_row 7 = .ok (.invokevirtual 94, 3) := by decide +kernel
theorem dX5_row_10 : decode cX5_row 10 = .ok (.ifCond .ne 6, 3) := by decide +kernel
theorem dX5_row_13 : decode cX5_row 13 = .ok (.bipush (-11), 2) := by decide +kernel
theorem dX5_row_15 : decode cX5_row 15 = .ok (.ireturn, 1) := by decide +kernel
theorem dX5_row_16 : decode cX5_row 16 = .ok (.iload_n 2, 1) := by decide +kernel
theorem dX5_row_17 : decode cX5_row 17 = .ok (.iconst 0, 1) := by decide +kernel
theorem dX5_row_18 : decode cX5_row 18 = .ok (.sipush 255, 3) := by decide +kernel
theorem dX5_row_21 : decode cX5_row 21 = .ok (.invokestatic 78, 3) := by decide +kernel
theorem dX5_row_24 : decode cX5_row 24 = .ok (.ifCond .eq 13, 3) := by decide +kernel
theorem dX5_row_27 : decode cX5_row 27 = .ok (.iload_n 3, 1) := by decide +kernel
theorem dX5_row_28 : decode cX5_row 28 = .ok (.iconst 0, 1) := by decide +kernel
theorem dX5_row_29 : decode cX5_row 29 = .ok (.ldc 97, 2) := by decide +kernel
theorem dX5_row_31 : decode cX5_row 31 = .ok (.invokestatic 78, 3) := by decide +kernel
theorem dX5_row_34 : decode cX5_row 34 = .ok (.ifCond .ne 6, 3) := by decide +kernel
theorem dX5_row_37 : decode cX5_row 37 = .ok (.bipush (-12), 2) := by decide +kernel
theorem dX5_row_39 : decode cX5_row 39 = .ok (.ireturn, 1) := by decide +kernel
theorem dX5_row_40 : decode cX5_row 40 = .ok (.aload_n 0, 1) := by decide +kernel
theorem dX5_row_41 : decode cX5_row 41 = .ok (.getfield 27, 3) := by decide +kernel
theorem dX5_row_44 : decode cX5_row 44 = .ok (.iload_n 1, 1) := by decide +kernel
theorem dX5_row_45 : decode cX5_row 45 = .ok (.baload, 1) := by decide +kernel
theorem dX5_row_46 : decode cX5_row 46 = .ok (.ifCond .eq 6, 3) := by decide +kernel
theorem dX5_row_49 : decode cX5_row 49 = .ok (.bipush (-13), 2) := by decide +kernel
theorem dX5_row_51 : decode cX5_row 51 = .ok (.ireturn, 1) := by decide +kernel
theorem dX5_row_52 : decode cX5_row 52 = .ok (.aload_n 0, 1) := by decide +kernel
theorem dX5_row_53 : decode cX5_row 53 = .ok (.getfield 24, 3) := by decide +kernel
theorem dX5_row_56 : decode cX5_row 56 = .ok (.iload_n 1, 1) := by decide +kernel
theorem dX5_row_57 : decode cX5_row 57 = .ok (.iaload, 1) := by decide +kernel
theorem dX5_row_58 : decode cX5_row 58 = .ok (.bipush 40, 2) := by decide +kernel
theorem dX5_row_60 : decode cX5_row 60 = .ok (.if_icmp .ne 6, 3) := by decide +kernel
theorem dX5_row_63 : decode cX5_row 63 = .ok (.bipush (-14), 2) := by decide +kernel
theorem dX5_row_65 : decode cX5_row 65 = .ok (.ireturn, 1) := by decide +kernel
theorem dX5_row_66 : decode cX5_row 66 = .ok (.aload_n 0, 1) := by decide +kernel
theorem dX5_row_67 : decode cX5_row 67 = .ok (.iload_n 1, 1) := by decide +kernel
theorem dX5_row_68 : decode cX5_row 68 = .ok (.iload_n 2, 1) := by decide +kernel
theorem dX5_row_69 : decode cX5_row 69 = .ok (.iload_n 3, 1) := by decide +kernel
theorem dX5_row_70 : decode cX5_row 70 = .ok (.iload 4, 2) := by decide +kernel
theorem dX5_row_72 : decode cX5_row 72 = .ok (.invokevirtual 98, 3) := by decide +kernel
theorem dX5_row_75 : decode cX5_row 75 = .ok (.aload_n 0, 1) := by decide +kernel
theorem dX5_row_76 : decode cX5_row 76 = .ok (.getfield 24, 3) := by decide +kernel
theorem dX5_row_79 : decode cX5_row 79 = .ok (.iload_n 1, 1) := by decide +kernel
theorem dX5_row_80 : decode cX5_row 80 = .ok (.iaload, 1) := by decide +kernel
theorem dX5_row_81 : decode cX5_row 81 = .ok (.ireturn, 1) := by decide +kernel
theorem dX5_end_0 : decode cX5_end 0 = .ok (.aload_n 0, 1) := by decide +kernel
theorem dX5_end_1 : decode cX5_end 1 = .ok (.iconst 0, 1) := by decide +kernel
theorem dX5_end_2 : decode cX5_end 2 = .ok (.putfield 72, 3) := by decide +kernel
theorem dX5_end_5 : decode cX5_end 5 = .ok (.aload_n 0, 1) := by decide +kernel
theorem dX5_end_6 : decode cX5_end 6 = .ok (.iload_n 1, 1) := by decide +kernel
theorem dX5_end_7 : decode cX5_end 7 = .ok (.invokevirtual 94, 3) := by decide +kernel
theorem dX5_end_10 : decode cX5_end 10 = .ok (.ifCond .ne 6, 3) := by decide +kernel
theorem dX5_end_13 : decode cX5_end 13 = .ok (.bipush (-11), 2) := by decide +kernel
theorem dX5_end_15 : decode cX5_end 15 = .ok (.ireturn, 1) := by decide +kernel
theorem dX5_end_16 : decode cX5_end 16 = .ok (.aload_n 0, 1) := by decide +kernel
theorem dX5_end_17 : decode cX5_end 17 = .ok (.getfield 27, 3) := by decide +kernel
theorem dX5_end_20 : decode cX5_end 20 = .ok (.iload_n 1, 1) := by decide +kernel
theorem dX5_end_21 : decode cX5_end 21 = .ok (.baload, 1) := by decide +kernel
theorem dX5_end_22 : decode cX5_end 22 = .ok (.ifCond .eq 6, 3) := by decide +kernel
theorem dX5_end_25 : decode cX5_end 25 = .ok (.bipush (-13), 2) := by decide +kernel
theorem dX5_end_27 : decode cX5_end 27 = .ok (.ireturn, 1) := by decide +kernel
theorem dX5_end_28 : decode cX5_end 28 = .ok (.aload_n 0, 1) := by decide +kernel
theorem dX5_end_29 : decode cX5_end 29 = .ok (.getfield 27, 3) := by decide +kernel
theorem dX5_end_32 : decode cX5_end 32 = .ok (.iload_n 1, 1) := by decide +kernel
theorem dX5_end_33 : decode cX5_end 33 = .ok (.iconst 1, 1) := by decide +kernel
theorem dX5_end_34 : decode cX5_end 34 = .ok (.bastore, 1) := by decide +kernel
theorem dX5_end_35 : decode cX5_end 35 = .ok (.aload_n 0, 1) := by decide +kernel
theorem dX5_end_36 : decode cX5_end 36 = .ok (.getfield 24, 3) := by decide +kernel
theorem dX5_end_39 : decode cX5_end 39 = .ok (.iload_n 1, 1) := by decide +kernel
theorem dX5_end_40 : decode cX5_end 40 = .ok (.iaload, 1) := by decide +kernel
theorem dX5_end_41 : decode cX5_end 41 = .ok (.ireturn, 1) := by decide +kernel
theorem dX5_split_0 : decode cX5_split 0 = .ok (.aload_n 0, 1) := by decide +kernel
theorem dX5_split_1 : decode cX5_split 1 = .ok (.iconst 0, 1) := by decide +kernel
theorem dX5_split_2 : decode cX5_split 2 = .ok (.putfield 72, 3) := by decide +kernel
theorem dX5_split_5 : decode cX5_split 5 = .ok (.aload_n 0, 1) := by decide +kernel
theorem dX5_split_6 : decode cX5_split 6 = .ok (.iload_n 1, 1) := by decide +kernel
theorem dX5_split_7 : decode cX5_split 7 = .ok (.invokevirtual 94, 3) := by decide +kernel
theorem dX5_split_10 : decode cX5_split 10 = .ok (.ifCond .eq 19, 3) := by decide +kernel
theorem dX5_split_13 : decode cX5_split 13 = .ok (.iload_n 2, 1) := by decide +kernel
theorem dX5_split_14 : decode cX5_split 14 = .ok (.iconst 0, 1) := by decide +kernel
theorem dX5_split_15 : decode cX5_split 15 = .ok (.aload_n 0, 1) := by decide +kernel
theorem dX5_split_16 : decode cX5_split 16 = .ok (.getfield 24, 3) := by decide +kernel
theorem dX5_split_19 : decode cX5_split 19 = .ok (.iload_n 1, 1) := by decide +kernel
theorem dX5_split_20 : decode cX5_split 20 = .ok (.iaload, 1) := by decide +kernel
theorem dX5_split_21 : decode cX5_split 21 = .ok (.iconst 1, 1) := by decide +kernel
theorem dX5_split_22 : decode cX5_split 22 = .ok (.isub, 1) := by decide +kernel
theorem dX5_split_23 : decode cX5_split 23 = .ok (.invokestatic 78, 3) := by decide +kernel
theorem dX5_split_26 : decode cX5_split 26 = .ok (.ifCond .ne 6, 3) := by decide +kernel
theorem dX5_split_29 : decode cX5_split 29 = .ok (.bipush (-11), 2) := by decide +kernel
theorem dX5_split_31 : decode cX5_split 31 = .ok (.ireturn, 1) := by decide +kernel
theorem dX5_split_32 : decode cX5_split 32 = .ok (.iload_n 2, 1) := by decide +kernel
theorem dX5_split_33 : decode cX5_split 33 = .ok (.ifCond .eq 13, 3) := by decide +kernel
theorem dX5_split_36 : decode cX5_split 36 = .ok (.iload_n 2, 1) := by decide +kernel
theorem dX5_split_37 : decode cX5_split 37 = .ok (.aload_n 0, 1) := by decide +kernel
theorem dX5_split_38 : decode cX5_split 38 = .ok (.getfield 36, 3) := by decide +kernel
theorem dX5_split_41 : decode cX5_split 41 = .ok (.iload_n 1, 1) := by decide +kernel
theorem dX5_split_42 : decode cX5_split 42 = .ok (.iaload, 1) := by decide +kernel
theorem dX5_split_43 : decode cX5_split 43 = .ok (.if_icmp .ge 6, 3) := by decide +kernel
theorem dX5_split_46 : decode cX5_split 46 = .ok (.bipush (-13), 2) := by decide +kernel
theorem dX5_split_48 : decode cX5_split 48 = .ok (.ireturn, 1) := by decide +kernel
theorem dX5_split_49 : decode cX5_split 49 = .ok (.aload_n 0, 1) := by decide +kernel
theorem dX5_split_50 : decode cX5_split 50 = .ok (.getfield 75, 3) := by decide +kernel
theorem dX5_split_53 : decode cX5_split 53 = .ok (.bipush 12, 2) := by decide +kernel
theorem dX5_split_55 : decode cX5_split 55 = .ok (.if_icmp .ne 6, 3) := by decide +kernel
theorem dX5_split_58 : decode cX5_split 58 = .ok (.bipush (-14), 2) := by decide +kernel
theorem dX5_split_60 : decode cX5_split 60 = .ok (.ireturn, 1) := by decide +kernel
theorem dX5_split_61 : decode cX5_split 61 = .ok (.aload_n 0, 1) := by decide +kernel
theorem dX5_split_62 : decode cX5_split 62 = .ok (.aload_n 0, 1) := by decide +kernel
theorem dX5_split_63 : decode cX5_split 63 = .ok (.getfield 30, 3) := by decide +kernel
theorem dX5_split_66 : decode cX5_split 66 = .ok (.iload_n 1, 1) := by decide +kernel
theorem dX5_split_67 : decode cX5_split 67 = .ok (.iaload, 1) := by decide +kernel
theorem dX5_split_68 : decode cX5_split 68 = .ok (.iload_n 1, 1) := by decide +kernel
theorem dX5_split_69 : decode cX5_split 69 = .ok (.invokevirtual 90, 3) := by decide +kernel
theorem dX5_split_72 : decode cX5_split 72 = .ok (.istore_n 3, 1) := by decide +kernel
theorem dX5_split_73 : decode cX5_split 73 = .ok (.iload_n 2, 1) := by decide +kernel
theorem dX5_split_74 : decode cX5_split 74 = .ok (.istore 4, 2) := by decide +kernel
theorem dX5_split_76 : decode cX5_split 76 = .ok (.iload 4, 2) := by decide +kernel
theorem dX5_split_78 : decode cX5_split 78 = .ok (.aload_n 0, 1) := by decide +kernel
theorem dX5_split_79 : decode cX5_split 79 = .ok (.getfield 24, 3) := by decide +kernel
theorem dX5_split_82 : decode cX5_split 82 = .ok (.iload_n 1, 1) := by decide +kernel
theorem dX5_split_83 : decode cX5_split 83 = .ok (.iaload, 1) := by decide +kernel
theorem dX5_split_84 : decode cX5_split 84 = .ok (.if_icmp .ge 50, 3) := by decide +kernel
theorem dX5_split_87 : decode cX5_split 87 = .ok (.aload_n 0, 1) := by decide +kernel
theorem dX5_split_88 : decode cX5_split 88 = .ok (.iload_n 3, 1) := by decide +kernel
theorem dX5_split_89 : decode cX5_split 89 = .ok (.aload_n 0, 1) := by decide +kernel
theorem dX5_split_90 : decode cX5_split 90 = .ok (.getfield 13, 3) := by decide +kernel
theorem dX5_split_93 : decode cX5_split 93 = .ok (.bipush 40, 2) := by decide +kernel
theorem dX5_split_95 : decode cX5_split 95 = .ok (.iload_n 1, 1) := by decide +kernel
theorem dX5_split_96 : decode cX5_split 96 = .ok (.imul, 1) := by decide +kernel
theorem dX5_split_97 : decode cX5_split 97 = .ok (.iload 4, 2) := by decide +kernel
theorem dX5_split_99 : decode cX5_split 99 = .ok (.iadd, 1) := by decide +kernel
theorem dX5_split_100 : decode cX5_split 100 = .ok (.iaload, 1) := by decide +kernel
theorem dX5_split_101 : decode cX5_split 101 = .ok (.aload_n 0, 1) := by decide +kernel
theorem dX5_split_102 : decode cX5_split 102 = .ok (.getfield 17, 3) := by decide +kernel
theorem dX5_split_105 : decode cX5_split 105 = .ok (.bipush 40, 2) := by decide +kernel
theorem dX5_split_107 : decode cX5_split 107 = .ok (.iload_n 1, 1) := by decide +kernel
theorem dX5_split_108 : decode cX5_split 108 = .ok (.imul, 1) := by decide +kernel
theorem dX5_split_109 : decode cX5_split 109 = .ok (.iload 4, 2) := by decide +kernel
theorem dX5_split_111 : decode cX5_split 111 = .ok (.iadd, 1) := by decide +kernel
theorem dX5_split_112 : decode cX5_split 112 = .ok (.iaload, 1) := by decide +kernel
theorem dX5_split_113 : decode cX5_split 113 = .ok (.aload_n 0, 1) := by decide +kernel
theorem dX5_split_114 : decode cX5_split 114 = .ok (.getfield 20, 3) := by decide +kernel
theorem dX5_split_117 : decode cX5_split 117 = .ok (.bipush 40, 2) := by decide +kernel
theorem dX5_split_119 : decode cX5_split 119 = .ok (.iload_n 1, 1) := by decide +kernel
theorem dX5_split_120 : decode cX5_split 120 = .ok (.imul, 1) := by decide +kernel
theorem dX5_split_121 : decode cX5_split 121 = .ok (.iload 4, 2) := by decide +kernel
theorem dX5_split_123 : decode cX5_split 123 = .ok (.iadd, 1) := by decide +kernel
theorem dX5_split_124 : decode cX5_split 124 = .ok (.baload, 1) := by decide +kernel
theorem dX5_split_125 : decode cX5_split 125 = .ok (.invokevirtual 98, 3) := by decide +kernel
theorem dX5_split_128 : decode cX5_split 128 = .ok (.iinc 4 1, 3) := by decide +kernel
theorem dX5_split_131 : decode cX5_split 131 = .ok (.goto (-55), 3) := by decide +kernel
theorem dX5_split_134 : decode cX5_split 134 = .ok (.aload_n 0, 1) := by decide +kernel
theorem dX5_split_135 : decode cX5_split 135 = .ok (.getfield 27, 3) := by decide +kernel
theorem dX5_split_138 : decode cX5_split 138 = .ok (.iload_n 3, 1) := by decide +kernel
theorem dX5_split_139 : decode cX5_split 139 = .ok (.aload_n 0, 1) := by decide +kernel
theorem dX5_split_140 : decode cX5_split 140 = .ok (.getfield 27, 3) := by decide +kernel
theorem dX5_split_143 : decode cX5_split 143 = .ok (.iload_n 1, 1) := by decide +kernel
theorem dX5_split_144 : decode cX5_split 144 = .ok (.baload, 1) := by decide +kernel
theorem dX5_split_145 : decode cX5_split 145 = .ok (.bastore, 1) := by decide +kernel
theorem dX5_split_146 : decode cX5_split 146 = .ok (.aload_n 0, 1) := by decide +kernel
theorem dX5_split_147 : decode cX5_split 147 = .ok (.getfield 24, 3) := by decide +kernel
theorem dX5_split_150 : decode cX5_split 150 = .ok (.iload_n 1, 1) := by decide +kernel
theorem dX5_split_151 : decode cX5_split 151 = .ok (.iload_n 2, 1) := by decide +kernel
theorem dX5_split_152 : decode cX5_split 152 = .ok (.iastore, 1) := by decide +kernel
theorem dX5_split_153 : decode cX5_split 153 = .ok (.aload_n 0, 1) := by decide +kernel
theorem dX5_split_154 : decode cX5_split 154 = .ok (.getfield 27, 3) := by decide +kernel
theorem dX5_split_157 : decode cX5_split 157 = .ok (.iload_n 1, 1) := by decide +kernel
theorem dX5_split_158 : decode cX5_split 158 = .ok (.iconst 1, 1) := by decide +kernel
theorem dX5_split_159 : decode cX5_split 159 = .ok (.bastore, 1) := by decide +kernel
theorem dX5_split_160 : decode cX5_split 160 = .ok (.iload_n 3, 1) := by decide +kernel
theorem dX5_split_161 : decode cX5_split 161 = .ok (.ireturn, 1) := by decide +kernel
theorem dX5_give_0 : decode cX5_give 0 = .ok (.aload_n 0, 1) := by decide +kernel
theorem dX5_give_1 : decode cX5_give 1 = .ok (.iconst 0, 1) := by decide +kernel
theorem dX5_give_2 : decode cX5_give 2 = .ok (.putfield 72, 3) := by decide +kernel
theorem dX5_give_5 : decode cX5_give 5 = .ok (.aload_n 0, 1) := by decide +kernel
theorem dX5_give_6 : decode cX5_give 6 = .ok (.iload_n 1, 1) := by decide +kernel
theorem dX5_give_7 : decode cX5_give 7 = .ok (.invokevirtual 94, 3) := by decide +kernel
theorem dX5_give_10 : decode cX5_give 10 = .ok (.ifCond .eq 22, 3) := by decide +kernel
theorem dX5_give_13 : decode cX5_give 13 = .ok (.iload_n 2, 1) := by decide +kernel
theorem dX5_give_14 : decode cX5_give 14 = .ok (.iconst (-1), 1) := by decide +kernel
theorem dX5_give_15 : decode cX5_give 15 = .ok (.if_icmp .eq 20, 3) := by decide +kernel
theorem dX5_give_18 : decode cX5_give 18 = .ok (.iload_n 2, 1) := by decide +kernel
theorem dX5_give_19 : decode cX5_give 19 = .ok (.iconst 0, 1) := by decide +kernel
theorem dX5_give_20 : decode cX5_give 20 = .ok (.aload_n 0, 1) := by decide +kernel
theorem dX5_give_21 : decode cX5_give 21 = .ok (.getfield 7, 3) := by decide +kernel
theorem dX5_give_24 : decode cX5_give 24 = .ok (.iconst 1, 1) := by decide +kernel
theorem dX5_give_25 : decode cX5_give 25 = .ok (.isub, 1) := by decide +kernel
theorem dX5_give_26 : decode cX5_give 26 = .ok (.invokestatic 78, 3) := by decide +kernel
theorem dX5_give_29 : decode cX5_give 29 = .ok (.ifCond .ne 6, 3) := by decide +kernel
theorem dX5_give_32 : decode cX5_give 32 = .ok (.bipush (-11), 2) := by decide +kernel
theorem dX5_give_34 : decode cX5_give 34 = .ok (.ireturn, 1) := by decide +kernel
theorem dX5_give_35 : decode cX5_give 35 = .ok (.aload_n 0, 1) := by decide +kernel
theorem dX5_give_36 : decode cX5_give 36 = .ok (.iload_n 1, 1) := by decide +kernel
theorem dX5_give_37 : decode cX5_give 37 = .ok (.invokevirtual 102, 3) := by decide +kernel
theorem dX5_give_40 : decode cX5_give 40 = .ok (.ifCond .eq 6, 3) := by decide +kernel
theorem dX5_give_43 : decode cX5_give 43 = .ok (.bipush (-13), 2) := by decide +kernel
theorem dX5_give_45 : decode cX5_give 45 = .ok (.ireturn, 1) := by decide +kernel
theorem dX5_give_46 : decode cX5_give 46 = .ok (.aload_n 0, 1) := by decide +kernel
theorem dX5_give_47 : decode cX5_give 47 = .ok (.iload_n 1, 1) := by decide +kernel
theorem dX5_give_48 : decode cX5_give 48 = .ok (.invokevirtual 105, 3) := by decide +kernel
theorem dX5_give_51 : decode cX5_give 51 = .ok (.istore_n 3, 1) := by decide +kernel
theorem dX5_give_52 : decode cX5_give 52 = .ok (.aload_n 0, 1) := by decide +kernel
theorem dX5_give_53 : decode cX5_give 53 = .ok (.getfield 36, 3) := by decide +kernel
theorem dX5_give_56 : decode cX5_give 56 = .ok (.bipush 36, 2) := by decide +kernel
theorem dX5_give_58 : decode cX5_give 58 = .ok (.iload_n 1, 1) := by decide +kernel
theorem dX5_give_59 : decode cX5_give 59 = .ok (.iadd, 1) := by decide +kernel
theorem dX5_give_60 : decode cX5_give 60 = .ok (.iload_n 2, 1) := by decide +kernel
theorem dX5_give_61 : decode cX5_give 61 = .ok (.iastore, 1) := by decide +kernel
theorem dX5_give_62 : decode cX5_give 62 = .ok (.iload_n 3, 1) := by decide +kernel
theorem dX5_give_63 : decode cX5_give 63 = .ok (.ireturn, 1) := by decide +kernel
theorem dX5_nextOf_0 : decode cX5_nextOf 0 = .ok (.iconst (-1), 1) := by decide +kernel
theorem dX5_nextOf_1 : decode cX5_nextOf 1 = .ok (.istore_n 2, 1) := by decide +kernel
theorem dX5_nextOf_2 : decode cX5_nextOf 2 = .ok (.iconst 0, 1) := by decide +kernel
theorem dX5_nextOf_3 : decode cX5_nextOf 3 = .ok (.istore_n 3, 1) := by decide +kernel
theorem dX5_nextOf_4 : decode cX5_nextOf 4 = .ok (.iconst 0, 1) := by decide +kernel
theorem dX5_nextOf_5 : decode cX5_nextOf 5 = .ok (.istore 4, 2) := by decide +kernel
theorem dX5_nextOf_7 : decode cX5_nextOf 7 = .ok (.iload 4, 2) := by decide +kernel
theorem dX5_nextOf_9 : decode cX5_nextOf 9 = .ok (.aload_n 0, 1) := by decide +kernel
theorem dX5_nextOf_10 : decode cX5_nextOf 10 = .ok (.getfield 75, 3) := by decide +kernel
theorem dX5_nextOf_13 : decode cX5_nextOf 13 = .ok (.if_icmp .ge 92, 3) := by decide +kernel
theorem dX5_nextOf_16 : decode cX5_nextOf 16 = .ok (.aload_n 0, 1) := by decide +kernel
theorem dX5_nextOf_17 : decode cX5_nextOf 17 = .ok (.iload 4, 2) := by decide +kernel
theorem dX5_nextOf_19 : decode cX5_nextOf 19 = .ok (.invokevirtual 105, 3) := by decide +kernel
theorem dX5_nextOf_22 : decode cX5_nextOf 22 = .ok (.iload_n 1, 1) := by decide +kernel
theorem dX5_nextOf_23 : decode cX5_nextOf 23 = .ok (.if_icmp .ne 76, 3) := by decide +kernel
theorem dX5_nextOf_26 : decode cX5_nextOf 26 = .ok (.aload_n 0, 1) := by decide +kernel
theorem dX5_nextOf_27 : decode cX5_nextOf 27 = .ok (.iload 4, 2) := by decide +kernel
theorem dX5_nextOf_29 : decode cX5_nextOf 29 = .ok (.invokevirtual 82, 3) := by decide +kernel
theorem dX5_nextOf_32 : decode cX5_nextOf 32 = .ok (.ifCond .eq 67, 3) := by decide +kernel
theorem dX5_nextOf_35 : decode cX5_nextOf 35 = .ok (.aload_n 0, 1) := by decide +kernel
theorem dX5_nextOf_36 : decode cX5_nextOf 36 = .ok (.getfield 36, 3) := by decide +kernel
theorem dX5_nextOf_39 : decode cX5_nextOf 39 = .ok (.bipush 24, 2) := by decide +kernel
theorem dX5_nextOf_41 : decode cX5_nextOf 41 = .ok (.iload 4, 2) := by decide +kernel
theorem dX5_nextOf_43 : decode cX5_nextOf 43 = .ok (.iadd, 1) := by decide +kernel
theorem dX5_nextOf_44 : decode cX5_nextOf 44 = .ok (.dup2, 1) := by decide +kernel
theorem dX5_nextOf_45 : decode cX5_nextOf 45 = .ok (.iaload, 1) := by decide +kernel
theorem dX5_nextOf_46 : decode cX5_nextOf 46 = .ok (.aload_n 0, 1) := by decide +kernel
theorem dX5_nextOf_47 : decode cX5_nextOf 47 = .ok (.getfield 30, 3) := by decide +kernel
theorem dX5_nextOf_50 : decode cX5_nextOf 50 = .ok (.iload 4, 2) := by decide +kernel
theorem dX5_nextOf_52 : decode cX5_nextOf 52 = .ok (.iaload, 1) := by decide +kernel
theorem dX5_nextOf_53 : decode cX5_nextOf 53 = .ok (.iadd, 1) := by decide +kernel
theorem dX5_nextOf_54 : decode cX5_nextOf 54 = .ok (.iastore, 1) := by decide +kernel
theorem dX5_nextOf_55 : decode cX5_nextOf 55 = .ok (.iload_n 3, 1) := by decide +kernel
theorem dX5_nextOf_56 : decode cX5_nextOf 56 = .ok (.aload_n 0, 1) := by decide +kernel
theorem dX5_nextOf_57 : decode cX5_nextOf 57 = .ok (.getfield 30, 3) := by decide +kernel
theorem dX5_nextOf_60 : decode cX5_nextOf 60 = .ok (.iload 4, 2) := by decide +kernel
theorem dX5_nextOf_62 : decode cX5_nextOf 62 = .ok (.iaload, 1) := by decide +kernel
theorem dX5_nextOf_63 : decode cX5_nextOf 63 = .ok (.iadd, 1) := by decide +kernel
theorem dX5_nextOf_64 : decode cX5_nextOf 64 = .ok (.istore_n 3, 1) := by decide +kernel
theorem dX5_nextOf_65 : decode cX5_nextOf 65 = .ok (.iload_n 2, 1) := by decide +kernel
theorem dX5_nextOf_66 : decode cX5_nextOf 66 = .ok (.iconst (-1), 1) := by decide +kernel
theorem dX5_nextOf_67 : decode cX5_nextOf 67 = .ok (.if_icmp .eq 25, 3) := by decide +kernel
theorem dX5_nextOf_70 : decode cX5_nextOf 70 = .ok (.aload_n 0, 1) := by decide +kernel
theorem dX5_nextOf_71 : decode cX5_nextOf 71 = .ok (.getfield 36, 3) := by decide +kernel
theorem dX5_nextOf_74 : decode cX5_nextOf 74 = .ok (.bipush 24, 2) := by decide +kernel
theorem dX5_nextOf_76 : decode cX5_nextOf 76 = .ok (.iload 4, 2) := by decide +kernel
theorem dX5_nextOf_78 : decode cX5_nextOf 78 = .ok (.iadd, 1) := by decide +kernel
theorem dX5_nextOf_79 : decode cX5_nextOf 79 = .ok (.iaload, 1) := by decide +kernel
theorem dX5_nextOf_80 : decode cX5_nextOf 80 = .ok (.aload_n 0, 1) := by decide +kernel
theorem dX5_nextOf_81 : decode cX5_nextOf 81 = .ok (.getfield 36, 3) := by decide +kernel
theorem dX5_nextOf_84 : decode cX5_nextOf 84 = .ok (.bipush 24, 2) := by decide +kernel
theorem dX5_nextOf_86 : decode cX5_nextOf 86 = .ok (.iload_n 2, 1) := by decide +kernel
theorem dX5_nextOf_87 : decode cX5_nextOf 87 = .ok (.iadd, 1) := by decide +kernel
theorem dX5_nextOf_88 : decode cX5_nextOf 88 = .ok (.iaload, 1) := by decide +kernel
theorem dX5_nextOf_89 : decode cX5_nextOf 89 = .ok (.if_icmp .le 8, 3) := by decide +kernel
theorem dX5_nextOf_92 : decode cX5_nextOf 92 = .ok (.iload 4, 2) := by decide +kernel
theorem dX5_nextOf_94 : decode cX5_nextOf 94 = .ok (.goto 4, 3) := by decide +kernel
theorem dX5_nextOf_97 : decode cX5_nextOf 97 = .ok (.iload_n 2, 1) := by decide +kernel
theorem dX5_nextOf_98 : decode cX5_nextOf 98 = .ok (.istore_n 2, 1) := by decide +kernel
theorem dX5_nextOf_99 : decode cX5_nextOf 99 = .ok (.iinc 4 1, 3) := by decide +kernel
theorem dX5_nextOf_102 : decode cX5_nextOf 102 = .ok (.goto (-95), 3) := by decide +kernel
theorem dX5_nextOf_105 : decode cX5_nextOf 105 = .ok (.iload_n 2, 1) := by decide +kernel
theorem dX5_nextOf_106 : decode cX5_nextOf 106 = .ok (.iconst (-1), 1) := by decide +kernel
theorem dX5_nextOf_107 : decode cX5_nextOf 107 = .ok (.if_icmp .eq 16, 3) := by decide +kernel
theorem dX5_nextOf_110 : decode cX5_nextOf 110 = .ok (.aload_n 0, 1) := by decide +kernel
theorem dX5_nextOf_111 : decode cX5_nextOf 111 = .ok (.getfield 36, 3) := by decide +kernel
theorem dX5_nextOf_114 : decode cX5_nextOf 114 = .ok (.bipush 24, 2) := by decide +kernel
theorem dX5_nextOf_116 : decode cX5_nextOf 116 = .ok (.iload_n 2, 1) := by decide +kernel
theorem dX5_nextOf_117 : decode cX5_nextOf 117 = .ok (.iadd, 1) := by decide +kernel
theorem dX5_nextOf_118 : decode cX5_nextOf 118 = .ok (.dup2, 1) := by decide +kernel
theorem dX5_nextOf_119 : decode cX5_nextOf 119 = .ok (.iaload, 1) := by decide +kernel
theorem dX5_nextOf_120 : decode cX5_nextOf 120 = .ok (.iload_n 3, 1) := by decide +kernel
theorem dX5_nextOf_121 : decode cX5_nextOf 121 = .ok (.isub, 1) := by decide +kernel
theorem dX5_nextOf_122 : decode cX5_nextOf 122 = .ok (.iastore, 1) := by decide +kernel
theorem dX5_nextOf_123 : decode cX5_nextOf 123 = .ok (.iload_n 2, 1) := by decide +kernel
theorem dX5_nextOf_124 : decode cX5_nextOf 124 = .ok (.ireturn, 1) := by decide +kernel
theorem dX5_passes_0 : decode cX5_passes 0 = .ok (.aload_n 0, 1) := by decide +kernel
theorem dX5_passes_1 : decode cX5_passes 1 = .ok (.getfield 17, 3) := by decide +kernel
theorem dX5_passes_4 : decode cX5_passes 4 = .ok (.bipush 40, 2) := by decide +kernel
theorem dX5_passes_6 : decode cX5_passes 6 = .ok (.iload_n 1, 1) := by decide +kernel
theorem dX5_passes_7 : decode cX5_passes 7 = .ok (.imul, 1) := by decide +kernel
theorem dX5_passes_8 : decode cX5_passes 8 = .ok (.aload_n 0, 1) := by decide +kernel
theorem dX5_passes_9 : decode cX5_passes 9 = .ok (.getfield 36, 3) := by decide +kernel
theorem dX5_passes_12 : decode cX5_passes 12 = .ok (.iload_n 1, 1) := by decide +kernel
theorem dX5_passes_13 : decode cX5_passes 13 = .ok (.iaload, 1) := by decide +kernel
theorem dX5_passes_14 : decode cX5_passes 14 = .ok (.iadd, 1) := by decide +kernel
theorem dX5_passes_15 : decode cX5_passes 15 = .ok (.iaload, 1) := by decide +kernel
theorem dX5_passes_16 : decode cX5_passes 16 = .ok (.istore_n 2, 1) := by decide +kernel
theorem dX5_passes_17 : decode cX5_passes 17 = .ok (.aload_n 0, 1) := by decide +kernel
theorem dX5_passes_18 : decode cX5_passes 18 = .ok (.getfield 36, 3) := by decide +kernel
theorem dX5_passes_21 : decode cX5_passes 21 = .ok (.iload_n 1, 1) := by decide +kernel
theorem dX5_passes_22 : decode cX5_passes 22 = .ok (.dup2, 1) := by decide +kernel
theorem dX5_passes_23 : decode cX5_passes 23 = .ok (.iaload, 1) := by decide +kernel
theorem dX5_passes_24 : decode cX5_passes 24 = .ok (.iconst 1, 1) := by decide +kernel
theorem dX5_passes_25 : decode cX5_passes 25 = .ok (.iadd, 1) := by decide +kernel
theorem dX5_passes_26 : decode cX5_passes 26 = .ok (.iastore, 1) := by decide +kernel
theorem dX5_passes_27 : decode cX5_passes 27 = .ok (.aload_n 0, 1) := by decide +kernel
theorem dX5_passes_28 : decode cX5_passes 28 = .ok (.getfield 36, 3) := by decide +kernel
theorem dX5_passes_31 : decode cX5_passes 31 = .ok (.bipush 12, 2) := by decide +kernel
theorem dX5_passes_33 : decode cX5_passes 33 = .ok (.iload_n 1, 1) := by decide +kernel
theorem dX5_passes_34 : decode cX5_passes 34 = .ok (.iadd, 1) := by decide +kernel
theorem dX5_passes_35 : decode cX5_passes 35 = .ok (.iload_n 2, 1) := by decide +kernel
theorem dX5_passes_36 : decode cX5_passes 36 = .ok (.aload_n 0, 1) := by decide +kernel
theorem dX5_passes_37 : decode cX5_passes 37 = .ok (.getfield 36, 3) := by decide +kernel
theorem dX5_passes_40 : decode cX5_passes 40 = .ok (.bipush 12, 2) := by decide +kernel
theorem dX5_passes_42 : decode cX5_passes 42 = .ok (.iload_n 1, 1) := by decide +kernel
theorem dX5_passes_43 : decode cX5_passes 43 = .ok (.iadd, 1) := by decide +kernel
theorem dX5_passes_44 : decode cX5_passes 44 = .ok (.iaload, 1) := by decide +kernel
theorem dX5_passes_45 : decode cX5_passes 45 = .ok (.if_icmp .le 7, 3) := by decide +kernel
theorem dX5_passes_48 : decode cX5_passes 48 = .ok (.iload_n 2, 1) := by decide +kernel
theorem dX5_passes_49 : decode cX5_passes 49 = .ok (.goto 12, 3) := by decide +kernel
theorem dX5_passes_52 : decode cX5_passes 52 = .ok (.aload_n 0, 1) := by decide +kernel
theorem dX5_passes_53 : decode cX5_passes 53 = .ok (.getfield 36, 3) := by decide +kernel
theorem dX5_passes_56 : decode cX5_passes 56 = .ok (.bipush 12, 2) := by decide +kernel
theorem dX5_passes_58 : decode cX5_passes 58 = .ok (.iload_n 1, 1) := by decide +kernel
theorem dX5_passes_59 : decode cX5_passes 59 = .ok (.iadd, 1) := by decide +kernel
theorem dX5_passes_60 : decode cX5_passes 60 = .ok (.iaload, 1) := by decide +kernel
theorem dX5_passes_61 : decode cX5_passes 61 = .ok (.iastore, 1) := by decide +kernel
theorem dX5_passes_62 : decode cX5_passes 62 = .ok (.return_, 1) := by decide +kernel
theorem dX5_read_0 : decode cX5_read 0 = .ok (.aload_n 0, 1) := by decide +kernel
theorem dX5_read_1 : decode cX5_read 1 = .ok (.iconst 0, 1) := by decide +kernel
theorem dX5_read_2 : decode cX5_read 2 = .ok (.putfield 72, 3) := by decide +kernel
theorem dX5_read_5 : decode cX5_read 5 = .ok (.iload_n 1, 1) := by decide +kernel
theorem dX5_read_6 : decode cX5_read 6 = .ok (.iconst 0, 1) := by decide +kernel
theorem dX5_read_7 : decode cX5_read 7 = .ok (.aload_n 0, 1) := by decide +kernel
theorem dX5_read_8 : decode cX5_read 8 = .ok (.getfield 7, 3) := by decide +kernel
theorem dX5_read_11 : decode cX5_read 11 = .ok (.iconst 1, 1) := by decide +kernel
theorem dX5_read_12 : decode cX5_read 12 = .ok (.isub, 1) := by decide +kernel
theorem dX5_read_13 : decode cX5_read 13 = .ok (.invokestatic 78, 3) := by decide +kernel
theorem dX5_read_16 : decode cX5_read 16 = .ok (.ifCond .ne 6, 3) := by decide +kernel
theorem dX5_read_19 : decode cX5_read 19 = .ok (.bipush (-11), 2) := by decide +kernel
theorem dX5_read_21 : decode cX5_read 21 = .ok (.ireturn, 1) := by decide +kernel
theorem dX5_read_22 : decode cX5_read 22 = .ok (.aload_n 0, 1) := by decide +kernel
theorem dX5_read_23 : decode cX5_read 23 = .ok (.iload_n 1, 1) := by decide +kernel
theorem dX5_read_24 : decode cX5_read 24 = .ok (.invokevirtual 109, 3) := by decide +kernel
theorem dX5_read_27 : decode cX5_read 27 = .ok (.istore_n 2, 1) := by decide +kernel
theorem dX5_read_28 : decode cX5_read 28 = .ok (.iload_n 2, 1) := by decide +kernel
theorem dX5_read_29 : decode cX5_read 29 = .ok (.iconst (-1), 1) := by decide +kernel
theorem dX5_read_30 : decode cX5_read 30 = .ok (.if_icmp .ne 5, 3) := by decide +kernel
theorem dX5_read_33 : decode cX5_read 33 = .ok (.iconst (-1), 1) := by decide +kernel
theorem dX5_read_34 : decode cX5_read 34 = .ok (.ireturn, 1) := by decide +kernel
theorem dX5_read_35 : decode cX5_read 35 = .ok (.aload_n 0, 1) := by decide +kernel
theorem dX5_read_36 : decode cX5_read 36 = .ok (.getfield 36, 3) := by decide +kernel
theorem dX5_read_39 : decode cX5_read 39 = .ok (.iload_n 2, 1) := by decide +kernel
theorem dX5_read_40 : decode cX5_read 40 = .ok (.iaload, 1) := by decide +kernel
theorem dX5_read_41 : decode cX5_read 41 = .ok (.istore_n 3, 1) := by decide +kernel
theorem dX5_read_42 : decode cX5_read 42 = .ok (.bipush 40, 2) := by decide +kernel
theorem dX5_read_44 : decode cX5_read 44 = .ok (.iload_n 2, 1) := by decide +kernel
theorem dX5_read_45 : decode cX5_read 45 = .ok (.imul, 1) := by decide +kernel
theorem dX5_read_46 : decode cX5_read 46 = .ok (.iload_n 3, 1) := by decide +kernel
theorem dX5_read_47 : decode cX5_read 47 = .ok (.iadd, 1) := by decide +kernel
theorem dX5_read_48 : decode cX5_read 48 = .ok (.istore 4, 2) := by decide +kernel
theorem dX5_read_50 : decode cX5_read 50 = .ok (.aload_n 0, 1) := by decide +kernel
theorem dX5_read_51 : decode cX5_read 51 = .ok (.dup, 1) := by decide +kernel
theorem dX5_read_52 : decode cX5_read 52 = .ok (.getfield 112, 3) := by decide +kernel
theorem dX5_read_55 : decode cX5_read 55 = .ok (.iconst 1, 1) := by decide +kernel
theorem dX5_read_56 : decode cX5_read 56 = .ok (.iadd, 1) := by decide +kernel
theorem dX5_read_57 : decode cX5_read 57 = .ok (.putfield 112, 3) := by decide +kernel
theorem dX5_read_60 : decode cX5_read 60 = .ok (.aload_n 0, 1) := by decide +kernel
theorem dX5_read_61 : decode cX5_read 61 = .ok (.getfield 60, 3) := by decide +kernel
theorem dX5_read_64 : decode cX5_read 64 = .ok (.aload_n 0, 1) := by decide +kernel
theorem dX5_read_65 : decode cX5_read 65 = .ok (.getfield 112, 3) := by decide +kernel
theorem dX5_read_68 : decode cX5_read 68 = .ok (.bipush 64, 2) := by decide +kernel
theorem dX5_read_70 : decode cX5_read 70 = .ok (.irem, 1) := by decide +kernel
theorem dX5_read_71 : decode cX5_read 71 = .ok (.baload, 1) := by decide +kernel
theorem dX5_read_72 : decode cX5_read 72 = .ok (.istore 5, 2) := by decide +kernel
theorem dX5_read_74 : decode cX5_read 74 = .ok (.aload_n 0, 1) := by decide +kernel
theorem dX5_read_75 : decode cX5_read 75 = .ok (.getfield 63, 3) := by decide +kernel
theorem dX5_read_78 : decode cX5_read 78 = .ok (.aload_n 0, 1) := by decide +kernel
theorem dX5_read_79 : decode cX5_read 79 = .ok (.getfield 112, 3) := by decide +kernel
theorem dX5_read_82 : decode cX5_read 82 = .ok (.bipush 64, 2) := by decide +kernel
theorem dX5_read_84 : decode cX5_read 84 = .ok (.irem, 1) := by decide +kernel
theorem dX5_read_85 : decode cX5_read 85 = .ok (.baload, 1) := by decide +kernel
theorem dX5_read_86 : decode cX5_read 86 = .ok (.istore 6, 2) := by decide +kernel
theorem dX5_read_88 : decode cX5_read 88 = .ok (.aload_n 0, 1) := by decide +kernel
theorem dX5_read_89 : decode cX5_read 89 = .ok (.getfield 60, 3) := by decide +kernel
theorem dX5_read_92 : decode cX5_read 92 = .ok (.aload_n 0, 1) := by decide +kernel
theorem dX5_read_93 : decode cX5_read 93 = .ok (.getfield 112, 3) := by decide +kernel
theorem dX5_read_96 : decode cX5_read 96 = .ok (.bipush 64, 2) := by decide +kernel
theorem dX5_read_98 : decode cX5_read 98 = .ok (.irem, 1) := by decide +kernel
theorem dX5_read_99 : decode cX5_read 99 = .ok (.iconst 0, 1) := by decide +kernel
theorem dX5_read_100 : decode cX5_read 100 = .ok (.bastore, 1) := by decide +kernel
theorem dX5_read_101 : decode cX5_read 101 = .ok (.aload_n 0, 1) := by decide +kernel
theorem dX5_read_102 : decode cX5_read 102 = .ok (.getfield 63, 3) := by decide +kernel
theorem dX5_read_105 : decode cX5_read 105 = .ok (.aload_n 0, 1) := by decide +kernel
theorem dX5_read_106 : decode cX5_read 106 = .ok (.getfield 112, 3) := by decide +kernel
theorem dX5_read_109 : decode cX5_read 109 = .ok (.bipush 64, 2) := by decide +kernel
theorem dX5_read_111 : decode cX5_read 111 = .ok (.irem, 1) := by decide +kernel
theorem dX5_read_112 : decode cX5_read 112 = .ok (.iconst 0, 1) := by decide +kernel
theorem dX5_read_113 : decode cX5_read 113 = .ok (.bastore, 1) := by decide +kernel
theorem dX5_read_114 : decode cX5_read 114 = .ok (.aload_n 0, 1) := by decide +kernel
theorem dX5_read_115 : decode cX5_read 115 = .ok (.getfield 66, 3) := by decide +kernel
theorem dX5_read_118 : decode cX5_read 118 = .ok (.iconst 0, 1) := by decide +kernel
theorem dX5_read_119 : decode cX5_read 119 = .ok (.iload_n 2, 1) := by decide +kernel
theorem dX5_read_120 : decode cX5_read 120 = .ok (.iastore, 1) := by decide +kernel
theorem dX5_read_121 : decode cX5_read 121 = .ok (.aload_n 0, 1) := by decide +kernel
theorem dX5_read_122 : decode cX5_read 122 = .ok (.getfield 66, 3) := by decide +kernel
theorem dX5_read_125 : decode cX5_read 125 = .ok (.iconst 1, 1) := by decide +kernel
theorem dX5_read_126 : decode cX5_read 126 = .ok (.iload_n 3, 1) := by decide +kernel
theorem dX5_read_127 : decode cX5_read 127 = .ok (.iastore, 1) := by decide +kernel
theorem dX5_read_128 : decode cX5_read 128 = .ok (.aload_n 0, 1) := by decide +kernel
theorem dX5_read_129 : decode cX5_read 129 = .ok (.getfield 66, 3) := by decide +kernel
theorem dX5_read_132 : decode cX5_read 132 = .ok (.iconst 2, 1) := by decide +kernel
theorem dX5_read_133 : decode cX5_read 133 = .ok (.aload_n 0, 1) := by decide +kernel
theorem dX5_read_134 : decode cX5_read 134 = .ok (.getfield 17, 3) := by decide +kernel
theorem dX5_read_137 : decode cX5_read 137 = .ok (.iload 4, 2) := by decide +kernel
theorem dX5_read_139 : decode cX5_read 139 = .ok (.iaload, 1) := by decide +kernel
theorem dX5_read_140 : decode cX5_read 140 = .ok (.iastore, 1) := by decide +kernel
theorem dX5_read_141 : decode cX5_read 141 = .ok (.aload_n 0, 1) := by decide +kernel
theorem dX5_read_142 : decode cX5_read 142 = .ok (.getfield 66, 3) := by decide +kernel
theorem dX5_read_145 : decode cX5_read 145 = .ok (.iconst 3, 1) := by decide +kernel
theorem dX5_read_146 : decode cX5_read 146 = .ok (.aload_n 0, 1) := by decide +kernel
theorem dX5_read_147 : decode cX5_read 147 = .ok (.getfield 112, 3) := by decide +kernel
theorem dX5_read_150 : decode cX5_read 150 = .ok (.iastore, 1) := by decide +kernel
theorem dX5_read_151 : decode cX5_read 151 = .ok (.aload_n 0, 1) := by decide +kernel
theorem dX5_read_152 : decode cX5_read 152 = .ok (.getfield 66, 3) := by decide +kernel
theorem dX5_read_155 : decode cX5_read 155 = .ok (.iconst 4, 1) := by decide +kernel
theorem dX5_read_156 : decode cX5_read 156 = .ok (.aload_n 0, 1) := by decide +kernel
theorem dX5_read_157 : decode cX5_read 157 = .ok (.getfield 36, 3) := by decide +kernel
theorem dX5_read_160 : decode cX5_read 160 = .ok (.bipush 24, 2) := by decide +kernel
theorem dX5_read_162 : decode cX5_read 162 = .ok (.iload_n 2, 1) := by decide +kernel
theorem dX5_read_163 : decode cX5_read 163 = .ok (.iadd, 1) := by decide +kernel
theorem dX5_read_164 : decode cX5_read 164 = .ok (.iaload, 1) := by decide +kernel
theorem dX5_read_165 : decode cX5_read 165 = .ok (.iastore, 1) := by decide +kernel
theorem dX5_read_166 : decode cX5_read 166 = .ok (.iload 5, 2) := by decide +kernel
theorem dX5_read_168 : decode cX5_read 168 = .ok (.ifCond .eq 16, 3) := by decide +kernel
theorem dX5_read_171 : decode cX5_read 171 = .ok (.aload_n 0, 1) := by decide +kernel
theorem dX5_read_172 : decode cX5_read 172 = .ok (.dup, 1) := by decide +kernel
theorem dX5_read_173 : decode cX5_read 173 = .ok (.getfield 115, 3) := by decide +kernel
theorem dX5_read_176 : decode cX5_read 176 = .ok (.iconst 1, 1) := by decide +kernel
theorem dX5_read_177 : decode cX5_read 177 = .ok (.iadd, 1) := by decide +kernel
theorem dX5_read_178 : decode cX5_read 178 = .ok (.putfield 115, 3) := by decide +kernel
theorem dX5_read_181 : decode cX5_read 181 = .ok (.bipush (-2), 2) := by decide +kernel
theorem dX5_read_183 : decode cX5_read 183 = .ok (.ireturn, 1) := by decide +kernel
theorem dX5_read_184 : decode cX5_read 184 = .ok (.aload_n 0, 1) := by decide +kernel
theorem dX5_read_185 : decode cX5_read 185 = .ok (.getfield 20, 3) := by decide +kernel
theorem dX5_read_188 : decode cX5_read 188 = .ok (.iload 4, 2) := by decide +kernel
theorem dX5_read_190 : decode cX5_read 190 = .ok (.baload, 1) := by decide +kernel
theorem dX5_read_191 : decode cX5_read 191 = .ok (.ifCond .ne 17, 3) := by decide +kernel
theorem dX5_read_194 : decode cX5_read 194 = .ok (.aload_n 0, 1) := by decide +kernel
theorem dX5_read_195 : decode cX5_read 195 = .ok (.iload_n 2, 1) := by decide +kernel
theorem dX5_read_196 : decode cX5_read 196 = .ok (.iload_n 3, 1) := by decide +kernel
theorem dX5_read_197 : decode cX5_read 197 = .ok (.invokevirtual 118, 3) := by decide +kernel
theorem dX5_read_200 : decode cX5_read 200 = .ok (.aload_n 0, 1) := by decide +kernel
theorem dX5_read_201 : decode cX5_read 201 = .ok (.iload_n 2, 1) := by decide +kernel
theorem dX5_read_202 : decode cX5_read 202 = .ok (.invokevirtual 122, 3) := by decide +kernel
theorem dX5_read_205 : decode cX5_read 205 = .ok (.bipush (-3), 2) := by decide +kernel
theorem dX5_read_207 : decode cX5_read 207 = .ok (.ireturn, 1) := by decide +kernel
theorem dX5_read_208 : decode cX5_read 208 = .ok (.aload_n 0, 1) := by decide +kernel
theorem dX5_read_209 : decode cX5_read 209 = .ok (.getfield 39, 3) := by decide +kernel
theorem dX5_read_212 : decode cX5_read 212 = .ok (.aload_n 0, 1) := by decide +kernel
theorem dX5_read_213 : decode cX5_read 213 = .ok (.getfield 13, 3) := by decide +kernel
theorem dX5_read_216 : decode cX5_read 216 = .ok (.iload 4, 2) := by decide +kernel
theorem dX5_read_218 : decode cX5_read 218 = .ok (.iaload, 1) := by decide +kernel
theorem dX5_read_219 : decode cX5_read 219 = .ok (.baload, 1) := by decide +kernel
theorem dX5_read_220 : decode cX5_read 220 = .ok (.ifCond .eq 21, 3) := by decide +kernel
theorem dX5_read_223 : decode cX5_read 223 = .ok (.aload_n 0, 1) := by decide +kernel
theorem dX5_read_224 : decode cX5_read 224 = .ok (.dup, 1) := by decide +kernel
theorem dX5_read_225 : decode cX5_read 225 = .ok (.getfield 125, 3) := by decide +kernel
theorem dX5_read_228 : decode cX5_read 228 = .ok (.iconst 1, 1) := by decide +kernel
theorem dX5_read_229 : decode cX5_read 229 = .ok (.iadd, 1) := by decide +kernel
theorem dX5_read_230 : decode cX5_read 230 = .ok (.putfield 125, 3) := by decide +kernel
theorem dX5_read_233 : decode cX5_read 233 = .ok (.aload_n 0, 1) := by decide +kernel
theorem dX5_read_234 : decode cX5_read 234 = .ok (.iload_n 2, 1) := by decide +kernel
theorem dX5_read_235 : decode cX5_read 235 = .ok (.invokevirtual 122, 3) := by decide +kernel
theorem dX5_read_238 : decode cX5_read 238 = .ok (.bipush (-4), 2) := by decide +kernel
theorem dX5_read_240 : decode cX5_read 240 = .ok (.ireturn, 1) := by decide +kernel
theorem dX5_read_241 : decode cX5_read 241 = .ok (.aload_n 0, 1) := by decide +kernel
theorem dX5_read_242 : decode cX5_read 242 = .ok (.getfield 39, 3) := by decide +kernel
theorem dX5_read_245 : decode cX5_read 245 = .ok (.aload_n 0, 1) := by decide +kernel
theorem dX5_read_246 : decode cX5_read 246 = .ok (.getfield 13, 3) := by decide +kernel
theorem dX5_read_249 : decode cX5_read 249 = .ok (.iload 4, 2) := by decide +kernel
theorem dX5_read_251 : decode cX5_read 251 = .ok (.iaload, 1) := by decide +kernel
theorem dX5_read_252 : decode cX5_read 252 = .ok (.iconst 1, 1) := by decide +kernel
theorem dX5_read_253 : decode cX5_read 253 = .ok (.bastore, 1) := by decide +kernel
theorem dX5_read_254 : decode cX5_read 254 = .ok (.iload 6, 2) := by decide +kernel
theorem dX5_read_256 : decode cX5_read 256 = .ok (.ifCond .ne 8, 3) := by decide +kernel
theorem dX5_read_259 : decode cX5_read 259 = .ok (.aload_n 0, 1) := by decide +kernel
theorem dX5_read_260 : decode cX5_read 260 = .ok (.iload_n 2, 1) := by decide +kernel
theorem dX5_read_261 : decode cX5_read 261 = .ok (.invokevirtual 122, 3) := by decide +kernel
theorem dX5_read_264 : decode cX5_read 264 = .ok (.aload_n 0, 1) := by decide +kernel
theorem dX5_read_265 : decode cX5_read 265 = .ok (.getfield 13, 3) := by decide +kernel
theorem dX5_read_268 : decode cX5_read 268 = .ok (.iload 4, 2) := by decide +kernel
theorem dX5_read_270 : decode cX5_read 270 = .ok (.iaload, 1) := by decide +kernel
theorem dX5_read_271 : decode cX5_read 271 = .ok (.ireturn, 1) := by decide +kernel
theorem dX5_notes_0 : decode cX5_notes 0 = .ok (.aload_n 0, 1) := by decide +kernel
theorem dX5_notes_1 : decode cX5_notes 1 = .ok (.getfield 128, 3) := by decide +kernel
theorem dX5_notes_4 : decode cX5_notes 4 = .ok (.bipush 100, 2) := by decide +kernel
theorem dX5_notes_6 : decode cX5_notes 6 = .ok (.if_icmp .ge 39, 3) := by decide +kernel
theorem dX5_notes_9 : decode cX5_notes 9 = .ok (.aload_n 0, 1) := by decide +kernel
theorem dX5_notes_10 : decode cX5_notes 10 = .ok (.getfield 42, 3) := by decide +kernel
theorem dX5_notes_13 : decode cX5_notes 13 = .ok (.iconst 2, 1) := by decide +kernel
theorem dX5_notes_14 : decode cX5_notes 14 = .ok (.aload_n 0, 1) := by decide +kernel
theorem dX5_notes_15 : decode cX5_notes 15 = .ok (.getfield 128, 3) := by decide +kernel
theorem dX5_notes_18 : decode cX5_notes 18 = .ok (.imul, 1) := by decide +kernel
theorem dX5_notes_19 : decode cX5_notes 19 = .ok (.iload_n 1, 1) := by decide +kernel
theorem dX5_notes_20 : decode cX5_notes 20 = .ok (.iastore, 1) := by decide +kernel
theorem dX5_notes_21 : decode cX5_notes 21 = .ok (.aload_n 0, 1) := by decide +kernel
theorem dX5_notes_22 : decode cX5_notes 22 = .ok (.getfield 42, 3) := by decide +kernel
theorem dX5_notes_25 : decode cX5_notes 25 = .ok (.iconst 2, 1) := by decide +kernel
theorem dX5_notes_26 : decode cX5_notes 26 = .ok (.aload_n 0, 1) := by decide +kernel
theorem dX5_notes_27 : decode cX5_notes 27 = .ok (.getfield 128, 3) := by decide +kernel
theorem dX5_notes_30 : decode cX5_notes 30 = .ok (.imul, 1) := by decide +kernel
theorem dX5_notes_31 : decode cX5_notes 31 = .ok (.iconst 1, 1) := by decide +kernel
theorem dX5_notes_32 : decode cX5_notes 32 = .ok (.iadd, 1) := by decide +kernel
theorem dX5_notes_33 : decode cX5_notes 33 = .ok (.iload_n 2, 1) := by decide +kernel
theorem dX5_notes_34 : decode cX5_notes 34 = .ok (.iastore, 1) := by decide +kernel
theorem dX5_notes_35 : decode cX5_notes 35 = .ok (.aload_n 0, 1) := by decide +kernel
theorem dX5_notes_36 : decode cX5_notes 36 = .ok (.dup, 1) := by decide +kernel
theorem dX5_notes_37 : decode cX5_notes 37 = .ok (.getfield 128, 3) := by decide +kernel
theorem dX5_notes_40 : decode cX5_notes 40 = .ok (.iconst 1, 1) := by decide +kernel
theorem dX5_notes_41 : decode cX5_notes 41 = .ok (.iadd, 1) := by decide +kernel
theorem dX5_notes_42 : decode cX5_notes 42 = .ok (.putfield 128, 3) := by decide +kernel
theorem dX5_notes_45 : decode cX5_notes 45 = .ok (.return_, 1) := by decide +kernel
theorem dX5_latest_0 : decode cX5_latest 0 = .ok (.aload_n 0, 1) := by decide +kernel
theorem dX5_latest_1 : decode cX5_latest 1 = .ok (.iconst 0, 1) := by decide +kernel
theorem dX5_latest_2 : decode cX5_latest 2 = .ok (.putfield 72, 3) := by decide +kernel
theorem dX5_latest_5 : decode cX5_latest 5 = .ok (.iload_n 1, 1) := by decide +kernel
theorem dX5_latest_6 : decode cX5_latest 6 = .ok (.iconst 0, 1) := by decide +kernel
theorem dX5_latest_7 : decode cX5_latest 7 = .ok (.iconst 4, 1) := by decide +kernel
theorem dX5_latest_8 : decode cX5_latest 8 = .ok (.invokestatic 78, 3) := by decide +kernel
theorem dX5_latest_11 : decode cX5_latest 11 = .ok (.ifCond .eq 12, 3) := by decide +kernel
theorem dX5_latest_14 : decode cX5_latest 14 = .ok (.aload_n 0, 1) := by decide +kernel
theorem dX5_latest_15 : decode cX5_latest 15 = .ok (.getfield 66, 3) := by decide +kernel
theorem dX5_latest_18 : decode cX5_latest 18 = .ok (.iload_n 1, 1) := by decide +kernel
theorem dX5_latest_19 : decode cX5_latest 19 = .ok (.iaload, 1) := by decide +kernel
theorem dX5_latest_20 : decode cX5_latest 20 = .ok (.goto 5, 3) := by decide +kernel
theorem dX5_latest_23 : decode cX5_latest 23 = .ok (.bipush (-12), 2) := by decide +kernel
theorem dX5_latest_25 : decode cX5_latest 25 = .ok (.ireturn, 1) := by decide +kernel
theorem dX5_lose_0 : decode cX5_lose 0 = .ok (.aload_n 0, 1) := by decide +kernel
theorem dX5_lose_1 : decode cX5_lose 1 = .ok (.iconst 0, 1) := by decide +kernel
theorem dX5_lose_2 : decode cX5_lose 2 = .ok (.putfield 72, 3) := by decide +kernel
theorem dX5_lose_5 : decode cX5_lose 5 = .ok (.iload_n 1, 1) := by decide +kernel
theorem dX5_lose_6 : decode cX5_lose 6 = .ok (.iconst 1, 1) := by decide +kernel
theorem dX5_lose_7 : decode cX5_lose 7 = .ok (.bipush 50, 2) := by decide +kernel
theorem dX5_lose_9 : decode cX5_lose 9 = .ok (.invokestatic 78, 3) := by decide +kernel
theorem dX5_lose_12 : decode cX5_lose 12 = .ok (.ifCond .ne 6, 3) := by decide +kernel
theorem dX5_lose_15 : decode cX5_lose 15 = .ok (.bipush (-12), 2) := by decide +kernel
theorem dX5_lose_17 : decode cX5_lose 17 = .ok (.ireturn, 1) := by decide +kernel
theorem dX5_lose_18 : decode cX5_lose 18 = .ok (.aload_n 0, 1) := by decide +kernel
theorem dX5_lose_19 : decode cX5_lose 19 = .ok (.getfield 112, 3) := by decide +kernel
theorem dX5_lose_22 : decode cX5_lose 22 = .ok (.iload_n 1, 1) := by decide +kernel
theorem dX5_lose_23 : decode cX5_lose 23 = .ok (.iadd, 1) := by decide +kernel
theorem dX5_lose_24 : decode cX5_lose 24 = .ok (.bipush 64, 2) := by decide +kernel
theorem dX5_lose_26 : decode cX5_lose 26 = .ok (.irem, 1) := by decide +kernel
theorem dX5_lose_27 : decode cX5_lose 27 = .ok (.istore_n 3, 1) := by decide +kernel
theorem dX5_lose_28 : decode cX5_lose 28 = .ok (.iload_n 2, 1) := by decide +kernel
theorem dX5_lose_29 : decode cX5_lose 29 = .ok (.ifCond .eq 12, 3) := by decide +kernel
theorem dX5_lose_32 : decode cX5_lose 32 = .ok (.aload_n 0, 1) := by decide +kernel
theorem dX5_lose_33 : decode cX5_lose 33 = .ok (.getfield 63, 3) := by decide +kernel
theorem dX5_lose_36 : decode cX5_lose 36 = .ok (.iload_n 3, 1) := by decide +kernel
theorem dX5_lose_37 : decode cX5_lose 37 = .ok (.baload, 1) := by decide +kernel
theorem dX5_lose_38 : decode cX5_lose 38 = .ok (.goto 9, 3) := by decide +kernel
theorem dX5_lose_41 : decode cX5_lose 41 = .ok (.aload_n 0, 1) := by decide +kernel
theorem dX5_lose_42 : decode cX5_lose 42 = .ok (.getfield 60, 3) := by decide +kernel
theorem dX5_lose_45 : decode cX5_lose 45 = .ok (.iload_n 3, 1) := by decide +kernel
theorem dX5_lose_46 : decode cX5_lose 46 = .ok (.baload, 1) := by decide +kernel
theorem dX5_lose_47 : decode cX5_lose 47 = .ok (.istore 4, 2) := by decide +kernel
theorem dX5_lose_49 : decode cX5_lose 49 = .ok (.aload_n 0, 1) := by decide +kernel
theorem dX5_lose_50 : decode cX5_lose 50 = .ok (.getfield 63, 3) := by decide +kernel
theorem dX5_lose_53 : decode cX5_lose 53 = .ok (.iload_n 3, 1) := by decide +kernel
theorem dX5_lose_54 : decode cX5_lose 54 = .ok (.aload_n 0, 1) := by decide +kernel
theorem dX5_lose_55 : decode cX5_lose 55 = .ok (.getfield 63, 3) := by decide +kernel
theorem dX5_lose_58 : decode cX5_lose 58 = .ok (.iload_n 3, 1) := by decide +kernel
theorem dX5_lose_59 : decode cX5_lose 59 = .ok (.baload, 1) := by decide +kernel
theorem dX5_lose_60 : decode cX5_lose 60 = .ok (.ifCond .ne 7, 3) := by decide +kernel
theorem dX5_lose_63 : decode cX5_lose 63 = .ok (.iload_n 2, 1) := by decide +kernel
theorem dX5_lose_64 : decode cX5_lose 64 = .ok (.ifCond .eq 7, 3) := by decide +kernel
theorem dX5_lose_67 : decode cX5_lose 67 = .ok (.iconst 1, 1) := by decide +kernel
theorem dX5_lose_68 : decode cX5_lose 68 = .ok (.goto 4, 3) := by decide +kernel
theorem dX5_lose_71 : decode cX5_lose 71 = .ok (.iconst 0, 1) := by decide +kernel
theorem dX5_lose_72 : decode cX5_lose 72 = .ok (.bastore, 1) := by decide +kernel
theorem dX5_lose_73 : decode cX5_lose 73 = .ok (.aload_n 0, 1) := by decide +kernel
theorem dX5_lose_74 : decode cX5_lose 74 = .ok (.getfield 60, 3) := by decide +kernel
theorem dX5_lose_77 : decode cX5_lose 77 = .ok (.iload_n 3, 1) := by decide +kernel
theorem dX5_lose_78 : decode cX5_lose 78 = .ok (.aload_n 0, 1) := by decide +kernel
theorem dX5_lose_79 : decode cX5_lose 79 = .ok (.getfield 60, 3) := by decide +kernel
theorem dX5_lose_82 : decode cX5_lose 82 = .ok (.iload_n 3, 1) := by decide +kernel
theorem dX5_lose_83 : decode cX5_lose 83 = .ok (.baload, 1) := by decide +kernel
theorem dX5_lose_84 : decode cX5_lose 84 = .ok (.ifCond .ne 7, 3) := by decide +kernel
theorem dX5_lose_87 : decode cX5_lose 87 = .ok (.iload_n 2, 1) := by decide +kernel
theorem dX5_lose_88 : decode cX5_lose 88 = .ok (.ifCond .ne 7, 3) := by decide +kernel
theorem dX5_lose_91 : decode cX5_lose 91 = .ok (.iconst 1, 1) := by decide +kernel
theorem dX5_lose_92 : decode cX5_lose 92 = .ok (.goto 4, 3) := by decide +kernel
theorem dX5_lose_95 : decode cX5_lose 95 = .ok (.iconst 0, 1) := by decide +kernel
theorem dX5_lose_96 : decode cX5_lose 96 = .ok (.bastore, 1) := by decide +kernel
theorem dX5_lose_97 : decode cX5_lose 97 = .ok (.iload 4, 2) := by decide +kernel
theorem dX5_lose_99 : decode cX5_lose 99 = .ok (.ifCond .eq 7, 3) := by decide +kernel
theorem dX5_lose_102 : decode cX5_lose 102 = .ok (.iconst 0, 1) := by decide +kernel
theorem dX5_lose_103 : decode cX5_lose 103 = .ok (.goto 4, 3) := by decide +kernel
theorem dX5_lose_106 : decode cX5_lose 106 = .ok (.iconst 1, 1) := by decide +kernel
theorem dX5_lose_107 : decode cX5_lose 107 = .ok (.ireturn, 1) := by decide +kernel
theorem dX5_mark_0 : decode cX5_mark 0 = .ok (.aload_n 0, 1) := by decide +kernel
theorem dX5_mark_1 : decode cX5_mark 1 = .ok (.iconst 0, 1) := by decide +kernel
theorem dX5_mark_2 : decode cX5_mark 2 = .ok (.putfield 72, 3) := by decide +kernel
theorem dX5_mark_5 : decode cX5_mark 5 = .ok (.aload_n 0, 1) := by decide +kernel
theorem dX5_mark_6 : decode cX5_mark 6 = .ok (.getfield 130, 3) := by decide +kernel
theorem dX5_mark_9 : decode cX5_mark 9 = .ok (.bipush 6, 2) := by decide +kernel
end
section
theorem dX5_mark_11 : decode cX5_mark 11 = .ok (.if_icmp .ne 6, 3) := by decide +kernel
theorem dX5_mark_14 : decode cX5_mark 14 = .ok (.bipush (-14), 2) := by decide +kernel
theorem dX5_mark_16 : decode cX5_mark 16 = .ok (.ireturn, 1) := by decide +kernel
theorem dX5_mark_17 : decode cX5_mark 17 = .ok (.iconst 0, 1) := by decide +kernel
theorem dX5_mark_18 : decode cX5_mark 18 = .ok (.istore_n 1, 1) := by decide +kernel
theorem dX5_mark_19 : decode cX5_mark 19 = .ok (.iload_n 1, 1) := by decide +kernel
theorem dX5_mark_20 : decode cX5_mark 20 = .ok (.bipush 48, 2) := by decide +kernel
theorem dX5_mark_22 : decode cX5_mark 22 = .ok (.if_icmp .ge 29, 3) := by decide +kernel
theorem dX5_mark_25 : decode cX5_mark 25 = .ok (.aload_n 0, 1) := by decide +kernel
theorem dX5_mark_26 : decode cX5_mark 26 = .ok (.getfield 45, 3) := by decide +kernel
theorem dX5_mark_29 : decode cX5_mark 29 = .ok (.bipush 48, 2) := by decide +kernel
theorem dX5_mark_31 : decode cX5_mark 31 = .ok (.aload_n 0, 1) := by decide +kernel
theorem dX5_mark_32 : decode cX5_mark 32 = .ok (.getfield 130, 3) := by decide +kernel
theorem dX5_mark_35 : decode cX5_mark 35 = .ok (.imul, 1) := by decide +kernel
theorem dX5_mark_36 : decode cX5_mark 36 = .ok (.iload_n 1, 1) := by decide +kernel
theorem dX5_mark_37 : decode cX5_mark 37 = .ok (.iadd, 1) := by decide +kernel
theorem dX5_mark_38 : decode cX5_mark 38 = .ok (.aload_n 0, 1) := by decide +kernel
theorem dX5_mark_39 : decode cX5_mark 39 = .ok (.getfield 36, 3) := by decide +kernel
theorem dX5_mark_42 : decode cX5_mark 42 = .ok (.iload_n 1, 1) := by decide +kernel
theorem dX5_mark_43 : decode cX5_mark 43 = .ok (.iaload, 1) := by decide +kernel
theorem dX5_mark_44 : decode cX5_mark 44 = .ok (.iastore, 1) := by decide +kernel
theorem dX5_mark_45 : decode cX5_mark 45 = .ok (.iinc 1 1, 3) := by decide +kernel
theorem dX5_mark_48 : decode cX5_mark 48 = .ok (.goto (-29), 3) := by decide +kernel
theorem dX5_mark_51 : decode cX5_mark 51 = .ok (.iconst 0, 1) := by decide +kernel
theorem dX5_mark_52 : decode cX5_mark 52 = .ok (.istore_n 1, 1) := by decide +kernel
theorem dX5_mark_53 : decode cX5_mark 53 = .ok (.iload_n 1, 1) := by decide +kernel
theorem dX5_mark_54 : decode cX5_mark 54 = .ok (.sipush 256, 3) := by decide +kernel
theorem dX5_mark_57 : decode cX5_mark 57 = .ok (.if_icmp .ge 30, 3) := by decide +kernel
theorem dX5_mark_60 : decode cX5_mark 60 = .ok (.aload_n 0, 1) := by decide +kernel
theorem dX5_mark_61 : decode cX5_mark 61 = .ok (.getfield 48, 3) := by decide +kernel
theorem dX5_mark_64 : decode cX5_mark 64 = .ok (.sipush 256, 3) := by decide +kernel
theorem dX5_mark_67 : decode cX5_mark 67 = .ok (.aload_n 0, 1) := by decide +kernel
theorem dX5_mark_68 : decode cX5_mark 68 = .ok (.getfield 130, 3) := by decide +kernel
theorem dX5_mark_71 : decode cX5_mark 71 = .ok (.imul, 1) := by decide +kernel
theorem dX5_mark_72 : decode cX5_mark 72 = .ok (.iload_n 1, 1) := by decide +kernel
theorem dX5_mark_73 : decode cX5_mark 73 = .ok (.iadd, 1) := by decide +kernel
theorem dX5_mark_74 : decode cX5_mark 74 = .ok (.aload_n 0, 1) := by decide +kernel
theorem dX5_mark_75 : decode cX5_mark 75 = .ok (.getfield 39, 3) := by decide +kernel
theorem dX5_mark_78 : decode cX5_mark 78 = .ok (.iload_n 1, 1) := by decide +kernel
theorem dX5_mark_79 : decode cX5_mark 79 = .ok (.baload, 1) := by decide +kernel
theorem dX5_mark_80 : decode cX5_mark 80 = .ok (.bastore, 1) := by decide +kernel
theorem dX5_mark_81 : decode cX5_mark 81 = .ok (.iinc 1 1, 3) := by decide +kernel
theorem dX5_mark_84 : decode cX5_mark 84 = .ok (.goto (-31), 3) := by decide +kernel
theorem dX5_mark_87 : decode cX5_mark 87 = .ok (.iconst 0, 1) := by decide +kernel
theorem dX5_mark_88 : decode cX5_mark 88 = .ok (.istore_n 1, 1) := by decide +kernel
theorem dX5_mark_89 : decode cX5_mark 89 = .ok (.iload_n 1, 1) := by decide +kernel
theorem dX5_mark_90 : decode cX5_mark 90 = .ok (.iconst 2, 1) := by decide +kernel
theorem dX5_mark_91 : decode cX5_mark 91 = .ok (.aload_n 0, 1) := by decide +kernel
theorem dX5_mark_92 : decode cX5_mark 92 = .ok (.getfield 128, 3) := by decide +kernel
theorem dX5_mark_95 : decode cX5_mark 95 = .ok (.imul, 1) := by decide +kernel
theorem dX5_mark_96 : decode cX5_mark 96 = .ok (.if_icmp .ge 30, 3) := by decide +kernel
theorem dX5_mark_99 : decode cX5_mark 99 = .ok (.aload_n 0, 1) := by decide +kernel
theorem dX5_mark_100 : decode cX5_mark 100 = .ok (.getfield 51, 3) := by decide +kernel
theorem dX5_mark_103 : decode cX5_mark 103 = .ok (.sipush 200, 3) := by decide +kernel
theorem dX5_mark_106 : decode cX5_mark 106 = .ok (.aload_n 0, 1) := by decide +kernel
theorem dX5_mark_107 : decode cX5_mark 107 = .ok (.getfield 130, 3) := by decide +kernel
theorem dX5_mark_110 : decode cX5_mark 110 = .ok (.imul, 1) := by decide +kernel
theorem dX5_mark_111 : decode cX5_mark 111 = .ok (.iload_n 1, 1) := by decide +kernel
theorem dX5_mark_112 : decode cX5_mark 112 = .ok (.iadd, 1) := by decide +kernel
theorem dX5_mark_113 : decode cX5_mark 113 = .ok (.aload_n 0, 1) := by decide +kernel
theorem dX5_mark_114 : decode cX5_mark 114 = .ok (.getfield 42, 3) := by decide +kernel
theorem dX5_mark_117 : decode cX5_mark 117 = .ok (.iload_n 1, 1) := by decide +kernel
theorem dX5_mark_118 : decode cX5_mark 118 = .ok (.iaload, 1) := by decide +kernel
theorem dX5_mark_119 : decode cX5_mark 119 = .ok (.iastore, 1) := by decide +kernel
theorem dX5_mark_120 : decode cX5_mark 120 = .ok (.iinc 1 1, 3) := by decide +kernel
theorem dX5_mark_123 : decode cX5_mark 123 = .ok (.goto (-34), 3) := by decide +kernel
theorem dX5_mark_126 : decode cX5_mark 126 = .ok (.aload_n 0, 1) := by decide +kernel
theorem dX5_mark_127 : decode cX5_mark 127 = .ok (.getfield 54, 3) := by decide +kernel
theorem dX5_mark_130 : decode cX5_mark 130 = .ok (.aload_n 0, 1) := by decide +kernel
theorem dX5_mark_131 : decode cX5_mark 131 = .ok (.getfield 130, 3) := by decide +kernel
theorem dX5_mark_134 : decode cX5_mark 134 = .ok (.aload_n 0, 1) := by decide +kernel
theorem dX5_mark_135 : decode cX5_mark 135 = .ok (.getfield 128, 3) := by decide +kernel
theorem dX5_mark_138 : decode cX5_mark 138 = .ok (.iastore, 1) := by decide +kernel
theorem dX5_mark_139 : decode cX5_mark 139 = .ok (.aload_n 0, 1) := by decide +kernel
theorem dX5_mark_140 : decode cX5_mark 140 = .ok (.getfield 57, 3) := by decide +kernel
theorem dX5_mark_143 : decode cX5_mark 143 = .ok (.aload_n 0, 1) := by decide +kernel
theorem dX5_mark_144 : decode cX5_mark 144 = .ok (.getfield 130, 3) := by decide +kernel
theorem dX5_mark_147 : decode cX5_mark 147 = .ok (.aload_n 0, 1) := by decide +kernel
theorem dX5_mark_148 : decode cX5_mark 148 = .ok (.getfield 75, 3) := by decide +kernel
theorem dX5_mark_151 : decode cX5_mark 151 = .ok (.iastore, 1) := by decide +kernel
theorem dX5_mark_152 : decode cX5_mark 152 = .ok (.aload_n 0, 1) := by decide +kernel
theorem dX5_mark_153 : decode cX5_mark 153 = .ok (.dup, 1) := by decide +kernel
theorem dX5_mark_154 : decode cX5_mark 154 = .ok (.getfield 130, 3) := by decide +kernel
theorem dX5_mark_157 : decode cX5_mark 157 = .ok (.iconst 1, 1) := by decide +kernel
theorem dX5_mark_158 : decode cX5_mark 158 = .ok (.iadd, 1) := by decide +kernel
theorem dX5_mark_159 : decode cX5_mark 159 = .ok (.putfield 130, 3) := by decide +kernel
theorem dX5_mark_162 : decode cX5_mark 162 = .ok (.aload_n 0, 1) := by decide +kernel
theorem dX5_mark_163 : decode cX5_mark 163 = .ok (.getfield 130, 3) := by decide +kernel
theorem dX5_mark_166 : decode cX5_mark 166 = .ok (.iconst 1, 1) := by decide +kernel
theorem dX5_mark_167 : decode cX5_mark 167 = .ok (.isub, 1) := by decide +kernel
theorem dX5_mark_168 : decode cX5_mark 168 = .ok (.ireturn, 1) := by decide +kernel
theorem dX5_restore_0 : decode cX5_restore 0 = .ok (.aload_n 0, 1) := by decide +kernel
theorem dX5_restore_1 : decode cX5_restore 1 = .ok (.iconst 0, 1) := by decide +kernel
theorem dX5_restore_2 : decode cX5_restore 2 = .ok (.putfield 72, 3) := by decide +kernel
theorem dX5_restore_5 : decode cX5_restore 5 = .ok (.iload_n 1, 1) := by decide +kernel
theorem dX5_restore_6 : decode cX5_restore 6 = .ok (.iconst 0, 1) := by decide +kernel
theorem dX5_restore_7 : decode cX5_restore 7 = .ok (.aload_n 0, 1) := by decide +kernel
theorem dX5_restore_8 : decode cX5_restore 8 = .ok (.getfield 130, 3) := by decide +kernel
theorem dX5_restore_11 : decode cX5_restore 11 = .ok (.iconst 1, 1) := by decide +kernel
theorem dX5_restore_12 : decode cX5_restore 12 = .ok (.isub, 1) := by decide +kernel
theorem dX5_restore_13 : decode cX5_restore 13 = .ok (.invokestatic 78, 3) := by decide +kernel
theorem dX5_restore_16 : decode cX5_restore 16 = .ok (.ifCond .ne 6, 3) := by decide +kernel
theorem dX5_restore_19 : decode cX5_restore 19 = .ok (.bipush (-11), 2) := by decide +kernel
theorem dX5_restore_21 : decode cX5_restore 21 = .ok (.ireturn, 1) := by decide +kernel
theorem dX5_restore_22 : decode cX5_restore 22 = .ok (.iconst 0, 1) := by decide +kernel
theorem dX5_restore_23 : decode cX5_restore 23 = .ok (.istore_n 2, 1) := by decide +kernel
theorem dX5_restore_24 : decode cX5_restore 24 = .ok (.iconst 0, 1) := by decide +kernel
theorem dX5_restore_25 : decode cX5_restore 25 = .ok (.istore_n 3, 1) := by decide +kernel
theorem dX5_restore_26 : decode cX5_restore 26 = .ok (.iload_n 3, 1) := by decide +kernel
theorem dX5_restore_27 : decode cX5_restore 27 = .ok (.aload_n 0, 1) := by decide +kernel
theorem dX5_restore_28 : decode cX5_restore 28 = .ok (.getfield 75, 3) := by decide +kernel
theorem dX5_restore_31 : decode cX5_restore 31 = .ok (.if_icmp .ge 125, 3) := by decide +kernel
theorem dX5_restore_34 : decode cX5_restore 34 = .ok (.aload_n 0, 1) := by decide +kernel
theorem dX5_restore_35 : decode cX5_restore 35 = .ok (.getfield 36, 3) := by decide +kernel
theorem dX5_restore_38 : decode cX5_restore 38 = .ok (.iload_n 3, 1) := by decide +kernel
theorem dX5_restore_39 : decode cX5_restore 39 = .ok (.iaload, 1) := by decide +kernel
theorem dX5_restore_40 : decode cX5_restore 40 = .ok (.istore 4, 2) := by decide +kernel
theorem dX5_restore_42 : decode cX5_restore 42 = .ok (.aload_n 0, 1) := by decide +kernel
theorem dX5_restore_43 : decode cX5_restore 43 = .ok (.iload_n 3, 1) := by decide +kernel
theorem dX5_restore_44 : decode cX5_restore 44 = .ok (.invokevirtual 86, 3) := by decide +kernel
theorem dX5_restore_47 : decode cX5_restore 47 = .ok (.iconst 0, 1) := by decide +kernel
theorem dX5_restore_48 : decode cX5_restore 48 = .ok (.istore 5, 2) := by decide +kernel
theorem dX5_restore_50 : decode cX5_restore 50 = .ok (.iload 5, 2) := by decide +kernel
theorem dX5_restore_52 : decode cX5_restore 52 = .ok (.iconst 4, 1) := by decide +kernel
theorem dX5_restore_53 : decode cX5_restore 53 = .ok (.if_icmp .ge 48, 3) := by decide +kernel
theorem dX5_restore_56 : decode cX5_restore 56 = .ok (.iload_n 3, 1) := by decide +kernel
theorem dX5_restore_57 : decode cX5_restore 57 = .ok (.aload_n 0, 1) := by decide +kernel
theorem dX5_restore_58 : decode cX5_restore 58 = .ok (.getfield 57, 3) := by decide +kernel
theorem dX5_restore_61 : decode cX5_restore 61 = .ok (.iload_n 1, 1) := by decide +kernel
theorem dX5_restore_62 : decode cX5_restore 62 = .ok (.iaload, 1) := by decide +kernel
theorem dX5_restore_63 : decode cX5_restore 63 = .ok (.if_icmp .ge 38, 3) := by decide +kernel
theorem dX5_restore_66 : decode cX5_restore 66 = .ok (.aload_n 0, 1) := by decide +kernel
theorem dX5_restore_67 : decode cX5_restore 67 = .ok (.getfield 36, 3) := by decide +kernel
theorem dX5_restore_70 : decode cX5_restore 70 = .ok (.bipush 12, 2) := by decide +kernel
theorem dX5_restore_72 : decode cX5_restore 72 = .ok (.iload 5, 2) := by decide +kernel
theorem dX5_restore_74 : decode cX5_restore 74 = .ok (.imul, 1) := by decide +kernel
theorem dX5_restore_75 : decode cX5_restore 75 = .ok (.iload_n 3, 1) := by decide +kernel
theorem dX5_restore_76 : decode cX5_restore 76 = .ok (.iadd, 1) := by decide +kernel
theorem dX5_restore_77 : decode cX5_restore 77 = .ok (.aload_n 0, 1) := by decide +kernel
theorem dX5_restore_78 : decode cX5_restore 78 = .ok (.getfield 45, 3) := by decide +kernel
theorem dX5_restore_81 : decode cX5_restore 81 = .ok (.bipush 48, 2) := by decide +kernel
theorem dX5_restore_83 : decode cX5_restore 83 = .ok (.iload_n 1, 1) := by decide +kernel
theorem dX5_restore_84 : decode cX5_restore 84 = .ok (.imul, 1) := by decide +kernel
theorem dX5_restore_85 : decode cX5_restore 85 = .ok (.bipush 12, 2) := by decide +kernel
theorem dX5_restore_87 : decode cX5_restore 87 = .ok (.iload 5, 2) := by decide +kernel
theorem dX5_restore_89 : decode cX5_restore 89 = .ok (.imul, 1) := by decide +kernel
theorem dX5_restore_90 : decode cX5_restore 90 = .ok (.iadd, 1) := by decide +kernel
theorem dX5_restore_91 : decode cX5_restore 91 = .ok (.iload_n 3, 1) := by decide +kernel
theorem dX5_restore_92 : decode cX5_restore 92 = .ok (.iadd, 1) := by decide +kernel
theorem dX5_restore_93 : decode cX5_restore 93 = .ok (.iaload, 1) := by decide +kernel
theorem dX5_restore_94 : decode cX5_restore 94 = .ok (.iastore, 1) := by decide +kernel
theorem dX5_restore_95 : decode cX5_restore 95 = .ok (.iinc 5 1, 3) := by decide +kernel
theorem dX5_restore_98 : decode cX5_restore 98 = .ok (.goto (-48), 3) := by decide +kernel
theorem dX5_restore_101 : decode cX5_restore 101 = .ok (.aload_n 0, 1) := by decide +kernel
theorem dX5_restore_102 : decode cX5_restore 102 = .ok (.getfield 36, 3) := by decide +kernel
theorem dX5_restore_105 : decode cX5_restore 105 = .ok (.bipush 36, 2) := by decide +kernel
theorem dX5_restore_107 : decode cX5_restore 107 = .ok (.iload_n 3, 1) := by decide +kernel
theorem dX5_restore_108 : decode cX5_restore 108 = .ok (.iadd, 1) := by decide +kernel
theorem dX5_restore_109 : decode cX5_restore 109 = .ok (.aload_n 0, 1) := by decide +kernel
theorem dX5_restore_110 : decode cX5_restore 110 = .ok (.iload_n 3, 1) := by decide +kernel
theorem dX5_restore_111 : decode cX5_restore 111 = .ok (.invokevirtual 105, 3) := by decide +kernel
theorem dX5_restore_114 : decode cX5_restore 114 = .ok (.aload_n 0, 1) := by decide +kernel
theorem dX5_restore_115 : decode cX5_restore 115 = .ok (.getfield 7, 3) := by decide +kernel
theorem dX5_restore_118 : decode cX5_restore 118 = .ok (.if_icmp .lt 7, 3) := by decide +kernel
theorem dX5_restore_121 : decode cX5_restore 121 = .ok (.iconst (-1), 1) := by decide +kernel
theorem dX5_restore_122 : decode cX5_restore 122 = .ok (.goto 8, 3) := by decide +kernel
theorem dX5_restore_125 : decode cX5_restore 125 = .ok (.aload_n 0, 1) := by decide +kernel
theorem dX5_restore_126 : decode cX5_restore 126 = .ok (.iload_n 3, 1) := by decide +kernel
theorem dX5_restore_127 : decode cX5_restore 127 = .ok (.invokevirtual 105, 3) := by decide +kernel
theorem dX5_restore_130 : decode cX5_restore 130 = .ok (.iastore, 1) := by decide +kernel
theorem dX5_restore_131 : decode cX5_restore 131 = .ok (.iload_n 2, 1) := by decide +kernel
theorem dX5_restore_132 : decode cX5_restore 132 = .ok (.aload_n 0, 1) := by decide +kernel
theorem dX5_restore_133 : decode cX5_restore 133 = .ok (.getfield 36, 3) := by decide +kernel
theorem dX5_restore_136 : decode cX5_restore 136 = .ok (.iload_n 3, 1) := by decide +kernel
theorem dX5_restore_137 : decode cX5_restore 137 = .ok (.iaload, 1) := by decide +kernel
theorem dX5_restore_138 : decode cX5_restore 138 = .ok (.iload 4, 2) := by decide +kernel
theorem dX5_restore_140 : decode cX5_restore 140 = .ok (.if_icmp .eq 7, 3) := by decide +kernel
theorem dX5_restore_143 : decode cX5_restore 143 = .ok (.iconst 1, 1) := by decide +kernel
theorem dX5_restore_144 : decode cX5_restore 144 = .ok (.goto 4, 3) := by decide +kernel
theorem dX5_restore_147 : decode cX5_restore 147 = .ok (.iconst 0, 1) := by decide +kernel
theorem dX5_restore_148 : decode cX5_restore 148 = .ok (.iadd, 1) := by decide +kernel
theorem dX5_restore_149 : decode cX5_restore 149 = .ok (.istore_n 2, 1) := by decide +kernel
theorem dX5_restore_150 : decode cX5_restore 150 = .ok (.iinc 3 1, 3) := by decide +kernel
theorem dX5_restore_153 : decode cX5_restore 153 = .ok (.goto (-127), 3) := by decide +kernel
theorem dX5_restore_156 : decode cX5_restore 156 = .ok (.iconst 0, 1) := by decide +kernel
theorem dX5_restore_157 : decode cX5_restore 157 = .ok (.istore_n 3, 1) := by decide +kernel
theorem dX5_restore_158 : decode cX5_restore 158 = .ok (.iload_n 3, 1) := by decide +kernel
theorem dX5_restore_159 : decode cX5_restore 159 = .ok (.sipush 256, 3) := by decide +kernel
theorem dX5_restore_162 : decode cX5_restore 162 = .ok (.if_icmp .ge 27, 3) := by decide +kernel
theorem dX5_restore_165 : decode cX5_restore 165 = .ok (.aload_n 0, 1) := by decide +kernel
theorem dX5_restore_166 : decode cX5_restore 166 = .ok (.getfield 39, 3) := by decide +kernel
theorem dX5_restore_169 : decode cX5_restore 169 = .ok (.iload_n 3, 1) := by decide +kernel
theorem dX5_restore_170 : decode cX5_restore 170 = .ok (.aload_n 0, 1) := by decide +kernel
theorem dX5_restore_171 : decode cX5_restore 171 = .ok (.getfield 48, 3) := by decide +kernel
theorem dX5_restore_174 : decode cX5_restore 174 = .ok (.sipush 256, 3) := by decide +kernel
theorem dX5_restore_177 : decode cX5_restore 177 = .ok (.iload_n 1, 1) := by decide +kernel
theorem dX5_restore_178 : decode cX5_restore 178 = .ok (.imul, 1) := by decide +kernel
theorem dX5_restore_179 : decode cX5_restore 179 = .ok (.iload_n 3, 1) := by decide +kernel
theorem dX5_restore_180 : decode cX5_restore 180 = .ok (.iadd, 1) := by decide +kernel
theorem dX5_restore_181 : decode cX5_restore 181 = .ok (.baload, 1) := by decide +kernel
theorem dX5_restore_182 : decode cX5_restore 182 = .ok (.bastore, 1) := by decide +kernel
theorem dX5_restore_183 : decode cX5_restore 183 = .ok (.iinc 3 1, 3) := by decide +kernel
theorem dX5_restore_186 : decode cX5_restore 186 = .ok (.goto (-28), 3) := by decide +kernel
theorem dX5_restore_189 : decode cX5_restore 189 = .ok (.aload_n 0, 1) := by decide +kernel
theorem dX5_restore_190 : decode cX5_restore 190 = .ok (.aload_n 0, 1) := by decide +kernel
theorem dX5_restore_191 : decode cX5_restore 191 = .ok (.getfield 54, 3) := by decide +kernel
theorem dX5_restore_194 : decode cX5_restore 194 = .ok (.iload_n 1, 1) := by decide +kernel
theorem dX5_restore_195 : decode cX5_restore 195 = .ok (.iaload, 1) := by decide +kernel
theorem dX5_restore_196 : decode cX5_restore 196 = .ok (.putfield 128, 3) := by decide +kernel
theorem dX5_restore_199 : decode cX5_restore 199 = .ok (.iconst 0, 1) := by decide +kernel
theorem dX5_restore_200 : decode cX5_restore 200 = .ok (.istore_n 3, 1) := by decide +kernel
theorem dX5_restore_201 : decode cX5_restore 201 = .ok (.iload_n 3, 1) := by decide +kernel
theorem dX5_restore_202 : decode cX5_restore 202 = .ok (.iconst 2, 1) := by decide +kernel
theorem dX5_restore_203 : decode cX5_restore 203 = .ok (.aload_n 0, 1) := by decide +kernel
theorem dX5_restore_204 : decode cX5_restore 204 = .ok (.getfield 128, 3) := by decide +kernel
theorem dX5_restore_207 : decode cX5_restore 207 = .ok (.imul, 1) := by decide +kernel
theorem dX5_restore_208 : decode cX5_restore 208 = .ok (.if_icmp .ge 27, 3) := by decide +kernel
theorem dX5_restore_211 : decode cX5_restore 211 = .ok (.aload_n 0, 1) := by decide +kernel
theorem dX5_restore_212 : decode cX5_restore 212 = .ok (.getfield 42, 3) := by decide +kernel
theorem dX5_restore_215 : decode cX5_restore 215 = .ok (.iload_n 3, 1) := by decide +kernel
theorem dX5_restore_216 : decode cX5_restore 216 = .ok (.aload_n 0, 1) := by decide +kernel
theorem dX5_restore_217 : decode cX5_restore 217 = .ok (.getfield 51, 3) := by decide +kernel
theorem dX5_restore_220 : decode cX5_restore 220 = .ok (.sipush 200, 3) := by decide +kernel
theorem dX5_restore_223 : decode cX5_restore 223 = .ok (.iload_n 1, 1) := by decide +kernel
theorem dX5_restore_224 : decode cX5_restore 224 = .ok (.imul, 1) := by decide +kernel
theorem dX5_restore_225 : decode cX5_restore 225 = .ok (.iload_n 3, 1) := by decide +kernel
theorem dX5_restore_226 : decode cX5_restore 226 = .ok (.iadd, 1) := by decide +kernel
theorem dX5_restore_227 : decode cX5_restore 227 = .ok (.iaload, 1) := by decide +kernel
theorem dX5_restore_228 : decode cX5_restore 228 = .ok (.iastore, 1) := by decide +kernel
theorem dX5_restore_229 : decode cX5_restore 229 = .ok (.iinc 3 1, 3) := by decide +kernel
theorem dX5_restore_232 : decode cX5_restore 232 = .ok (.goto (-31), 3) := by decide +kernel
theorem dX5_restore_235 : decode cX5_restore 235 = .ok (.iload_n 2, 1) := by decide +kernel
theorem dX5_restore_236 : decode cX5_restore 236 = .ok (.ireturn, 1) := by decide +kernel
theorem dX5_givesNone_0 : decode cX5_givesNone 0 = .ok (.iconst 0, 1) := by decide +kernel
theorem dX5_givesNone_1 : decode cX5_givesNone 1 = .ok (.istore_n 1, 1) := by decide +kernel
theorem dX5_givesNone_2 : decode cX5_givesNone 2 = .ok (.iload_n 1, 1) := by decide +kernel
theorem dX5_givesNone_3 : decode cX5_givesNone 3 = .ok (.sipush 256, 3) := by decide +kernel
theorem dX5_givesNone_6 : decode cX5_givesNone 6 = .ok (.if_icmp .ge 16, 3) := by decide +kernel
theorem dX5_givesNone_9 : decode cX5_givesNone 9 = .ok (.aload_n 0, 1) := by decide +kernel
theorem dX5_givesNone_10 : decode cX5_givesNone 10 = .ok (.getfield 39, 3) := by decide +kernel
theorem dX5_givesNone_13 : decode cX5_givesNone 13 = .ok (.iload_n 1, 1) := by decide +kernel
theorem dX5_givesNone_14 : decode cX5_givesNone 14 = .ok (.iconst 0, 1) := by decide +kernel
theorem dX5_givesNone_15 : decode cX5_givesNone 15 = .ok (.bastore, 1) := by decide +kernel
theorem dX5_givesNone_16 : decode cX5_givesNone 16 = .ok (.iinc 1 1, 3) := by decide +kernel
theorem dX5_givesNone_19 : decode cX5_givesNone 19 = .ok (.goto (-17), 3) := by decide +kernel
theorem dX5_givesNone_22 : decode cX5_givesNone 22 = .ok (.aload_n 0, 1) := by decide +kernel
theorem dX5_givesNone_23 : decode cX5_givesNone 23 = .ok (.iconst 0, 1) := by decide +kernel
theorem dX5_givesNone_24 : decode cX5_givesNone 24 = .ok (.putfield 128, 3) := by decide +kernel
theorem dX5_givesNone_27 : decode cX5_givesNone 27 = .ok (.return_, 1) := by decide +kernel
theorem dX5_start_0 : decode cX5_start 0 = .ok (.aload_n 0, 1) := by decide +kernel
theorem dX5_start_1 : decode cX5_start 1 = .ok (.iconst 0, 1) := by decide +kernel
theorem dX5_start_2 : decode cX5_start 2 = .ok (.putfield 72, 3) := by decide +kernel
theorem dX5_start_5 : decode cX5_start 5 = .ok (.iload_n 1, 1) := by decide +kernel
theorem dX5_start_6 : decode cX5_start 6 = .ok (.iconst 0, 1) := by decide +kernel
theorem dX5_start_7 : decode cX5_start 7 = .ok (.ldc 97, 2) := by decide +kernel
theorem dX5_start_9 : decode cX5_start 9 = .ok (.invokestatic 78, 3) := by decide +kernel
theorem dX5_start_12 : decode cX5_start 12 = .ok (.ifCond .ne 6, 3) := by decide +kernel
theorem dX5_start_15 : decode cX5_start 15 = .ok (.bipush (-12), 2) := by decide +kernel
theorem dX5_start_17 : decode cX5_start 17 = .ok (.ireturn, 1) := by decide +kernel
theorem dX5_start_18 : decode cX5_start 18 = .ok (.iconst 0, 1) := by decide +kernel
theorem dX5_start_19 : decode cX5_start 19 = .ok (.istore_n 2, 1) := by decide +kernel
theorem dX5_start_20 : decode cX5_start 20 = .ok (.iconst 0, 1) := by decide +kernel
theorem dX5_start_21 : decode cX5_start 21 = .ok (.istore_n 3, 1) := by decide +kernel
theorem dX5_start_22 : decode cX5_start 22 = .ok (.iload_n 3, 1) := by decide +kernel
theorem dX5_start_23 : decode cX5_start 23 = .ok (.aload_n 0, 1) := by decide +kernel
theorem dX5_start_24 : decode cX5_start 24 = .ok (.getfield 75, 3) := by decide +kernel
theorem dX5_start_27 : decode cX5_start 27 = .ok (.if_icmp .ge 89, 3) := by decide +kernel
theorem dX5_start_30 : decode cX5_start 30 = .ok (.iconst 0, 1) := by decide +kernel
theorem dX5_start_31 : decode cX5_start 31 = .ok (.istore 4, 2) := by decide +kernel
theorem dX5_start_33 : decode cX5_start 33 = .ok (.iload 4, 2) := by decide +kernel
theorem dX5_start_35 : decode cX5_start 35 = .ok (.aload_n 0, 1) := by decide +kernel
theorem dX5_start_36 : decode cX5_start 36 = .ok (.getfield 24, 3) := by decide +kernel
theorem dX5_start_39 : decode cX5_start 39 = .ok (.iload_n 3, 1) := by decide +kernel
theorem dX5_start_40 : decode cX5_start 40 = .ok (.iaload, 1) := by decide +kernel
theorem dX5_start_41 : decode cX5_start 41 = .ok (.if_icmp .ge 25, 3) := by decide +kernel
theorem dX5_start_44 : decode cX5_start 44 = .ok (.aload_n 0, 1) := by decide +kernel
theorem dX5_start_45 : decode cX5_start 45 = .ok (.getfield 17, 3) := by decide +kernel
theorem dX5_start_48 : decode cX5_start 48 = .ok (.bipush 40, 2) := by decide +kernel
theorem dX5_start_50 : decode cX5_start 50 = .ok (.iload_n 3, 1) := by decide +kernel
theorem dX5_start_51 : decode cX5_start 51 = .ok (.imul, 1) := by decide +kernel
theorem dX5_start_52 : decode cX5_start 52 = .ok (.iload 4, 2) := by decide +kernel
theorem dX5_start_54 : decode cX5_start 54 = .ok (.iadd, 1) := by decide +kernel
theorem dX5_start_55 : decode cX5_start 55 = .ok (.iaload, 1) := by decide +kernel
theorem dX5_start_56 : decode cX5_start 56 = .ok (.iload_n 1, 1) := by decide +kernel
theorem dX5_start_57 : decode cX5_start 57 = .ok (.if_icmp .ge 9, 3) := by decide +kernel
theorem dX5_start_60 : decode cX5_start 60 = .ok (.iinc 4 1, 3) := by decide +kernel
theorem dX5_start_63 : decode cX5_start 63 = .ok (.goto (-30), 3) := by decide +kernel
theorem dX5_start_66 : decode cX5_start 66 = .ok (.aload_n 0, 1) := by decide +kernel
theorem dX5_start_67 : decode cX5_start 67 = .ok (.getfield 36, 3) := by decide +kernel
theorem dX5_start_70 : decode cX5_start 70 = .ok (.iload_n 3, 1) := by decide +kernel
theorem dX5_start_71 : decode cX5_start 71 = .ok (.iload 4, 2) := by decide +kernel
theorem dX5_start_73 : decode cX5_start 73 = .ok (.iastore, 1) := by decide +kernel
theorem dX5_start_74 : decode cX5_start 74 = .ok (.aload_n 0, 1) := by decide +kernel
theorem dX5_start_75 : decode cX5_start 75 = .ok (.getfield 36, 3) := by decide +kernel
theorem dX5_start_78 : decode cX5_start 78 = .ok (.bipush 12, 2) := by decide +kernel
theorem dX5_start_80 : decode cX5_start 80 = .ok (.iload_n 3, 1) := by decide +kernel
theorem dX5_start_81 : decode cX5_start 81 = .ok (.iadd, 1) := by decide +kernel
theorem dX5_start_82 : decode cX5_start 82 = .ok (.iconst (-1), 1) := by decide +kernel
theorem dX5_start_83 : decode cX5_start 83 = .ok (.iastore, 1) := by decide +kernel
theorem dX5_start_84 : decode cX5_start 84 = .ok (.aload_n 0, 1) := by decide +kernel
theorem dX5_start_85 : decode cX5_start 85 = .ok (.getfield 36, 3) := by decide +kernel
theorem dX5_start_88 : decode cX5_start 88 = .ok (.bipush 24, 2) := by decide +kernel
theorem dX5_start_90 : decode cX5_start 90 = .ok (.iload_n 3, 1) := by decide +kernel
theorem dX5_start_91 : decode cX5_start 91 = .ok (.iadd, 1) := by decide +kernel
theorem dX5_start_92 : decode cX5_start 92 = .ok (.iconst 0, 1) := by decide +kernel
theorem dX5_start_93 : decode cX5_start 93 = .ok (.iastore, 1) := by decide +kernel
theorem dX5_start_94 : decode cX5_start 94 = .ok (.iload_n 2, 1) := by decide +kernel
theorem dX5_start_95 : decode cX5_start 95 = .ok (.aload_n 0, 1) := by decide +kernel
theorem dX5_start_96 : decode cX5_start 96 = .ok (.iload_n 3, 1) := by decide +kernel
theorem dX5_start_97 : decode cX5_start 97 = .ok (.invokevirtual 82, 3) := by decide +kernel
theorem dX5_start_100 : decode cX5_start 100 = .ok (.ifCond .eq 7, 3) := by decide +kernel
theorem dX5_start_103 : decode cX5_start 103 = .ok (.iconst 1, 1) := by decide +kernel
theorem dX5_start_104 : decode cX5_start 104 = .ok (.goto 4, 3) := by decide +kernel
theorem dX5_start_107 : decode cX5_start 107 = .ok (.iconst 0, 1) := by decide +kernel
theorem dX5_start_108 : decode cX5_start 108 = .ok (.iadd, 1) := by decide +kernel
theorem dX5_start_109 : decode cX5_start 109 = .ok (.istore_n 2, 1) := by decide +kernel
theorem dX5_start_110 : decode cX5_start 110 = .ok (.iinc 3 1, 3) := by decide +kernel
theorem dX5_start_113 : decode cX5_start 113 = .ok (.goto (-91), 3) := by decide +kernel
theorem dX5_start_116 : decode cX5_start 116 = .ok (.aload_n 0, 1) := by decide +kernel
theorem dX5_start_117 : decode cX5_start 117 = .ok (.invokevirtual 133, 3) := by decide +kernel
theorem dX5_start_120 : decode cX5_start 120 = .ok (.iload_n 2, 1) := by decide +kernel
theorem dX5_start_121 : decode cX5_start 121 = .ok (.ireturn, 1) := by decide +kernel
theorem dX5_scale_0 : decode cX5_scale 0 = .ok (.aload_n 0, 1) := by decide +kernel
theorem dX5_scale_1 : decode cX5_scale 1 = .ok (.iconst 0, 1) := by decide +kernel
theorem dX5_scale_2 : decode cX5_scale 2 = .ok (.putfield 72, 3) := by decide +kernel
theorem dX5_scale_5 : decode cX5_scale 5 = .ok (.iload_n 1, 1) := by decide +kernel
theorem dX5_scale_6 : decode cX5_scale 6 = .ok (.iconst 1, 1) := by decide +kernel
theorem dX5_scale_7 : decode cX5_scale 7 = .ok (.bipush 6, 2) := by decide +kernel
theorem dX5_scale_9 : decode cX5_scale 9 = .ok (.invokestatic 78, 3) := by decide +kernel
theorem dX5_scale_12 : decode cX5_scale 12 = .ok (.ifCond .ne 6, 3) := by decide +kernel
theorem dX5_scale_15 : decode cX5_scale 15 = .ok (.bipush (-12), 2) := by decide +kernel
theorem dX5_scale_17 : decode cX5_scale 17 = .ok (.ireturn, 1) := by decide +kernel
theorem dX5_scale_18 : decode cX5_scale 18 = .ok (.aload_n 0, 1) := by decide +kernel
theorem dX5_scale_19 : decode cX5_scale 19 = .ok (.iload_n 1, 1) := by decide +kernel
theorem dX5_scale_20 : decode cX5_scale 20 = .ok (.putfield 7, 3) := by decide +kernel
theorem dX5_scale_23 : decode cX5_scale 23 = .ok (.iconst 0, 1) := by decide +kernel
theorem dX5_scale_24 : decode cX5_scale 24 = .ok (.istore_n 2, 1) := by decide +kernel
theorem dX5_scale_25 : decode cX5_scale 25 = .ok (.iconst 0, 1) := by decide +kernel
theorem dX5_scale_26 : decode cX5_scale 26 = .ok (.istore_n 3, 1) := by decide +kernel
theorem dX5_scale_27 : decode cX5_scale 27 = .ok (.iload_n 3, 1) := by decide +kernel
theorem dX5_scale_28 : decode cX5_scale 28 = .ok (.aload_n 0, 1) := by decide +kernel
theorem dX5_scale_29 : decode cX5_scale 29 = .ok (.getfield 75, 3) := by decide +kernel
theorem dX5_scale_32 : decode cX5_scale 32 = .ok (.if_icmp .ge 49, 3) := by decide +kernel
theorem dX5_scale_35 : decode cX5_scale 35 = .ok (.aload_n 0, 1) := by decide +kernel
theorem dX5_scale_36 : decode cX5_scale 36 = .ok (.getfield 36, 3) := by decide +kernel
theorem dX5_scale_39 : decode cX5_scale 39 = .ok (.bipush 36, 2) := by decide +kernel
theorem dX5_scale_41 : decode cX5_scale 41 = .ok (.iload_n 3, 1) := by decide +kernel
theorem dX5_scale_42 : decode cX5_scale 42 = .ok (.iadd, 1) := by decide +kernel
theorem dX5_scale_43 : decode cX5_scale 43 = .ok (.aload_n 0, 1) := by decide +kernel
theorem dX5_scale_44 : decode cX5_scale 44 = .ok (.iload_n 3, 1) := by decide +kernel
theorem dX5_scale_45 : decode cX5_scale 45 = .ok (.invokevirtual 102, 3) := by decide +kernel
theorem dX5_scale_48 : decode cX5_scale 48 = .ok (.ifCond .eq 7, 3) := by decide +kernel
theorem dX5_scale_51 : decode cX5_scale 51 = .ok (.iconst (-1), 1) := by decide +kernel
theorem dX5_scale_52 : decode cX5_scale 52 = .ok (.goto 6, 3) := by decide +kernel
theorem dX5_scale_55 : decode cX5_scale 55 = .ok (.iload_n 2, 1) := by decide +kernel
theorem dX5_scale_56 : decode cX5_scale 56 = .ok (.iload_n 1, 1) := by decide +kernel
theorem dX5_scale_57 : decode cX5_scale 57 = .ok (.irem, 1) := by decide +kernel
theorem dX5_scale_58 : decode cX5_scale 58 = .ok (.iastore, 1) := by decide +kernel
theorem dX5_scale_59 : decode cX5_scale 59 = .ok (.iload_n 2, 1) := by decide +kernel
theorem dX5_scale_60 : decode cX5_scale 60 = .ok (.aload_n 0, 1) := by decide +kernel
theorem dX5_scale_61 : decode cX5_scale 61 = .ok (.iload_n 3, 1) := by decide +kernel
theorem dX5_scale_62 : decode cX5_scale 62 = .ok (.invokevirtual 102, 3) := by decide +kernel
theorem dX5_scale_65 : decode cX5_scale 65 = .ok (.ifCond .eq 7, 3) := by decide +kernel
theorem dX5_scale_68 : decode cX5_scale 68 = .ok (.iconst 0, 1) := by decide +kernel
theorem dX5_scale_69 : decode cX5_scale 69 = .ok (.goto 4, 3) := by decide +kernel
theorem dX5_scale_72 : decode cX5_scale 72 = .ok (.iconst 1, 1) := by decide +kernel
theorem dX5_scale_73 : decode cX5_scale 73 = .ok (.iadd, 1) := by decide +kernel
theorem dX5_scale_74 : decode cX5_scale 74 = .ok (.istore_n 2, 1) := by decide +kernel
theorem dX5_scale_75 : decode cX5_scale 75 = .ok (.iinc 3 1, 3) := by decide +kernel
theorem dX5_scale_78 : decode cX5_scale 78 = .ok (.goto (-51), 3) := by decide +kernel
theorem dX5_scale_81 : decode cX5_scale 81 = .ok (.iload_n 2, 1) := by decide +kernel
theorem dX5_scale_82 : decode cX5_scale 82 = .ok (.ireturn, 1) := by decide +kernel
theorem dX5_told_0 : decode cX5_told 0 = .ok (.aload_n 0, 1) := by decide +kernel
theorem dX5_told_1 : decode cX5_told 1 = .ok (.iconst 0, 1) := by decide +kernel
theorem dX5_told_2 : decode cX5_told 2 = .ok (.putfield 72, 3) := by decide +kernel
theorem dX5_told_5 : decode cX5_told 5 = .ok (.aload_n 0, 1) := by decide +kernel
theorem dX5_told_6 : decode cX5_told 6 = .ok (.iload_n 1, 1) := by decide +kernel
theorem dX5_told_7 : decode cX5_told 7 = .ok (.invokevirtual 94, 3) := by decide +kernel
theorem dX5_told_10 : decode cX5_told 10 = .ok (.ifCond .ne 6, 3) := by decide +kernel
theorem dX5_told_13 : decode cX5_told 13 = .ok (.bipush (-11), 2) := by decide +kernel
theorem dX5_told_15 : decode cX5_told 15 = .ok (.ireturn, 1) := by decide +kernel
theorem dX5_told_16 : decode cX5_told 16 = .ok (.iload_n 2, 1) := by decide +kernel
theorem dX5_told_17 : decode cX5_told 17 = .ok (.tableswitch 152 0 9 #[55, 62, 72, 82, 89, 95, 102, 117, 131, 145], 55) := by decide +kernel
theorem dX5_told_72 : decode cX5_told 72 = .ok (.aload_n 0, 1) := by decide +kernel
theorem dX5_told_73 : decode cX5_told 73 = .ok (.getfield 36, 3) := by decide +kernel
theorem dX5_told_76 : decode cX5_told 76 = .ok (.iload_n 1, 1) := by decide +kernel
theorem dX5_told_77 : decode cX5_told 77 = .ok (.iaload, 1) := by decide +kernel
theorem dX5_told_78 : decode cX5_told 78 = .ok (.ireturn, 1) := by decide +kernel
theorem dX5_told_79 : decode cX5_told 79 = .ok (.aload_n 0, 1) := by decide +kernel
theorem dX5_told_80 : decode cX5_told 80 = .ok (.getfield 36, 3) := by decide +kernel
theorem dX5_told_83 : decode cX5_told 83 = .ok (.bipush 12, 2) := by decide +kernel
theorem dX5_told_85 : decode cX5_told 85 = .ok (.iload_n 1, 1) := by decide +kernel
theorem dX5_told_86 : decode cX5_told 86 = .ok (.iadd, 1) := by decide +kernel
theorem dX5_told_87 : decode cX5_told 87 = .ok (.iaload, 1) := by decide +kernel
theorem dX5_told_88 : decode cX5_told 88 = .ok (.ireturn, 1) := by decide +kernel
theorem dX5_told_89 : decode cX5_told 89 = .ok (.aload_n 0, 1) := by decide +kernel
theorem dX5_told_90 : decode cX5_told 90 = .ok (.getfield 36, 3) := by decide +kernel
theorem dX5_told_93 : decode cX5_told 93 = .ok (.bipush 24, 2) := by decide +kernel
theorem dX5_told_95 : decode cX5_told 95 = .ok (.iload_n 1, 1) := by decide +kernel
theorem dX5_told_96 : decode cX5_told 96 = .ok (.iadd, 1) := by decide +kernel
theorem dX5_told_97 : decode cX5_told 97 = .ok (.iaload, 1) := by decide +kernel
theorem dX5_told_98 : decode cX5_told 98 = .ok (.ireturn, 1) := by decide +kernel
theorem dX5_told_99 : decode cX5_told 99 = .ok (.aload_n 0, 1) := by decide +kernel
theorem dX5_told_100 : decode cX5_told 100 = .ok (.getfield 30, 3) := by decide +kernel
theorem dX5_told_103 : decode cX5_told 103 = .ok (.iload_n 1, 1) := by decide +kernel
theorem dX5_told_104 : decode cX5_told 104 = .ok (.iaload, 1) := by decide +kernel
theorem dX5_told_105 : decode cX5_told 105 = .ok (.ireturn, 1) := by decide +kernel
theorem dX5_told_106 : decode cX5_told 106 = .ok (.aload_n 0, 1) := by decide +kernel
theorem dX5_told_107 : decode cX5_told 107 = .ok (.iload_n 1, 1) := by decide +kernel
theorem dX5_told_108 : decode cX5_told 108 = .ok (.invokevirtual 105, 3) := by decide +kernel
theorem dX5_told_111 : decode cX5_told 111 = .ok (.ireturn, 1) := by decide +kernel
theorem dX5_told_112 : decode cX5_told 112 = .ok (.aload_n 0, 1) := by decide +kernel
theorem dX5_told_113 : decode cX5_told 113 = .ok (.getfield 24, 3) := by decide +kernel
theorem dX5_told_116 : decode cX5_told 116 = .ok (.iload_n 1, 1) := by decide +kernel
theorem dX5_told_117 : decode cX5_told 117 = .ok (.iaload, 1) := by decide +kernel
theorem dX5_told_118 : decode cX5_told 118 = .ok (.ireturn, 1) := by decide +kernel
theorem dX5_told_119 : decode cX5_told 119 = .ok (.aload_n 0, 1) := by decide +kernel
theorem dX5_told_120 : decode cX5_told 120 = .ok (.getfield 27, 3) := by decide +kernel
theorem dX5_told_123 : decode cX5_told 123 = .ok (.iload_n 1, 1) := by decide +kernel
theorem dX5_told_124 : decode cX5_told 124 = .ok (.baload, 1) := by decide +kernel
theorem dX5_told_125 : decode cX5_told 125 = .ok (.ifCond .eq 7, 3) := by decide +kernel
theorem dX5_told_128 : decode cX5_told 128 = .ok (.iconst 1, 1) := by decide +kernel
theorem dX5_told_129 : decode cX5_told 129 = .ok (.goto 4, 3) := by decide +kernel
theorem dX5_told_132 : decode cX5_told 132 = .ok (.iconst 0, 1) := by decide +kernel
theorem dX5_told_133 : decode cX5_told 133 = .ok (.ireturn, 1) := by decide +kernel
theorem dX5_told_134 : decode cX5_told 134 = .ok (.aload_n 0, 1) := by decide +kernel
theorem dX5_told_135 : decode cX5_told 135 = .ok (.iload_n 1, 1) := by decide +kernel
theorem dX5_told_136 : decode cX5_told 136 = .ok (.invokevirtual 82, 3) := by decide +kernel
theorem dX5_told_139 : decode cX5_told 139 = .ok (.ifCond .eq 7, 3) := by decide +kernel
theorem dX5_told_142 : decode cX5_told 142 = .ok (.iconst 1, 1) := by decide +kernel
theorem dX5_told_143 : decode cX5_told 143 = .ok (.goto 4, 3) := by decide +kernel
theorem dX5_told_146 : decode cX5_told 146 = .ok (.iconst 0, 1) := by decide +kernel
theorem dX5_told_147 : decode cX5_told 147 = .ok (.ireturn, 1) := by decide +kernel
theorem dX5_told_148 : decode cX5_told 148 = .ok (.aload_n 0, 1) := by decide +kernel
theorem dX5_told_149 : decode cX5_told 149 = .ok (.iload_n 1, 1) := by decide +kernel
theorem dX5_told_150 : decode cX5_told 150 = .ok (.invokevirtual 102, 3) := by decide +kernel
theorem dX5_told_153 : decode cX5_told 153 = .ok (.ifCond .eq 7, 3) := by decide +kernel
theorem dX5_told_156 : decode cX5_told 156 = .ok (.iconst 1, 1) := by decide +kernel
theorem dX5_told_157 : decode cX5_told 157 = .ok (.goto 4, 3) := by decide +kernel
theorem dX5_told_160 : decode cX5_told 160 = .ok (.iconst 0, 1) := by decide +kernel
theorem dX5_told_161 : decode cX5_told 161 = .ok (.ireturn, 1) := by decide +kernel
theorem dX5_told_162 : decode cX5_told 162 = .ok (.aload_n 0, 1) := by decide +kernel
theorem dX5_told_163 : decode cX5_told 163 = .ok (.getfield 33, 3) := by decide +kernel
theorem dX5_told_166 : decode cX5_told 166 = .ok (.iload_n 1, 1) := by decide +kernel
theorem dX5_told_167 : decode cX5_told 167 = .ok (.iaload, 1) := by decide +kernel
theorem dX5_told_168 : decode cX5_told 168 = .ok (.ireturn, 1) := by decide +kernel
theorem dX5_told_169 : decode cX5_told 169 = .ok (.ldc 136, 2) := by decide +kernel
theorem dX5_told_171 : decode cX5_told 171 = .ok (.ireturn, 1) := by decide +kernel
theorem dX5_given_0 : decode cX5_given 0 = .ok (.aload_n 0, 1) := by decide +kernel
theorem dX5_given_1 : decode cX5_given 1 = .ok (.iconst 0, 1) := by decide +kernel
theorem dX5_given_2 : decode cX5_given 2 = .ok (.putfield 72, 3) := by decide +kernel
theorem dX5_given_5 : decode cX5_given 5 = .ok (.iload_n 1, 1) := by decide +kernel
theorem dX5_given_6 : decode cX5_given 6 = .ok (.iconst 0, 1) := by decide +kernel
theorem dX5_given_7 : decode cX5_given 7 = .ok (.sipush 255, 3) := by decide +kernel
theorem dX5_given_10 : decode cX5_given 10 = .ok (.invokestatic 78, 3) := by decide +kernel
theorem dX5_given_13 : decode cX5_given 13 = .ok (.ifCond .ne 8, 3) := by decide +kernel
theorem dX5_given_16 : decode cX5_given 16 = .ok (.bipush (-12), 2) := by decide +kernel
theorem dX5_given_18 : decode cX5_given 18 = .ok (.goto 17, 3) := by decide +kernel
theorem dX5_given_21 : decode cX5_given 21 = .ok (.aload_n 0, 1) := by decide +kernel
theorem dX5_given_22 : decode cX5_given 22 = .ok (.getfield 39, 3) := by decide +kernel
theorem dX5_given_25 : decode cX5_given 25 = .ok (.iload_n 1, 1) := by decide +kernel
theorem dX5_given_26 : decode cX5_given 26 = .ok (.baload, 1) := by decide +kernel
theorem dX5_given_27 : decode cX5_given 27 = .ok (.ifCond .eq 7, 3) := by decide +kernel
theorem dX5_given_30 : decode cX5_given 30 = .ok (.iconst 1, 1) := by decide +kernel
theorem dX5_given_31 : decode cX5_given 31 = .ok (.goto 4, 3) := by decide +kernel
theorem dX5_given_34 : decode cX5_given 34 = .ok (.iconst 0, 1) := by decide +kernel
theorem dX5_given_35 : decode cX5_given 35 = .ok (.ireturn, 1) := by decide +kernel
theorem dX5_number_0 : decode cX5_number 0 = .ok (.aload_n 0, 1) := by decide +kernel
theorem dX5_number_1 : decode cX5_number 1 = .ok (.aload_n 0, 1) := by decide +kernel
theorem dX5_number_2 : decode cX5_number 2 = .ok (.iload_n 1, 1) := by decide +kernel
theorem dX5_number_3 : decode cX5_number 3 = .ok (.invokevirtual 94, 3) := by decide +kernel
theorem dX5_number_6 : decode cX5_number 6 = .ok (.ifCond .eq 13, 3) := by decide +kernel
theorem dX5_number_9 : decode cX5_number 9 = .ok (.iload_n 2, 1) := by decide +kernel
theorem dX5_number_10 : decode cX5_number 10 = .ok (.iconst 0, 1) := by decide +kernel
theorem dX5_number_11 : decode cX5_number 11 = .ok (.bipush 39, 2) := by decide +kernel
theorem dX5_number_13 : decode cX5_number 13 = .ok (.invokestatic 78, 3) := by decide +kernel
theorem dX5_number_16 : decode cX5_number 16 = .ok (.ifCond .ne 7, 3) := by decide +kernel
theorem dX5_number_19 : decode cX5_number 19 = .ok (.iconst 1, 1) := by decide +kernel
theorem dX5_number_20 : decode cX5_number 20 = .ok (.goto 18, 3) := by decide +kernel
theorem dX5_number_23 : decode cX5_number 23 = .ok (.iload_n 2, 1) := by decide +kernel
theorem dX5_number_24 : decode cX5_number 24 = .ok (.aload_n 0, 1) := by decide +kernel
theorem dX5_number_25 : decode cX5_number 25 = .ok (.getfield 24, 3) := by decide +kernel
theorem dX5_number_28 : decode cX5_number 28 = .ok (.iload_n 1, 1) := by decide +kernel
theorem dX5_number_29 : decode cX5_number 29 = .ok (.iaload, 1) := by decide +kernel
theorem dX5_number_30 : decode cX5_number 30 = .ok (.if_icmp .lt 7, 3) := by decide +kernel
theorem dX5_number_33 : decode cX5_number 33 = .ok (.iconst 2, 1) := by decide +kernel
theorem dX5_number_34 : decode cX5_number 34 = .ok (.goto 4, 3) := by decide +kernel
theorem dX5_number_37 : decode cX5_number 37 = .ok (.iconst 0, 1) := by decide +kernel
theorem dX5_number_38 : decode cX5_number 38 = .ok (.putfield 72, 3) := by decide +kernel
theorem dX5_number_41 : decode cX5_number 41 = .ok (.aload_n 0, 1) := by decide +kernel
theorem dX5_number_42 : decode cX5_number 42 = .ok (.getfield 72, 3) := by decide +kernel
theorem dX5_number_45 : decode cX5_number 45 = .ok (.ifCond .le 7, 3) := by decide +kernel
theorem dX5_number_48 : decode cX5_number 48 = .ok (.iconst 0, 1) := by decide +kernel
theorem dX5_number_49 : decode cX5_number 49 = .ok (.goto 14, 3) := by decide +kernel
theorem dX5_number_52 : decode cX5_number 52 = .ok (.aload_n 0, 1) := by decide +kernel
theorem dX5_number_53 : decode cX5_number 53 = .ok (.getfield 13, 3) := by decide +kernel
theorem dX5_number_56 : decode cX5_number 56 = .ok (.bipush 40, 2) := by decide +kernel
theorem dX5_number_58 : decode cX5_number 58 = .ok (.iload_n 1, 1) := by decide +kernel
theorem dX5_number_59 : decode cX5_number 59 = .ok (.imul, 1) := by decide +kernel
theorem dX5_number_60 : decode cX5_number 60 = .ok (.iload_n 2, 1) := by decide +kernel
theorem dX5_number_61 : decode cX5_number 61 = .ok (.iadd, 1) := by decide +kernel
theorem dX5_number_62 : decode cX5_number 62 = .ok (.iaload, 1) := by decide +kernel
theorem dX5_number_63 : decode cX5_number 63 = .ok (.ireturn, 1) := by decide +kernel
theorem dX5_aside_0 : decode cX5_aside 0 = .ok (.aload_n 0, 1) := by decide +kernel
theorem dX5_aside_1 : decode cX5_aside 1 = .ok (.iconst 0, 1) := by decide +kernel
theorem dX5_aside_2 : decode cX5_aside 2 = .ok (.putfield 72, 3) := by decide +kernel
theorem dX5_aside_5 : decode cX5_aside 5 = .ok (.iload_n 1, 1) := by decide +kernel
theorem dX5_aside_6 : decode cX5_aside 6 = .ok (.iconst 0, 1) := by decide +kernel
theorem dX5_aside_7 : decode cX5_aside 7 = .ok (.aload_n 0, 1) := by decide +kernel
theorem dX5_aside_8 : decode cX5_aside 8 = .ok (.getfield 128, 3) := by decide +kernel
theorem dX5_aside_11 : decode cX5_aside 11 = .ok (.iconst 1, 1) := by decide +kernel
theorem dX5_aside_12 : decode cX5_aside 12 = .ok (.isub, 1) := by decide +kernel
theorem dX5_aside_13 : decode cX5_aside 13 = .ok (.invokestatic 78, 3) := by decide +kernel
theorem dX5_aside_16 : decode cX5_aside 16 = .ok (.ifCond .ne 8, 3) := by decide +kernel
theorem dX5_aside_19 : decode cX5_aside 19 = .ok (.bipush (-11), 2) := by decide +kernel
theorem dX5_aside_21 : decode cX5_aside 21 = .ok (.goto 27, 3) := by decide +kernel
theorem dX5_aside_24 : decode cX5_aside 24 = .ok (.iload_n 2, 1) := by decide +kernel
theorem dX5_aside_25 : decode cX5_aside 25 = .ok (.iconst 0, 1) := by decide +kernel
theorem dX5_aside_26 : decode cX5_aside 26 = .ok (.iconst 1, 1) := by decide +kernel
theorem dX5_aside_27 : decode cX5_aside 27 = .ok (.invokestatic 78, 3) := by decide +kernel
theorem dX5_aside_30 : decode cX5_aside 30 = .ok (.ifCond .ne 8, 3) := by decide +kernel
theorem dX5_aside_33 : decode cX5_aside 33 = .ok (.bipush (-12), 2) := by decide +kernel
theorem dX5_aside_35 : decode cX5_aside 35 = .ok (.goto 13, 3) := by decide +kernel
theorem dX5_aside_38 : decode cX5_aside 38 = .ok (.aload_n 0, 1) := by decide +kernel
theorem dX5_aside_39 : decode cX5_aside 39 = .ok (.getfield 42, 3) := by decide +kernel
theorem dX5_aside_42 : decode cX5_aside 42 = .ok (.iconst 2, 1) := by decide +kernel
theorem dX5_aside_43 : decode cX5_aside 43 = .ok (.iload_n 1, 1) := by decide +kernel
theorem dX5_aside_44 : decode cX5_aside 44 = .ok (.imul, 1) := by decide +kernel
theorem dX5_aside_45 : decode cX5_aside 45 = .ok (.iload_n 2, 1) := by decide +kernel
theorem dX5_aside_46 : decode cX5_aside 46 = .ok (.iadd, 1) := by decide +kernel
theorem dX5_aside_47 : decode cX5_aside 47 = .ok (.iaload, 1) := by decide +kernel
theorem dX5_aside_48 : decode cX5_aside 48 = .ok (.ireturn, 1) := by decide +kernel
theorem dX5_rate_0 : decode cX5_rate 0 = .ok (.aload_n 0, 1) := by decide +kernel
theorem dX5_rate_1 : decode cX5_rate 1 = .ok (.iconst 0, 1) := by decide +kernel
theorem dX5_rate_2 : decode cX5_rate 2 = .ok (.putfield 72, 3) := by decide +kernel
theorem dX5_rate_5 : decode cX5_rate 5 = .ok (.aload_n 0, 1) := by decide +kernel
theorem dX5_rate_6 : decode cX5_rate 6 = .ok (.iload_n 1, 1) := by decide +kernel
theorem dX5_rate_7 : decode cX5_rate 7 = .ok (.invokevirtual 94, 3) := by decide +kernel
theorem dX5_rate_10 : decode cX5_rate 10 = .ok (.ifCond .ne 6, 3) := by decide +kernel
theorem dX5_rate_13 : decode cX5_rate 13 = .ok (.bipush (-11), 2) := by decide +kernel
theorem dX5_rate_15 : decode cX5_rate 15 = .ok (.ireturn, 1) := by decide +kernel
theorem dX5_rate_16 : decode cX5_rate 16 = .ok (.aload_n 0, 1) := by decide +kernel
theorem dX5_rate_17 : decode cX5_rate 17 = .ok (.iload_n 1, 1) := by decide +kernel
theorem dX5_rate_18 : decode cX5_rate 18 = .ok (.invokevirtual 105, 3) := by decide +kernel
theorem dX5_rate_21 : decode cX5_rate 21 = .ok (.iconst (-1), 1) := by decide +kernel
theorem dX5_rate_22 : decode cX5_rate 22 = .ok (.if_icmp .ne 10, 3) := by decide +kernel
theorem dX5_rate_25 : decode cX5_rate 25 = .ok (.aload_n 0, 1) := by decide +kernel
theorem dX5_rate_26 : decode cX5_rate 26 = .ok (.iconst 1, 1) := by decide +kernel
theorem dX5_rate_27 : decode cX5_rate 27 = .ok (.putfield 72, 3) := by decide +kernel
theorem dX5_rate_30 : decode cX5_rate 30 = .ok (.iconst 0, 1) := by decide +kernel
theorem dX5_rate_31 : decode cX5_rate 31 = .ok (.ireturn, 1) := by decide +kernel
theorem dX5_rate_32 : decode cX5_rate 32 = .ok (.aload_n 0, 1) := by decide +kernel
theorem dX5_rate_33 : decode cX5_rate 33 = .ok (.getfield 30, 3) := by decide +kernel
theorem dX5_rate_36 : decode cX5_rate 36 = .ok (.iload_n 1, 1) := by decide +kernel
theorem dX5_rate_37 : decode cX5_rate 37 = .ok (.iaload, 1) := by decide +kernel
theorem dX5_rate_38 : decode cX5_rate 38 = .ok (.istore_n 2, 1) := by decide +kernel
theorem dX5_rate_39 : decode cX5_rate 39 = .ok (.iconst 0, 1) := by decide +kernel
theorem dX5_rate_40 : decode cX5_rate 40 = .ok (.istore_n 3, 1) := by decide +kernel
theorem dX5_rate_41 : decode cX5_rate 41 = .ok (.iload_n 3, 1) := by decide +kernel
theorem dX5_rate_42 : decode cX5_rate 42 = .ok (.aload_n 0, 1) := by decide +kernel
theorem dX5_rate_43 : decode cX5_rate 43 = .ok (.getfield 75, 3) := by decide +kernel
theorem dX5_rate_46 : decode cX5_rate 46 = .ok (.if_icmp .ge 48, 3) := by decide +kernel
theorem dX5_rate_49 : decode cX5_rate 49 = .ok (.iload_n 2, 1) := by decide +kernel
theorem dX5_rate_50 : decode cX5_rate 50 = .ok (.iload_n 3, 1) := by decide +kernel
theorem dX5_rate_51 : decode cX5_rate 51 = .ok (.iload_n 1, 1) := by decide +kernel
theorem dX5_rate_52 : decode cX5_rate 52 = .ok (.if_icmp .eq 33, 3) := by decide +kernel
theorem dX5_rate_55 : decode cX5_rate 55 = .ok (.aload_n 0, 1) := by decide +kernel
theorem dX5_rate_56 : decode cX5_rate 56 = .ok (.iload_n 3, 1) := by decide +kernel
theorem dX5_rate_57 : decode cX5_rate 57 = .ok (.invokevirtual 105, 3) := by decide +kernel
theorem dX5_rate_60 : decode cX5_rate 60 = .ok (.aload_n 0, 1) := by decide +kernel
theorem dX5_rate_61 : decode cX5_rate 61 = .ok (.iload_n 1, 1) := by decide +kernel
theorem dX5_rate_62 : decode cX5_rate 62 = .ok (.invokevirtual 105, 3) := by decide +kernel
theorem dX5_rate_65 : decode cX5_rate 65 = .ok (.if_icmp .ne 20, 3) := by decide +kernel
theorem dX5_rate_68 : decode cX5_rate 68 = .ok (.aload_n 0, 1) := by decide +kernel
theorem dX5_rate_69 : decode cX5_rate 69 = .ok (.iload_n 3, 1) := by decide +kernel
theorem dX5_rate_70 : decode cX5_rate 70 = .ok (.invokevirtual 82, 3) := by decide +kernel
theorem dX5_rate_73 : decode cX5_rate 73 = .ok (.ifCond .eq 12, 3) := by decide +kernel
theorem dX5_rate_76 : decode cX5_rate 76 = .ok (.aload_n 0, 1) := by decide +kernel
theorem dX5_rate_77 : decode cX5_rate 77 = .ok (.getfield 30, 3) := by decide +kernel
theorem dX5_rate_80 : decode cX5_rate 80 = .ok (.iload_n 3, 1) := by decide +kernel
theorem dX5_rate_81 : decode cX5_rate 81 = .ok (.iaload, 1) := by decide +kernel
theorem dX5_rate_82 : decode cX5_rate 82 = .ok (.goto 4, 3) := by decide +kernel
theorem dX5_rate_85 : decode cX5_rate 85 = .ok (.iconst 0, 1) := by decide +kernel
theorem dX5_rate_86 : decode cX5_rate 86 = .ok (.iadd, 1) := by decide +kernel
theorem dX5_rate_87 : decode cX5_rate 87 = .ok (.istore_n 2, 1) := by decide +kernel
theorem dX5_rate_88 : decode cX5_rate 88 = .ok (.iinc 3 1, 3) := by decide +kernel
theorem dX5_rate_91 : decode cX5_rate 91 = .ok (.goto (-50), 3) := by decide +kernel
theorem dX5_rate_94 : decode cX5_rate 94 = .ok (.sipush 1000, 3) := by decide +kernel
theorem dX5_rate_97 : decode cX5_rate 97 = .ok (.aload_n 0, 1) := by decide +kernel
theorem dX5_rate_98 : decode cX5_rate 98 = .ok (.getfield 30, 3) := by decide +kernel
theorem dX5_rate_101 : decode cX5_rate 101 = .ok (.iload_n 1, 1) := by decide +kernel
theorem dX5_rate_102 : decode cX5_rate 102 = .ok (.iaload, 1) := by decide +kernel
theorem dX5_rate_103 : decode cX5_rate 103 = .ok (.imul, 1) := by decide +kernel
theorem dX5_rate_104 : decode cX5_rate 104 = .ok (.iload_n 2, 1) := by decide +kernel
theorem dX5_rate_105 : decode cX5_rate 105 = .ok (.idiv, 1) := by decide +kernel
theorem dX5_rate_106 : decode cX5_rate 106 = .ok (.ireturn, 1) := by decide +kernel
theorem dX5_water_0 : decode cX5_water 0 = .ok (.aload_n 0, 1) := by decide +kernel
theorem dX5_water_1 : decode cX5_water 1 = .ok (.iconst 0, 1) := by decide +kernel
theorem dX5_water_2 : decode cX5_water 2 = .ok (.putfield 72, 3) := by decide +kernel
theorem dX5_water_5 : decode cX5_water 5 = .ok (.ldc 137, 2) := by decide +kernel
theorem dX5_water_7 : decode cX5_water 7 = .ok (.istore_n 1, 1) := by decide +kernel
theorem dX5_water_8 : decode cX5_water 8 = .ok (.iconst (-1), 1) := by decide +kernel
theorem dX5_water_9 : decode cX5_water 9 = .ok (.istore_n 2, 1) := by decide +kernel
theorem dX5_water_10 : decode cX5_water 10 = .ok (.iconst 0, 1) := by decide +kernel
theorem dX5_water_11 : decode cX5_water 11 = .ok (.istore_n 3, 1) := by decide +kernel
theorem dX5_water_12 : decode cX5_water 12 = .ok (.iload_n 3, 1) := by decide +kernel
theorem dX5_water_13 : decode cX5_water 13 = .ok (.aload_n 0, 1) := by decide +kernel
theorem dX5_water_14 : decode cX5_water 14 = .ok (.getfield 75, 3) := by decide +kernel
theorem dX5_water_17 : decode cX5_water 17 = .ok (.if_icmp .ge 71, 3) := by decide +kernel
theorem dX5_water_20 : decode cX5_water 20 = .ok (.aload_n 0, 1) := by decide +kernel
theorem dX5_water_21 : decode cX5_water 21 = .ok (.iload_n 3, 1) := by decide +kernel
theorem dX5_water_22 : decode cX5_water 22 = .ok (.invokevirtual 102, 3) := by decide +kernel
theorem dX5_water_25 : decode cX5_water 25 = .ok (.ifCond .ne 28, 3) := by decide +kernel
theorem dX5_water_28 : decode cX5_water 28 = .ok (.aload_n 0, 1) := by decide +kernel
theorem dX5_water_29 : decode cX5_water 29 = .ok (.getfield 36, 3) := by decide +kernel
theorem dX5_water_32 : decode cX5_water 32 = .ok (.bipush 12, 2) := by decide +kernel
theorem dX5_water_34 : decode cX5_water 34 = .ok (.iload_n 3, 1) := by decide +kernel
theorem dX5_water_35 : decode cX5_water 35 = .ok (.iadd, 1) := by decide +kernel
theorem dX5_water_36 : decode cX5_water 36 = .ok (.iaload, 1) := by decide +kernel
theorem dX5_water_37 : decode cX5_water 37 = .ok (.iload_n 1, 1) := by decide +kernel
theorem dX5_water_38 : decode cX5_water 38 = .ok (.if_icmp .ge 15, 3) := by decide +kernel
theorem dX5_water_41 : decode cX5_water 41 = .ok (.aload_n 0, 1) := by decide +kernel
theorem dX5_water_42 : decode cX5_water 42 = .ok (.getfield 36, 3) := by decide +kernel
theorem dX5_water_45 : decode cX5_water 45 = .ok (.bipush 12, 2) := by decide +kernel
theorem dX5_water_47 : decode cX5_water 47 = .ok (.iload_n 3, 1) := by decide +kernel
theorem dX5_water_48 : decode cX5_water 48 = .ok (.iadd, 1) := by decide +kernel
theorem dX5_water_49 : decode cX5_water 49 = .ok (.iaload, 1) := by decide +kernel
theorem dX5_water_50 : decode cX5_water 50 = .ok (.goto 4, 3) := by decide +kernel
theorem dX5_water_53 : decode cX5_water 53 = .ok (.iload_n 1, 1) := by decide +kernel
theorem dX5_water_54 : decode cX5_water 54 = .ok (.istore_n 1, 1) := by decide +kernel
theorem dX5_water_55 : decode cX5_water 55 = .ok (.aload_n 0, 1) := by decide +kernel
theorem dX5_water_56 : decode cX5_water 56 = .ok (.getfield 36, 3) := by decide +kernel
theorem dX5_water_59 : decode cX5_water 59 = .ok (.bipush 12, 2) := by decide +kernel
theorem dX5_water_61 : decode cX5_water 61 = .ok (.iload_n 3, 1) := by decide +kernel
theorem dX5_water_62 : decode cX5_water 62 = .ok (.iadd, 1) := by decide +kernel
theorem dX5_water_63 : decode cX5_water 63 = .ok (.iaload, 1) := by decide +kernel
theorem dX5_water_64 : decode cX5_water 64 = .ok (.iload_n 2, 1) := by decide +kernel
theorem dX5_water_65 : decode cX5_water 65 = .ok (.if_icmp .le 15, 3) := by decide +kernel
theorem dX5_water_68 : decode cX5_water 68 = .ok (.aload_n 0, 1) := by decide +kernel
theorem dX5_water_69 : decode cX5_water 69 = .ok (.getfield 36, 3) := by decide +kernel
theorem dX5_water_72 : decode cX5_water 72 = .ok (.bipush 12, 2) := by decide +kernel
theorem dX5_water_74 : decode cX5_water 74 = .ok (.iload_n 3, 1) := by decide +kernel
theorem dX5_water_75 : decode cX5_water 75 = .ok (.iadd, 1) := by decide +kernel
theorem dX5_water_76 : decode cX5_water 76 = .ok (.iaload, 1) := by decide +kernel
theorem dX5_water_77 : decode cX5_water 77 = .ok (.goto 4, 3) := by decide +kernel
theorem dX5_water_80 : decode cX5_water 80 = .ok (.iload_n 2, 1) := by decide +kernel
theorem dX5_water_81 : decode cX5_water 81 = .ok (.istore_n 2, 1) := by decide +kernel
theorem dX5_water_82 : decode cX5_water 82 = .ok (.iinc 3 1, 3) := by decide +kernel
theorem dX5_water_85 : decode cX5_water 85 = .ok (.goto (-73), 3) := by decide +kernel
theorem dX5_water_88 : decode cX5_water 88 = .ok (.iload_n 1, 1) := by decide +kernel
theorem dX5_water_89 : decode cX5_water 89 = .ok (.ldc 137, 2) := by decide +kernel
theorem dX5_water_91 : decode cX5_water 91 = .ok (.if_icmp .ge 7, 3) := by decide +kernel
theorem dX5_water_94 : decode cX5_water 94 = .ok (.iload_n 1, 1) := by decide +kernel
theorem dX5_water_95 : decode cX5_water 95 = .ok (.goto 4, 3) := by decide +kernel
theorem dX5_water_98 : decode cX5_water 98 = .ok (.iload_n 2, 1) := by decide +kernel
theorem dX5_water_99 : decode cX5_water 99 = .ok (.ireturn, 1) := by decide +kernel
theorem dX5_count_0 : decode cX5_count 0 = .ok (.aload_n 0, 1) := by decide +kernel
theorem dX5_count_1 : decode cX5_count 1 = .ok (.iconst 0, 1) := by decide +kernel
theorem dX5_count_2 : decode cX5_count 2 = .ok (.putfield 72, 3) := by decide +kernel
theorem dX5_count_5 : decode cX5_count 5 = .ok (.iconst 0, 1) := by decide +kernel
theorem dX5_count_6 : decode cX5_count 6 = .ok (.istore_n 2, 1) := by decide +kernel
theorem dX5_count_7 : decode cX5_count 7 = .ok (.iload_n 1, 1) := by decide +kernel
theorem dX5_count_8 : decode cX5_count 8 = .ok (.tableswitch 207 0 9 #[56, 61, 66, 71, 76, 110, 115, 149, 154, 159], 56) := by decide +kernel
theorem dX5_count_64 : decode cX5_count 64 = .ok (.aload_n 0, 1) := by decide +kernel
theorem dX5_count_65 : decode cX5_count 65 = .ok (.getfield 75, 3) := by decide +kernel
theorem dX5_count_68 : decode cX5_count 68 = .ok (.ireturn, 1) := by decide +kernel
theorem dX5_count_69 : decode cX5_count 69 = .ok (.aload_n 0, 1) := by decide +kernel
theorem dX5_count_70 : decode cX5_count 70 = .ok (.getfield 7, 3) := by decide +kernel
theorem dX5_count_73 : decode cX5_count 73 = .ok (.ireturn, 1) := by decide +kernel
theorem dX5_count_74 : decode cX5_count 74 = .ok (.aload_n 0, 1) := by decide +kernel
theorem dX5_count_75 : decode cX5_count 75 = .ok (.getfield 130, 3) := by decide +kernel
theorem dX5_count_78 : decode cX5_count 78 = .ok (.ireturn, 1) := by decide +kernel
theorem dX5_count_79 : decode cX5_count 79 = .ok (.aload_n 0, 1) := by decide +kernel
theorem dX5_count_80 : decode cX5_count 80 = .ok (.getfield 112, 3) := by decide +kernel
theorem dX5_count_83 : decode cX5_count 83 = .ok (.ireturn, 1) := by decide +kernel
theorem dX5_count_84 : decode cX5_count 84 = .ok (.iconst 0, 1) := by decide +kernel
theorem dX5_count_85 : decode cX5_count 85 = .ok (.istore_n 3, 1) := by decide +kernel
theorem dX5_count_86 : decode cX5_count 86 = .ok (.iload_n 3, 1) := by decide +kernel
theorem dX5_count_87 : decode cX5_count 87 = .ok (.sipush 256, 3) := by decide +kernel
theorem dX5_count_90 : decode cX5_count 90 = .ok (.if_icmp .ge 26, 3) := by decide +kernel
theorem dX5_count_93 : decode cX5_count 93 = .ok (.iload_n 2, 1) := by decide +kernel
theorem dX5_count_94 : decode cX5_count 94 = .ok (.aload_n 0, 1) := by decide +kernel
theorem dX5_count_95 : decode cX5_count 95 = .ok (.getfield 39, 3) := by decide +kernel
theorem dX5_count_98 : decode cX5_count 98 = .ok (.iload_n 3, 1) := by decide +kernel
theorem dX5_count_99 : decode cX5_count 99 = .ok (.baload, 1) := by decide +kernel
theorem dX5_count_100 : decode cX5_count 100 = .ok (.ifCond .eq 7, 3) := by decide +kernel
theorem dX5_count_103 : decode cX5_count 103 = .ok (.iconst 1, 1) := by decide +kernel
theorem dX5_count_104 : decode cX5_count 104 = .ok (.goto 4, 3) := by decide +kernel
theorem dX5_count_107 : decode cX5_count 107 = .ok (.iconst 0, 1) := by decide +kernel
theorem dX5_count_108 : decode cX5_count 108 = .ok (.iadd, 1) := by decide +kernel
theorem dX5_count_109 : decode cX5_count 109 = .ok (.istore_n 2, 1) := by decide +kernel
theorem dX5_count_110 : decode cX5_count 110 = .ok (.iinc 3 1, 3) := by decide +kernel
theorem dX5_count_113 : decode cX5_count 113 = .ok (.goto (-27), 3) := by decide +kernel
theorem dX5_count_116 : decode cX5_count 116 = .ok (.iload_n 2, 1) := by decide +kernel
theorem dX5_count_117 : decode cX5_count 117 = .ok (.ireturn, 1) := by decide +kernel
theorem dX5_count_118 : decode cX5_count 118 = .ok (.aload_n 0, 1) := by decide +kernel
theorem dX5_count_119 : decode cX5_count 119 = .ok (.getfield 128, 3) := by decide +kernel
theorem dX5_count_122 : decode cX5_count 122 = .ok (.ireturn, 1) := by decide +kernel
theorem dX5_count_123 : decode cX5_count 123 = .ok (.iconst 0, 1) := by decide +kernel
theorem dX5_count_124 : decode cX5_count 124 = .ok (.istore_n 3, 1) := by decide +kernel
theorem dX5_count_125 : decode cX5_count 125 = .ok (.iload_n 3, 1) := by decide +kernel
theorem dX5_count_126 : decode cX5_count 126 = .ok (.aload_n 0, 1) := by decide +kernel
theorem dX5_count_127 : decode cX5_count 127 = .ok (.getfield 75, 3) := by decide +kernel
theorem dX5_count_130 : decode cX5_count 130 = .ok (.if_icmp .ge 25, 3) := by decide +kernel
theorem dX5_count_133 : decode cX5_count 133 = .ok (.iload_n 2, 1) := by decide +kernel
theorem dX5_count_134 : decode cX5_count 134 = .ok (.aload_n 0, 1) := by decide +kernel
theorem dX5_count_135 : decode cX5_count 135 = .ok (.iload_n 3, 1) := by decide +kernel
theorem dX5_count_136 : decode cX5_count 136 = .ok (.invokevirtual 102, 3) := by decide +kernel
theorem dX5_count_139 : decode cX5_count 139 = .ok (.ifCond .eq 7, 3) := by decide +kernel
theorem dX5_count_142 : decode cX5_count 142 = .ok (.iconst 1, 1) := by decide +kernel
theorem dX5_count_143 : decode cX5_count 143 = .ok (.goto 4, 3) := by decide +kernel
theorem dX5_count_146 : decode cX5_count 146 = .ok (.iconst 0, 1) := by decide +kernel
theorem dX5_count_147 : decode cX5_count 147 = .ok (.iadd, 1) := by decide +kernel
theorem dX5_count_148 : decode cX5_count 148 = .ok (.istore_n 2, 1) := by decide +kernel
theorem dX5_count_149 : decode cX5_count 149 = .ok (.iinc 3 1, 3) := by decide +kernel
theorem dX5_count_152 : decode cX5_count 152 = .ok (.goto (-27), 3) := by decide +kernel
theorem dX5_count_155 : decode cX5_count 155 = .ok (.iload_n 2, 1) := by decide +kernel
theorem dX5_count_156 : decode cX5_count 156 = .ok (.ireturn, 1) := by decide +kernel
theorem dX5_count_157 : decode cX5_count 157 = .ok (.aload_n 0, 1) := by decide +kernel
theorem dX5_count_158 : decode cX5_count 158 = .ok (.getfield 115, 3) := by decide +kernel
theorem dX5_count_161 : decode cX5_count 161 = .ok (.ireturn, 1) := by decide +kernel
theorem dX5_count_162 : decode cX5_count 162 = .ok (.aload_n 0, 1) := by decide +kernel
theorem dX5_count_163 : decode cX5_count 163 = .ok (.getfield 125, 3) := by decide +kernel
theorem dX5_count_166 : decode cX5_count 166 = .ok (.ireturn, 1) := by decide +kernel
theorem dX5_count_167 : decode cX5_count 167 = .ok (.iconst 0, 1) := by decide +kernel
theorem dX5_count_168 : decode cX5_count 168 = .ok (.istore_n 3, 1) := by decide +kernel
theorem dX5_count_169 : decode cX5_count 169 = .ok (.iload_n 3, 1) := by decide +kernel
theorem dX5_count_170 : decode cX5_count 170 = .ok (.bipush 64, 2) := by decide +kernel
theorem dX5_count_172 : decode cX5_count 172 = .ok (.if_icmp .ge 41, 3) := by decide +kernel
theorem dX5_count_175 : decode cX5_count 175 = .ok (.iload_n 2, 1) := by decide +kernel
theorem dX5_count_176 : decode cX5_count 176 = .ok (.aload_n 0, 1) := by decide +kernel
theorem dX5_count_177 : decode cX5_count 177 = .ok (.getfield 60, 3) := by decide +kernel
theorem dX5_count_180 : decode cX5_count 180 = .ok (.iload_n 3, 1) := by decide +kernel
theorem dX5_count_181 : decode cX5_count 181 = .ok (.baload, 1) := by decide +kernel
theorem dX5_count_182 : decode cX5_count 182 = .ok (.ifCond .eq 7, 3) := by decide +kernel
theorem dX5_count_185 : decode cX5_count 185 = .ok (.iconst 1, 1) := by decide +kernel
theorem dX5_count_186 : decode cX5_count 186 = .ok (.goto 4, 3) := by decide +kernel
theorem dX5_count_189 : decode cX5_count 189 = .ok (.iconst 0, 1) := by decide +kernel
theorem dX5_count_190 : decode cX5_count 190 = .ok (.aload_n 0, 1) := by decide +kernel
theorem dX5_count_191 : decode cX5_count 191 = .ok (.getfield 63, 3) := by decide +kernel
theorem dX5_count_194 : decode cX5_count 194 = .ok (.iload_n 3, 1) := by decide +kernel
theorem dX5_count_195 : decode cX5_count 195 = .ok (.baload, 1) := by decide +kernel
theorem dX5_count_196 : decode cX5_count 196 = .ok (.ifCond .eq 7, 3) := by decide +kernel
theorem dX5_count_199 : decode cX5_count 199 = .ok (.iconst 1, 1) := by decide +kernel
theorem dX5_count_200 : decode cX5_count 200 = .ok (.goto 4, 3) := by decide +kernel
theorem dX5_count_203 : decode cX5_count 203 = .ok (.iconst 0, 1) := by decide +kernel
theorem dX5_count_204 : decode cX5_count 204 = .ok (.iadd, 1) := by decide +kernel
theorem dX5_count_205 : decode cX5_count 205 = .ok (.iadd, 1) := by decide +kernel
theorem dX5_count_206 : decode cX5_count 206 = .ok (.istore_n 2, 1) := by decide +kernel
theorem dX5_count_207 : decode cX5_count 207 = .ok (.iinc 3 1, 3) := by decide +kernel
theorem dX5_count_210 : decode cX5_count 210 = .ok (.goto (-41), 3) := by decide +kernel
theorem dX5_count_213 : decode cX5_count 213 = .ok (.iload_n 2, 1) := by decide +kernel
theorem dX5_count_214 : decode cX5_count 214 = .ok (.ireturn, 1) := by decide +kernel
theorem dX5_count_215 : decode cX5_count 215 = .ok (.bipush (-12), 2) := by decide +kernel
theorem dX5_count_217 : decode cX5_count 217 = .ok (.ireturn, 1) := by decide +kernel
theorem dX5_clear_0 : decode cX5_clear 0 = .ok (.aload_n 0, 1) := by decide +kernel
theorem dX5_clear_1 : decode cX5_clear 1 = .ok (.iconst 0, 1) := by decide +kernel
theorem dX5_clear_2 : decode cX5_clear 2 = .ok (.putfield 72, 3) := by decide +kernel
theorem dX5_clear_5 : decode cX5_clear 5 = .ok (.aload_n 0, 1) := by decide +kernel
theorem dX5_clear_6 : decode cX5_clear 6 = .ok (.getfield 75, 3) := by decide +kernel
theorem dX5_clear_9 : decode cX5_clear 9 = .ok (.istore_n 1, 1) := by decide +kernel
theorem dX5_clear_10 : decode cX5_clear 10 = .ok (.aload_n 0, 1) := by decide +kernel
theorem dX5_clear_11 : decode cX5_clear 11 = .ok (.iconst 0, 1) := by decide +kernel
theorem dX5_clear_12 : decode cX5_clear 12 = .ok (.putfield 75, 3) := by decide +kernel
theorem dX5_clear_15 : decode cX5_clear 15 = .ok (.aload_n 0, 1) := by decide +kernel
theorem dX5_clear_16 : decode cX5_clear 16 = .ok (.iconst 1, 1) := by decide +kernel
theorem dX5_clear_17 : decode cX5_clear 17 = .ok (.putfield 7, 3) := by decide +kernel
theorem dX5_clear_20 : decode cX5_clear 20 = .ok (.aload_n 0, 1) := by decide +kernel
theorem dX5_clear_21 : decode cX5_clear 21 = .ok (.iconst 0, 1) := by decide +kernel
theorem dX5_clear_22 : decode cX5_clear 22 = .ok (.putfield 130, 3) := by decide +kernel
theorem dX5_clear_25 : decode cX5_clear 25 = .ok (.aload_n 0, 1) := by decide +kernel
theorem dX5_clear_26 : decode cX5_clear 26 = .ok (.iconst 0, 1) := by decide +kernel
theorem dX5_clear_27 : decode cX5_clear 27 = .ok (.putfield 112, 3) := by decide +kernel
theorem dX5_clear_30 : decode cX5_clear 30 = .ok (.aload_n 0, 1) := by decide +kernel
theorem dX5_clear_31 : decode cX5_clear 31 = .ok (.iconst 0, 1) := by decide +kernel
theorem dX5_clear_32 : decode cX5_clear 32 = .ok (.putfield 115, 3) := by decide +kernel
theorem dX5_clear_35 : decode cX5_clear 35 = .ok (.aload_n 0, 1) := by decide +kernel
theorem dX5_clear_36 : decode cX5_clear 36 = .ok (.iconst 0, 1) := by decide +kernel
theorem dX5_clear_37 : decode cX5_clear 37 = .ok (.putfield 125, 3) := by decide +kernel
theorem dX5_clear_40 : decode cX5_clear 40 = .ok (.iconst 0, 1) := by decide +kernel
theorem dX5_clear_41 : decode cX5_clear 41 = .ok (.istore_n 2, 1) := by decide +kernel
theorem dX5_clear_42 : decode cX5_clear 42 = .ok (.iload_n 2, 1) := by decide +kernel
theorem dX5_clear_43 : decode cX5_clear 43 = .ok (.bipush 64, 2) := by decide +kernel
theorem dX5_clear_45 : decode cX5_clear 45 = .ok (.if_icmp .ge 23, 3) := by decide +kernel
theorem dX5_clear_48 : decode cX5_clear 48 = .ok (.aload_n 0, 1) := by decide +kernel
theorem dX5_clear_49 : decode cX5_clear 49 = .ok (.getfield 60, 3) := by decide +kernel
theorem dX5_clear_52 : decode cX5_clear 52 = .ok (.iload_n 2, 1) := by decide +kernel
theorem dX5_clear_53 : decode cX5_clear 53 = .ok (.iconst 0, 1) := by decide +kernel
theorem dX5_clear_54 : decode cX5_clear 54 = .ok (.bastore, 1) := by decide +kernel
theorem dX5_clear_55 : decode cX5_clear 55 = .ok (.aload_n 0, 1) := by decide +kernel
theorem dX5_clear_56 : decode cX5_clear 56 = .ok (.getfield 63, 3) := by decide +kernel
theorem dX5_clear_59 : decode cX5_clear 59 = .ok (.iload_n 2, 1) := by decide +kernel
theorem dX5_clear_60 : decode cX5_clear 60 = .ok (.iconst 0, 1) := by decide +kernel
theorem dX5_clear_61 : decode cX5_clear 61 = .ok (.bastore, 1) := by decide +kernel
theorem dX5_clear_62 : decode cX5_clear 62 = .ok (.iinc 2 1, 3) := by decide +kernel
theorem dX5_clear_65 : decode cX5_clear 65 = .ok (.goto (-23), 3) := by decide +kernel
theorem dX5_clear_68 : decode cX5_clear 68 = .ok (.aload_n 0, 1) := by decide +kernel
theorem dX5_clear_69 : decode cX5_clear 69 = .ok (.invokevirtual 133, 3) := by decide +kernel
theorem dX5_clear_72 : decode cX5_clear 72 = .ok (.aload_n 0, 1) := by decide +kernel
theorem dX5_clear_73 : decode cX5_clear 73 = .ok (.invokevirtual 69, 3) := by decide +kernel
theorem dX5_clear_76 : decode cX5_clear 76 = .ok (.iload_n 1, 1) := by decide +kernel
theorem dX5_clear_77 : decode cX5_clear 77 = .ok (.ireturn, 1) := by decide +kernel
theorem dL_number_0 : decode cL_number 0 = .ok (.aload_n 3, 1) := by decide +kernel
theorem dL_number_1 : decode cL_number 1 = .ok (.iconst 0, 1) := by decide +kernel
theorem dL_number_2 : decode cL_number 2 = .ok (.aload_n 0, 1) := by decide +kernel
theorem dL_number_3 : decode cL_number 3 = .ok (.iload_n 1, 1) := by decide +kernel
theorem dL_number_4 : decode cL_number 4 = .ok (.iload_n 2, 1) := by decide +kernel
theorem dL_number_5 : decode cL_number 5 = .ok (.invokevirtual 7, 3) := by decide +kernel
theorem dL_number_8 : decode cL_number 8 = .ok (.i2l, 1) := by decide +kernel
theorem dL_number_9 : decode cL_number 9 = .ok (.lastore, 1) := by decide +kernel
theorem dL_number_10 : decode cL_number 10 = .ok (.goto 11, 3) := by decide +kernel
theorem dL_number_13 : decode cL_number 13 = .ok (.astore 4, 2) := by decide +kernel
theorem dL_number_15 : decode cL_number 15 = .ok (.iconst 1, 1) := by decide +kernel
theorem dL_number_16 : decode cL_number 16 = .ok (.ireturn, 1) := by decide +kernel
theorem dL_number_17 : decode cL_number 17 = .ok (.astore 4, 2) := by decide +kernel
theorem dL_number_19 : decode cL_number 19 = .ok (.iconst 2, 1) := by decide +kernel
theorem dL_number_20 : decode cL_number 20 = .ok (.ireturn, 1) := by decide +kernel
theorem dL_number_21 : decode cL_number 21 = .ok (.iconst 0, 1) := by decide +kernel
theorem dL_number_22 : decode cL_number 22 = .ok (.ireturn, 1) := by decide +kernel
theorem dL_rate_0 : decode cL_rate 0 = .ok (.aload_n 2, 1) := by decide +kernel
theorem dL_rate_1 : decode cL_rate 1 = .ok (.iconst 0, 1) := by decide +kernel
theorem dL_rate_2 : decode cL_rate 2 = .ok (.aload_n 0, 1) := by decide +kernel
theorem dL_rate_3 : decode cL_rate 3 = .ok (.iload_n 1, 1) := by decide +kernel
theorem dL_rate_4 : decode cL_rate 4 = .ok (.invokevirtual 17, 3) := by decide +kernel
theorem dL_rate_7 : decode cL_rate 7 = .ok (.i2l, 1) := by decide +kernel
theorem dL_rate_8 : decode cL_rate 8 = .ok (.lastore, 1) := by decide +kernel
theorem dL_rate_9 : decode cL_rate 9 = .ok (.goto 6, 3) := by decide +kernel
theorem dL_rate_12 : decode cL_rate 12 = .ok (.astore_n 3, 1) := by decide +kernel
theorem dL_rate_13 : decode cL_rate 13 = .ok (.iconst 1, 1) := by decide +kernel
theorem dL_rate_14 : decode cL_rate 14 = .ok (.ireturn, 1) := by decide +kernel
theorem dL_rate_15 : decode cL_rate 15 = .ok (.iconst 0, 1) := by decide +kernel
theorem dL_rate_16 : decode cL_rate 16 = .ok (.ireturn, 1) := by decide +kernel
theorem dL_law_0 : decode cL_law 0 = .ok (.new 8, 3) := by decide +kernel
theorem dL_law_3 : decode cL_law 3 = .ok (.dup, 1) := by decide +kernel
theorem dL_law_4 : decode cL_law 4 = .ok (.invokespecial 21, 3) := by decide +kernel
theorem dL_law_7 : decode cL_law 7 = .ok (.astore_n 1, 1) := by decide +kernel
theorem dL_law_8 : decode cL_law 8 = .ok (.new 22, 3) := by decide +kernel
theorem dL_law_11 : decode cL_law 11 = .ok (.dup, 1) := by decide +kernel
theorem dL_law_12 : decode cL_law 12 = .ok (.invokespecial 24, 3) := by decide +kernel
theorem dL_law_15 : decode cL_law 15 = .ok (.astore_n 2, 1) := by decide +kernel
theorem dL_law_16 : decode cL_law 16 = .ok (.iconst 1, 1) := by decide +kernel
theorem dL_law_17 : decode cL_law 17 = .ok (.newarray .long, 2) := by decide +kernel
theorem dL_law_19 : decode cL_law 19 = .ok (.astore_n 3, 1) := by decide +kernel
theorem dL_law_20 : decode cL_law 20 = .ok (.iconst 0, 1) := by decide +kernel
theorem dL_law_21 : decode cL_law 21 = .ok (.istore 4, 2) := by decide +kernel
theorem dL_law_23 : decode cL_law 23 = .ok (.iload 4, 2) := by decide +kernel
theorem dL_law_25 : decode cL_law 25 = .ok (.aload_n 0, 1) := by decide +kernel
theorem dL_law_26 : decode cL_law 26 = .ok (.arraylength, 1) := by decide +kernel
theorem dL_law_27 : decode cL_law 27 = .ok (.iconst 5, 1) := by decide +kernel
theorem dL_law_28 : decode cL_law 28 = .ok (.isub, 1) := by decide +kernel
theorem dL_law_29 : decode cL_law 29 = .ok (.if_icmp .gt 775, 3) := by decide +kernel
theorem dL_law_32 : decode cL_law 32 = .ok (.aload_n 0, 1) := by decide +kernel
theorem dL_law_33 : decode cL_law 33 = .ok (.iload 4, 2) := by decide +kernel
theorem dL_law_35 : decode cL_law 35 = .ok (.iaload, 1) := by decide +kernel
theorem dL_law_36 : decode cL_law 36 = .ok (.bipush 31, 2) := by decide +kernel
theorem dL_law_38 : decode cL_law 38 = .ok (.iand, 1) := by decide +kernel
theorem dL_law_39 : decode cL_law 39 = .ok (.tableswitch 759 0 19 #[93, 118, 195, 220, 257, 294, 319, 344, 397, 410, 435, 460, 485, 522, 547, 615, 652, 708, 721, 746], 93) := by decide +kernel
theorem dL_law_132 : decode cL_law 132 = .ok (.aload_n 1, 1) := by decide +kernel
theorem dL_law_133 : decode cL_law 133 = .ok (.aload_n 0, 1) := by decide +kernel
theorem dL_law_134 : decode cL_law 134 = .ok (.iload 4, 2) := by decide +kernel
theorem dL_law_136 : decode cL_law 136 = .ok (.iconst 1, 1) := by decide +kernel
theorem dL_law_137 : decode cL_law 137 = .ok (.iadd, 1) := by decide +kernel
theorem dL_law_138 : decode cL_law 138 = .ok (.iaload, 1) := by decide +kernel
theorem dL_law_139 : decode cL_law 139 = .ok (.invokevirtual 25, 3) := by decide +kernel
theorem dL_law_142 : decode cL_law 142 = .ok (.aload_n 2, 1) := by decide +kernel
theorem dL_law_143 : decode cL_law 143 = .ok (.aload_n 0, 1) := by decide +kernel
theorem dL_law_144 : decode cL_law 144 = .ok (.iload 4, 2) := by decide +kernel
theorem dL_law_146 : decode cL_law 146 = .ok (.iconst 1, 1) := by decide +kernel
theorem dL_law_147 : decode cL_law 147 = .ok (.iadd, 1) := by decide +kernel
theorem dL_law_148 : decode cL_law 148 = .ok (.iaload, 1) := by decide +kernel
theorem dL_law_149 : decode cL_law 149 = .ok (.invokevirtual 28, 3) := by decide +kernel
theorem dL_law_152 : decode cL_law 152 = .ok (.if_icmp .eq 646, 3) := by decide +kernel
theorem dL_law_155 : decode cL_law 155 = .ok (.iconst 0, 1) := by decide +kernel
theorem dL_law_156 : decode cL_law 156 = .ok (.ireturn, 1) := by decide +kernel
theorem dL_law_157 : decode cL_law 157 = .ok (.aload_n 1, 1) := by decide +kernel
theorem dL_law_158 : decode cL_law 158 = .ok (.aload_n 0, 1) := by decide +kernel
theorem dL_law_159 : decode cL_law 159 = .ok (.iload 4, 2) := by decide +kernel
theorem dL_law_161 : decode cL_law 161 = .ok (.iconst 1, 1) := by decide +kernel
theorem dL_law_162 : decode cL_law 162 = .ok (.iadd, 1) := by decide +kernel
theorem dL_law_163 : decode cL_law 163 = .ok (.iaload, 1) := by decide +kernel
theorem dL_law_164 : decode cL_law 164 = .ok (.aload_n 0, 1) := by decide +kernel
theorem dL_law_165 : decode cL_law 165 = .ok (.iload 4, 2) := by decide +kernel
theorem dL_law_167 : decode cL_law 167 = .ok (.iconst 2, 1) := by decide +kernel
theorem dL_law_168 : decode cL_law 168 = .ok (.iadd, 1) := by decide +kernel
theorem dL_law_169 : decode cL_law 169 = .ok (.iaload, 1) := by decide +kernel
theorem dL_law_170 : decode cL_law 170 = .ok (.aload_n 0, 1) := by decide +kernel
theorem dL_law_171 : decode cL_law 171 = .ok (.iload 4, 2) := by decide +kernel
theorem dL_law_173 : decode cL_law 173 = .ok (.iconst 3, 1) := by decide +kernel
theorem dL_law_174 : decode cL_law 174 = .ok (.iadd, 1) := by decide +kernel
theorem dL_law_175 : decode cL_law 175 = .ok (.iaload, 1) := by decide +kernel
theorem dL_law_176 : decode cL_law 176 = .ok (.aload_n 0, 1) := by decide +kernel
theorem dL_law_177 : decode cL_law 177 = .ok (.iload 4, 2) := by decide +kernel
theorem dL_law_179 : decode cL_law 179 = .ok (.iconst 4, 1) := by decide +kernel
theorem dL_law_180 : decode cL_law 180 = .ok (.iadd, 1) := by decide +kernel
theorem dL_law_181 : decode cL_law 181 = .ok (.iaload, 1) := by decide +kernel
theorem dL_law_182 : decode cL_law 182 = .ok (.ifCond .eq 7, 3) := by decide +kernel
theorem dL_law_185 : decode cL_law 185 = .ok (.iconst 1, 1) := by decide +kernel
theorem dL_law_186 : decode cL_law 186 = .ok (.goto 4, 3) := by decide +kernel
theorem dL_law_189 : decode cL_law 189 = .ok (.iconst 0, 1) := by decide +kernel
theorem dL_law_190 : decode cL_law 190 = .ok (.invokevirtual 29, 3) := by decide +kernel
theorem dL_law_193 : decode cL_law 193 = .ok (.aload_n 2, 1) := by decide +kernel
theorem dL_law_194 : decode cL_law 194 = .ok (.aload_n 0, 1) := by decide +kernel
theorem dL_law_195 : decode cL_law 195 = .ok (.iload 4, 2) := by decide +kernel
theorem dL_law_197 : decode cL_law 197 = .ok (.iconst 1, 1) := by decide +kernel
theorem dL_law_198 : decode cL_law 198 = .ok (.iadd, 1) := by decide +kernel
theorem dL_law_199 : decode cL_law 199 = .ok (.iaload, 1) := by decide +kernel
theorem dL_law_200 : decode cL_law 200 = .ok (.aload_n 0, 1) := by decide +kernel
theorem dL_law_201 : decode cL_law 201 = .ok (.iload 4, 2) := by decide +kernel
theorem dL_law_203 : decode cL_law 203 = .ok (.iconst 2, 1) := by decide +kernel
theorem dL_law_204 : decode cL_law 204 = .ok (.iadd, 1) := by decide +kernel
theorem dL_law_205 : decode cL_law 205 = .ok (.iaload, 1) := by decide +kernel
theorem dL_law_206 : decode cL_law 206 = .ok (.aload_n 0, 1) := by decide +kernel
theorem dL_law_207 : decode cL_law 207 = .ok (.iload 4, 2) := by decide +kernel
theorem dL_law_209 : decode cL_law 209 = .ok (.iconst 3, 1) := by decide +kernel
theorem dL_law_210 : decode cL_law 210 = .ok (.iadd, 1) := by decide +kernel
theorem dL_law_211 : decode cL_law 211 = .ok (.iaload, 1) := by decide +kernel
theorem dL_law_212 : decode cL_law 212 = .ok (.aload_n 0, 1) := by decide +kernel
theorem dL_law_213 : decode cL_law 213 = .ok (.iload 4, 2) := by decide +kernel
theorem dL_law_215 : decode cL_law 215 = .ok (.iconst 4, 1) := by decide +kernel
theorem dL_law_216 : decode cL_law 216 = .ok (.iadd, 1) := by decide +kernel
theorem dL_law_217 : decode cL_law 217 = .ok (.iaload, 1) := by decide +kernel
theorem dL_law_218 : decode cL_law 218 = .ok (.ifCond .eq 7, 3) := by decide +kernel
theorem dL_law_221 : decode cL_law 221 = .ok (.iconst 1, 1) := by decide +kernel
theorem dL_law_222 : decode cL_law 222 = .ok (.goto 4, 3) := by decide +kernel
theorem dL_law_225 : decode cL_law 225 = .ok (.iconst 0, 1) := by decide +kernel
theorem dL_law_226 : decode cL_law 226 = .ok (.invokevirtual 33, 3) := by decide +kernel
theorem dL_law_229 : decode cL_law 229 = .ok (.if_icmp .eq 569, 3) := by decide +kernel
theorem dL_law_232 : decode cL_law 232 = .ok (.iconst 0, 1) := by decide +kernel
theorem dL_law_233 : decode cL_law 233 = .ok (.ireturn, 1) := by decide +kernel
theorem dL_law_234 : decode cL_law 234 = .ok (.aload_n 1, 1) := by decide +kernel
theorem dL_law_235 : decode cL_law 235 = .ok (.aload_n 0, 1) := by decide +kernel
theorem dL_law_236 : decode cL_law 236 = .ok (.iload 4, 2) := by decide +kernel
theorem dL_law_238 : decode cL_law 238 = .ok (.iconst 1, 1) := by decide +kernel
theorem dL_law_239 : decode cL_law 239 = .ok (.iadd, 1) := by decide +kernel
theorem dL_law_240 : decode cL_law 240 = .ok (.iaload, 1) := by decide +kernel
theorem dL_law_241 : decode cL_law 241 = .ok (.invokevirtual 34, 3) := by decide +kernel
theorem dL_law_244 : decode cL_law 244 = .ok (.aload_n 2, 1) := by decide +kernel
theorem dL_law_245 : decode cL_law 245 = .ok (.aload_n 0, 1) := by decide +kernel
theorem dL_law_246 : decode cL_law 246 = .ok (.iload 4, 2) := by decide +kernel
theorem dL_law_248 : decode cL_law 248 = .ok (.iconst 1, 1) := by decide +kernel
theorem dL_law_249 : decode cL_law 249 = .ok (.iadd, 1) := by decide +kernel
theorem dL_law_250 : decode cL_law 250 = .ok (.iaload, 1) := by decide +kernel
theorem dL_law_251 : decode cL_law 251 = .ok (.invokevirtual 37, 3) := by decide +kernel
theorem dL_law_254 : decode cL_law 254 = .ok (.if_icmp .eq 544, 3) := by decide +kernel
theorem dL_law_257 : decode cL_law 257 = .ok (.iconst 0, 1) := by decide +kernel
theorem dL_law_258 : decode cL_law 258 = .ok (.ireturn, 1) := by decide +kernel
theorem dL_law_259 : decode cL_law 259 = .ok (.aload_n 1, 1) := by decide +kernel
theorem dL_law_260 : decode cL_law 260 = .ok (.aload_n 0, 1) := by decide +kernel
theorem dL_law_261 : decode cL_law 261 = .ok (.iload 4, 2) := by decide +kernel
theorem dL_law_263 : decode cL_law 263 = .ok (.iconst 1, 1) := by decide +kernel
theorem dL_law_264 : decode cL_law 264 = .ok (.iadd, 1) := by decide +kernel
theorem dL_law_265 : decode cL_law 265 = .ok (.iaload, 1) := by decide +kernel
theorem dL_law_266 : decode cL_law 266 = .ok (.aload_n 0, 1) := by decide +kernel
theorem dL_law_267 : decode cL_law 267 = .ok (.iload 4, 2) := by decide +kernel
theorem dL_law_269 : decode cL_law 269 = .ok (.iconst 2, 1) := by decide +kernel
theorem dL_law_270 : decode cL_law 270 = .ok (.iadd, 1) := by decide +kernel
theorem dL_law_271 : decode cL_law 271 = .ok (.iaload, 1) := by decide +kernel
theorem dL_law_272 : decode cL_law 272 = .ok (.invokevirtual 38, 3) := by decide +kernel
theorem dL_law_275 : decode cL_law 275 = .ok (.aload_n 2, 1) := by decide +kernel
theorem dL_law_276 : decode cL_law 276 = .ok (.aload_n 0, 1) := by decide +kernel
theorem dL_law_277 : decode cL_law 277 = .ok (.iload 4, 2) := by decide +kernel
theorem dL_law_279 : decode cL_law 279 = .ok (.iconst 1, 1) := by decide +kernel
theorem dL_law_280 : decode cL_law 280 = .ok (.iadd, 1) := by decide +kernel
theorem dL_law_281 : decode cL_law 281 = .ok (.iaload, 1) := by decide +kernel
theorem dL_law_282 : decode cL_law 282 = .ok (.aload_n 0, 1) := by decide +kernel
theorem dL_law_283 : decode cL_law 283 = .ok (.iload 4, 2) := by decide +kernel
theorem dL_law_285 : decode cL_law 285 = .ok (.iconst 2, 1) := by decide +kernel
theorem dL_law_286 : decode cL_law 286 = .ok (.iadd, 1) := by decide +kernel
theorem dL_law_287 : decode cL_law 287 = .ok (.iaload, 1) := by decide +kernel
theorem dL_law_288 : decode cL_law 288 = .ok (.invokevirtual 41, 3) := by decide +kernel
theorem dL_law_291 : decode cL_law 291 = .ok (.if_icmp .eq 507, 3) := by decide +kernel
theorem dL_law_294 : decode cL_law 294 = .ok (.iconst 0, 1) := by decide +kernel
theorem dL_law_295 : decode cL_law 295 = .ok (.ireturn, 1) := by decide +kernel
theorem dL_law_296 : decode cL_law 296 = .ok (.aload_n 1, 1) := by decide +kernel
theorem dL_law_297 : decode cL_law 297 = .ok (.aload_n 0, 1) := by decide +kernel
theorem dL_law_298 : decode cL_law 298 = .ok (.iload 4, 2) := by decide +kernel
theorem dL_law_300 : decode cL_law 300 = .ok (.iconst 1, 1) := by decide +kernel
theorem dL_law_301 : decode cL_law 301 = .ok (.iadd, 1) := by decide +kernel
theorem dL_law_302 : decode cL_law 302 = .ok (.iaload, 1) := by decide +kernel
theorem dL_law_303 : decode cL_law 303 = .ok (.aload_n 0, 1) := by decide +kernel
theorem dL_law_304 : decode cL_law 304 = .ok (.iload 4, 2) := by decide +kernel
theorem dL_law_306 : decode cL_law 306 = .ok (.iconst 2, 1) := by decide +kernel
theorem dL_law_307 : decode cL_law 307 = .ok (.iadd, 1) := by decide +kernel
theorem dL_law_308 : decode cL_law 308 = .ok (.iaload, 1) := by decide +kernel
theorem dL_law_309 : decode cL_law 309 = .ok (.invokevirtual 42, 3) := by decide +kernel
theorem dL_law_312 : decode cL_law 312 = .ok (.aload_n 2, 1) := by decide +kernel
theorem dL_law_313 : decode cL_law 313 = .ok (.aload_n 0, 1) := by decide +kernel
theorem dL_law_314 : decode cL_law 314 = .ok (.iload 4, 2) := by decide +kernel
theorem dL_law_316 : decode cL_law 316 = .ok (.iconst 1, 1) := by decide +kernel
theorem dL_law_317 : decode cL_law 317 = .ok (.iadd, 1) := by decide +kernel
theorem dL_law_318 : decode cL_law 318 = .ok (.iaload, 1) := by decide +kernel
theorem dL_law_319 : decode cL_law 319 = .ok (.aload_n 0, 1) := by decide +kernel
theorem dL_law_320 : decode cL_law 320 = .ok (.iload 4, 2) := by decide +kernel
theorem dL_law_322 : decode cL_law 322 = .ok (.iconst 2, 1) := by decide +kernel
theorem dL_law_323 : decode cL_law 323 = .ok (.iadd, 1) := by decide +kernel
theorem dL_law_324 : decode cL_law 324 = .ok (.iaload, 1) := by decide +kernel
theorem dL_law_325 : decode cL_law 325 = .ok (.invokevirtual 45, 3) := by decide +kernel
theorem dL_law_328 : decode cL_law 328 = .ok (.if_icmp .eq 470, 3) := by decide +kernel
theorem dL_law_331 : decode cL_law 331 = .ok (.iconst 0, 1) := by decide +kernel
theorem dL_law_332 : decode cL_law 332 = .ok (.ireturn, 1) := by decide +kernel
theorem dL_law_333 : decode cL_law 333 = .ok (.aload_n 1, 1) := by decide +kernel
theorem dL_law_334 : decode cL_law 334 = .ok (.aload_n 0, 1) := by decide +kernel
theorem dL_law_335 : decode cL_law 335 = .ok (.iload 4, 2) := by decide +kernel
theorem dL_law_337 : decode cL_law 337 = .ok (.iconst 1, 1) := by decide +kernel
theorem dL_law_338 : decode cL_law 338 = .ok (.iadd, 1) := by decide +kernel
theorem dL_law_339 : decode cL_law 339 = .ok (.iaload, 1) := by decide +kernel
theorem dL_law_340 : decode cL_law 340 = .ok (.invokevirtual 46, 3) := by decide +kernel
theorem dL_law_343 : decode cL_law 343 = .ok (.aload_n 2, 1) := by decide +kernel
theorem dL_law_344 : decode cL_law 344 = .ok (.aload_n 0, 1) := by decide +kernel
theorem dL_law_345 : decode cL_law 345 = .ok (.iload 4, 2) := by decide +kernel
theorem dL_law_347 : decode cL_law 347 = .ok (.iconst 1, 1) := by decide +kernel
theorem dL_law_348 : decode cL_law 348 = .ok (.iadd, 1) := by decide +kernel
theorem dL_law_349 : decode cL_law 349 = .ok (.iaload, 1) := by decide +kernel
theorem dL_law_350 : decode cL_law 350 = .ok (.invokevirtual 49, 3) := by decide +kernel
theorem dL_law_353 : decode cL_law 353 = .ok (.if_icmp .eq 445, 3) := by decide +kernel
theorem dL_law_356 : decode cL_law 356 = .ok (.iconst 0, 1) := by decide +kernel
theorem dL_law_357 : decode cL_law 357 = .ok (.ireturn, 1) := by decide +kernel
theorem dL_law_358 : decode cL_law 358 = .ok (.aload_n 1, 1) := by decide +kernel
theorem dL_law_359 : decode cL_law 359 = .ok (.aload_n 0, 1) := by decide +kernel
theorem dL_law_360 : decode cL_law 360 = .ok (.iload 4, 2) := by decide +kernel
theorem dL_law_362 : decode cL_law 362 = .ok (.iconst 1, 1) := by decide +kernel
theorem dL_law_363 : decode cL_law 363 = .ok (.iadd, 1) := by decide +kernel
theorem dL_law_364 : decode cL_law 364 = .ok (.iaload, 1) := by decide +kernel
theorem dL_law_365 : decode cL_law 365 = .ok (.invokevirtual 50, 3) := by decide +kernel
theorem dL_law_368 : decode cL_law 368 = .ok (.aload_n 2, 1) := by decide +kernel
theorem dL_law_369 : decode cL_law 369 = .ok (.aload_n 0, 1) := by decide +kernel
theorem dL_law_370 : decode cL_law 370 = .ok (.iload 4, 2) := by decide +kernel
theorem dL_law_372 : decode cL_law 372 = .ok (.iconst 1, 1) := by decide +kernel
theorem dL_law_373 : decode cL_law 373 = .ok (.iadd, 1) := by decide +kernel
theorem dL_law_374 : decode cL_law 374 = .ok (.iaload, 1) := by decide +kernel
theorem dL_law_375 : decode cL_law 375 = .ok (.invokevirtual 53, 3) := by decide +kernel
theorem dL_law_378 : decode cL_law 378 = .ok (.if_icmp .eq 420, 3) := by decide +kernel
theorem dL_law_381 : decode cL_law 381 = .ok (.iconst 0, 1) := by decide +kernel
theorem dL_law_382 : decode cL_law 382 = .ok (.ireturn, 1) := by decide +kernel
theorem dL_law_383 : decode cL_law 383 = .ok (.aload_n 1, 1) := by decide +kernel
theorem dL_law_384 : decode cL_law 384 = .ok (.aload_n 0, 1) := by decide +kernel
theorem dL_law_385 : decode cL_law 385 = .ok (.iload 4, 2) := by decide +kernel
theorem dL_law_387 : decode cL_law 387 = .ok (.iconst 1, 1) := by decide +kernel
theorem dL_law_388 : decode cL_law 388 = .ok (.iadd, 1) := by decide +kernel
theorem dL_law_389 : decode cL_law 389 = .ok (.iaload, 1) := by decide +kernel
theorem dL_law_390 : decode cL_law 390 = .ok (.aload_n 0, 1) := by decide +kernel
theorem dL_law_391 : decode cL_law 391 = .ok (.iload 4, 2) := by decide +kernel
theorem dL_law_393 : decode cL_law 393 = .ok (.iconst 2, 1) := by decide +kernel
theorem dL_law_394 : decode cL_law 394 = .ok (.iadd, 1) := by decide +kernel
theorem dL_law_395 : decode cL_law 395 = .ok (.iaload, 1) := by decide +kernel
theorem dL_law_396 : decode cL_law 396 = .ok (.ifCond .eq 7, 3) := by decide +kernel
theorem dL_law_399 : decode cL_law 399 = .ok (.iconst 1, 1) := by decide +kernel
theorem dL_law_400 : decode cL_law 400 = .ok (.goto 4, 3) := by decide +kernel
theorem dL_law_403 : decode cL_law 403 = .ok (.iconst 0, 1) := by decide +kernel
theorem dL_law_404 : decode cL_law 404 = .ok (.invokevirtual 54, 3) := by decide +kernel
theorem dL_law_407 : decode cL_law 407 = .ok (.aload_n 2, 1) := by decide +kernel
theorem dL_law_408 : decode cL_law 408 = .ok (.aload_n 0, 1) := by decide +kernel
theorem dL_law_409 : decode cL_law 409 = .ok (.iload 4, 2) := by decide +kernel
theorem dL_law_411 : decode cL_law 411 = .ok (.iconst 1, 1) := by decide +kernel
theorem dL_law_412 : decode cL_law 412 = .ok (.iadd, 1) := by decide +kernel
theorem dL_law_413 : decode cL_law 413 = .ok (.iaload, 1) := by decide +kernel
theorem dL_law_414 : decode cL_law 414 = .ok (.aload_n 0, 1) := by decide +kernel
theorem dL_law_415 : decode cL_law 415 = .ok (.iload 4, 2) := by decide +kernel
theorem dL_law_417 : decode cL_law 417 = .ok (.iconst 2, 1) := by decide +kernel
theorem dL_law_418 : decode cL_law 418 = .ok (.iadd, 1) := by decide +kernel
theorem dL_law_419 : decode cL_law 419 = .ok (.iaload, 1) := by decide +kernel
theorem dL_law_420 : decode cL_law 420 = .ok (.ifCond .eq 7, 3) := by decide +kernel
theorem dL_law_423 : decode cL_law 423 = .ok (.iconst 1, 1) := by decide +kernel
theorem dL_law_424 : decode cL_law 424 = .ok (.goto 4, 3) := by decide +kernel
theorem dL_law_427 : decode cL_law 427 = .ok (.iconst 0, 1) := by decide +kernel
theorem dL_law_428 : decode cL_law 428 = .ok (.invokevirtual 58, 3) := by decide +kernel
theorem dL_law_431 : decode cL_law 431 = .ok (.if_icmp .eq 367, 3) := by decide +kernel
theorem dL_law_434 : decode cL_law 434 = .ok (.iconst 0, 1) := by decide +kernel
theorem dL_law_435 : decode cL_law 435 = .ok (.ireturn, 1) := by decide +kernel
theorem dL_law_436 : decode cL_law 436 = .ok (.aload_n 1, 1) := by decide +kernel
theorem dL_law_437 : decode cL_law 437 = .ok (.invokevirtual 59, 3) := by decide +kernel
theorem dL_law_440 : decode cL_law 440 = .ok (.aload_n 2, 1) := by decide +kernel
theorem dL_law_441 : decode cL_law 441 = .ok (.invokevirtual 63, 3) := by decide +kernel
theorem dL_law_444 : decode cL_law 444 = .ok (.if_icmp .eq 354, 3) := by decide +kernel
theorem dL_law_447 : decode cL_law 447 = .ok (.iconst 0, 1) := by decide +kernel
theorem dL_law_448 : decode cL_law 448 = .ok (.ireturn, 1) := by decide +kernel
theorem dL_law_449 : decode cL_law 449 = .ok (.aload_n 1, 1) := by decide +kernel
theorem dL_law_450 : decode cL_law 450 = .ok (.aload_n 0, 1) := by decide +kernel
theorem dL_law_451 : decode cL_law 451 = .ok (.iload 4, 2) := by decide +kernel
theorem dL_law_453 : decode cL_law 453 = .ok (.iconst 1, 1) := by decide +kernel
theorem dL_law_454 : decode cL_law 454 = .ok (.iadd, 1) := by decide +kernel
theorem dL_law_455 : decode cL_law 455 = .ok (.iaload, 1) := by decide +kernel
theorem dL_law_456 : decode cL_law 456 = .ok (.invokevirtual 64, 3) := by decide +kernel
theorem dL_law_459 : decode cL_law 459 = .ok (.aload_n 2, 1) := by decide +kernel
theorem dL_law_460 : decode cL_law 460 = .ok (.aload_n 0, 1) := by decide +kernel
theorem dL_law_461 : decode cL_law 461 = .ok (.iload 4, 2) := by decide +kernel
theorem dL_law_463 : decode cL_law 463 = .ok (.iconst 1, 1) := by decide +kernel
theorem dL_law_464 : decode cL_law 464 = .ok (.iadd, 1) := by decide +kernel
theorem dL_law_465 : decode cL_law 465 = .ok (.iaload, 1) := by decide +kernel
theorem dL_law_466 : decode cL_law 466 = .ok (.invokevirtual 67, 3) := by decide +kernel
theorem dL_law_469 : decode cL_law 469 = .ok (.if_icmp .eq 329, 3) := by decide +kernel
theorem dL_law_472 : decode cL_law 472 = .ok (.iconst 0, 1) := by decide +kernel
theorem dL_law_473 : decode cL_law 473 = .ok (.ireturn, 1) := by decide +kernel
theorem dL_law_474 : decode cL_law 474 = .ok (.aload_n 1, 1) := by decide +kernel
theorem dL_law_475 : decode cL_law 475 = .ok (.aload_n 0, 1) := by decide +kernel
theorem dL_law_476 : decode cL_law 476 = .ok (.iload 4, 2) := by decide +kernel
theorem dL_law_478 : decode cL_law 478 = .ok (.iconst 1, 1) := by decide +kernel
theorem dL_law_479 : decode cL_law 479 = .ok (.iadd, 1) := by decide +kernel
theorem dL_law_480 : decode cL_law 480 = .ok (.iaload, 1) := by decide +kernel
theorem dL_law_481 : decode cL_law 481 = .ok (.invokevirtual 68, 3) := by decide +kernel
theorem dL_law_484 : decode cL_law 484 = .ok (.aload_n 2, 1) := by decide +kernel
theorem dL_law_485 : decode cL_law 485 = .ok (.aload_n 0, 1) := by decide +kernel
theorem dL_law_486 : decode cL_law 486 = .ok (.iload 4, 2) := by decide +kernel
theorem dL_law_488 : decode cL_law 488 = .ok (.iconst 1, 1) := by decide +kernel
theorem dL_law_489 : decode cL_law 489 = .ok (.iadd, 1) := by decide +kernel
theorem dL_law_490 : decode cL_law 490 = .ok (.iaload, 1) := by decide +kernel
theorem dL_law_491 : decode cL_law 491 = .ok (.invokevirtual 71, 3) := by decide +kernel
theorem dL_law_494 : decode cL_law 494 = .ok (.if_icmp .eq 304, 3) := by decide +kernel
theorem dL_law_497 : decode cL_law 497 = .ok (.iconst 0, 1) := by decide +kernel
theorem dL_law_498 : decode cL_law 498 = .ok (.ireturn, 1) := by decide +kernel
theorem dL_law_499 : decode cL_law 499 = .ok (.aload_n 1, 1) := by decide +kernel
theorem dL_law_500 : decode cL_law 500 = .ok (.aload_n 0, 1) := by decide +kernel
theorem dL_law_501 : decode cL_law 501 = .ok (.iload 4, 2) := by decide +kernel
theorem dL_law_503 : decode cL_law 503 = .ok (.iconst 1, 1) := by decide +kernel
theorem dL_law_504 : decode cL_law 504 = .ok (.iadd, 1) := by decide +kernel
theorem dL_law_505 : decode cL_law 505 = .ok (.iaload, 1) := by decide +kernel
theorem dL_law_506 : decode cL_law 506 = .ok (.invokevirtual 72, 3) := by decide +kernel
theorem dL_law_509 : decode cL_law 509 = .ok (.aload_n 2, 1) := by decide +kernel
theorem dL_law_510 : decode cL_law 510 = .ok (.aload_n 0, 1) := by decide +kernel
theorem dL_law_511 : decode cL_law 511 = .ok (.iload 4, 2) := by decide +kernel
theorem dL_law_513 : decode cL_law 513 = .ok (.iconst 1, 1) := by decide +kernel
theorem dL_law_514 : decode cL_law 514 = .ok (.iadd, 1) := by decide +kernel
theorem dL_law_515 : decode cL_law 515 = .ok (.iaload, 1) := by decide +kernel
theorem dL_law_516 : decode cL_law 516 = .ok (.invokevirtual 75, 3) := by decide +kernel
theorem dL_law_519 : decode cL_law 519 = .ok (.if_icmp .eq 279, 3) := by decide +kernel
theorem dL_law_522 : decode cL_law 522 = .ok (.iconst 0, 1) := by decide +kernel
theorem dL_law_523 : decode cL_law 523 = .ok (.ireturn, 1) := by decide +kernel
theorem dL_law_524 : decode cL_law 524 = .ok (.aload_n 1, 1) := by decide +kernel
theorem dL_law_525 : decode cL_law 525 = .ok (.aload_n 0, 1) := by decide +kernel
theorem dL_law_526 : decode cL_law 526 = .ok (.iload 4, 2) := by decide +kernel
theorem dL_law_528 : decode cL_law 528 = .ok (.iconst 1, 1) := by decide +kernel
theorem dL_law_529 : decode cL_law 529 = .ok (.iadd, 1) := by decide +kernel
theorem dL_law_530 : decode cL_law 530 = .ok (.iaload, 1) := by decide +kernel
theorem dL_law_531 : decode cL_law 531 = .ok (.aload_n 0, 1) := by decide +kernel
theorem dL_law_532 : decode cL_law 532 = .ok (.iload 4, 2) := by decide +kernel
theorem dL_law_534 : decode cL_law 534 = .ok (.iconst 2, 1) := by decide +kernel
theorem dL_law_535 : decode cL_law 535 = .ok (.iadd, 1) := by decide +kernel
theorem dL_law_536 : decode cL_law 536 = .ok (.iaload, 1) := by decide +kernel
theorem dL_law_537 : decode cL_law 537 = .ok (.invokevirtual 76, 3) := by decide +kernel
theorem dL_law_540 : decode cL_law 540 = .ok (.aload_n 2, 1) := by decide +kernel
theorem dL_law_541 : decode cL_law 541 = .ok (.aload_n 0, 1) := by decide +kernel
theorem dL_law_542 : decode cL_law 542 = .ok (.iload 4, 2) := by decide +kernel
theorem dL_law_544 : decode cL_law 544 = .ok (.iconst 1, 1) := by decide +kernel
theorem dL_law_545 : decode cL_law 545 = .ok (.iadd, 1) := by decide +kernel
theorem dL_law_546 : decode cL_law 546 = .ok (.iaload, 1) := by decide +kernel
theorem dL_law_547 : decode cL_law 547 = .ok (.aload_n 0, 1) := by decide +kernel
theorem dL_law_548 : decode cL_law 548 = .ok (.iload 4, 2) := by decide +kernel
theorem dL_law_550 : decode cL_law 550 = .ok (.iconst 2, 1) := by decide +kernel
theorem dL_law_551 : decode cL_law 551 = .ok (.iadd, 1) := by decide +kernel
theorem dL_law_552 : decode cL_law 552 = .ok (.iaload, 1) := by decide +kernel
theorem dL_law_553 : decode cL_law 553 = .ok (.invokevirtual 79, 3) := by decide +kernel
theorem dL_law_556 : decode cL_law 556 = .ok (.if_icmp .eq 242, 3) := by decide +kernel
theorem dL_law_559 : decode cL_law 559 = .ok (.iconst 0, 1) := by decide +kernel
theorem dL_law_560 : decode cL_law 560 = .ok (.ireturn, 1) := by decide +kernel
theorem dL_law_561 : decode cL_law 561 = .ok (.aload_n 1, 1) := by decide +kernel
theorem dL_law_562 : decode cL_law 562 = .ok (.aload_n 0, 1) := by decide +kernel
theorem dL_law_563 : decode cL_law 563 = .ok (.iload 4, 2) := by decide +kernel
theorem dL_law_565 : decode cL_law 565 = .ok (.iconst 1, 1) := by decide +kernel
theorem dL_law_566 : decode cL_law 566 = .ok (.iadd, 1) := by decide +kernel
theorem dL_law_567 : decode cL_law 567 = .ok (.iaload, 1) := by decide +kernel
theorem dL_law_568 : decode cL_law 568 = .ok (.invokevirtual 80, 3) := by decide +kernel
theorem dL_law_571 : decode cL_law 571 = .ok (.aload_n 2, 1) := by decide +kernel
theorem dL_law_572 : decode cL_law 572 = .ok (.aload_n 0, 1) := by decide +kernel
theorem dL_law_573 : decode cL_law 573 = .ok (.iload 4, 2) := by decide +kernel
theorem dL_law_575 : decode cL_law 575 = .ok (.iconst 1, 1) := by decide +kernel
theorem dL_law_576 : decode cL_law 576 = .ok (.iadd, 1) := by decide +kernel
theorem dL_law_577 : decode cL_law 577 = .ok (.iaload, 1) := by decide +kernel
theorem dL_law_578 : decode cL_law 578 = .ok (.invokevirtual 83, 3) := by decide +kernel
theorem dL_law_581 : decode cL_law 581 = .ok (.if_icmp .eq 217, 3) := by decide +kernel
theorem dL_law_584 : decode cL_law 584 = .ok (.iconst 0, 1) := by decide +kernel
theorem dL_law_585 : decode cL_law 585 = .ok (.ireturn, 1) := by decide +kernel
theorem dL_law_586 : decode cL_law 586 = .ok (.aload_n 1, 1) := by decide +kernel
theorem dL_law_587 : decode cL_law 587 = .ok (.aload_n 0, 1) := by decide +kernel
theorem dL_law_588 : decode cL_law 588 = .ok (.iload 4, 2) := by decide +kernel
theorem dL_law_590 : decode cL_law 590 = .ok (.iconst 1, 1) := by decide +kernel
theorem dL_law_591 : decode cL_law 591 = .ok (.iadd, 1) := by decide +kernel
theorem dL_law_592 : decode cL_law 592 = .ok (.iaload, 1) := by decide +kernel
theorem dL_law_593 : decode cL_law 593 = .ok (.aload_n 0, 1) := by decide +kernel
theorem dL_law_594 : decode cL_law 594 = .ok (.iload 4, 2) := by decide +kernel
theorem dL_law_596 : decode cL_law 596 = .ok (.iconst 2, 1) := by decide +kernel
theorem dL_law_597 : decode cL_law 597 = .ok (.iadd, 1) := by decide +kernel
theorem dL_law_598 : decode cL_law 598 = .ok (.iaload, 1) := by decide +kernel
theorem dL_law_599 : decode cL_law 599 = .ok (.aload_n 3, 1) := by decide +kernel
theorem dL_law_600 : decode cL_law 600 = .ok (.invokestatic 84, 3) := by decide +kernel
theorem dL_law_603 : decode cL_law 603 = .ok (.istore 5, 2) := by decide +kernel
theorem dL_law_605 : decode cL_law 605 = .ok (.aload_n 2, 1) := by decide +kernel
theorem dL_law_606 : decode cL_law 606 = .ok (.aload_n 0, 1) := by decide +kernel
theorem dL_law_607 : decode cL_law 607 = .ok (.iload 4, 2) := by decide +kernel
theorem dL_law_609 : decode cL_law 609 = .ok (.iconst 1, 1) := by decide +kernel
theorem dL_law_610 : decode cL_law 610 = .ok (.iadd, 1) := by decide +kernel
theorem dL_law_611 : decode cL_law 611 = .ok (.iaload, 1) := by decide +kernel
theorem dL_law_612 : decode cL_law 612 = .ok (.aload_n 0, 1) := by decide +kernel
theorem dL_law_613 : decode cL_law 613 = .ok (.iload 4, 2) := by decide +kernel
theorem dL_law_615 : decode cL_law 615 = .ok (.iconst 2, 1) := by decide +kernel
theorem dL_law_616 : decode cL_law 616 = .ok (.iadd, 1) := by decide +kernel
theorem dL_law_617 : decode cL_law 617 = .ok (.iaload, 1) := by decide +kernel
theorem dL_law_618 : decode cL_law 618 = .ok (.invokevirtual 89, 3) := by decide +kernel
theorem dL_law_621 : decode cL_law 621 = .ok (.istore 6, 2) := by decide +kernel
theorem dL_law_623 : decode cL_law 623 = .ok (.aload_n 2, 1) := by decide +kernel
theorem dL_law_624 : decode cL_law 624 = .ok (.invokevirtual 90, 3) := by decide +kernel
end
section
theorem dL_law_627 : decode cL_law 627 = .ok (.iload 5, 2) := by decide +kernel
theorem dL_law_629 : decode cL_law 629 = .ok (.if_icmp .eq 5, 3) := by decide +kernel
theorem dL_law_632 : decode cL_law 632 = .ok (.iconst 0, 1) := by decide +kernel
theorem dL_law_633 : decode cL_law 633 = .ok (.ireturn, 1) := by decide +kernel
theorem dL_law_634 : decode cL_law 634 = .ok (.iload 5, 2) := by decide +kernel
theorem dL_law_636 : decode cL_law 636 = .ok (.ifCond .ne 15, 3) := by decide +kernel
theorem dL_law_639 : decode cL_law 639 = .ok (.aload_n 3, 1) := by decide +kernel
theorem dL_law_640 : decode cL_law 640 = .ok (.iconst 0, 1) := by decide +kernel
theorem dL_law_641 : decode cL_law 641 = .ok (.laload, 1) := by decide +kernel
theorem dL_law_642 : decode cL_law 642 = .ok (.iload 6, 2) := by decide +kernel
theorem dL_law_644 : decode cL_law 644 = .ok (.i2l, 1) := by decide +kernel
theorem dL_law_645 : decode cL_law 645 = .ok (.lcmp, 1) := by decide +kernel
theorem dL_law_646 : decode cL_law 646 = .ok (.ifCond .eq 5, 3) := by decide +kernel
theorem dL_law_649 : decode cL_law 649 = .ok (.iconst 0, 1) := by decide +kernel
theorem dL_law_650 : decode cL_law 650 = .ok (.ireturn, 1) := by decide +kernel
theorem dL_law_651 : decode cL_law 651 = .ok (.goto 147, 3) := by decide +kernel
theorem dL_law_654 : decode cL_law 654 = .ok (.aload_n 1, 1) := by decide +kernel
theorem dL_law_655 : decode cL_law 655 = .ok (.aload_n 0, 1) := by decide +kernel
theorem dL_law_656 : decode cL_law 656 = .ok (.iload 4, 2) := by decide +kernel
theorem dL_law_658 : decode cL_law 658 = .ok (.iconst 1, 1) := by decide +kernel
theorem dL_law_659 : decode cL_law 659 = .ok (.iadd, 1) := by decide +kernel
theorem dL_law_660 : decode cL_law 660 = .ok (.iaload, 1) := by decide +kernel
theorem dL_law_661 : decode cL_law 661 = .ok (.aload_n 0, 1) := by decide +kernel
theorem dL_law_662 : decode cL_law 662 = .ok (.iload 4, 2) := by decide +kernel
theorem dL_law_664 : decode cL_law 664 = .ok (.iconst 2, 1) := by decide +kernel
theorem dL_law_665 : decode cL_law 665 = .ok (.iadd, 1) := by decide +kernel
theorem dL_law_666 : decode cL_law 666 = .ok (.iaload, 1) := by decide +kernel
theorem dL_law_667 : decode cL_law 667 = .ok (.invokevirtual 93, 3) := by decide +kernel
theorem dL_law_670 : decode cL_law 670 = .ok (.aload_n 2, 1) := by decide +kernel
theorem dL_law_671 : decode cL_law 671 = .ok (.aload_n 0, 1) := by decide +kernel
theorem dL_law_672 : decode cL_law 672 = .ok (.iload 4, 2) := by decide +kernel
theorem dL_law_674 : decode cL_law 674 = .ok (.iconst 1, 1) := by decide +kernel
theorem dL_law_675 : decode cL_law 675 = .ok (.iadd, 1) := by decide +kernel
theorem dL_law_676 : decode cL_law 676 = .ok (.iaload, 1) := by decide +kernel
theorem dL_law_677 : decode cL_law 677 = .ok (.aload_n 0, 1) := by decide +kernel
theorem dL_law_678 : decode cL_law 678 = .ok (.iload 4, 2) := by decide +kernel
theorem dL_law_680 : decode cL_law 680 = .ok (.iconst 2, 1) := by decide +kernel
theorem dL_law_681 : decode cL_law 681 = .ok (.iadd, 1) := by decide +kernel
theorem dL_law_682 : decode cL_law 682 = .ok (.iaload, 1) := by decide +kernel
theorem dL_law_683 : decode cL_law 683 = .ok (.invokevirtual 96, 3) := by decide +kernel
theorem dL_law_686 : decode cL_law 686 = .ok (.if_icmp .eq 112, 3) := by decide +kernel
theorem dL_law_689 : decode cL_law 689 = .ok (.iconst 0, 1) := by decide +kernel
theorem dL_law_690 : decode cL_law 690 = .ok (.ireturn, 1) := by decide +kernel
theorem dL_law_691 : decode cL_law 691 = .ok (.aload_n 1, 1) := by decide +kernel
theorem dL_law_692 : decode cL_law 692 = .ok (.aload_n 0, 1) := by decide +kernel
theorem dL_law_693 : decode cL_law 693 = .ok (.iload 4, 2) := by decide +kernel
theorem dL_law_695 : decode cL_law 695 = .ok (.iconst 1, 1) := by decide +kernel
theorem dL_law_696 : decode cL_law 696 = .ok (.iadd, 1) := by decide +kernel
theorem dL_law_697 : decode cL_law 697 = .ok (.iaload, 1) := by decide +kernel
theorem dL_law_698 : decode cL_law 698 = .ok (.aload_n 3, 1) := by decide +kernel
theorem dL_law_699 : decode cL_law 699 = .ok (.invokestatic 97, 3) := by decide +kernel
theorem dL_law_702 : decode cL_law 702 = .ok (.istore 5, 2) := by decide +kernel
theorem dL_law_704 : decode cL_law 704 = .ok (.aload_n 2, 1) := by decide +kernel
theorem dL_law_705 : decode cL_law 705 = .ok (.aload_n 0, 1) := by decide +kernel
theorem dL_law_706 : decode cL_law 706 = .ok (.iload 4, 2) := by decide +kernel
theorem dL_law_708 : decode cL_law 708 = .ok (.iconst 1, 1) := by decide +kernel
theorem dL_law_709 : decode cL_law 709 = .ok (.iadd, 1) := by decide +kernel
theorem dL_law_710 : decode cL_law 710 = .ok (.iaload, 1) := by decide +kernel
theorem dL_law_711 : decode cL_law 711 = .ok (.invokevirtual 100, 3) := by decide +kernel
theorem dL_law_714 : decode cL_law 714 = .ok (.istore 6, 2) := by decide +kernel
theorem dL_law_716 : decode cL_law 716 = .ok (.aload_n 2, 1) := by decide +kernel
theorem dL_law_717 : decode cL_law 717 = .ok (.invokevirtual 90, 3) := by decide +kernel
theorem dL_law_720 : decode cL_law 720 = .ok (.iload 5, 2) := by decide +kernel
theorem dL_law_722 : decode cL_law 722 = .ok (.if_icmp .eq 5, 3) := by decide +kernel
theorem dL_law_725 : decode cL_law 725 = .ok (.iconst 0, 1) := by decide +kernel
theorem dL_law_726 : decode cL_law 726 = .ok (.ireturn, 1) := by decide +kernel
theorem dL_law_727 : decode cL_law 727 = .ok (.iload 5, 2) := by decide +kernel
theorem dL_law_729 : decode cL_law 729 = .ok (.ifCond .ne 15, 3) := by decide +kernel
theorem dL_law_732 : decode cL_law 732 = .ok (.aload_n 3, 1) := by decide +kernel
theorem dL_law_733 : decode cL_law 733 = .ok (.iconst 0, 1) := by decide +kernel
theorem dL_law_734 : decode cL_law 734 = .ok (.laload, 1) := by decide +kernel
theorem dL_law_735 : decode cL_law 735 = .ok (.iload 6, 2) := by decide +kernel
theorem dL_law_737 : decode cL_law 737 = .ok (.i2l, 1) := by decide +kernel
theorem dL_law_738 : decode cL_law 738 = .ok (.lcmp, 1) := by decide +kernel
theorem dL_law_739 : decode cL_law 739 = .ok (.ifCond .eq 5, 3) := by decide +kernel
theorem dL_law_742 : decode cL_law 742 = .ok (.iconst 0, 1) := by decide +kernel
theorem dL_law_743 : decode cL_law 743 = .ok (.ireturn, 1) := by decide +kernel
theorem dL_law_744 : decode cL_law 744 = .ok (.goto 54, 3) := by decide +kernel
theorem dL_law_747 : decode cL_law 747 = .ok (.aload_n 1, 1) := by decide +kernel
theorem dL_law_748 : decode cL_law 748 = .ok (.invokevirtual 101, 3) := by decide +kernel
theorem dL_law_751 : decode cL_law 751 = .ok (.aload_n 2, 1) := by decide +kernel
theorem dL_law_752 : decode cL_law 752 = .ok (.invokevirtual 104, 3) := by decide +kernel
theorem dL_law_755 : decode cL_law 755 = .ok (.if_icmp .eq 43, 3) := by decide +kernel
theorem dL_law_758 : decode cL_law 758 = .ok (.iconst 0, 1) := by decide +kernel
theorem dL_law_759 : decode cL_law 759 = .ok (.ireturn, 1) := by decide +kernel
theorem dL_law_760 : decode cL_law 760 = .ok (.aload_n 1, 1) := by decide +kernel
theorem dL_law_761 : decode cL_law 761 = .ok (.aload_n 0, 1) := by decide +kernel
theorem dL_law_762 : decode cL_law 762 = .ok (.iload 4, 2) := by decide +kernel
theorem dL_law_764 : decode cL_law 764 = .ok (.iconst 1, 1) := by decide +kernel
theorem dL_law_765 : decode cL_law 765 = .ok (.iadd, 1) := by decide +kernel
theorem dL_law_766 : decode cL_law 766 = .ok (.iaload, 1) := by decide +kernel
theorem dL_law_767 : decode cL_law 767 = .ok (.invokevirtual 105, 3) := by decide +kernel
theorem dL_law_770 : decode cL_law 770 = .ok (.aload_n 2, 1) := by decide +kernel
theorem dL_law_771 : decode cL_law 771 = .ok (.aload_n 0, 1) := by decide +kernel
theorem dL_law_772 : decode cL_law 772 = .ok (.iload 4, 2) := by decide +kernel
theorem dL_law_774 : decode cL_law 774 = .ok (.iconst 1, 1) := by decide +kernel
theorem dL_law_775 : decode cL_law 775 = .ok (.iadd, 1) := by decide +kernel
theorem dL_law_776 : decode cL_law 776 = .ok (.iaload, 1) := by decide +kernel
theorem dL_law_777 : decode cL_law 777 = .ok (.invokevirtual 108, 3) := by decide +kernel
theorem dL_law_780 : decode cL_law 780 = .ok (.if_icmp .eq 18, 3) := by decide +kernel
theorem dL_law_783 : decode cL_law 783 = .ok (.iconst 0, 1) := by decide +kernel
theorem dL_law_784 : decode cL_law 784 = .ok (.ireturn, 1) := by decide +kernel
theorem dL_law_785 : decode cL_law 785 = .ok (.aload_n 1, 1) := by decide +kernel
theorem dL_law_786 : decode cL_law 786 = .ok (.invokevirtual 109, 3) := by decide +kernel
theorem dL_law_789 : decode cL_law 789 = .ok (.aload_n 2, 1) := by decide +kernel
theorem dL_law_790 : decode cL_law 790 = .ok (.invokevirtual 112, 3) := by decide +kernel
theorem dL_law_793 : decode cL_law 793 = .ok (.if_icmp .eq 5, 3) := by decide +kernel
theorem dL_law_796 : decode cL_law 796 = .ok (.iconst 0, 1) := by decide +kernel
theorem dL_law_797 : decode cL_law 797 = .ok (.ireturn, 1) := by decide +kernel
theorem dL_law_798 : decode cL_law 798 = .ok (.iinc 4 5, 3) := by decide +kernel
theorem dL_law_801 : decode cL_law 801 = .ok (.goto (-778), 3) := by decide +kernel
theorem dL_law_804 : decode cL_law 804 = .ok (.iconst 1, 1) := by decide +kernel
theorem dL_law_805 : decode cL_law 805 = .ok (.ireturn, 1) := by decide +kernel
end
section
/-! THE FRAME OF THIS PROOF. All cells of the claim lie in ONE list 'zc G Y Z': G says which cells there are (how many, their addresses, their shapes, their lengths, what their reference fields hold), Y the array classes, Z : cell → slot → Int32 all whole numbers in them. J E .. is W over that list. -/
def zw_good : List Cond := lw_tbl.filter goodWord
def zw_isN : Cond → Bool
  | .fieldLinkNest _ _ _ _ _ _ => true
  | .methodLinkNest _ _ _ _ => true
  | _ => false
def zw_nest : List Cond := lw_tbl.filter zw_isN
theorem zw_in {w : Cond} (h : w ∈ lw_tbl) (hg : goodWord w = true) : w ∈ zw_good := List.mem_filter.mpr ⟨h, hg⟩
theorem zw_inN {w : Cond} (h : w ∈ lw_tbl) (hg : zw_isN w = true) : w ∈ zw_nest := List.mem_filter.mpr ⟨h, hg⟩
theorem zw_gi {ws : List Cond} (h : ∀ w ∈ ws, w ∈ zw_good) : GoodIn zw_good ws := fun w hw => ⟨h w hw, good_of_word (List.mem_filter.mp (h w hw)).2⟩
theorem zw_on {w : Cond} (h : w ∈ zw_nest) : w.onTables = true := by
  have h2 := (List.mem_filter.mp h).2
  cases w <;> first | rfl | (simp [zw_isN] at h2; done)
theorem zw_warm {w : Cond} (h : w ∈ zw_nest) {s U : State} (hW : s.WarmedH U.vm) (hZ : va_Nw w s) : va_Nw w U := by
  have h2 := (List.mem_filter.mp h).2
  cases w <;> first | exact va_Nw.warmF hW hZ | exact va_Nw.warmM hW hZ | (simp [zw_isN] at h2; done)
abbrev zcl : List vw_C := [(RX0, TX0, 6), (RX1, TX1, 5), (RX2, TX2, 6), (RX3, TX3, 11), (RX4, TX4, 8), (RX5, TX5, 26)]
abbrev ZT : Type := Nat → Nat → Int32
abbrev GT : Type := Nat × (Nat → Nat) × (Nat → Nat) × (Nat → Nat) × (Nat → Nat → Option Nat)
abbrev YT : Type := ClassId × ClassId × ClassId × ClassId × ClassId
def zu (Z : ZT) (c f : Nat) (v : Int32) : ZT := fun a b => if a = c ∧ b = f then v else Z a b
def zn : Nat → Nat
  | 0 => 6
  | 1 => 5
  | 2 => 6
  | 3 => 11
  | 4 => 8
  | _ => 26
def zr (k f : Nat) : Bool := match k with
  | 0 => decide (f < 2)
  | 1 => decide (f < 3)
  | 2 => decide (f < 5)
  | 3 => decide (f < 3)
  | 4 => decide (f < 5)
  | _ => (decide (3 ≤ f) && decide (f < 13)) || (decide (15 ≤ f) && decide (f < 22)) || decide (f = 25)
def zfl (G : GT) (Z : ZT) (k c : Nat) : List Value := (List.range (zn k)).map fun f => if zr k f = true then va_rf ((G.2.2.2.2 c f).map G.2.1) else .int (Z c f)
def ze (G : GT) (Y : YT) (Z : ZT) (c : Nat) : va_E :=
  if G.2.2.1 c < 6 then .inr (G.2.2.1 c, zfl G Z (G.2.2.1 c) c)
  else if G.2.2.1 c = 6 then .inl (Y.1, G.2.2.2.1 c, .inl (Z c))
  else if G.2.2.1 c = 7 then .inl (Y.2.1, G.2.2.2.1 c, .inl (Z c))
  else if G.2.2.1 c = 8 then .inl (Y.2.2.1, G.2.2.2.1 c, .inr (.inr (.inr (.inr (fun j => (G.2.2.2.2 c j).map G.2.1)))))
  else if G.2.2.1 c = 9 then .inl (Y.2.2.2.1, G.2.2.2.1 c, .inr (.inr (.inr (.inr (fun j => (G.2.2.2.2 c j).map G.2.1)))))
  else .inl (Y.2.2.2.2, G.2.2.2.1 c, .inr (.inl (fun j => (Z c j).toInt64)))
def zc (G : GT) (Y : YT) (Z : ZT) : va_W := (List.range G.1).map fun c => (G.2.1 c, ze G Y Z c)
def zty (Y : YT) : List (ClassId × FieldType) := [(Y.1, .int), (Y.2.1, .boolean), (Y.2.2.1, .object "SourcePositions$Part"), (Y.2.2.2.1, .object "SourcePositions$Mark"), (Y.2.2.2.2, .long)]
section ZL
variable {G : GT} {Y : YT} {Z : ZT} {c f k : Nat} {v : Int32}
theorem zu_s : zu Z c f v c f = v := by simp [zu]
theorem zu_row : zu Z c f v c = upd (Z c) f v := by funext b; simp [zu, upd]
theorem zu_ne {a : Nat} (h : a ≠ c) : zu Z c f v a = Z a := by funext b; simp [zu, h]
theorem zc_at (h : c < G.1) : (zc G Y Z)[c]? = some (G.2.1 c, ze G Y Z c) := by simp [zc, h]
theorem zc_mem {i : Nat} {p : Nat × va_E} (h : (zc G Y Z)[i]? = some p) : i < G.1 ∧ p.1 = G.2.1 i := by
  by_cases hi : i < G.1
  · rw [zc_at hi] at h
    cases h
    exact ⟨hi, rfl⟩
  · simp [zc, hi] at h
theorem zc_set {Z' : ZT} {e : va_E} (h : c < G.1) (he : ze G Y Z' c = e) (ho : ∀ a, a ≠ c → ze G Y Z' a = ze G Y Z a) : (zc G Y Z).set c (G.2.1 c, e) = zc G Y Z' := by
  apply List.ext_getElem?
  intro i
  by_cases hi : i = c
  · subst hi
    rw [List.getElem?_set_self (by simp [zc, h]), zc_at h, he]
  · rw [List.getElem?_set_ne (Ne.symm hi)]
    by_cases hl : i < G.1
    · rw [zc_at hl, zc_at hl, ho i hi]
    · simp [zc, hl]
theorem ze_ne {a : Nat} (h : a ≠ c) : ze G Y (zu Z c f v) a = ze G Y Z a := by
  have hz : zu Z c f v a = Z a := zu_ne h
  simp only [ze, zfl, hz]
theorem ze_obj (h : G.2.2.1 c = k) (hk : k < 6) : ze G Y Z c = .inr (k, zfl G Z k c) := by simp [ze, h, hk]
theorem ze_I (h : G.2.2.1 c = 6) : ze G Y Z c = .inl (Y.1, G.2.2.2.1 c, .inl (Z c)) := by simp [ze, h]
theorem ze_Z (h : G.2.2.1 c = 7) : ze G Y Z c = .inl (Y.2.1, G.2.2.2.1 c, .inl (Z c)) := by simp [ze, h]
theorem ze_P (h : G.2.2.1 c = 8) : ze G Y Z c = .inl (Y.2.2.1, G.2.2.2.1 c, .inr (.inr (.inr (.inr (fun j => (G.2.2.2.2 c j).map G.2.1))))) := by simp [ze, h]
theorem ze_M (h : G.2.2.1 c = 9) : ze G Y Z c = .inl (Y.2.2.2.1, G.2.2.2.1 c, .inr (.inr (.inr (.inr (fun j => (G.2.2.2.2 c j).map G.2.1))))) := by simp [ze, h]
theorem ze_L (h : G.2.2.1 c = 10) : ze G Y Z c = .inl (Y.2.2.2.2, G.2.2.2.1 c, .inr (.inl (fun j => (Z c j).toInt64))) := by simp [ze, h]
theorem zfl_at (hf : f < zn k) (hr : zr k f = false) : (zfl G Z k c)[f]? = some (.int (Z c f)) := by simp [zfl, hf, hr]
theorem zfl_atR {t : Nat} (hf : f < zn k) (hr : zr k f = true) (ht : G.2.2.2.2 c f = some t) : (zfl G Z k c)[f]? = some (.ref (G.2.1 t)) := by simp [zfl, hf, hr, ht, va_rf]
theorem zfl_len : (zfl G Z k c).length = zn k := by simp [zfl]
theorem zfl_set (hf : f < zn k) (hr : zr k f = false) : (zfl G Z k c).set f (.int v) = zfl G (zu Z c f v) k c := by
  apply List.ext_getElem?
  intro i
  by_cases hi : i = f
  · subst hi
    rw [List.getElem?_set_self (by rw [zfl_len]; exact hf), zfl_at hf hr, zu_s]
  · rw [List.getElem?_set_ne (Ne.symm hi)]
    by_cases hl : i < zn k
    · simp [zfl, hl, zu, hi]
    · simp [zfl, hl]
theorem zc_putI (h : c < G.1) (hs : G.2.2.1 c = k) (hk : k < 6) (hf : f < zn k) (hr : zr k f = false) : (zc G Y Z).set c (G.2.1 c, .inr (k, (zfl G Z k c).set f (.int v))) = zc G Y (zu Z c f v) :=
  zc_set h (by rw [ze_obj hs hk, zfl_set hf hr]) (fun a ha => ze_ne ha)
theorem zc_arrI (h : c < G.1) (hs : G.2.2.1 c = 6) : (zc G Y Z).set c (G.2.1 c, .inl (Y.1, G.2.2.2.1 c, .inl (upd (Z c) f v))) = zc G Y (zu Z c f v) :=
  zc_set h (by rw [ze_I hs, zu_row]) (fun a ha => ze_ne ha)
theorem zc_arrZ (h : c < G.1) (hs : G.2.2.1 c = 7) : (zc G Y Z).set c (G.2.1 c, .inl (Y.2.1, G.2.2.2.1 c, .inl (upd (Z c) f v))) = zc G Y (zu Z c f v) :=
  zc_set h (by rw [ze_Z hs, zu_row]) (fun a ha => ze_ne ha)
theorem zc_arrL (h : c < G.1) (hs : G.2.2.1 c = 10) : (zc G Y Z).set c (G.2.1 c, .inl (Y.2.2.2.2, G.2.2.2.1 c, .inr (.inl (vp_updL (fun j => (Z c j).toInt64) f v.toInt64)))) = zc G Y (zu Z c f v) := by
  refine zc_set h ?_ (fun a ha => ze_ne ha)
  rw [ze_L hs]
  have e : (fun j => (zu Z c f v c j).toInt64) = vp_updL (fun j => (Z c j).toInt64) f v.toInt64 := by
    funext j
    by_cases hj : j = f <;> simp [zu, vp_updL, hj]
  rw [e]
end ZL
/-- the addresses are apart, and new -/
def GD (b0 : Nat) (G : GT) : Prop := (∀ i j, i < G.1 → j < G.1 → G.2.1 i = G.2.1 j → i = j) ∧ ∀ i, i < G.1 → b0 ≤ G.2.1 i
theorem zc_D {b0 : Nat} {G : GT} {Y : YT} {Z : ZT} (h : GD b0 G) : va_D (fun q => b0 ≤ q) (zc G Y Z) := by
  refine ⟨fun i j p q hi hj hpq => ?_, fun i q hi => ?_⟩
  · obtain ⟨h1, h2⟩ := zc_mem hi
    obtain ⟨h3, h4⟩ := zc_mem hj
    exact h.1 i j h1 h3 (by rw [← h2, ← h4]; exact hpq)
  · obtain ⟨h1, h2⟩ := zc_mem hi
    show b0 ≤ q.1
    rw [h2]
    exact h.2 i h1
abbrev ET : Type := (Program × Launch × Env × Room × State × MethodId × Array Value × List Frame × Method × Code) × va_G × YT × Nat × Nat × (State → Prop)
abbrev eP (E : ET) : Program := E.1.1
abbrev eL (E : ET) : Launch := E.1.2.1
abbrev eE (E : ET) : Env := E.1.2.2.1
abbrev eR (E : ET) : Room := E.1.2.2.2.1
abbrev eS (E : ET) : State := E.1.2.2.2.2.1
abbrev eM (E : ET) : MethodId := E.1.2.2.2.2.2.1
abbrev eA (E : ET) : Array Value := E.1.2.2.2.2.2.2.1
abbrev eB (E : ET) : List Frame := E.1.2.2.2.2.2.2.2.1
abbrev eMe (E : ET) : Method := E.1.2.2.2.2.2.2.2.2.1
abbrev eC (E : ET) : Code := E.1.2.2.2.2.2.2.2.2.2
abbrev eD (E : ET) : va_G := E.2.1
abbrev eY (E : ET) : YT := E.2.2.1
abbrev e0 (E : ET) : Nat := E.2.2.2.1
abbrev eN (E : ET) : Nat := E.2.2.2.2.1
abbrev eQ (E : ET) : State → Prop := E.2.2.2.2.2
def J (E : ET) (cells slots : Nat) (G : GT) (pc : Nat) (lv : List (Nat × Value)) (st : List Value) (Z : ZT) : Prop :=
  ∀ (H : Heap) (locs : List Loc) (ls : Array Slot), va_P (eD E) zcl (zc G (eY E) Z) H → va_S (fun q => e0 E ≤ q) (eS E).heap H locs → lv_has ls (eN E) lv →
    W (eP E) (eL E) (eE E) (eR E) (eS E) (eM E) (eA E) (eB E) (eMe E) (eC E) H locs cells slots (eQ E) (F0 (eM E) pc ls st)
/-- what holds of a method that runs -/
def Cb (E : ET) (own : String) (cc : ByteArray) : Prop :=
  (eP E).tables.exec = Jvm.exec ∧ (eC E).code = cc ∧ (eC E).maxLocals = eN E ∧ (eS E).vm.findClass own = some (eM E).cls ∧ (∀ w ∈ zw_good, w.before (eA E) (eS E) = true) ∧ (∀ w ∈ zw_nest, va_Nw w (eS E)) ∧ va_K (eD E) zcl (zty (eY E)) (eS E)
theorem Cb.hx {E : ET} {own : String} {cc : ByteArray} (C : Cb E own cc) : (eP E).tables.exec = Jvm.exec := C.1
theorem Cb.hb {E : ET} {own : String} {cc : ByteArray} (C : Cb E own cc) : (eC E).code = cc := C.2.1
theorem Cb.hml {E : ET} {own : String} {cc : ByteArray} (C : Cb E own cc) : (eC E).maxLocals = eN E := C.2.2.1
theorem Cb.ho {E : ET} {own : String} {cc : ByteArray} (C : Cb E own cc) : (eS E).vm.findClass own = some (eM E).cls := C.2.2.2.1
theorem Cb.hts {E : ET} {own : String} {cc : ByteArray} (C : Cb E own cc) : ∀ w ∈ zw_good, w.before (eA E) (eS E) = true := C.2.2.2.2.1
theorem Cb.hnw {E : ET} {own : String} {cc : ByteArray} (C : Cb E own cc) : ∀ w ∈ zw_nest, va_Nw w (eS E) := C.2.2.2.2.2.1
theorem Cb.hK {E : ET} {own : String} {cc : ByteArray} (C : Cb E own cc) : va_K (eD E) zcl (zty (eY E)) (eS E) := C.2.2.2.2.2.2
def rmL (n : Nat) : Room := { frames := n, cells := 0, slots := 0, locals := 40 * n }
/-- a class of the claim: its number, name, fields, types -/
def zK (k : Nat) (C0 : String) (T : u_T) (N : Nat) (ty : Nat → FieldType) : Prop :=
  zcl[k]? = some (C0, T, N) ∧ (∀ w ∈ u_ws C0 T N, w ∈ zw_good) ∧ zn k = N ∧ k < 6 ∧ (∀ j, j < N → parseFieldDescriptor (T j).2.2.1 = some (ty j)) ∧ (∀ a, a < N → ∀ b, b < N → a ≠ b → (T a).2.1 ≠ (T b).2.1)
set_option maxRecDepth 100000 in
theorem zK0 : zK 0 RX0 TX0 6 tyX0 := ⟨rfl, by decide +kernel, rfl, by decide, tyX0_ok, nmX0⟩
set_option maxRecDepth 100000 in
theorem zK1 : zK 1 RX1 TX1 5 tyX1 := ⟨rfl, by decide +kernel, rfl, by decide, tyX1_ok, nmX1⟩
set_option maxRecDepth 100000 in
theorem zK2 : zK 2 RX2 TX2 6 tyX2 := ⟨rfl, by decide +kernel, rfl, by decide, tyX2_ok, nmX2⟩
set_option maxRecDepth 100000 in
theorem zK3 : zK 3 RX3 TX3 11 tyX3 := ⟨rfl, by decide +kernel, rfl, by decide, tyX3_ok, nmX3⟩
set_option maxRecDepth 100000 in
theorem zK4 : zK 4 RX4 TX4 8 tyX4 := ⟨rfl, by decide +kernel, rfl, by decide, tyX4_ok, nmX4⟩
set_option maxRecDepth 100000 in
theorem zK5 : zK 5 RX5 TX5 26 tyX5 := ⟨rfl, by decide +kernel, rfl, by decide, tyX5_ok, nmX5⟩
end
section
set_option maxRecDepth 100000 in
theorem zw_math : Cond.initialized "java/lang/Math" ∈ zw_good := zw_in (by decide +kernel) (by decide +kernel)
set_option maxRecDepth 100000 in
theorem zw_max1 : Cond.static Lib.Math.max.name ∈ zw_good := zw_in (by decide +kernel) (by decide +kernel)
set_option maxRecDepth 100000 in
theorem zw_min1 : Cond.static Lib.Math.min.name ∈ zw_good := zw_in (by decide +kernel) (by decide +kernel)
set_option maxRecDepth 100000 in
theorem zw_max2 : Cond.code Lib.Math.max.name Lib.Math.max.code 2 (some .int) ∈ zw_good := zw_in (by decide +kernel) (by decide +kernel)
set_option maxRecDepth 100000 in
theorem zw_min2 : Cond.code Lib.Math.min.name Lib.Math.min.code 2 (some .int) ∈ zw_good := zw_in (by decide +kernel) (by decide +kernel)
section JR
variable {E : ET} {own : String} {cc : ByteArray} {ce sl : Nat} {G : GT} {pc : Nat} {lv : List (Nat × Value)} {st : List Value} {Z : ZT}
theorem j_iload_n (C : Cb E own cc) {k : Fin 4} {i : Nat} {x : Int32} (q : Nat) (hd : decode cc pc = .ok (.iload_n k, 1)) (hi : (k : Nat) = i) (hl : lv[q]? = some (i, .int x)) (kk : J E ce sl G (pc + 1) lv (.int x :: st) Z) : J E ce sl G pc lv st Z :=
  fun H locs ls hP hS h => lv_iload_n C.hx C.hb hd hi (lv_at h q hl) (kk H locs ls hP hS h)
theorem j_iload (C : Cb E own cc) {i : Nat} {x : Int32} (q : Nat) (hd : decode cc pc = .ok (.iload i, 2)) (hl : lv[q]? = some (i, .int x)) (kk : J E ce sl G (pc + 2) lv (.int x :: st) Z) : J E ce sl G pc lv st Z :=
  fun H locs ls hP hS h => lv_iload C.hx C.hb hd (lv_at h q hl) (kk H locs ls hP hS h)
theorem j_istore_n (C : Cb E own cc) {k : Fin 4} {i : Nat} {x : Int32} {lv' : List (Nat × Value)} (hd : decode cc pc = .ok (.istore_n k, 1)) (hi : (k : Nat) = i) (hn : i < eN E) (hl : (i, Value.int x) :: lv.filter (fun q => !(q.1 == i) && !(q.1 + 1 == i && q.2.category == 2)) = lv') (kk : J E ce sl G (pc + 1) lv' st Z) : J E ce sl G pc lv (.int x :: st) Z :=
  fun H locs ls hP hS h => lv_istore_n C.hx C.hb hd hi h hn hl (fun ls2 h2 => kk H locs ls2 hP hS h2)
theorem j_istore (C : Cb E own cc) {i : Nat} {x : Int32} {lv' : List (Nat × Value)} (hd : decode cc pc = .ok (.istore i, 2)) (hn : i < eN E) (hl : (i, Value.int x) :: lv.filter (fun q => !(q.1 == i) && !(q.1 + 1 == i && q.2.category == 2)) = lv') (kk : J E ce sl G (pc + 2) lv' st Z) : J E ce sl G pc lv (.int x :: st) Z :=
  fun H locs ls hP hS h => lv_istore C.hx C.hb hd h hn hl (fun ls2 h2 => kk H locs ls2 hP hS h2)
theorem j_aload_n (C : Cb E own cc) {k : Fin 4} {i : Nat} {x : Nat} (q : Nat) (hd : decode cc pc = .ok (.aload_n k, 1)) (hi : (k : Nat) = i) (hl : lv[q]? = some (i, .ref x)) (kk : J E ce sl G (pc + 1) lv (.ref x :: st) Z) : J E ce sl G pc lv st Z :=
  fun H locs ls hP hS h => lv_aload_n C.hx C.hb hd hi (lv_at h q hl) (kk H locs ls hP hS h)
theorem j_aload (C : Cb E own cc) {i : Nat} {x : Nat} (q : Nat) (hd : decode cc pc = .ok (.aload i, 2)) (hl : lv[q]? = some (i, .ref x)) (kk : J E ce sl G (pc + 2) lv (.ref x :: st) Z) : J E ce sl G pc lv st Z :=
  fun H locs ls hP hS h => lv_aload C.hx C.hb hd (lv_at h q hl) (kk H locs ls hP hS h)
theorem j_astore_n (C : Cb E own cc) {k : Fin 4} {i : Nat} {x : Nat} {lv' : List (Nat × Value)} (hd : decode cc pc = .ok (.astore_n k, 1)) (hi : (k : Nat) = i) (hn : i < eN E) (hl : (i, Value.ref x) :: lv.filter (fun q => !(q.1 == i) && !(q.1 + 1 == i && q.2.category == 2)) = lv') (kk : J E ce sl G (pc + 1) lv' st Z) : J E ce sl G pc lv (.ref x :: st) Z :=
  fun H locs ls hP hS h => lv_astore_n C.hx C.hb hd hi h hn hl (fun ls2 h2 => kk H locs ls2 hP hS h2)
theorem j_astore (C : Cb E own cc) {i : Nat} {x : Nat} {lv' : List (Nat × Value)} (hd : decode cc pc = .ok (.astore i, 2)) (hn : i < eN E) (hl : (i, Value.ref x) :: lv.filter (fun q => !(q.1 == i) && !(q.1 + 1 == i && q.2.category == 2)) = lv') (kk : J E ce sl G (pc + 2) lv' st Z) : J E ce sl G pc lv (.ref x :: st) Z :=
  fun H locs ls hP hS h => lv_astore C.hx C.hb hd h hn hl (fun ls2 h2 => kk H locs ls2 hP hS h2)
theorem j_iinc (C : Cb E own cc) {i : Nat} {n : Int} {x v : Int32} {lv' : List (Nat × Value)} (q : Nat) (hd : decode cc pc = .ok (.iinc i n, 3)) (hk : lv[q]? = some (i, .int x)) (hv : x + Int32.ofInt n = v) (hn : i < eN E) (hl : (i, Value.int v) :: lv.filter (fun q => !(q.1 == i) && !(q.1 + 1 == i && q.2.category == 2)) = lv') (kk : J E ce sl G (pc + 3) lv' st Z) : J E ce sl G pc lv st Z :=
  fun H locs ls hP hS h => lv_iinc C.hx C.hb hd h hk hv hn hl (fun ls2 h2 => kk H locs ls2 hP hS h2)
theorem j_iconst (C : Cb E own cc) {n : Int} (v : Int32) (hd : decode cc pc = .ok (.iconst n, 1)) (hv : Int32.ofInt n = v) (kk : J E ce sl G (pc + 1) lv (.int v :: st) Z) : J E ce sl G pc lv st Z :=
  fun H locs ls hP hS h => lv_iconst C.hx C.hb hd hv (kk H locs ls hP hS h)
theorem j_bipush (C : Cb E own cc) {n : Int} (v : Int32) (hd : decode cc pc = .ok (.bipush n, 2)) (hv : (Int8.ofInt n).toInt32 = v) (kk : J E ce sl G (pc + 2) lv (.int v :: st) Z) : J E ce sl G pc lv st Z :=
  fun H locs ls hP hS h => lv_bipush C.hx C.hb hd hv (kk H locs ls hP hS h)
theorem j_sipush (C : Cb E own cc) {n : Int} (v : Int32) (hd : decode cc pc = .ok (.sipush n, 3)) (hv : (Int16.ofInt n).toInt32 = v) (kk : J E ce sl G (pc + 3) lv (.int v :: st) Z) : J E ce sl G pc lv st Z :=
  fun H locs ls hP hS h => lv_sipush C.hx C.hb hd hv (kk H locs ls hP hS h)
theorem j_ldc (C : Cb E own cc) {index : Nat} (v : Int32) (hw : Cond.constant own index v ∈ zw_good) (hd : decode cc pc = .ok (.ldc index, 2)) (kk : J E ce sl G (pc + 2) lv (.int v :: st) Z) : J E ce sl G pc lv st Z :=
  fun H locs ls hP hS h => lv_ldc C.hx C.hb C.ho (C.hts _ hw) hd (kk H locs ls hP hS h)
theorem j_iadd (C : Cb E own cc) {x y : Int32} (v : Int32) (hd : decode cc pc = .ok (.iadd, 1)) (hv : x + y = v) (kk : J E ce sl G (pc + 1) lv (.int v :: st) Z) : J E ce sl G pc lv (.int y :: .int x :: st) Z :=
  fun H locs ls hP hS h => lv_iadd C.hx C.hb hd (by rw [hv]; exact kk H locs ls hP hS h)
theorem j_isub (C : Cb E own cc) {x y : Int32} (v : Int32) (hd : decode cc pc = .ok (.isub, 1)) (hv : x - y = v) (kk : J E ce sl G (pc + 1) lv (.int v :: st) Z) : J E ce sl G pc lv (.int y :: .int x :: st) Z :=
  fun H locs ls hP hS h => lv_isub C.hx C.hb hd (by rw [hv]; exact kk H locs ls hP hS h)
theorem j_imul (C : Cb E own cc) {x y : Int32} (v : Int32) (hd : decode cc pc = .ok (.imul, 1)) (hv : x * y = v) (kk : J E ce sl G (pc + 1) lv (.int v :: st) Z) : J E ce sl G pc lv (.int y :: .int x :: st) Z :=
  fun H locs ls hP hS h => lv_imul C.hx C.hb hd (by rw [hv]; exact kk H locs ls hP hS h)
theorem j_iand (C : Cb E own cc) {x y : Int32} (v : Int32) (hd : decode cc pc = .ok (.iand, 1)) (hv : x &&& y = v) (kk : J E ce sl G (pc + 1) lv (.int v :: st) Z) : J E ce sl G pc lv (.int y :: .int x :: st) Z :=
  fun H locs ls hP hS h => lv_iand C.hx C.hb hd (by rw [hv]; exact kk H locs ls hP hS h)
theorem j_idiv (C : Cb E own cc) {x y : Int32} (v : Int32) (hd : decode cc pc = .ok (.idiv, 1)) (hne : ¬ y = 0) (hv : x / y = v) (kk : J E ce sl G (pc + 1) lv (.int v :: st) Z) : J E ce sl G pc lv (.int y :: .int x :: st) Z :=
  fun H locs ls hP hS h => lv_idiv C.hx C.hb hd hne (by rw [hv]; exact kk H locs ls hP hS h)
theorem j_irem (C : Cb E own cc) {x y : Int32} (v : Int32) (hd : decode cc pc = .ok (.irem, 1)) (hne : ¬ y = 0) (hv : x - x / y * y = v) (kk : J E ce sl G (pc + 1) lv (.int v :: st) Z) : J E ce sl G pc lv (.int y :: .int x :: st) Z :=
  fun H locs ls hP hS h => lv_irem C.hx C.hb hd hne (by rw [hv]; exact kk H locs ls hP hS h)
theorem j_i2l (C : Cb E own cc) {x : Int32} (hd : decode cc pc = .ok (.i2l, 1)) (kk : J E ce sl G (pc + 1) lv (.long x.toInt64 :: st) Z) : J E ce sl G pc lv (.int x :: st) Z :=
  fun H locs ls hP hS h => lv_i2l C.hx C.hb hd rfl (kk H locs ls hP hS h)
theorem j_lcmp (C : Cb E own cc) {x y : Int64} (v : Int32) (hd : decode cc pc = .ok (.lcmp, 1)) (hv : lg_cmp x y = v) (kk : J E ce sl G (pc + 1) lv (.int v :: st) Z) : J E ce sl G pc lv (.long y :: .long x :: st) Z :=
  fun H locs ls hP hS h => W.lcmp C.hx C.hb hd (by rw [hv]; exact kk H locs ls hP hS h)
theorem j_dup (C : Cb E own cc) {va : Value} (hd : decode cc pc = .ok (.dup, 1)) (hva : va.category = 1) (kk : J E ce sl G (pc + 1) lv (va :: va :: st) Z) : J E ce sl G pc lv (va :: st) Z :=
  fun H locs ls hP hS h => lv_dup C.hx C.hb hd hva (kk H locs ls hP hS h)
theorem j_dup2 (C : Cb E own cc) {va vb : Value} (hd : decode cc pc = .ok (.dup2, 1)) (hva : va.category = 1) (hvb : vb.category = 1) (kk : J E ce sl G (pc + 1) lv (va :: vb :: va :: vb :: st) Z) : J E ce sl G pc lv (va :: vb :: st) Z :=
  fun H locs ls hP hS h => lv_dup2_11 C.hx C.hb hd hva hvb (kk H locs ls hP hS h)
theorem j_goto (C : Cb E own cc) {off : Int} {tgt : Nat} (hd : decode cc pc = .ok (.goto off, 3)) (ht : (pc : Int) + off = (tgt : Int)) (kk : J E ce sl G tgt lv st Z) : J E ce sl G pc lv st Z :=
  fun H locs ls hP hS h => lv_goto C.hx C.hb hd ht (kk H locs ls hP hS h)
theorem zi_eq {x y : Int32} {a b : Int} (hx : x.toInt = a) (hy : y.toInt = b) : x = y ↔ a = b := by rw [← hx, ← hy]; exact Int32.toInt_inj.symm
theorem zi_lt {x y : Int32} {a b : Int} (hx : x.toInt = a) (hy : y.toInt = b) : x < y ↔ a < b := by rw [← hx, ← hy]; exact Int32.lt_iff_toInt_lt
theorem zi_le {x y : Int32} {a b : Int} (hx : x.toInt = a) (hy : y.toInt = b) : x ≤ y ↔ a ≤ b := by rw [← hx, ← hy]; exact Int32.le_iff_toInt_le
theorem j_icmp_eq (C : Cb E own cc) {x y : Int32} {off : Int} {tgt : Nat} {a b : Int} (hx : x.toInt = a) (hy : y.toInt = b) (hd : decode cc pc = .ok (.if_icmp .eq off, 3)) (ht : (pc : Int) + off = (tgt : Int)) (kt : a = b → J E ce sl G tgt lv st Z) (kf : a ≠ b → J E ce sl G (pc + 3) lv st Z) : J E ce sl G pc lv (.int y :: .int x :: st) Z :=
  fun H locs ls hP hS h => lv_icmp_eq C.hx C.hb hd ht (fun c9 => kt ((zi_eq hx hy).mp c9) H locs ls hP hS h) (fun c9 => kf (fun z => c9 ((zi_eq hx hy).mpr z)) H locs ls hP hS h)
theorem j_if_eq (C : Cb E own cc) {x : Int32} {off : Int} {tgt : Nat} {a : Int} (hx : x.toInt = a) (hd : decode cc pc = .ok (.ifCond .eq off, 3)) (ht : (pc : Int) + off = (tgt : Int)) (kt : a = 0 → J E ce sl G tgt lv st Z) (kf : a ≠ 0 → J E ce sl G (pc + 3) lv st Z) : J E ce sl G pc lv (.int x :: st) Z :=
  fun H locs ls hP hS h => lv_if_eq C.hx C.hb hd ht (fun c9 => kt ((zi_eq hx (show (0 : Int32).toInt = 0 from rfl)).mp c9) H locs ls hP hS h) (fun c9 => kf (fun z => c9 ((zi_eq hx (show (0 : Int32).toInt = 0 from rfl)).mpr z)) H locs ls hP hS h)
theorem j_icmp_ne (C : Cb E own cc) {x y : Int32} {off : Int} {tgt : Nat} {a b : Int} (hx : x.toInt = a) (hy : y.toInt = b) (hd : decode cc pc = .ok (.if_icmp .ne off, 3)) (ht : (pc : Int) + off = (tgt : Int)) (kt : a ≠ b → J E ce sl G tgt lv st Z) (kf : a = b → J E ce sl G (pc + 3) lv st Z) : J E ce sl G pc lv (.int y :: .int x :: st) Z :=
  fun H locs ls hP hS h => lv_icmp_ne C.hx C.hb hd ht (fun c9 => kt (fun z => c9 ((zi_eq hx hy).mpr z)) H locs ls hP hS h) (fun c9 => kf ((zi_eq hx hy).mp c9) H locs ls hP hS h)
theorem j_if_ne (C : Cb E own cc) {x : Int32} {off : Int} {tgt : Nat} {a : Int} (hx : x.toInt = a) (hd : decode cc pc = .ok (.ifCond .ne off, 3)) (ht : (pc : Int) + off = (tgt : Int)) (kt : a ≠ 0 → J E ce sl G tgt lv st Z) (kf : a = 0 → J E ce sl G (pc + 3) lv st Z) : J E ce sl G pc lv (.int x :: st) Z :=
  fun H locs ls hP hS h => lv_if_ne C.hx C.hb hd ht (fun c9 => kt (fun z => c9 ((zi_eq hx (show (0 : Int32).toInt = 0 from rfl)).mpr z)) H locs ls hP hS h) (fun c9 => kf ((zi_eq hx (show (0 : Int32).toInt = 0 from rfl)).mp c9) H locs ls hP hS h)
theorem j_icmp_lt (C : Cb E own cc) {x y : Int32} {off : Int} {tgt : Nat} {a b : Int} (hx : x.toInt = a) (hy : y.toInt = b) (hd : decode cc pc = .ok (.if_icmp .lt off, 3)) (ht : (pc : Int) + off = (tgt : Int)) (kt : a < b → J E ce sl G tgt lv st Z) (kf : b ≤ a → J E ce sl G (pc + 3) lv st Z) : J E ce sl G pc lv (.int y :: .int x :: st) Z :=
  fun H locs ls hP hS h => lv_icmp_lt C.hx C.hb hd ht (fun c9 => kt ((zi_lt hx hy).mp c9) H locs ls hP hS h) (fun c9 => kf (Int.not_lt.mp (fun z => c9 ((zi_lt hx hy).mpr z))) H locs ls hP hS h)
theorem j_if_lt (C : Cb E own cc) {x : Int32} {off : Int} {tgt : Nat} {a : Int} (hx : x.toInt = a) (hd : decode cc pc = .ok (.ifCond .lt off, 3)) (ht : (pc : Int) + off = (tgt : Int)) (kt : a < 0 → J E ce sl G tgt lv st Z) (kf : 0 ≤ a → J E ce sl G (pc + 3) lv st Z) : J E ce sl G pc lv (.int x :: st) Z :=
  fun H locs ls hP hS h => lv_if_lt C.hx C.hb hd ht (fun c9 => kt ((zi_lt hx (show (0 : Int32).toInt = 0 from rfl)).mp c9) H locs ls hP hS h) (fun c9 => kf (Int.not_lt.mp (fun z => c9 ((zi_lt hx (show (0 : Int32).toInt = 0 from rfl)).mpr z))) H locs ls hP hS h)
theorem j_icmp_ge (C : Cb E own cc) {x y : Int32} {off : Int} {tgt : Nat} {a b : Int} (hx : x.toInt = a) (hy : y.toInt = b) (hd : decode cc pc = .ok (.if_icmp .ge off, 3)) (ht : (pc : Int) + off = (tgt : Int)) (kt : b ≤ a → J E ce sl G tgt lv st Z) (kf : a < b → J E ce sl G (pc + 3) lv st Z) : J E ce sl G pc lv (.int y :: .int x :: st) Z :=
  fun H locs ls hP hS h => lv_icmp_ge C.hx C.hb hd ht (fun c9 => kt ((zi_le hy hx).mp c9) H locs ls hP hS h) (fun c9 => kf (Int.not_le.mp (fun z => c9 ((zi_le hy hx).mpr z))) H locs ls hP hS h)
theorem j_if_ge (C : Cb E own cc) {x : Int32} {off : Int} {tgt : Nat} {a : Int} (hx : x.toInt = a) (hd : decode cc pc = .ok (.ifCond .ge off, 3)) (ht : (pc : Int) + off = (tgt : Int)) (kt : 0 ≤ a → J E ce sl G tgt lv st Z) (kf : a < 0 → J E ce sl G (pc + 3) lv st Z) : J E ce sl G pc lv (.int x :: st) Z :=
  fun H locs ls hP hS h => lv_if_ge C.hx C.hb hd ht (fun c9 => kt ((zi_le (show (0 : Int32).toInt = 0 from rfl) hx).mp c9) H locs ls hP hS h) (fun c9 => kf (Int.not_le.mp (fun z => c9 ((zi_le (show (0 : Int32).toInt = 0 from rfl) hx).mpr z))) H locs ls hP hS h)
theorem j_icmp_gt (C : Cb E own cc) {x y : Int32} {off : Int} {tgt : Nat} {a b : Int} (hx : x.toInt = a) (hy : y.toInt = b) (hd : decode cc pc = .ok (.if_icmp .gt off, 3)) (ht : (pc : Int) + off = (tgt : Int)) (kt : b < a → J E ce sl G tgt lv st Z) (kf : a ≤ b → J E ce sl G (pc + 3) lv st Z) : J E ce sl G pc lv (.int y :: .int x :: st) Z :=
  fun H locs ls hP hS h => lv_icmp_gt C.hx C.hb hd ht (fun c9 => kt ((zi_lt hy hx).mp c9) H locs ls hP hS h) (fun c9 => kf (Int.not_lt.mp (fun z => c9 ((zi_lt hy hx).mpr z))) H locs ls hP hS h)
theorem j_if_gt (C : Cb E own cc) {x : Int32} {off : Int} {tgt : Nat} {a : Int} (hx : x.toInt = a) (hd : decode cc pc = .ok (.ifCond .gt off, 3)) (ht : (pc : Int) + off = (tgt : Int)) (kt : 0 < a → J E ce sl G tgt lv st Z) (kf : a ≤ 0 → J E ce sl G (pc + 3) lv st Z) : J E ce sl G pc lv (.int x :: st) Z :=
  fun H locs ls hP hS h => lv_if_gt C.hx C.hb hd ht (fun c9 => kt ((zi_lt (show (0 : Int32).toInt = 0 from rfl) hx).mp c9) H locs ls hP hS h) (fun c9 => kf (Int.not_lt.mp (fun z => c9 ((zi_lt (show (0 : Int32).toInt = 0 from rfl) hx).mpr z))) H locs ls hP hS h)
theorem j_icmp_le (C : Cb E own cc) {x y : Int32} {off : Int} {tgt : Nat} {a b : Int} (hx : x.toInt = a) (hy : y.toInt = b) (hd : decode cc pc = .ok (.if_icmp .le off, 3)) (ht : (pc : Int) + off = (tgt : Int)) (kt : a ≤ b → J E ce sl G tgt lv st Z) (kf : b < a → J E ce sl G (pc + 3) lv st Z) : J E ce sl G pc lv (.int y :: .int x :: st) Z :=
  fun H locs ls hP hS h => lv_icmp_le C.hx C.hb hd ht (fun c9 => kt ((zi_le hx hy).mp c9) H locs ls hP hS h) (fun c9 => kf (Int.not_le.mp (fun z => c9 ((zi_le hx hy).mpr z))) H locs ls hP hS h)
theorem j_if_le (C : Cb E own cc) {x : Int32} {off : Int} {tgt : Nat} {a : Int} (hx : x.toInt = a) (hd : decode cc pc = .ok (.ifCond .le off, 3)) (ht : (pc : Int) + off = (tgt : Int)) (kt : a ≤ 0 → J E ce sl G tgt lv st Z) (kf : 0 < a → J E ce sl G (pc + 3) lv st Z) : J E ce sl G pc lv (.int x :: st) Z :=
  fun H locs ls hP hS h => lv_if_le C.hx C.hb hd ht (fun c9 => kt ((zi_le hx (show (0 : Int32).toInt = 0 from rfl)).mp c9) H locs ls hP hS h) (fun c9 => kf (Int.not_le.mp (fun z => c9 ((zi_le hx (show (0 : Int32).toInt = 0 from rfl)).mpr z))) H locs ls hP hS h)
theorem j_tableOut (C : Cb E own cc) {dflt lo hi : Int} {offs : Array Int} {len : Nat} {x : Int32} {tgt : Nat} (hd : decode cc pc = .ok (.tableswitch dflt lo hi offs, len)) (h9 : x.toInt < lo ∨ hi < x.toInt) (ht : (pc : Int) + dflt = (tgt : Int)) (kk : J E ce sl G tgt lv st Z) : J E ce sl G pc lv (.int x :: st) Z :=
  fun H locs ls hP hS h => lv_tableOut C.hx C.hb hd h9 ht (kk H locs ls hP hS h)
theorem j_tableIn (C : Cb E own cc) {dflt lo hi : Int} {offs : Array Int} {len : Nat} {x : Int32} {off : Int} {tgt : Nat} (hd : decode cc pc = .ok (.tableswitch dflt lo hi offs, len)) (h1 : ¬ x.toInt < lo) (h2 : ¬ hi < x.toInt) (ho : offs[(x.toInt - lo).toNat]? = some off) (ht : (pc : Int) + off = (tgt : Int)) (kk : J E ce sl G tgt lv st Z) : J E ce sl G pc lv (.int x :: st) Z :=
  fun H locs ls hP hS h => lv_tableIn C.hx C.hb hd h1 h2 ho ht (kk H locs ls hP hS h)
theorem j_lookup (C : Cb E own cc) {dflt : Int} {ps : Array (Int × Int)} {len : Nat} {x : Int32} {off : Int} {tgt : Nat} (hd : decode cc pc = .ok (.lookupswitch dflt ps, len)) (hp : (ps.toList.zip (ps.toList.drop 1)).all (fun (a, next) => a.1 < next.1) = true) (ho : Op.lookupswitch.offset ps.toList dflt x.toInt = off) (ht : (pc : Int) + off = (tgt : Int)) (kk : J E ce sl G tgt lv st Z) : J E ce sl G pc lv (.int x :: st) Z :=
  fun H locs ls hP hS h => lv_lookup C.hx C.hb hd hp ho ht (kk H locs ls hP hS h)
theorem j_top {x y : Int32} (e : x = y) (kk : J E ce sl G pc lv (.int y :: st) Z) : J E ce sl G pc lv (.int x :: st) Z := by rw [e]; exact kk
theorem j_st {st' : List Value} (e : st = st') (kk : J E ce sl G pc lv st' Z) : J E ce sl G pc lv st Z := by rw [e]; exact kk
theorem j_lv {lv' : List (Nat × Value)} (e : lv = lv') (kk : J E ce sl G pc lv' st Z) : J E ce sl G pc lv st Z := by rw [e]; exact kk
theorem j_Z {Z' : ZT} (e : Z = Z') (kk : J E ce sl G pc lv st Z') : J E ce sl G pc lv st Z := by rw [e]; exact kk
theorem j_sub {lv' : List (Nat × Value)} (ks : List Nat) (e : lv_pick lv ks = lv') (kk : J E ce sl G pc lv' st Z) : J E ce sl G pc lv st Z := fun H locs ls hP hS h => kk H locs ls hP hS (lv_sub h ks e)
theorem j_getI (C : Cb E own cc) {k c f N index : Nat} {C0 : String} {T : u_T} {ty : Nat → FieldType} (hk : zK k C0 T N ty) (hc : c < G.1) (hs : G.2.2.1 c = k) (hf : f < N) (hr : zr k f = false) (hlink : Cond.fieldLink own index C0 (T f).2.1 (T f).2.2.1 ∈ zw_good) (hT : (T f).1 = C0) (v : Int32) (hv : Z c f = v) (hd : decode cc pc = .ok (.getfield index, 3)) (kk : J E ce sl G (pc + 3) lv (.int v :: st) Z) : J E ce sl G pc lv (.ref (G.2.1 c) :: st) Z :=
  fun H locs ls hP hS h => va_get C.hx C.hb C.hts hk.2.1 C.ho C.hK hP c (by rw [zc_at hc, ze_obj hs hk.2.2.2.1]) hk.1 f hf (C.hts _ hlink) (fun _ h9 => hT ▸ h9) (by rw [zfl_at (by rw [hk.2.2.1]; exact hf) hr, hv]) hd (kk H locs ls hP hS h)
theorem j_getR (C : Cb E own cc) {k c f N index : Nat} {C0 : String} {T : u_T} {ty : Nat → FieldType} (hk : zK k C0 T N ty) (hc : c < G.1) (hs : G.2.2.1 c = k) (hf : f < N) {t : Nat} (hr : zr k f = true) (hlink : Cond.fieldLink own index C0 (T f).2.1 (T f).2.2.1 ∈ zw_good) (hT : (T f).1 = C0) (hv : G.2.2.2.2 c f = some t) (hd : decode cc pc = .ok (.getfield index, 3)) (kk : J E ce sl G (pc + 3) lv (.ref (G.2.1 t) :: st) Z) : J E ce sl G pc lv (.ref (G.2.1 c) :: st) Z :=
  fun H locs ls hP hS h => va_get C.hx C.hb C.hts hk.2.1 C.ho C.hK hP c (by rw [zc_at hc, ze_obj hs hk.2.2.2.1]) hk.1 f hf (C.hts _ hlink) (fun _ h9 => hT ▸ h9) (zfl_atR (by rw [hk.2.2.1]; exact hf) hr hv) hd (kk H locs ls hP hS h)
theorem j_getIN (C : Cb E own cc) {k c f N index : Nat} {C0 : String} {T : u_T} {ty : Nat → FieldType} (hk : zK k C0 T N ty) (hc : c < G.1) (hs : G.2.2.1 c = k) (hf : f < N) (hr : zr k f = false) {host : String} (hlink : Cond.fieldLinkNest own index C0 (T f).2.1 (T f).2.2.1 host ∈ zw_nest) (hT : (T f).1 = C0) (v : Int32) (hv : Z c f = v) (hd : decode cc pc = .ok (.getfield index, 3)) (kk : J E ce sl G (pc + 3) lv (.int v :: st) Z) : J E ce sl G pc lv (.ref (G.2.1 c) :: st) Z :=
  fun H locs ls hP hS h => va_getN C.hx C.hb C.hts hk.2.1 C.ho C.hK hP c (by rw [zc_at hc, ze_obj hs hk.2.2.2.1]) hk.1 f hf (va_Nw.use (zw_on hlink) (C.hnw _ hlink)) (fun _ h9 => hT ▸ h9) (by rw [zfl_at (by rw [hk.2.2.1]; exact hf) hr, hv]) hd (kk H locs ls hP hS h)
theorem j_getRN (C : Cb E own cc) {k c f N index : Nat} {C0 : String} {T : u_T} {ty : Nat → FieldType} (hk : zK k C0 T N ty) (hc : c < G.1) (hs : G.2.2.1 c = k) (hf : f < N) {t : Nat} (hr : zr k f = true) {host : String} (hlink : Cond.fieldLinkNest own index C0 (T f).2.1 (T f).2.2.1 host ∈ zw_nest) (hT : (T f).1 = C0) (hv : G.2.2.2.2 c f = some t) (hd : decode cc pc = .ok (.getfield index, 3)) (kk : J E ce sl G (pc + 3) lv (.ref (G.2.1 t) :: st) Z) : J E ce sl G pc lv (.ref (G.2.1 c) :: st) Z :=
  fun H locs ls hP hS h => va_getN C.hx C.hb C.hts hk.2.1 C.ho C.hK hP c (by rw [zc_at hc, ze_obj hs hk.2.2.2.1]) hk.1 f hf (va_Nw.use (zw_on hlink) (C.hnw _ hlink)) (fun _ h9 => hT ▸ h9) (zfl_atR (by rw [hk.2.2.1]; exact hf) hr hv) hd (kk H locs ls hP hS h)
theorem j_putI (C : Cb E own cc) (hD : GD (e0 E) G) {k c f N index : Nat} {C0 : String} {T : u_T} {ty : Nat → FieldType} (hk : zK k C0 T N ty) (hc : c < G.1) (hs : G.2.2.1 c = k) (hf : f < N) (hr : zr k f = false) (hlink : Cond.fieldLink own index C0 (T f).2.1 (T f).2.2.1 ∈ zw_good) (hT : (T f).1 = C0) (hfin : (T f).2.2.2 = false) {v : Int32} (hn : narrow (ty f) (.int v) = .int v) (hfit : fits (ty f) (.int v) = true) (hd : decode cc pc = .ok (.putfield index, 3)) (kk : J E ce sl G (pc + 3) lv st (zu Z c f v)) : J E ce sl G pc lv (.int v :: .ref (G.2.1 c) :: st) Z :=
  fun H locs ls hP hS h => va_put C.hx C.hb C.hts hk.2.1 ty hk.2.2.2.2.1 hk.2.2.2.2.2 C.ho C.hK hP (zc_D hD) hS c (by rw [zc_at hc, ze_obj hs hk.2.2.2.1]) hk.1 f hf (C.hts _ hlink) (fun _ h9 => hT ▸ h9) hfin (hk.2.2.2.2.1 f hf) hn hfit (by rw [zfl_len, hk.2.2.1]; exact hf) hd (fun H1 locs1 hP1 _ hS1 => kk H1 locs1 ls (by rw [zc_putI hc hs hk.2.2.2.1 (by rw [hk.2.2.1]; exact hf) hr] at hP1; exact hP1) hS1 h)
theorem j_putIN (C : Cb E own cc) (hD : GD (e0 E) G) {k c f N index : Nat} {C0 : String} {T : u_T} {ty : Nat → FieldType} (hk : zK k C0 T N ty) (hc : c < G.1) (hs : G.2.2.1 c = k) (hf : f < N) (hr : zr k f = false) {host : String} (hlink : Cond.fieldLinkNest own index C0 (T f).2.1 (T f).2.2.1 host ∈ zw_nest) (hT : (T f).1 = C0) (hfin : (T f).2.2.2 = false) {v : Int32} (hn : narrow (ty f) (.int v) = .int v) (hfit : fits (ty f) (.int v) = true) (hd : decode cc pc = .ok (.putfield index, 3)) (kk : J E ce sl G (pc + 3) lv st (zu Z c f v)) : J E ce sl G pc lv (.int v :: .ref (G.2.1 c) :: st) Z :=
  fun H locs ls hP hS h => va_putN C.hx C.hb C.hts hk.2.1 ty hk.2.2.2.2.1 hk.2.2.2.2.2 C.ho C.hK hP (zc_D hD) hS c (by rw [zc_at hc, ze_obj hs hk.2.2.2.1]) hk.1 f hf (va_Nw.use (zw_on hlink) (C.hnw _ hlink)) (fun _ h9 => hT ▸ h9) hfin (hk.2.2.2.2.1 f hf) hn hfit (by rw [zfl_len, hk.2.2.1]; exact hf) hd (fun H1 locs1 hP1 _ hS1 => kk H1 locs1 ls (by rw [zc_putI hc hs hk.2.2.2.1 (by rw [hk.2.2.1]; exact hf) hr] at hP1; exact hP1) hS1 h)
theorem j_iald (C : Cb E own cc) {c j n : Nat} {x : Int32} (hc : c < G.1) (hs : G.2.2.1 c = 6) (hn : G.2.2.2.1 c = n) (hx : x = nI j) (hj : j < n) (hb : n < 2 ^ 31) (v : Int32) (hv : Z c j = v) (hd : decode cc pc = .ok (.iaload, 1)) (kk : J E ce sl G (pc + 1) lv (.int v :: st) Z) : J E ce sl G pc lv (.int x :: .ref (G.2.1 c) :: st) Z :=
  by
  subst hx; subst hn; subst hv
  exact fun H locs ls hP hS h => va_iald C.hx C.hb C.hK hP c 0 (by rw [zc_at hc, ze_I hs]) rfl (vp_in_nI hj hb) hd (by rw [nI_clamp (Nat.lt_trans hj hb)]; exact kk H locs ls hP hS h)
theorem j_zald (C : Cb E own cc) {c j n : Nat} {x : Int32} (hc : c < G.1) (hs : G.2.2.1 c = 7) (hn : G.2.2.2.1 c = n) (hx : x = nI j) (hj : j < n) (hb : n < 2 ^ 31) (v : Int32) (hv : Z c j = v) (hd : decode cc pc = .ok (.baload, 1)) (kk : J E ce sl G (pc + 1) lv (.int v :: st) Z) : J E ce sl G pc lv (.int x :: .ref (G.2.1 c) :: st) Z :=
  by
  subst hx; subst hn; subst hv
  exact fun H locs ls hP hS h => va_zald C.hx C.hb C.hK hP c 1 (by rw [zc_at hc, ze_Z hs]) rfl (vp_in_nI hj hb) hd (by rw [nI_clamp (Nat.lt_trans hj hb)]; exact kk H locs ls hP hS h)
theorem j_lald (C : Cb E own cc) {c j n : Nat} {x : Int32} (hc : c < G.1) (hs : G.2.2.1 c = 10) (hn : G.2.2.2.1 c = n) (hx : x = nI j) (hj : j < n) (hb : n < 2 ^ 31) (hd : decode cc pc = .ok (.laload, 1)) (kk : J E ce sl G (pc + 1) lv (.long (Z c j).toInt64 :: st) Z) : J E ce sl G pc lv (.int x :: .ref (G.2.1 c) :: st) Z :=
  by
  subst hx; subst hn
  exact fun H locs ls hP hS h => va_lald C.hx C.hb C.hK hP c 4 (by rw [zc_at hc, ze_L hs]) rfl (vp_in_nI hj hb) hd (by rw [nI_clamp (Nat.lt_trans hj hb)]; exact kk H locs ls hP hS h)
theorem j_aldP (C : Cb E own cc) {c j n : Nat} {x : Int32} (hc : c < G.1) {t : Nat} (hs : G.2.2.1 c = 8) (hn : G.2.2.2.1 c = n) (hx : x = nI j) (hj : j < n) (hb : n < 2 ^ 31) (hv : G.2.2.2.2 c j = some t) (hd : decode cc pc = .ok (.aaload, 1)) (kk : J E ce sl G (pc + 1) lv (.ref (G.2.1 t) :: st) Z) : J E ce sl G pc lv (.int x :: .ref (G.2.1 c) :: st) Z :=
  by
  subst hx; subst hn
  exact fun H locs ls hP hS h => va_aldq C.hx C.hb C.hK hP c 2 (by rw [zc_at hc, ze_P hs]) rfl (vp_in_nI hj hb) hd (by rw [nI_clamp (Nat.lt_trans hj hb), hv]; exact kk H locs ls hP hS h)
theorem j_aldM (C : Cb E own cc) {c j n : Nat} {x : Int32} (hc : c < G.1) {t : Nat} (hs : G.2.2.1 c = 9) (hn : G.2.2.2.1 c = n) (hx : x = nI j) (hj : j < n) (hb : n < 2 ^ 31) (hv : G.2.2.2.2 c j = some t) (hd : decode cc pc = .ok (.aaload, 1)) (kk : J E ce sl G (pc + 1) lv (.ref (G.2.1 t) :: st) Z) : J E ce sl G pc lv (.int x :: .ref (G.2.1 c) :: st) Z :=
  by
  subst hx; subst hn
  exact fun H locs ls hP hS h => va_aldq C.hx C.hb C.hK hP c 3 (by rw [zc_at hc, ze_M hs]) rfl (vp_in_nI hj hb) hd (by rw [nI_clamp (Nat.lt_trans hj hb), hv]; exact kk H locs ls hP hS h)
theorem j_iast (C : Cb E own cc) (hD : GD (e0 E) G) {c j n : Nat} {x : Int32} (hc : c < G.1) {v : Int32} (hs : G.2.2.1 c = 6) (hn : G.2.2.2.1 c = n) (hx : x = nI j) (hj : j < n) (hb : n < 2 ^ 31) (hd : decode cc pc = .ok (.iastore, 1)) (kk : J E ce sl G (pc + 1) lv st (zu Z c j v)) : J E ce sl G pc lv (.int v :: .int x :: .ref (G.2.1 c) :: st) Z :=
  by
  subst hx; subst hn
  exact fun H locs ls hP hS h => va_iast C.hx C.hb C.hK hP (zc_D hD) hS c 0 (by rw [zc_at hc, ze_I hs]) rfl (vp_in_nI hj hb) hd (fun H1 locs1 hP1 _ hS1 => kk H1 locs1 ls (by rw [nI_clamp (Nat.lt_trans hj hb), zc_arrI hc hs] at hP1; exact hP1) hS1 h)
theorem zb_nar {v : Int32} (h : v = 0 ∨ v = 1) : vp_nar .boolean v = v := by rcases h with rfl | rfl <;> rfl
theorem zb_nr {v : Int32} (h : v = 0 ∨ v = 1) : narrow .boolean (.int v) = .int v := by rcases h with rfl | rfl <;> rfl
theorem zb_ft {v : Int32} (h : v = 0 ∨ v = 1) : fits .boolean (.int v) = true := by rcases h with rfl | rfl <;> rfl
theorem j_zast (C : Cb E own cc) (hD : GD (e0 E) G) {c j n : Nat} {x : Int32} (hc : c < G.1) {v : Int32} (hs : G.2.2.1 c = 7) (hn : G.2.2.2.1 c = n) (hx : x = nI j) (hj : j < n) (hb : n < 2 ^ 31) (hz : v = 0 ∨ v = 1) (hd : decode cc pc = .ok (.bastore, 1)) (kk : J E ce sl G (pc + 1) lv st (zu Z c j v)) : J E ce sl G pc lv (.int v :: .int x :: .ref (G.2.1 c) :: st) Z :=
  by
  subst hx; subst hn
  exact fun H locs ls hP hS h => va_zast C.hx C.hb C.hK hP (zc_D hD) hS c 1 (by rw [zc_at hc, ze_Z hs]) rfl (vp_in_nI hj hb) hd (fun H1 locs1 hP1 _ hS1 => kk H1 locs1 ls (by rw [nI_clamp (Nat.lt_trans hj hb), zb_nar hz, zc_arrZ hc hs] at hP1; exact hP1) hS1 h)
theorem j_last (C : Cb E own cc) (hD : GD (e0 E) G) {c j n : Nat} {x : Int32} (hc : c < G.1) {v : Int32} (hs : G.2.2.1 c = 10) (hn : G.2.2.2.1 c = n) (hx : x = nI j) (hj : j < n) (hb : n < 2 ^ 31) (hd : decode cc pc = .ok (.lastore, 1)) (kk : J E ce sl G (pc + 1) lv st (zu Z c j v)) : J E ce sl G pc lv (.long v.toInt64 :: .int x :: .ref (G.2.1 c) :: st) Z :=
  by
  subst hx; subst hn
  exact fun H locs ls hP hS h => va_last C.hx C.hb C.hK hP (zc_D hD) hS c 4 (by rw [zc_at hc, ze_L hs]) rfl (vp_in_nI hj hb) hd (fun H1 locs1 hP1 _ hS1 => kk H1 locs1 ls (by rw [nI_clamp (Nat.lt_trans hj hb), zc_arrL hc hs] at hP1; exact hP1) hS1 h)
theorem j_max (C : Cb E own cc) {lev index : Nat} {x y : Int32} (hR : eR E = rmL (lev + 1)) (v : Int32) (hl : Cond.methodLink own index Lib.Math.max.name ∈ zw_good) (hd : decode cc pc = .ok (.invokestatic index, 3)) (hst : (st.map fun v => v.category).sum ≤ 8) (hce : ce = 0) (hsl : sl = 0) (hv : (if x < y then y else x) = v) (kk : J E ce sl G (pc + 3) lv (.int v :: st) Z) : J E ce sl G pc lv (.int y :: .int x :: st) Z :=
  fun H locs ls hP hS h => va_mmax C.hx C.hb (C.hml.trans h.1.symm) C.ho (C.hts _ hl) (C.hts _ zw_max1) (C.hts _ zw_math) (C.hts _ zw_max2) (by rw [hR]; exact Nat.succ_le_succ (Nat.zero_le _)) (by rw [hR]; show _ ≤ 40 * (lev + 1); omega) (by rw [hce]; exact Nat.zero_le _) (by rw [hsl]; exact Nat.zero_le _) hd (by rw [hv]; exact kk H locs ls hP hS h)
theorem j_min (C : Cb E own cc) {lev index : Nat} {x y : Int32} (hR : eR E = rmL (lev + 1)) (v : Int32) (hl : Cond.methodLink own index Lib.Math.min.name ∈ zw_good) (hd : decode cc pc = .ok (.invokestatic index, 3)) (hst : (st.map fun v => v.category).sum ≤ 8) (hce : ce = 0) (hsl : sl = 0) (hv : (if y < x then y else x) = v) (kk : J E ce sl G (pc + 3) lv (.int v :: st) Z) : J E ce sl G pc lv (.int y :: .int x :: st) Z :=
  fun H locs ls hP hS h => va_mmin C.hx C.hb (C.hml.trans h.1.symm) C.ho (C.hts _ hl) (C.hts _ zw_min1) (C.hts _ zw_math) (C.hts _ zw_min2) (by rw [hR]; exact Nat.succ_le_succ (Nat.zero_le _)) (by rw [hR]; show _ ≤ 40 * (lev + 1); omega) (by rw [hce]; exact Nat.zero_le _) (by rw [hsl]; exact Nat.zero_le _) hd (by rw [hv]; exact kk H locs ls hP hS h)
end JR
end
section
/-! CONTRACTS over the one list of cells: CI (an int or a boolean comes back), CV (nothing comes back). -/
def Pw (D : va_G) (Y : YT) (G : GT) (Z : ZT) (U : State) : Prop := va_P D zcl (zc G Y Z) U.heap ∧ va_K D zcl (zty Y) U ∧ ∀ w ∈ zw_nest, va_Nw w U
def CI (l : Launch) (D : va_G) (Y : YT) (b0 : Nat) (G : GT) (y : MethodName) (bytes : ByteArray) (maxL : Nat) (ret : Option FieldType) (lev : Nat) (As : List Value) (Z : ZT) (post : Int32 → ZT → Prop) : Prop :=
  Met l y (Cond.code y bytes maxL ret :: zw_good) (rmL lev) (va_Pc As (Pw D Y G Z)) (va_Qi post (fun Z' t => va_P D zcl (zc G Y Z') t.heap) (fun q => b0 ≤ q)) 0 0 (fun q => b0 ≤ q)
def CV (l : Launch) (D : va_G) (Y : YT) (b0 : Nat) (G : GT) (y : MethodName) (bytes : ByteArray) (maxL : Nat) (lev : Nat) (As : List Value) (Z : ZT) (post : ZT → Prop) : Prop :=
  Met l y (Cond.code y bytes maxL none :: zw_good) (rmL lev) (va_Pc As (Pw D Y G Z)) (va_Qv post (fun Z' t => va_P D zcl (zc G Y Z') t.heap) (fun q => b0 ≤ q)) 0 0 (fun q => b0 ≤ q)
def CrI (E : ET) (G : GT) (ty : FieldType) (post : Int32 → ZT → Prop) : Prop := (eMe E).sig.returnType = some ty ∧ (eMe E).locks = false ∧ eQ E = MQ (eB E) (va_Qi post (fun Z' t => va_P (eD E) zcl (zc G (eY E) Z') t.heap) (fun q => e0 E ≤ q)) (eA E) (eS E) 0 0 (fun q => e0 E ≤ q)
def CrV (E : ET) (G : GT) (post : ZT → Prop) : Prop := (eMe E).sig.returnType = none ∧ (eMe E).locks = false ∧ eQ E = MQ (eB E) (va_Qv post (fun Z' t => va_P (eD E) zcl (zc G (eY E) Z') t.heap) (fun q => e0 E ≤ q)) (eA E) (eS E) 0 0 (fun q => e0 E ≤ q)
theorem Pw.blind {D : va_G} {Y : YT} {G : GT} {Z : ZT} {As : List Value} : FrameBlind (va_Pc As (Pw D Y G Z)) := fun a U g mk q => ⟨q.1, q.2.1, va_K.moved (u := U) (U := U.calling g mk a) (Vm.Alike.refl U.vm) q.2.2.1, fun w hw => va_Nw.same (u := U) (zw_on hw) rfl (q.2.2.2 w hw)⟩
section CS
variable {l : Launch} {D : va_G} {Y : YT} {b0 : Nat} {G : GT} {y : MethodName} {bytes : ByteArray} {maxL lev : Nat} {ret : Option FieldType} {As : List Value} {Z : ZT}
theorem ci_start {ty : FieldType} {post : Int32 → ZT → Prop} (hD : GD b0 G) (hret : ret = some ty) (hy : plainName y.cls = true) (hn : (lg_sl As).length ≤ maxL) {lv0 : List (Nat × Value)} (hl : lv_args 0 As = lv0)
    (body : ∀ E : ET, Cb E y.cls bytes → CrI E G ty post → eR E = rmL lev → GD (e0 E) G → eN E = maxL → J E 0 0 G 0 lv0 [] Z) : CI l D Y b0 G y bytes maxL ret lev As Z post := by
  subst hret
  refine Met.ofW (cc := bytes) (maxL := maxL) (ret := some ty) hy rfl ?_
  intro p e s m args below meth c s₁ B hml hv
  obtain ⟨rfl, hP, hK, hN⟩ := hv
  have hts := atoms_spec (ws := Cond.code y bytes maxL (some ty) :: zw_good) B.pre
  have hlh := lv_entry As (n := maxL) hn
  rw [lg_entry_eq]
  rw [hl] at hlh
  exact body ((p, l, e, rmL lev, s, m, As.toArray, below, meth, c), D, Y, b0, maxL, MQ below (va_Qi post (fun Z' t => va_P D zcl (zc G Y Z') t.heap) (fun q => b0 ≤ q)) As.toArray s 0 0 (fun q => b0 ≤ q))
    ⟨B.exec, B.bytes, hml, findClass_of_methodNamed B.named, fun w hw => hts w (List.mem_cons_of_mem _ hw), hN, hK⟩ ⟨B.returns, B.notSynchronized, rfl⟩ rfl hD rfl s.heap [] _ hP va_S.rf hlh
theorem cv_start {post : ZT → Prop} (hD : GD b0 G) (hy : plainName y.cls = true) (hn : (lg_sl As).length ≤ maxL) {lv0 : List (Nat × Value)} (hl : lv_args 0 As = lv0)
    (body : ∀ E : ET, Cb E y.cls bytes → CrV E G post → eR E = rmL lev → GD (e0 E) G → eN E = maxL → J E 0 0 G 0 lv0 [] Z) : CV l D Y b0 G y bytes maxL lev As Z post := by
  refine Met.ofW (cc := bytes) (maxL := maxL) (ret := none) hy rfl ?_
  intro p e s m args below meth c s₁ B hml hv
  obtain ⟨rfl, hP, hK, hN⟩ := hv
  have hts := atoms_spec (ws := Cond.code y bytes maxL none :: zw_good) B.pre
  have hlh := lv_entry As (n := maxL) hn
  rw [lg_entry_eq]
  rw [hl] at hlh
  exact body ((p, l, e, rmL lev, s, m, As.toArray, below, meth, c), D, Y, b0, maxL, MQ below (va_Qv post (fun Z' t => va_P D zcl (zc G Y Z') t.heap) (fun q => b0 ≤ q)) As.toArray s 0 0 (fun q => b0 ≤ q))
    ⟨B.exec, B.bytes, hml, findClass_of_methodNamed B.named, fun w hw => hts w (List.mem_cons_of_mem _ hw), hN, hK⟩ ⟨B.returns, B.notSynchronized, rfl⟩ rfl hD rfl s.heap [] _ hP va_S.rf hlh
theorem CI.weak {post post' : Int32 → ZT → Prop} (h : CI l D Y b0 G y bytes maxL ret lev As Z post) (hp : ∀ r Z', post r Z' → post' r Z') : CI l D Y b0 G y bytes maxL ret lev As Z post' := by
  intro p e ha hc hk s m args below hf hpre hP hT
  obtain ⟨k, o, h1, h2, h3, ⟨⟨r, u, e1, e2, e3⟩, e4⟩, e5⟩ := h p e ha hc hk s m args below hf hpre hP hT
  exact ⟨k, o, h1, h2, h3, ⟨⟨r, u, e1, hp r u e2, e3⟩, e4⟩, e5⟩
theorem CV.weak {post post' : ZT → Prop} (h : CV l D Y b0 G y bytes maxL lev As Z post) (hp : ∀ Z', post Z' → post' Z') : CV l D Y b0 G y bytes maxL lev As Z post' := by
  intro p e ha hc hk s m args below hf hpre hP hT
  obtain ⟨k, o, h1, h2, h3, ⟨⟨u, e1, e2, e3⟩, e4⟩, e5⟩ := h p e ha hc hk s m args below hf hpre hP hT
  exact ⟨k, o, h1, h2, h3, ⟨⟨u, e1, hp u e2, e3⟩, e4⟩, e5⟩
end CS
/-- what a call needs of its callee, wherever it is called from -/
def zmV (y : MethodName) (bytes : ByteArray) (maxL : Nat) (ret : Option FieldType) (n : Nat) : Prop :=
  Cond.code y bytes maxL ret ∈ zw_good ∧ (y.cls ≠ "java/lang/invoke/MethodHandle" ∧ y.cls ≠ "java/lang/invoke/VarHandle" ∧ (parseMethodDescriptor y.desc).map (fun d => d.parameters.length) = some n) ∧ maxL ≤ 21 ∧ Cond.instanceMethod y ∈ zw_good ∧ Cond.selects y.cls y y ∈ zw_good ∧ Cond.initialized y.cls ∈ zw_good
def zmS (y : MethodName) (bytes : ByteArray) (maxL : Nat) (ret : Option FieldType) (n : Nat) : Prop :=
  Cond.code y bytes maxL ret ∈ zw_good ∧ (y.cls ≠ "java/lang/invoke/MethodHandle" ∧ y.cls ≠ "java/lang/invoke/VarHandle" ∧ (parseMethodDescriptor y.desc).map (fun d => d.parameters.length) = some n) ∧ maxL ≤ 21 ∧ Cond.static y ∈ zw_good ∧ Cond.initialized y.cls ∈ zw_good
section JC
variable {E : ET} {own : String} {cc : ByteArray} {ce sl : Nat} {G : GT} {pc : Nat} {lv : List (Nat × Value)} {st : List Value} {Z : ZT}
theorem j_iret {post : Int32 → ZT → Prop} (C : Cb E own cc) (R : CrI E G .int post) {v : Int32} (hd : decode cc pc = .ok (.ireturn, 1)) (h9 : post v Z) : J E 0 0 G pc lv [.int v] Z := fun H locs ls hP hS h => by
  rw [R.2.2]
  exact W.iret C.hx C.hb R.1 (fun t ht hW => ⟨⟨v, Z, rfl, h9, by show va_P _ _ _ t.heap; rw [ht]; exact hP⟩, hS.F ht⟩) hS.2.2 hd R.2.1
theorem j_zret {post : Int32 → ZT → Prop} (C : Cb E own cc) (R : CrI E G .boolean post) {v : Int32} (hz : v = 0 ∨ v = 1) (hd : decode cc pc = .ok (.ireturn, 1)) (h9 : post v Z) : J E 0 0 G pc lv [.int v] Z := fun H locs ls hP hS h => by
  rw [R.2.2]
  exact W.zret C.hx C.hb R.1 (zb_nr hz) (fun t ht hW => ⟨⟨v, Z, rfl, h9, by show va_P _ _ _ t.heap; rw [ht]; exact hP⟩, hS.F ht⟩) hS.2.2 hd R.2.1
theorem j_ret {post : ZT → Prop} (C : Cb E own cc) (R : CrV E G post) (hd : decode cc pc = .ok (.return_, 1)) (h9 : post Z) : J E 0 0 G pc lv [] Z := fun H locs ls hP hS h => by
  rw [R.2.2]
  exact W.vret C.hx C.hb R.1 (fun t ht hW => ⟨⟨Z, rfl, h9, by show va_P _ _ _ t.heap; rw [ht]; exact hP⟩, hS.F ht⟩) hS.2.2 hd R.2.1
theorem zw_V {y : MethodName} {bytes : ByteArray} {maxL n index : Nat} {ret : Option FieldType} (hz : zmV y bytes maxL ret n) (hl : Cond.methodLink own index y ∈ zw_good) : GoodIn zw_good (wsV own index y.cls y (Cond.code y bytes maxL ret :: zw_good)) := zw_gi (fun w hw => by
  rcases List.mem_append.mp hw with h | h
  · rcases List.mem_cons.mp h with h | h
    · rw [h]; exact hl
    · rcases List.mem_cons.mp h with h | h
      · rw [h]; exact hz.2.2.2.1
      · rcases List.mem_cons.mp h with h | h
        · rw [h]; exact hz.2.2.2.2.1
        · rcases List.mem_cons.mp h with h | h
          · rw [h]; exact hz.2.2.2.2.2
          · cases h
  · rcases List.mem_cons.mp h with h | h
    · rw [h]; exact hz.1
    · exact h)
theorem zw_C {y : MethodName} {bytes : ByteArray} {maxL : Nat} {ret : Option FieldType} (hz : Cond.code y bytes maxL ret ∈ zw_good) : GoodIn zw_good (Cond.code y bytes maxL ret :: zw_good) := zw_gi (fun w hw => by
  rcases List.mem_cons.mp hw with h | h
  · rw [h]; exact hz
  · exact h)
theorem zw_S {y : MethodName} {bytes : ByteArray} {maxL n index : Nat} {ret : Option FieldType} (hz : zmS y bytes maxL ret n) (ho : y.cls = own) (hl : Cond.methodLink own index y ∈ zw_good) : GoodIn zw_good (wsS own index y (Cond.code y bytes maxL ret :: zw_good)) := zw_gi (fun w hw => by
  rcases List.mem_append.mp hw with h | h
  · rcases List.mem_cons.mp h with h | h
    · rw [h]; exact hl
    · rcases List.mem_cons.mp h with h | h
      · rw [h]; exact hz.2.2.2.1
      · rcases List.mem_cons.mp h with h | h
        · rw [h, ← ho]; exact hz.2.2.2.2
        · cases h
  · rcases List.mem_cons.mp h with h | h
    · rw [h]; exact hz.1
    · exact h)
theorem zpre {H : Heap} {locs : List Loc} (C : Cb E own cc) (hP : va_P (eD E) zcl (zc G (eY E) Z) H) {As : List Value} : ∀ U : State, U.heap = H → (eS E).WarmedH U.vm → va_Pc As (Pw (eD E) (eY E) G Z) As.toArray U := fun U hU hW => ⟨rfl, by rw [hU]; exact hP, va_K.moved hW.alike C.hK, fun w hw => zw_warm hw hW (C.hnw w hw)⟩
theorem zrm {lev lev' maxL : Nat} {R : Room} (hR : R = rmL lev) (hlev : lev' + 1 ≤ lev) (hm : maxL ≤ 21) : (rmL lev').frames + 1 ≤ R.frames ∧ 8 + (maxL + 11) + (rmL lev').locals ≤ R.locals := by
  rw [hR]
  exact ⟨hlev, by show 8 + (maxL + 11) + 40 * lev' ≤ 40 * lev; omega⟩
theorem zce {R : Room} {lev : Nat} (hR : R = rmL lev) : 0 + 0 ≤ R.cells ∧ 0 + 0 ≤ R.slots := ⟨Nat.zero_le _, Nat.zero_le _⟩
section
variable {lev lev' maxL n index c k N : Nat} {y : MethodName} {bytes : ByteArray} {ret : Option FieldType} {As rest : List Value} {T : u_T} {ty : Nat → FieldType} {host : String}
theorem j_callI {post : Int32 → ZT → Prop} (C : Cb E own cc) (hR : eR E = rmL lev) (hM : CI (eL E) (eD E) (eY E) (e0 E) G y bytes maxL ret lev' (.ref (G.2.1 c) :: As) Z post) (rest : List Value) (hz : zmV y bytes maxL ret n) (hlink : Cond.methodLink own index y ∈ zw_good) (hk : zK k y.cls T N ty) (hc : c < G.1) (hs : G.2.2.1 c = k) (hlev : lev' + 1 ≤ lev)
    (hn : As.length = n) (hst : st = As.reverse ++ .ref (G.2.1 c) :: rest) (hw : (rest.map fun v => v.category).sum ≤ 8) (hd : decode cc pc = .ok (.invokevirtual index, 3)) (kk : ∀ r Z', post r Z' → J E 0 0 G (pc + 3) lv (.int r :: rest) Z') : J E 0 0 G pc lv st Z := fun H locs ls hP hS h =>
  va_calli (va_runV (As := As) (rest := rest) (Ts := zw_good) ⟨C.hx, C.hb, C.hml, C.ho, C.hts⟩ hM (cwV n C.hts (zw_V hz hlink) rfl rfl rfl ⟨rfl, hz.2.1⟩ (zrm hR hlev hz.2.2.1)) ⟨Pw.blind, va_recv C.hK hP hk.1 (by rw [zc_at hc, ze_obj hs hk.2.2.2.1]), zpre (locs := locs) C hP⟩ rfl hn h.1 hst (lv_room hw) hd (zce hR)) hS (fun q _ h => h) (fun q h => h)
    (fun r u t H1 locs1 ht _ hw hB _ _ hS1 => kk r u hw H1 locs1 ls (by rw [← ht]; exact hB) hS1 h)
theorem j_callIN {post : Int32 → ZT → Prop} (C : Cb E own cc) (hR : eR E = rmL lev) (hM : CI (eL E) (eD E) (eY E) (e0 E) G y bytes maxL ret lev' (.ref (G.2.1 c) :: As) Z post) (rest : List Value) (hz : zmV y bytes maxL ret n) (hlink : Cond.methodLinkNest own index y host ∈ zw_nest) (hk : zK k y.cls T N ty) (hc : c < G.1) (hs : G.2.2.1 c = k) (hlev : lev' + 1 ≤ lev)
    (hn : As.length = n) (hst : st = As.reverse ++ .ref (G.2.1 c) :: rest) (hw : (rest.map fun v => v.category).sum ≤ 8) (hd : decode cc pc = .ok (.invokevirtual index, 3)) (kk : ∀ r Z', post r Z' → J E 0 0 G (pc + 3) lv (.int r :: rest) Z') : J E 0 0 G pc lv st Z := fun H locs ls hP hS h =>
  va_calli (va_runVN (As := As) (rest := rest) (Ts := zw_good) (C := y.cls) ⟨C.hx, C.hb, C.hml, C.ho, C.hts⟩ hM ⟨va_cnB n C.hts (zw_C hz.1) rfl rfl rfl (C.hnw _ hlink) (C.hts _ hz.2.2.2.2.2) hz.2.1 (zrm hR hlev hz.2.2.1), C.hts _ hz.2.2.2.1, C.hts _ hz.2.2.2.2.1⟩ ⟨Pw.blind, va_recv C.hK hP hk.1 (by rw [zc_at hc, ze_obj hs hk.2.2.2.1]), zpre (locs := locs) C hP⟩ rfl hn h.1 hst (lv_room hw) hd (zce hR)) hS (fun q _ h => h) (fun q h => h)
    (fun r u t H1 locs1 ht _ hw hB _ _ hS1 => kk r u hw H1 locs1 ls (by rw [← ht]; exact hB) hS1 h)
theorem j_callV {post : ZT → Prop} (C : Cb E own cc) (hR : eR E = rmL lev) (hM : CV (eL E) (eD E) (eY E) (e0 E) G y bytes maxL lev' (.ref (G.2.1 c) :: As) Z post) (rest : List Value) (hz : zmV y bytes maxL none n) (hlink : Cond.methodLink own index y ∈ zw_good) (hk : zK k y.cls T N ty) (hc : c < G.1) (hs : G.2.2.1 c = k) (hlev : lev' + 1 ≤ lev)
    (hn : As.length = n) (hst : st = As.reverse ++ .ref (G.2.1 c) :: rest) (hw : (rest.map fun v => v.category).sum ≤ 8) (hd : decode cc pc = .ok (.invokevirtual index, 3)) (kk : ∀ Z', post Z' → J E 0 0 G (pc + 3) lv rest Z') : J E 0 0 G pc lv st Z := fun H locs ls hP hS h =>
  va_callv (va_runV (As := As) (rest := rest) (Ts := zw_good) ⟨C.hx, C.hb, C.hml, C.ho, C.hts⟩ hM (cwV n C.hts (zw_V hz hlink) rfl rfl rfl ⟨rfl, hz.2.1⟩ (zrm hR hlev hz.2.2.1)) ⟨Pw.blind, va_recv C.hK hP hk.1 (by rw [zc_at hc, ze_obj hs hk.2.2.2.1]), zpre (locs := locs) C hP⟩ rfl hn h.1 hst (lv_room hw) hd (zce hR)) hS (fun q _ h => h) (fun q h => h)
    (fun u t H1 locs1 ht _ hw hB _ _ hS1 => kk u hw H1 locs1 ls (by rw [← ht]; exact hB) hS1 h)
theorem j_callVN {post : ZT → Prop} (C : Cb E own cc) (hR : eR E = rmL lev) (hM : CV (eL E) (eD E) (eY E) (e0 E) G y bytes maxL lev' (.ref (G.2.1 c) :: As) Z post) (rest : List Value) (hz : zmV y bytes maxL none n) (hlink : Cond.methodLinkNest own index y host ∈ zw_nest) (hk : zK k y.cls T N ty) (hc : c < G.1) (hs : G.2.2.1 c = k) (hlev : lev' + 1 ≤ lev)
    (hn : As.length = n) (hst : st = As.reverse ++ .ref (G.2.1 c) :: rest) (hw : (rest.map fun v => v.category).sum ≤ 8) (hd : decode cc pc = .ok (.invokevirtual index, 3)) (kk : ∀ Z', post Z' → J E 0 0 G (pc + 3) lv rest Z') : J E 0 0 G pc lv st Z := fun H locs ls hP hS h =>
  va_callv (va_runVN (As := As) (rest := rest) (Ts := zw_good) (C := y.cls) ⟨C.hx, C.hb, C.hml, C.ho, C.hts⟩ hM ⟨va_cnB n C.hts (zw_C hz.1) rfl rfl rfl (C.hnw _ hlink) (C.hts _ hz.2.2.2.2.2) hz.2.1 (zrm hR hlev hz.2.2.1), C.hts _ hz.2.2.2.1, C.hts _ hz.2.2.2.2.1⟩ ⟨Pw.blind, va_recv C.hK hP hk.1 (by rw [zc_at hc, ze_obj hs hk.2.2.2.1]), zpre (locs := locs) C hP⟩ rfl hn h.1 hst (lv_room hw) hd (zce hR)) hS (fun q _ h => h) (fun q h => h)
    (fun u t H1 locs1 ht _ hw hB _ _ hS1 => kk u hw H1 locs1 ls (by rw [← ht]; exact hB) hS1 h)
theorem j_callS {post : Int32 → ZT → Prop} (C : Cb E own cc) (hR : eR E = rmL lev) (hM : CI (eL E) (eD E) (eY E) (e0 E) G y bytes maxL ret lev' As Z post) (rest : List Value) (hz : zmS y bytes maxL ret n) (ho : y.cls = own) (hlink : Cond.methodLink own index y ∈ zw_good) (hlev : lev' + 1 ≤ lev)
    (hn : As.length = n) (hst : st = As.reverse ++ rest) (hw : (rest.map fun v => v.category).sum ≤ 8) (hd : decode cc pc = .ok (.invokestatic index, 3)) (kk : ∀ r Z', post r Z' → J E 0 0 G (pc + 3) lv (.int r :: rest) Z') : J E 0 0 G pc lv st Z := fun H locs ls hP hS h =>
  va_calli (va_runS (As := As) (rest := rest) (Ts := zw_good) ⟨C.hx, C.hb, C.hml, C.ho, C.hts⟩ hM (cwS n C.hts (zw_S hz ho hlink) rfl rfl rfl ⟨ho, hz.2.1⟩ (zrm hR hlev hz.2.2.1)) ⟨Pw.blind, zpre (locs := locs) C hP⟩ rfl hn h.1 hst (lv_room hw) hd (zce hR)) hS (fun q _ h => h) (fun q h => h)
    (fun r u t H1 locs1 ht _ hw hB _ _ hS1 => kk r u hw H1 locs1 ls (by rw [← ht]; exact hB) hS1 h)
end
end JC
end
section
def sh0 (c : Nat) : Nat :=
  if c < 11 then ([4, 8, 9, 1, 7, 6, 6, 0, 7, 7, 6] : List Nat).getD c 0
  else if c < 59 then ([3, 6, 6, 7] : List Nat).getD ((c - 11) % 4) 0
  else if c < 113 then ([2, 6, 6, 6, 6, 1, 7, 6, 6] : List Nat).getD ((c - 59) % 9) 0
  else ([5, 6, 6, 7, 6, 7, 6, 6, 6, 7, 6, 6, 7, 6, 6, 6, 7, 7, 6, 10] : List Nat).getD (c - 113) 0
def ln0 (c : Nat) : Nat :=
  if c < 11 then ([8, 12, 6, 5, 256, 100, 100, 6, 64, 64, 5] : List Nat).getD c 0
  else if c < 59 then ([11, 40, 40, 40] : List Nat).getD ((c - 11) % 4) 0
  else if c < 113 then ([6, 12, 12, 12, 12, 5, 256, 100, 100] : List Nat).getD ((c - 59) % 9) 0
  else ([26, 480, 480, 480, 12, 12, 12, 12, 48, 256, 200, 288, 1536, 1200, 6, 6, 64, 64, 5, 1] : List Nat).getD (c - 113) 0
def rf0 (c f : Nat) : Option Nat :=
  if c = 0 then ([1, 2, 3, 7, 10] : List Nat)[f]?
  else if c = 1 then (if f < 12 then some (11 + 4 * f) else none)
  else if c = 2 then (if f < 6 then some (59 + 9 * f) else none)
  else if c = 3 then (if f < 3 then some (4 + f) else none)
  else if c = 7 then (if f < 2 then some (8 + f) else none)
  else if c < 11 then none
  else if c < 59 then (if (c - 11) % 4 = 0 ∧ f < 3 then some (c + 1 + f) else none)
  else if c < 113 then (if (c - 59) % 9 = 0 ∧ f < 5 then some (c + 1 + f) else if (c - 59) % 9 = 5 ∧ f < 3 then some (c + 1 + f) else none)
  else if c = 113 then (if 3 ≤ f ∧ f < 13 then some (111 + f) else if 15 ≤ f ∧ f < 22 then some (109 + f) else if f = 25 then some 131 else none)
  else none
/-- the first K cells are as the two constructors make them -/
def Gok (K : Nat) (G : GT) : Prop := K ≤ G.1 ∧ ∀ c, c < K → G.2.2.1 c = sh0 c ∧ G.2.2.2.1 c = ln0 c ∧ ∀ f, f < 40 → G.2.2.2.2 c f = rf0 c f
theorem Gok.mono {K K' : Nat} {G : GT} (h : Gok K G) (hk : K' ≤ K) : Gok K' G := ⟨Nat.le_trans hk h.1, fun c hc => h.2 c (Nat.lt_of_lt_of_le hc hk)⟩
theorem Gok.b {K : Nat} {G : GT} (h : Gok K G) {c : Nat} (hc : c < K) : c < G.1 := Nat.lt_of_lt_of_le hc h.1
theorem Gok.s {K : Nat} {G : GT} (h : Gok K G) {c v : Nat} (hc : c < K) (hv : sh0 c = v) : G.2.2.1 c = v := (h.2 c hc).1.trans hv
theorem Gok.l {K : Nat} {G : GT} (h : Gok K G) {c v : Nat} (hc : c < K) (hv : ln0 c = v) : G.2.2.2.1 c = v := (h.2 c hc).2.1.trans hv
theorem Gok.r {K : Nat} {G : GT} (h : Gok K G) {c f : Nat} {t : Option Nat} (hc : c < K) (hf : f < 40) (hv : rf0 c f = t) : G.2.2.2.2 c f = t := ((h.2 c hc).2.2 f hf).trans hv
theorem zb_X {G : GT} (hG : Gok 113 G) : 0 < G.1 := hG.b (show 0 < 113 by decide)
theorem zs_X {G : GT} (hG : Gok 113 G) : G.2.2.1 (0) = 4 := hG.s (show 0 < 113 by decide) (by decide)
theorem zl_X {G : GT} (hG : Gok 113 G) : G.2.2.2.1 (0) = 8 := hG.l (show 0 < 113 by decide) (by decide)
theorem zf_X_0 {G : GT} (hG : Gok 113 G) : G.2.2.2.2 (0) 0 = some (1) := hG.r (show 0 < 113 by decide) (by decide) (by decide)
theorem zf_X_1 {G : GT} (hG : Gok 113 G) : G.2.2.2.2 (0) 1 = some (2) := hG.r (show 0 < 113 by decide) (by decide) (by decide)
theorem zf_X_2 {G : GT} (hG : Gok 113 G) : G.2.2.2.2 (0) 2 = some (3) := hG.r (show 0 < 113 by decide) (by decide) (by decide)
theorem zf_X_3 {G : GT} (hG : Gok 113 G) : G.2.2.2.2 (0) 3 = some (7) := hG.r (show 0 < 113 by decide) (by decide) (by decide)
theorem zf_X_4 {G : GT} (hG : Gok 113 G) : G.2.2.2.2 (0) 4 = some (10) := hG.r (show 0 < 113 by decide) (by decide) (by decide)
theorem zb_Pts {G : GT} (hG : Gok 113 G) : 1 < G.1 := hG.b (show 1 < 113 by decide)
theorem zs_Pts {G : GT} (hG : Gok 113 G) : G.2.2.1 (1) = 8 := hG.s (show 1 < 113 by decide) (by decide)
theorem zl_Pts {G : GT} (hG : Gok 113 G) : G.2.2.2.1 (1) = 12 := hG.l (show 1 < 113 by decide) (by decide)
theorem zb_Mks {G : GT} (hG : Gok 113 G) : 2 < G.1 := hG.b (show 2 < 113 by decide)
theorem zs_Mks {G : GT} (hG : Gok 113 G) : G.2.2.1 (2) = 9 := hG.s (show 2 < 113 by decide) (by decide)
theorem zl_Mks {G : GT} (hG : Gok 113 G) : G.2.2.2.1 (2) = 6 := hG.l (show 2 < 113 by decide) (by decide)
theorem zb_Fin {G : GT} (hG : Gok 113 G) : 3 < G.1 := hG.b (show 3 < 113 by decide)
theorem zs_Fin {G : GT} (hG : Gok 113 G) : G.2.2.1 (3) = 1 := hG.s (show 3 < 113 by decide) (by decide)
theorem zl_Fin {G : GT} (hG : Gok 113 G) : G.2.2.2.1 (3) = 5 := hG.l (show 3 < 113 by decide) (by decide)
theorem zf_Fin_0 {G : GT} (hG : Gok 113 G) : G.2.2.2.2 (3) 0 = some (4) := hG.r (show 3 < 113 by decide) (by decide) (by decide)
theorem zf_Fin_1 {G : GT} (hG : Gok 113 G) : G.2.2.2.2 (3) 1 = some (5) := hG.r (show 3 < 113 by decide) (by decide) (by decide)
theorem zf_Fin_2 {G : GT} (hG : Gok 113 G) : G.2.2.2.2 (3) 2 = some (6) := hG.r (show 3 < 113 by decide) (by decide) (by decide)
theorem zb_Giv {G : GT} (hG : Gok 113 G) : 4 < G.1 := hG.b (show 4 < 113 by decide)
theorem zs_Giv {G : GT} (hG : Gok 113 G) : G.2.2.1 (4) = 7 := hG.s (show 4 < 113 by decide) (by decide)
theorem zl_Giv {G : GT} (hG : Gok 113 G) : G.2.2.2.1 (4) = 256 := hG.l (show 4 < 113 by decide) (by decide)
theorem zb_Asp {G : GT} (hG : Gok 113 G) : 5 < G.1 := hG.b (show 5 < 113 by decide)
theorem zs_Asp {G : GT} (hG : Gok 113 G) : G.2.2.1 (5) = 6 := hG.s (show 5 < 113 by decide) (by decide)
theorem zl_Asp {G : GT} (hG : Gok 113 G) : G.2.2.2.1 (5) = 100 := hG.l (show 5 < 113 by decide) (by decide)
theorem zb_Asq {G : GT} (hG : Gok 113 G) : 6 < G.1 := hG.b (show 6 < 113 by decide)
theorem zs_Asq {G : GT} (hG : Gok 113 G) : G.2.2.1 (6) = 6 := hG.s (show 6 < 113 by decide) (by decide)
theorem zl_Asq {G : GT} (hG : Gok 113 G) : G.2.2.2.1 (6) = 100 := hG.l (show 6 < 113 by decide) (by decide)
theorem zb_Del {G : GT} (hG : Gok 113 G) : 7 < G.1 := hG.b (show 7 < 113 by decide)
theorem zs_Del {G : GT} (hG : Gok 113 G) : G.2.2.1 (7) = 0 := hG.s (show 7 < 113 by decide) (by decide)
theorem zl_Del {G : GT} (hG : Gok 113 G) : G.2.2.2.1 (7) = 6 := hG.l (show 7 < 113 by decide) (by decide)
theorem zf_Del_0 {G : GT} (hG : Gok 113 G) : G.2.2.2.2 (7) 0 = some (8) := hG.r (show 7 < 113 by decide) (by decide) (by decide)
theorem zf_Del_1 {G : GT} (hG : Gok 113 G) : G.2.2.2.2 (7) 1 = some (9) := hG.r (show 7 < 113 by decide) (by decide) (by decide)
theorem zb_Tol {G : GT} (hG : Gok 113 G) : 8 < G.1 := hG.b (show 8 < 113 by decide)
theorem zs_Tol {G : GT} (hG : Gok 113 G) : G.2.2.1 (8) = 7 := hG.s (show 8 < 113 by decide) (by decide)
theorem zl_Tol {G : GT} (hG : Gok 113 G) : G.2.2.2.1 (8) = 64 := hG.l (show 8 < 113 by decide) (by decide)
theorem zb_Tor {G : GT} (hG : Gok 113 G) : 9 < G.1 := hG.b (show 9 < 113 by decide)
theorem zs_Tor {G : GT} (hG : Gok 113 G) : G.2.2.1 (9) = 7 := hG.s (show 9 < 113 by decide) (by decide)
theorem zl_Tor {G : GT} (hG : Gok 113 G) : G.2.2.2.1 (9) = 64 := hG.l (show 9 < 113 by decide) (by decide)
theorem zb_Lat {G : GT} (hG : Gok 113 G) : 10 < G.1 := hG.b (show 10 < 113 by decide)
theorem zs_Lat {G : GT} (hG : Gok 113 G) : G.2.2.1 (10) = 6 := hG.s (show 10 < 113 by decide) (by decide)
theorem zl_Lat {G : GT} (hG : Gok 113 G) : G.2.2.2.1 (10) = 5 := hG.l (show 10 < 113 by decide) (by decide)
theorem zb_Part {G : GT} (hG : Gok 113 G) {i : Nat} (hi : i < 12) : 11 + 4 * i < G.1 := hG.b (show 11 + 4 * i < 113 by omega)
theorem zs_Part {G : GT} (hG : Gok 113 G) {i : Nat} (hi : i < 12) : G.2.2.1 (11 + 4 * i) = 3 := hG.s (show 11 + 4 * i < 113 by omega) ((by decide : ∀ i, i < 12 → sh0 (11 + 4 * i) = 3) i hi)
theorem zl_Part {G : GT} (hG : Gok 113 G) {i : Nat} (hi : i < 12) : G.2.2.2.1 (11 + 4 * i) = 11 := hG.l (show 11 + 4 * i < 113 by omega) ((by decide : ∀ i, i < 12 → ln0 (11 + 4 * i) = 11) i hi)
theorem zf_Part_0 {G : GT} (hG : Gok 113 G) {i : Nat} (hi : i < 12) : G.2.2.2.2 (11 + 4 * i) 0 = some (12 + 4 * i) := hG.r (show 11 + 4 * i < 113 by omega) (by decide) ((by decide : ∀ i, i < 12 → rf0 (11 + 4 * i) 0 = some (12 + 4 * i)) i hi)
theorem zf_Part_1 {G : GT} (hG : Gok 113 G) {i : Nat} (hi : i < 12) : G.2.2.2.2 (11 + 4 * i) 1 = some (13 + 4 * i) := hG.r (show 11 + 4 * i < 113 by omega) (by decide) ((by decide : ∀ i, i < 12 → rf0 (11 + 4 * i) 1 = some (13 + 4 * i)) i hi)
theorem zf_Part_2 {G : GT} (hG : Gok 113 G) {i : Nat} (hi : i < 12) : G.2.2.2.2 (11 + 4 * i) 2 = some (14 + 4 * i) := hG.r (show 11 + 4 * i < 113 by omega) (by decide) ((by decide : ∀ i, i < 12 → rf0 (11 + 4 * i) 2 = some (14 + 4 * i)) i hi)
theorem zb_Num {G : GT} (hG : Gok 113 G) {i : Nat} (hi : i < 12) : 12 + 4 * i < G.1 := hG.b (show 12 + 4 * i < 113 by omega)
theorem zs_Num {G : GT} (hG : Gok 113 G) {i : Nat} (hi : i < 12) : G.2.2.1 (12 + 4 * i) = 6 := hG.s (show 12 + 4 * i < 113 by omega) ((by decide : ∀ i, i < 12 → sh0 (12 + 4 * i) = 6) i hi)
theorem zl_Num {G : GT} (hG : Gok 113 G) {i : Nat} (hi : i < 12) : G.2.2.2.1 (12 + 4 * i) = 40 := hG.l (show 12 + 4 * i < 113 by omega) ((by decide : ∀ i, i < 12 → ln0 (12 + 4 * i) = 40) i hi)
theorem zb_Tim {G : GT} (hG : Gok 113 G) {i : Nat} (hi : i < 12) : 13 + 4 * i < G.1 := hG.b (show 13 + 4 * i < 113 by omega)
theorem zs_Tim {G : GT} (hG : Gok 113 G) {i : Nat} (hi : i < 12) : G.2.2.1 (13 + 4 * i) = 6 := hG.s (show 13 + 4 * i < 113 by omega) ((by decide : ∀ i, i < 12 → sh0 (13 + 4 * i) = 6) i hi)
theorem zl_Tim {G : GT} (hG : Gok 113 G) {i : Nat} (hi : i < 12) : G.2.2.2.1 (13 + 4 * i) = 40 := hG.l (show 13 + 4 * i < 113 by omega) ((by decide : ∀ i, i < 12 → ln0 (13 + 4 * i) = 40) i hi)
theorem zb_Snd {G : GT} (hG : Gok 113 G) {i : Nat} (hi : i < 12) : 14 + 4 * i < G.1 := hG.b (show 14 + 4 * i < 113 by omega)
theorem zs_Snd {G : GT} (hG : Gok 113 G) {i : Nat} (hi : i < 12) : G.2.2.1 (14 + 4 * i) = 7 := hG.s (show 14 + 4 * i < 113 by omega) ((by decide : ∀ i, i < 12 → sh0 (14 + 4 * i) = 7) i hi)
theorem zl_Snd {G : GT} (hG : Gok 113 G) {i : Nat} (hi : i < 12) : G.2.2.2.1 (14 + 4 * i) = 40 := hG.l (show 14 + 4 * i < 113 by omega) ((by decide : ∀ i, i < 12 → ln0 (14 + 4 * i) = 40) i hi)
theorem zb_Mark {G : GT} (hG : Gok 113 G) {i : Nat} (hi : i < 6) : 59 + 9 * i < G.1 := hG.b (show 59 + 9 * i < 113 by omega)
theorem zs_Mark {G : GT} (hG : Gok 113 G) {i : Nat} (hi : i < 6) : G.2.2.1 (59 + 9 * i) = 2 := hG.s (show 59 + 9 * i < 113 by omega) ((by decide : ∀ i, i < 6 → sh0 (59 + 9 * i) = 2) i hi)
theorem zl_Mark {G : GT} (hG : Gok 113 G) {i : Nat} (hi : i < 6) : G.2.2.2.1 (59 + 9 * i) = 6 := hG.l (show 59 + 9 * i < 113 by omega) ((by decide : ∀ i, i < 6 → ln0 (59 + 9 * i) = 6) i hi)
theorem zf_Mark_0 {G : GT} (hG : Gok 113 G) {i : Nat} (hi : i < 6) : G.2.2.2.2 (59 + 9 * i) 0 = some (60 + 9 * i) := hG.r (show 59 + 9 * i < 113 by omega) (by decide) ((by decide : ∀ i, i < 6 → rf0 (59 + 9 * i) 0 = some (60 + 9 * i)) i hi)
theorem zf_Mark_1 {G : GT} (hG : Gok 113 G) {i : Nat} (hi : i < 6) : G.2.2.2.2 (59 + 9 * i) 1 = some (61 + 9 * i) := hG.r (show 59 + 9 * i < 113 by omega) (by decide) ((by decide : ∀ i, i < 6 → rf0 (59 + 9 * i) 1 = some (61 + 9 * i)) i hi)
theorem zf_Mark_2 {G : GT} (hG : Gok 113 G) {i : Nat} (hi : i < 6) : G.2.2.2.2 (59 + 9 * i) 2 = some (62 + 9 * i) := hG.r (show 59 + 9 * i < 113 by omega) (by decide) ((by decide : ∀ i, i < 6 → rf0 (59 + 9 * i) 2 = some (62 + 9 * i)) i hi)
theorem zf_Mark_3 {G : GT} (hG : Gok 113 G) {i : Nat} (hi : i < 6) : G.2.2.2.2 (59 + 9 * i) 3 = some (63 + 9 * i) := hG.r (show 59 + 9 * i < 113 by omega) (by decide) ((by decide : ∀ i, i < 6 → rf0 (59 + 9 * i) 3 = some (63 + 9 * i)) i hi)
theorem zf_Mark_4 {G : GT} (hG : Gok 113 G) {i : Nat} (hi : i < 6) : G.2.2.2.2 (59 + 9 * i) 4 = some (64 + 9 * i) := hG.r (show 59 + 9 * i < 113 by omega) (by decide) ((by decide : ∀ i, i < 6 → rf0 (59 + 9 * i) 4 = some (64 + 9 * i)) i hi)
theorem zb_Mpo {G : GT} (hG : Gok 113 G) {i : Nat} (hi : i < 6) : 60 + 9 * i < G.1 := hG.b (show 60 + 9 * i < 113 by omega)
theorem zs_Mpo {G : GT} (hG : Gok 113 G) {i : Nat} (hi : i < 6) : G.2.2.1 (60 + 9 * i) = 6 := hG.s (show 60 + 9 * i < 113 by omega) ((by decide : ∀ i, i < 6 → sh0 (60 + 9 * i) = 6) i hi)
theorem zl_Mpo {G : GT} (hG : Gok 113 G) {i : Nat} (hi : i < 6) : G.2.2.2.1 (60 + 9 * i) = 12 := hG.l (show 60 + 9 * i < 113 by omega) ((by decide : ∀ i, i < 6 → ln0 (60 + 9 * i) = 12) i hi)
theorem zb_Mwa {G : GT} (hG : Gok 113 G) {i : Nat} (hi : i < 6) : 61 + 9 * i < G.1 := hG.b (show 61 + 9 * i < 113 by omega)
theorem zs_Mwa {G : GT} (hG : Gok 113 G) {i : Nat} (hi : i < 6) : G.2.2.1 (61 + 9 * i) = 6 := hG.s (show 61 + 9 * i < 113 by omega) ((by decide : ∀ i, i < 6 → sh0 (61 + 9 * i) = 6) i hi)
theorem zl_Mwa {G : GT} (hG : Gok 113 G) {i : Nat} (hi : i < 6) : G.2.2.2.1 (61 + 9 * i) = 12 := hG.l (show 61 + 9 * i < 113 by omega) ((by decide : ∀ i, i < 6 → ln0 (61 + 9 * i) = 12) i hi)
theorem zb_Mcr {G : GT} (hG : Gok 113 G) {i : Nat} (hi : i < 6) : 62 + 9 * i < G.1 := hG.b (show 62 + 9 * i < 113 by omega)
theorem zs_Mcr {G : GT} (hG : Gok 113 G) {i : Nat} (hi : i < 6) : G.2.2.1 (62 + 9 * i) = 6 := hG.s (show 62 + 9 * i < 113 by omega) ((by decide : ∀ i, i < 6 → sh0 (62 + 9 * i) = 6) i hi)
theorem zl_Mcr {G : GT} (hG : Gok 113 G) {i : Nat} (hi : i < 6) : G.2.2.2.1 (62 + 9 * i) = 12 := hG.l (show 62 + 9 * i < 113 by omega) ((by decide : ∀ i, i < 6 → ln0 (62 + 9 * i) = 12) i hi)
theorem zb_Mre {G : GT} (hG : Gok 113 G) {i : Nat} (hi : i < 6) : 63 + 9 * i < G.1 := hG.b (show 63 + 9 * i < 113 by omega)
theorem zs_Mre {G : GT} (hG : Gok 113 G) {i : Nat} (hi : i < 6) : G.2.2.1 (63 + 9 * i) = 6 := hG.s (show 63 + 9 * i < 113 by omega) ((by decide : ∀ i, i < 6 → sh0 (63 + 9 * i) = 6) i hi)
theorem zl_Mre {G : GT} (hG : Gok 113 G) {i : Nat} (hi : i < 6) : G.2.2.2.1 (63 + 9 * i) = 12 := hG.l (show 63 + 9 * i < 113 by omega) ((by decide : ∀ i, i < 6 → ln0 (63 + 9 * i) = 12) i hi)
theorem zb_Mfi {G : GT} (hG : Gok 113 G) {i : Nat} (hi : i < 6) : 64 + 9 * i < G.1 := hG.b (show 64 + 9 * i < 113 by omega)
theorem zs_Mfi {G : GT} (hG : Gok 113 G) {i : Nat} (hi : i < 6) : G.2.2.1 (64 + 9 * i) = 1 := hG.s (show 64 + 9 * i < 113 by omega) ((by decide : ∀ i, i < 6 → sh0 (64 + 9 * i) = 1) i hi)
theorem zl_Mfi {G : GT} (hG : Gok 113 G) {i : Nat} (hi : i < 6) : G.2.2.2.1 (64 + 9 * i) = 5 := hG.l (show 64 + 9 * i < 113 by omega) ((by decide : ∀ i, i < 6 → ln0 (64 + 9 * i) = 5) i hi)
theorem zf_Mfi_0 {G : GT} (hG : Gok 113 G) {i : Nat} (hi : i < 6) : G.2.2.2.2 (64 + 9 * i) 0 = some (65 + 9 * i) := hG.r (show 64 + 9 * i < 113 by omega) (by decide) ((by decide : ∀ i, i < 6 → rf0 (64 + 9 * i) 0 = some (65 + 9 * i)) i hi)
theorem zf_Mfi_1 {G : GT} (hG : Gok 113 G) {i : Nat} (hi : i < 6) : G.2.2.2.2 (64 + 9 * i) 1 = some (66 + 9 * i) := hG.r (show 64 + 9 * i < 113 by omega) (by decide) ((by decide : ∀ i, i < 6 → rf0 (64 + 9 * i) 1 = some (66 + 9 * i)) i hi)
theorem zf_Mfi_2 {G : GT} (hG : Gok 113 G) {i : Nat} (hi : i < 6) : G.2.2.2.2 (64 + 9 * i) 2 = some (67 + 9 * i) := hG.r (show 64 + 9 * i < 113 by omega) (by decide) ((by decide : ∀ i, i < 6 → rf0 (64 + 9 * i) 2 = some (67 + 9 * i)) i hi)
theorem zb_Mgi {G : GT} (hG : Gok 113 G) {i : Nat} (hi : i < 6) : 65 + 9 * i < G.1 := hG.b (show 65 + 9 * i < 113 by omega)
theorem zs_Mgi {G : GT} (hG : Gok 113 G) {i : Nat} (hi : i < 6) : G.2.2.1 (65 + 9 * i) = 7 := hG.s (show 65 + 9 * i < 113 by omega) ((by decide : ∀ i, i < 6 → sh0 (65 + 9 * i) = 7) i hi)
theorem zl_Mgi {G : GT} (hG : Gok 113 G) {i : Nat} (hi : i < 6) : G.2.2.2.1 (65 + 9 * i) = 256 := hG.l (show 65 + 9 * i < 113 by omega) ((by decide : ∀ i, i < 6 → ln0 (65 + 9 * i) = 256) i hi)
theorem zb_Mas {G : GT} (hG : Gok 113 G) {i : Nat} (hi : i < 6) : 66 + 9 * i < G.1 := hG.b (show 66 + 9 * i < 113 by omega)
theorem zs_Mas {G : GT} (hG : Gok 113 G) {i : Nat} (hi : i < 6) : G.2.2.1 (66 + 9 * i) = 6 := hG.s (show 66 + 9 * i < 113 by omega) ((by decide : ∀ i, i < 6 → sh0 (66 + 9 * i) = 6) i hi)
theorem zl_Mas {G : GT} (hG : Gok 113 G) {i : Nat} (hi : i < 6) : G.2.2.2.1 (66 + 9 * i) = 100 := hG.l (show 66 + 9 * i < 113 by omega) ((by decide : ∀ i, i < 6 → ln0 (66 + 9 * i) = 100) i hi)
theorem zb_Mat {G : GT} (hG : Gok 113 G) {i : Nat} (hi : i < 6) : 67 + 9 * i < G.1 := hG.b (show 67 + 9 * i < 113 by omega)
theorem zs_Mat {G : GT} (hG : Gok 113 G) {i : Nat} (hi : i < 6) : G.2.2.1 (67 + 9 * i) = 6 := hG.s (show 67 + 9 * i < 113 by omega) ((by decide : ∀ i, i < 6 → sh0 (67 + 9 * i) = 6) i hi)
theorem zl_Mat {G : GT} (hG : Gok 113 G) {i : Nat} (hi : i < 6) : G.2.2.2.1 (67 + 9 * i) = 100 := hG.l (show 67 + 9 * i < 113 by omega) ((by decide : ∀ i, i < 6 → ln0 (67 + 9 * i) = 100) i hi)
theorem zb_M {G : GT} (hG : Gok 132 G) : 113 < G.1 := hG.b (show 113 < 132 by decide)
theorem zs_M {G : GT} (hG : Gok 132 G) : G.2.2.1 (113) = 5 := hG.s (show 113 < 132 by decide) (by decide)
theorem zl_M {G : GT} (hG : Gok 132 G) : G.2.2.2.1 (113) = 26 := hG.l (show 113 < 132 by decide) (by decide)
theorem zf_M_3 {G : GT} (hG : Gok 132 G) : G.2.2.2.2 (113) 3 = some (114) := hG.r (show 113 < 132 by decide) (by decide) (by decide)
theorem zf_M_4 {G : GT} (hG : Gok 132 G) : G.2.2.2.2 (113) 4 = some (115) := hG.r (show 113 < 132 by decide) (by decide) (by decide)
theorem zf_M_5 {G : GT} (hG : Gok 132 G) : G.2.2.2.2 (113) 5 = some (116) := hG.r (show 113 < 132 by decide) (by decide) (by decide)
theorem zf_M_6 {G : GT} (hG : Gok 132 G) : G.2.2.2.2 (113) 6 = some (117) := hG.r (show 113 < 132 by decide) (by decide) (by decide)
theorem zf_M_7 {G : GT} (hG : Gok 132 G) : G.2.2.2.2 (113) 7 = some (118) := hG.r (show 113 < 132 by decide) (by decide) (by decide)
theorem zf_M_8 {G : GT} (hG : Gok 132 G) : G.2.2.2.2 (113) 8 = some (119) := hG.r (show 113 < 132 by decide) (by decide) (by decide)
theorem zf_M_9 {G : GT} (hG : Gok 132 G) : G.2.2.2.2 (113) 9 = some (120) := hG.r (show 113 < 132 by decide) (by decide) (by decide)
theorem zf_M_10 {G : GT} (hG : Gok 132 G) : G.2.2.2.2 (113) 10 = some (121) := hG.r (show 113 < 132 by decide) (by decide) (by decide)
theorem zf_M_11 {G : GT} (hG : Gok 132 G) : G.2.2.2.2 (113) 11 = some (122) := hG.r (show 113 < 132 by decide) (by decide) (by decide)
theorem zf_M_12 {G : GT} (hG : Gok 132 G) : G.2.2.2.2 (113) 12 = some (123) := hG.r (show 113 < 132 by decide) (by decide) (by decide)
theorem zf_M_15 {G : GT} (hG : Gok 132 G) : G.2.2.2.2 (113) 15 = some (124) := hG.r (show 113 < 132 by decide) (by decide) (by decide)
theorem zf_M_16 {G : GT} (hG : Gok 132 G) : G.2.2.2.2 (113) 16 = some (125) := hG.r (show 113 < 132 by decide) (by decide) (by decide)
theorem zf_M_17 {G : GT} (hG : Gok 132 G) : G.2.2.2.2 (113) 17 = some (126) := hG.r (show 113 < 132 by decide) (by decide) (by decide)
theorem zf_M_18 {G : GT} (hG : Gok 132 G) : G.2.2.2.2 (113) 18 = some (127) := hG.r (show 113 < 132 by decide) (by decide) (by decide)
theorem zf_M_19 {G : GT} (hG : Gok 132 G) : G.2.2.2.2 (113) 19 = some (128) := hG.r (show 113 < 132 by decide) (by decide) (by decide)
theorem zf_M_20 {G : GT} (hG : Gok 132 G) : G.2.2.2.2 (113) 20 = some (129) := hG.r (show 113 < 132 by decide) (by decide) (by decide)
theorem zf_M_21 {G : GT} (hG : Gok 132 G) : G.2.2.2.2 (113) 21 = some (130) := hG.r (show 113 < 132 by decide) (by decide) (by decide)
theorem zf_M_25 {G : GT} (hG : Gok 132 G) : G.2.2.2.2 (113) 25 = some (131) := hG.r (show 113 < 132 by decide) (by decide) (by decide)
theorem zb_rNum {G : GT} (hG : Gok 132 G) : 114 < G.1 := hG.b (show 114 < 132 by decide)
theorem zs_rNum {G : GT} (hG : Gok 132 G) : G.2.2.1 (114) = 6 := hG.s (show 114 < 132 by decide) (by decide)
theorem zl_rNum {G : GT} (hG : Gok 132 G) : G.2.2.2.1 (114) = 480 := hG.l (show 114 < 132 by decide) (by decide)
theorem zb_rTim {G : GT} (hG : Gok 132 G) : 115 < G.1 := hG.b (show 115 < 132 by decide)
theorem zs_rTim {G : GT} (hG : Gok 132 G) : G.2.2.1 (115) = 6 := hG.s (show 115 < 132 by decide) (by decide)
theorem zl_rTim {G : GT} (hG : Gok 132 G) : G.2.2.2.1 (115) = 480 := hG.l (show 115 < 132 by decide) (by decide)
theorem zb_rSnd {G : GT} (hG : Gok 132 G) : 116 < G.1 := hG.b (show 116 < 132 by decide)
theorem zs_rSnd {G : GT} (hG : Gok 132 G) : G.2.2.1 (116) = 7 := hG.s (show 116 < 132 by decide) (by decide)
theorem zl_rSnd {G : GT} (hG : Gok 132 G) : G.2.2.2.1 (116) = 480 := hG.l (show 116 < 132 by decide) (by decide)
theorem zb_rRow {G : GT} (hG : Gok 132 G) : 117 < G.1 := hG.b (show 117 < 132 by decide)
theorem zs_rRow {G : GT} (hG : Gok 132 G) : G.2.2.1 (117) = 6 := hG.s (show 117 < 132 by decide) (by decide)
theorem zl_rRow {G : GT} (hG : Gok 132 G) : G.2.2.2.1 (117) = 12 := hG.l (show 117 < 132 by decide) (by decide)
theorem zb_rEnd {G : GT} (hG : Gok 132 G) : 118 < G.1 := hG.b (show 118 < 132 by decide)
theorem zs_rEnd {G : GT} (hG : Gok 132 G) : G.2.2.1 (118) = 7 := hG.s (show 118 < 132 by decide) (by decide)
theorem zl_rEnd {G : GT} (hG : Gok 132 G) : G.2.2.2.1 (118) = 12 := hG.l (show 118 < 132 by decide) (by decide)
theorem zb_rSha {G : GT} (hG : Gok 132 G) : 119 < G.1 := hG.b (show 119 < 132 by decide)
theorem zs_rSha {G : GT} (hG : Gok 132 G) : G.2.2.1 (119) = 6 := hG.s (show 119 < 132 by decide) (by decide)
theorem zl_rSha {G : GT} (hG : Gok 132 G) : G.2.2.2.1 (119) = 12 := hG.l (show 119 < 132 by decide) (by decide)
theorem zb_rOri {G : GT} (hG : Gok 132 G) : 120 < G.1 := hG.b (show 120 < 132 by decide)
theorem zs_rOri {G : GT} (hG : Gok 132 G) : G.2.2.1 (120) = 6 := hG.s (show 120 < 132 by decide) (by decide)
theorem zl_rOri {G : GT} (hG : Gok 132 G) : G.2.2.2.1 (120) = 12 := hG.l (show 120 < 132 by decide) (by decide)
theorem zb_rAt {G : GT} (hG : Gok 132 G) : 121 < G.1 := hG.b (show 121 < 132 by decide)
theorem zs_rAt {G : GT} (hG : Gok 132 G) : G.2.2.1 (121) = 6 := hG.s (show 121 < 132 by decide) (by decide)
theorem zl_rAt {G : GT} (hG : Gok 132 G) : G.2.2.2.1 (121) = 48 := hG.l (show 121 < 132 by decide) (by decide)
theorem zb_rGiv {G : GT} (hG : Gok 132 G) : 122 < G.1 := hG.b (show 122 < 132 by decide)
theorem zs_rGiv {G : GT} (hG : Gok 132 G) : G.2.2.1 (122) = 7 := hG.s (show 122 < 132 by decide) (by decide)
theorem zl_rGiv {G : GT} (hG : Gok 132 G) : G.2.2.2.1 (122) = 256 := hG.l (show 122 < 132 by decide) (by decide)
theorem zb_rNot {G : GT} (hG : Gok 132 G) : 123 < G.1 := hG.b (show 123 < 132 by decide)
theorem zs_rNot {G : GT} (hG : Gok 132 G) : G.2.2.1 (123) = 6 := hG.s (show 123 < 132 by decide) (by decide)
theorem zl_rNot {G : GT} (hG : Gok 132 G) : G.2.2.2.1 (123) = 200 := hG.l (show 123 < 132 by decide) (by decide)
theorem zb_rMat {G : GT} (hG : Gok 132 G) : 124 < G.1 := hG.b (show 124 < 132 by decide)
theorem zs_rMat {G : GT} (hG : Gok 132 G) : G.2.2.1 (124) = 6 := hG.s (show 124 < 132 by decide) (by decide)
theorem zl_rMat {G : GT} (hG : Gok 132 G) : G.2.2.2.1 (124) = 288 := hG.l (show 124 < 132 by decide) (by decide)
theorem zb_rMgi {G : GT} (hG : Gok 132 G) : 125 < G.1 := hG.b (show 125 < 132 by decide)
theorem zs_rMgi {G : GT} (hG : Gok 132 G) : G.2.2.1 (125) = 7 := hG.s (show 125 < 132 by decide) (by decide)
theorem zl_rMgi {G : GT} (hG : Gok 132 G) : G.2.2.2.1 (125) = 1536 := hG.l (show 125 < 132 by decide) (by decide)
theorem zb_rMno {G : GT} (hG : Gok 132 G) : 126 < G.1 := hG.b (show 126 < 132 by decide)
theorem zs_rMno {G : GT} (hG : Gok 132 G) : G.2.2.1 (126) = 6 := hG.s (show 126 < 132 by decide) (by decide)
theorem zl_rMno {G : GT} (hG : Gok 132 G) : G.2.2.2.1 (126) = 1200 := hG.l (show 126 < 132 by decide) (by decide)
theorem zb_rMns {G : GT} (hG : Gok 132 G) : 127 < G.1 := hG.b (show 127 < 132 by decide)
theorem zs_rMns {G : GT} (hG : Gok 132 G) : G.2.2.1 (127) = 6 := hG.s (show 127 < 132 by decide) (by decide)
theorem zl_rMns {G : GT} (hG : Gok 132 G) : G.2.2.2.1 (127) = 6 := hG.l (show 127 < 132 by decide) (by decide)
theorem zb_rMpa {G : GT} (hG : Gok 132 G) : 128 < G.1 := hG.b (show 128 < 132 by decide)
theorem zs_rMpa {G : GT} (hG : Gok 132 G) : G.2.2.1 (128) = 6 := hG.s (show 128 < 132 by decide) (by decide)
theorem zl_rMpa {G : GT} (hG : Gok 132 G) : G.2.2.2.1 (128) = 6 := hG.l (show 128 < 132 by decide) (by decide)
theorem zb_rLos {G : GT} (hG : Gok 132 G) : 129 < G.1 := hG.b (show 129 < 132 by decide)
theorem zs_rLos {G : GT} (hG : Gok 132 G) : G.2.2.1 (129) = 7 := hG.s (show 129 < 132 by decide) (by decide)
theorem zl_rLos {G : GT} (hG : Gok 132 G) : G.2.2.2.1 (129) = 64 := hG.l (show 129 < 132 by decide) (by decide)
theorem zb_rTwi {G : GT} (hG : Gok 132 G) : 130 < G.1 := hG.b (show 130 < 132 by decide)
theorem zs_rTwi {G : GT} (hG : Gok 132 G) : G.2.2.1 (130) = 7 := hG.s (show 130 < 132 by decide) (by decide)
theorem zl_rTwi {G : GT} (hG : Gok 132 G) : G.2.2.2.1 (130) = 64 := hG.l (show 130 < 132 by decide) (by decide)
theorem zb_rLat {G : GT} (hG : Gok 132 G) : 131 < G.1 := hG.b (show 131 < 132 by decide)
theorem zs_rLat {G : GT} (hG : Gok 132 G) : G.2.2.1 (131) = 6 := hG.s (show 131 < 132 by decide) (by decide)
theorem zl_rLat {G : GT} (hG : Gok 132 G) : G.2.2.2.1 (131) = 5 := hG.l (show 131 < 132 by decide) (by decide)
theorem zb_Out {G : GT} (hG : Gok 133 G) : 132 < G.1 := hG.b (show 132 < 133 by decide)
theorem zs_Out {G : GT} (hG : Gok 133 G) : G.2.2.1 (132) = 10 := hG.s (show 132 < 133 by decide) (by decide)
theorem zl_Out {G : GT} (hG : Gok 133 G) : G.2.2.2.1 (132) = 1 := hG.l (show 132 < 133 by decide) (by decide)
theorem zf_Pts {G : GT} (hG : Gok 113 G) {i : Nat} (hi : i < 12) : G.2.2.2.2 1 i = some (11 + 4 * i) := hG.r (by decide) (by omega) ((by decide : ∀ i, i < 12 → rf0 1 i = some (11 + 4 * i)) i hi)
theorem zf_Mks {G : GT} (hG : Gok 113 G) {i : Nat} (hi : i < 6) : G.2.2.2.2 2 i = some (59 + 9 * i) := hG.r (by decide) (by omega) ((by decide : ∀ i, i < 6 → rf0 2 i = some (59 + 9 * i)) i hi)
end
section
set_option maxRecDepth 100000 in
theorem zk_X4_148 : Cond.constant RX4 148 (-2000000012) ∈ zw_good := zw_in (by decide +kernel) rfl
set_option maxRecDepth 100000 in
theorem zk_X4_210 : Cond.constant RX4 210 (100000) ∈ zw_good := zw_in (by decide +kernel) rfl
set_option maxRecDepth 100000 in
theorem zk_X5_97 : Cond.constant RX5 97 (100000) ∈ zw_good := zw_in (by decide +kernel) rfl
set_option maxRecDepth 100000 in
theorem zk_X5_136 : Cond.constant RX5 136 (-2000000012) ∈ zw_good := zw_in (by decide +kernel) rfl
set_option maxRecDepth 100000 in
theorem zk_X5_137 : Cond.constant RX5 137 (200000) ∈ zw_good := zw_in (by decide +kernel) rfl
set_option maxRecDepth 100000 in
theorem zk_X4_11 : Cond.fieldLink RX4 11 "SourcePositions" "parts" "[LSourcePositions$Part;" ∈ zw_good := zw_in (by decide +kernel) rfl
set_option maxRecDepth 100000 in
theorem zk_X4_17 : Cond.fieldLink RX4 17 "SourcePositions" "marks" "[LSourcePositions$Mark;" ∈ zw_good := zw_in (by decide +kernel) rfl
set_option maxRecDepth 100000 in
theorem zk_X4_24 : Cond.fieldLink RX4 24 "SourcePositions" "findings" "LSourcePositions$Findings;" ∈ zw_good := zw_in (by decide +kernel) rfl
set_option maxRecDepth 100000 in
theorem zk_X4_31 : Cond.fieldLink RX4 31 "SourcePositions" "deliveries" "LSourcePositions$Deliveries;" ∈ zw_good := zw_in (by decide +kernel) rfl
set_option maxRecDepth 100000 in
theorem zk_X4_35 : Cond.fieldLink RX4 35 "SourcePositions" "latestRead" "[I" ∈ zw_good := zw_in (by decide +kernel) rfl
set_option maxRecDepth 100000 in
theorem zk_X4_44 : Cond.fieldLink RX4 44 "SourcePositions" "partCount" "I" ∈ zw_good := zw_in (by decide +kernel) rfl
set_option maxRecDepth 100000 in
theorem zk_X4_62 : Cond.fieldLinkNest RX4 62 "SourcePositions$Part" "ended" "Z" "SourcePositions" ∈ zw_nest := zw_inN (by decide +kernel) rfl
set_option maxRecDepth 100000 in
theorem zk_X4_66 : Cond.fieldLinkNest RX4 66 "SourcePositions$Part" "rowCount" "I" "SourcePositions" ∈ zw_nest := zw_inN (by decide +kernel) rfl
set_option maxRecDepth 100000 in
theorem zk_X4_76 : Cond.fieldLinkNest RX4 76 "SourcePositions$Part" "position" "I" "SourcePositions" ∈ zw_nest := zw_inN (by decide +kernel) rfl
set_option maxRecDepth 100000 in
theorem zk_X4_79 : Cond.fieldLinkNest RX4 79 "SourcePositions$Part" "share" "I" "SourcePositions" ∈ zw_nest := zw_inN (by decide +kernel) rfl
set_option maxRecDepth 100000 in
theorem zk_X4_93 : Cond.fieldLinkNest RX4 93 "SourcePositions$Part" "reader" "I" "SourcePositions" ∈ zw_nest := zw_inN (by decide +kernel) rfl
set_option maxRecDepth 100000 in
theorem zk_X4_107 : Cond.fieldLink RX4 107 "SourcePositions" "markCount" "I" ∈ zw_good := zw_in (by decide +kernel) rfl
set_option maxRecDepth 100000 in
theorem zk_X4_114 : Cond.fieldLink RX4 114 "SourcePositions" "taskCount" "I" ∈ zw_good := zw_in (by decide +kernel) rfl
set_option maxRecDepth 100000 in
theorem zk_X4_121 : Cond.fieldLinkNest RX4 121 "SourcePositions$Mark" "findings" "LSourcePositions$Findings;" "SourcePositions" ∈ zw_nest := zw_inN (by decide +kernel) rfl
set_option maxRecDepth 100000 in
theorem zk_X4_139 : Cond.fieldLinkNest RX4 139 "SourcePositions$Part" "water" "I" "SourcePositions" ∈ zw_nest := zw_inN (by decide +kernel) rfl
set_option maxRecDepth 100000 in
theorem zk_X4_142 : Cond.fieldLinkNest RX4 142 "SourcePositions$Part" "credit" "I" "SourcePositions" ∈ zw_nest := zw_inN (by decide +kernel) rfl
set_option maxRecDepth 100000 in
theorem zk_X4_145 : Cond.fieldLinkNest RX4 145 "SourcePositions$Part" "origin" "I" "SourcePositions" ∈ zw_nest := zw_inN (by decide +kernel) rfl
set_option maxRecDepth 100000 in
theorem zk_X4_149 : Cond.fieldLinkNest RX4 149 "SourcePositions$Findings" "isGiven" "[Z" "SourcePositions" ∈ zw_nest := zw_inN (by decide +kernel) rfl
set_option maxRecDepth 100000 in
theorem zk_X4_165 : Cond.fieldLinkNest RX4 165 "SourcePositions$Part" "numbers" "[I" "SourcePositions" ∈ zw_nest := zw_inN (by decide +kernel) rfl
set_option maxRecDepth 100000 in
theorem zk_X4_168 : Cond.fieldLinkNest RX4 168 "SourcePositions$Findings" "asideCount" "I" "SourcePositions" ∈ zw_nest := zw_inN (by decide +kernel) rfl
set_option maxRecDepth 100000 in
theorem zk_X4_171 : Cond.fieldLinkNest RX4 171 "SourcePositions$Findings" "asideParts" "[I" "SourcePositions" ∈ zw_nest := zw_inN (by decide +kernel) rfl
set_option maxRecDepth 100000 in
theorem zk_X4_174 : Cond.fieldLinkNest RX4 174 "SourcePositions$Findings" "asidePlaces" "[I" "SourcePositions" ∈ zw_nest := zw_inN (by decide +kernel) rfl
set_option maxRecDepth 100000 in
theorem zk_X4_190 : Cond.fieldLinkNest RX4 190 "SourcePositions$Deliveries" "made" "I" "SourcePositions" ∈ zw_nest := zw_inN (by decide +kernel) rfl
set_option maxRecDepth 100000 in
theorem zk_X4_193 : Cond.fieldLinkNest RX4 193 "SourcePositions$Findings" "givenCount" "I" "SourcePositions" ∈ zw_nest := zw_inN (by decide +kernel) rfl
set_option maxRecDepth 100000 in
theorem zk_X4_200 : Cond.fieldLinkNest RX4 200 "SourcePositions$Deliveries" "lost" "I" "SourcePositions" ∈ zw_nest := zw_inN (by decide +kernel) rfl
set_option maxRecDepth 100000 in
theorem zk_X4_203 : Cond.fieldLinkNest RX4 203 "SourcePositions$Deliveries" "doubled" "I" "SourcePositions" ∈ zw_nest := zw_inN (by decide +kernel) rfl
set_option maxRecDepth 100000 in
theorem zk_X4_206 : Cond.fieldLinkNest RX4 206 "SourcePositions$Deliveries" "toldToCome" "I" "SourcePositions" ∈ zw_nest := zw_inN (by decide +kernel) rfl
set_option maxRecDepth 100000 in
theorem zk_X4_218 : Cond.fieldLinkNest RX4 218 "SourcePositions$Deliveries" "toLose" "[Z" "SourcePositions" ∈ zw_nest := zw_inN (by decide +kernel) rfl
set_option maxRecDepth 100000 in
theorem zk_X4_225 : Cond.fieldLinkNest RX4 225 "SourcePositions$Deliveries" "toRepeat" "[Z" "SourcePositions" ∈ zw_nest := zw_inN (by decide +kernel) rfl
set_option maxRecDepth 100000 in
theorem zk_X4_228 : Cond.fieldLinkNest RX4 228 "SourcePositions$Part" "sounds" "[Z" "SourcePositions" ∈ zw_nest := zw_inN (by decide +kernel) rfl
set_option maxRecDepth 100000 in
theorem zk_X4_241 : Cond.fieldLinkNest RX4 241 "SourcePositions$Part" "times" "[I" "SourcePositions" ∈ zw_nest := zw_inN (by decide +kernel) rfl
set_option maxRecDepth 100000 in
theorem zk_X0_9 : Cond.fieldLink RX0 9 "SourcePositions$Deliveries" "toLose" "[Z" ∈ zw_good := zw_in (by decide +kernel) rfl
set_option maxRecDepth 100000 in
theorem zk_X0_15 : Cond.fieldLink RX0 15 "SourcePositions$Deliveries" "toRepeat" "[Z" ∈ zw_good := zw_in (by decide +kernel) rfl
set_option maxRecDepth 100000 in
theorem zk_X0_18 : Cond.fieldLink RX0 18 "SourcePositions$Deliveries" "made" "I" ∈ zw_good := zw_in (by decide +kernel) rfl
set_option maxRecDepth 100000 in
theorem zk_X0_22 : Cond.fieldLink RX0 22 "SourcePositions$Deliveries" "lost" "I" ∈ zw_good := zw_in (by decide +kernel) rfl
set_option maxRecDepth 100000 in
theorem zk_X0_25 : Cond.fieldLink RX0 25 "SourcePositions$Deliveries" "doubled" "I" ∈ zw_good := zw_in (by decide +kernel) rfl
set_option maxRecDepth 100000 in
theorem zk_X0_28 : Cond.fieldLink RX0 28 "SourcePositions$Deliveries" "toldToCome" "I" ∈ zw_good := zw_in (by decide +kernel) rfl
set_option maxRecDepth 100000 in
theorem zk_X1_9 : Cond.fieldLink RX1 9 "SourcePositions$Findings" "isGiven" "[Z" ∈ zw_good := zw_in (by decide +kernel) rfl
set_option maxRecDepth 100000 in
theorem zk_X1_15 : Cond.fieldLink RX1 15 "SourcePositions$Findings" "asideParts" "[I" ∈ zw_good := zw_in (by decide +kernel) rfl
set_option maxRecDepth 100000 in
theorem zk_X1_19 : Cond.fieldLink RX1 19 "SourcePositions$Findings" "asidePlaces" "[I" ∈ zw_good := zw_in (by decide +kernel) rfl
set_option maxRecDepth 100000 in
theorem zk_X1_22 : Cond.fieldLink RX1 22 "SourcePositions$Findings" "givenCount" "I" ∈ zw_good := zw_in (by decide +kernel) rfl
set_option maxRecDepth 100000 in
theorem zk_X1_26 : Cond.fieldLink RX1 26 "SourcePositions$Findings" "asideCount" "I" ∈ zw_good := zw_in (by decide +kernel) rfl
set_option maxRecDepth 100000 in
theorem zk_X2_9 : Cond.fieldLink RX2 9 "SourcePositions$Mark" "positions" "[I" ∈ zw_good := zw_in (by decide +kernel) rfl
set_option maxRecDepth 100000 in
theorem zk_X2_15 : Cond.fieldLink RX2 15 "SourcePositions$Mark" "waters" "[I" ∈ zw_good := zw_in (by decide +kernel) rfl
set_option maxRecDepth 100000 in
theorem zk_X2_18 : Cond.fieldLink RX2 18 "SourcePositions$Mark" "credits" "[I" ∈ zw_good := zw_in (by decide +kernel) rfl
set_option maxRecDepth 100000 in
theorem zk_X2_21 : Cond.fieldLink RX2 21 "SourcePositions$Mark" "readers" "[I" ∈ zw_good := zw_in (by decide +kernel) rfl
set_option maxRecDepth 100000 in
theorem zk_X2_27 : Cond.fieldLink RX2 27 "SourcePositions$Mark" "findings" "LSourcePositions$Findings;" ∈ zw_good := zw_in (by decide +kernel) rfl
set_option maxRecDepth 100000 in
theorem zk_X2_37 : Cond.fieldLink RX2 37 "SourcePositions$Mark" "keptParts" "I" ∈ zw_good := zw_in (by decide +kernel) rfl
set_option maxRecDepth 100000 in
theorem zk_X2_41 : Cond.fieldLinkNest RX2 41 "SourcePositions$Part" "position" "I" "SourcePositions" ∈ zw_nest := zw_inN (by decide +kernel) rfl
set_option maxRecDepth 100000 in
theorem zk_X2_46 : Cond.fieldLinkNest RX2 46 "SourcePositions$Part" "water" "I" "SourcePositions" ∈ zw_nest := zw_inN (by decide +kernel) rfl
set_option maxRecDepth 100000 in
theorem zk_X2_49 : Cond.fieldLinkNest RX2 49 "SourcePositions$Part" "credit" "I" "SourcePositions" ∈ zw_nest := zw_inN (by decide +kernel) rfl
set_option maxRecDepth 100000 in
theorem zk_X2_52 : Cond.fieldLinkNest RX2 52 "SourcePositions$Part" "reader" "I" "SourcePositions" ∈ zw_nest := zw_inN (by decide +kernel) rfl
set_option maxRecDepth 100000 in
theorem zk_X3_9 : Cond.fieldLink RX3 9 "SourcePositions$Part" "numbers" "[I" ∈ zw_good := zw_in (by decide +kernel) rfl
set_option maxRecDepth 100000 in
theorem zk_X3_15 : Cond.fieldLink RX3 15 "SourcePositions$Part" "times" "[I" ∈ zw_good := zw_in (by decide +kernel) rfl
set_option maxRecDepth 100000 in
theorem zk_X3_18 : Cond.fieldLink RX3 18 "SourcePositions$Part" "sounds" "[Z" ∈ zw_good := zw_in (by decide +kernel) rfl
set_option maxRecDepth 100000 in
theorem zk_X3_22 : Cond.fieldLink RX3 22 "SourcePositions$Part" "rowCount" "I" ∈ zw_good := zw_in (by decide +kernel) rfl
set_option maxRecDepth 100000 in
theorem zk_X3_26 : Cond.fieldLink RX3 26 "SourcePositions$Part" "ended" "Z" ∈ zw_good := zw_in (by decide +kernel) rfl
set_option maxRecDepth 100000 in
theorem zk_X3_30 : Cond.fieldLink RX3 30 "SourcePositions$Part" "share" "I" ∈ zw_good := zw_in (by decide +kernel) rfl
set_option maxRecDepth 100000 in
theorem zk_X3_33 : Cond.fieldLink RX3 33 "SourcePositions$Part" "origin" "I" ∈ zw_good := zw_in (by decide +kernel) rfl
set_option maxRecDepth 100000 in
theorem zk_X3_36 : Cond.fieldLink RX3 36 "SourcePositions$Part" "reader" "I" ∈ zw_good := zw_in (by decide +kernel) rfl
set_option maxRecDepth 100000 in
theorem zk_X3_43 : Cond.fieldLink RX3 43 "SourcePositions$Part" "position" "I" ∈ zw_good := zw_in (by decide +kernel) rfl
set_option maxRecDepth 100000 in
theorem zk_X3_46 : Cond.fieldLink RX3 46 "SourcePositions$Part" "water" "I" ∈ zw_good := zw_in (by decide +kernel) rfl
set_option maxRecDepth 100000 in
theorem zk_X3_49 : Cond.fieldLink RX3 49 "SourcePositions$Part" "credit" "I" ∈ zw_good := zw_in (by decide +kernel) rfl
set_option maxRecDepth 100000 in
theorem zk_X5_7 : Cond.fieldLink RX5 7 "SourcePositionsModel" "tasks" "I" ∈ zw_good := zw_in (by decide +kernel) rfl
set_option maxRecDepth 100000 in
theorem zk_X5_13 : Cond.fieldLink RX5 13 "SourcePositionsModel" "numbers" "[I" ∈ zw_good := zw_in (by decide +kernel) rfl
set_option maxRecDepth 100000 in
theorem zk_X5_17 : Cond.fieldLink RX5 17 "SourcePositionsModel" "times" "[I" ∈ zw_good := zw_in (by decide +kernel) rfl
set_option maxRecDepth 100000 in
theorem zk_X5_20 : Cond.fieldLink RX5 20 "SourcePositionsModel" "sound" "[Z" ∈ zw_good := zw_in (by decide +kernel) rfl
set_option maxRecDepth 100000 in
theorem zk_X5_24 : Cond.fieldLink RX5 24 "SourcePositionsModel" "rows" "[I" ∈ zw_good := zw_in (by decide +kernel) rfl
set_option maxRecDepth 100000 in
theorem zk_X5_27 : Cond.fieldLink RX5 27 "SourcePositionsModel" "ended" "[Z" ∈ zw_good := zw_in (by decide +kernel) rfl
set_option maxRecDepth 100000 in
theorem zk_X5_30 : Cond.fieldLink RX5 30 "SourcePositionsModel" "shares" "[I" ∈ zw_good := zw_in (by decide +kernel) rfl
set_option maxRecDepth 100000 in
theorem zk_X5_33 : Cond.fieldLink RX5 33 "SourcePositionsModel" "origins" "[I" ∈ zw_good := zw_in (by decide +kernel) rfl
set_option maxRecDepth 100000 in
theorem zk_X5_36 : Cond.fieldLink RX5 36 "SourcePositionsModel" "at" "[I" ∈ zw_good := zw_in (by decide +kernel) rfl
set_option maxRecDepth 100000 in
theorem zk_X5_39 : Cond.fieldLink RX5 39 "SourcePositionsModel" "given" "[Z" ∈ zw_good := zw_in (by decide +kernel) rfl
set_option maxRecDepth 100000 in
theorem zk_X5_42 : Cond.fieldLink RX5 42 "SourcePositionsModel" "noted" "[I" ∈ zw_good := zw_in (by decide +kernel) rfl
set_option maxRecDepth 100000 in
theorem zk_X5_45 : Cond.fieldLink RX5 45 "SourcePositionsModel" "markAt" "[I" ∈ zw_good := zw_in (by decide +kernel) rfl
set_option maxRecDepth 100000 in
theorem zk_X5_48 : Cond.fieldLink RX5 48 "SourcePositionsModel" "markGiven" "[Z" ∈ zw_good := zw_in (by decide +kernel) rfl
set_option maxRecDepth 100000 in
theorem zk_X5_51 : Cond.fieldLink RX5 51 "SourcePositionsModel" "markNoted" "[I" ∈ zw_good := zw_in (by decide +kernel) rfl
set_option maxRecDepth 100000 in
theorem zk_X5_54 : Cond.fieldLink RX5 54 "SourcePositionsModel" "markNotes" "[I" ∈ zw_good := zw_in (by decide +kernel) rfl
set_option maxRecDepth 100000 in
theorem zk_X5_57 : Cond.fieldLink RX5 57 "SourcePositionsModel" "markParts" "[I" ∈ zw_good := zw_in (by decide +kernel) rfl
set_option maxRecDepth 100000 in
theorem zk_X5_60 : Cond.fieldLink RX5 60 "SourcePositionsModel" "isLost" "[Z" ∈ zw_good := zw_in (by decide +kernel) rfl
set_option maxRecDepth 100000 in
theorem zk_X5_63 : Cond.fieldLink RX5 63 "SourcePositionsModel" "isTwice" "[Z" ∈ zw_good := zw_in (by decide +kernel) rfl
set_option maxRecDepth 100000 in
theorem zk_X5_66 : Cond.fieldLink RX5 66 "SourcePositionsModel" "latest" "[I" ∈ zw_good := zw_in (by decide +kernel) rfl
set_option maxRecDepth 100000 in
theorem zk_X5_72 : Cond.fieldLink RX5 72 "SourcePositionsModel" "fault" "I" ∈ zw_good := zw_in (by decide +kernel) rfl
set_option maxRecDepth 100000 in
theorem zk_X5_75 : Cond.fieldLink RX5 75 "SourcePositionsModel" "parts" "I" ∈ zw_good := zw_in (by decide +kernel) rfl
set_option maxRecDepth 100000 in
theorem zk_X5_112 : Cond.fieldLink RX5 112 "SourcePositionsModel" "deliveries" "I" ∈ zw_good := zw_in (by decide +kernel) rfl
set_option maxRecDepth 100000 in
theorem zk_X5_115 : Cond.fieldLink RX5 115 "SourcePositionsModel" "lost" "I" ∈ zw_good := zw_in (by decide +kernel) rfl
set_option maxRecDepth 100000 in
theorem zk_X5_125 : Cond.fieldLink RX5 125 "SourcePositionsModel" "doubles" "I" ∈ zw_good := zw_in (by decide +kernel) rfl
set_option maxRecDepth 100000 in
theorem zk_X5_128 : Cond.fieldLink RX5 128 "SourcePositionsModel" "notes" "I" ∈ zw_good := zw_in (by decide +kernel) rfl
set_option maxRecDepth 100000 in
theorem zk_X5_130 : Cond.fieldLink RX5 130 "SourcePositionsModel" "marks" "I" ∈ zw_good := zw_in (by decide +kernel) rfl
set_option maxRecDepth 100000 in
theorem zk_X4_9 : Cond.classLink RX4 9 RX3 ∈ zw_good := zw_in (by decide +kernel) rfl
set_option maxRecDepth 100000 in
theorem zk_X4_15 : Cond.classLink RX4 15 RX2 ∈ zw_good := zw_in (by decide +kernel) rfl
set_option maxRecDepth 100000 in
theorem zk_X4_21 : Cond.classLink RX4 21 RX1 ∈ zw_good := zw_in (by decide +kernel) rfl
set_option maxRecDepth 100000 in
theorem zk_X4_28 : Cond.classLink RX4 28 RX0 ∈ zw_good := zw_in (by decide +kernel) rfl
set_option maxRecDepth 100000 in
theorem zk_X2_24 : Cond.classLink RX2 24 RX1 ∈ zw_good := zw_in (by decide +kernel) rfl
set_option maxRecDepth 100000 in
theorem zk_L_8 : Cond.classLink RL 8 RX4 ∈ zw_good := zw_in (by decide +kernel) rfl
set_option maxRecDepth 100000 in
theorem zk_L_22 : Cond.classLink RL 22 RX5 ∈ zw_good := zw_in (by decide +kernel) rfl
set_option maxRecDepth 100000 in
theorem zk_X4_1 : Cond.methodLink RX4 1 objectInit ∈ zw_good := zw_in (by decide +kernel) rfl
set_option maxRecDepth 100000 in
theorem zk_X4_23 : Cond.methodLinkNest RX4 23 yX1_init "SourcePositions" ∈ zw_nest := zw_inN (by decide +kernel) rfl
set_option maxRecDepth 100000 in
theorem zk_X4_30 : Cond.methodLinkNest RX4 30 yX0_init "SourcePositions" ∈ zw_nest := zw_inN (by decide +kernel) rfl
set_option maxRecDepth 100000 in
theorem zk_X4_39 : Cond.methodLinkNest RX4 39 yX3_init "SourcePositions" ∈ zw_nest := zw_inN (by decide +kernel) rfl
set_option maxRecDepth 100000 in
theorem zk_X4_40 : Cond.methodLinkNest RX4 40 yX2_init "SourcePositions" ∈ zw_nest := zw_inN (by decide +kernel) rfl
set_option maxRecDepth 100000 in
theorem zk_X4_41 : Cond.methodLink RX4 41 yX4_begin ∈ zw_good := zw_in (by decide +kernel) rfl
set_option maxRecDepth 100000 in
theorem zk_X4_48 : Cond.methodLink RX4 48 yX4_addPart ∈ zw_good := zw_in (by decide +kernel) rfl
set_option maxRecDepth 100000 in
theorem zk_X4_52 : Cond.methodLink RX4 52 yX4_isPart ∈ zw_good := zw_in (by decide +kernel) rfl
set_option maxRecDepth 100000 in
theorem zk_X4_56 : Cond.methodLink RX4 56 yX4_isNumber ∈ zw_good := zw_in (by decide +kernel) rfl
set_option maxRecDepth 100000 in
theorem zk_X4_59 : Cond.methodLink RX4 59 yX4_isTime ∈ zw_good := zw_in (by decide +kernel) rfl
set_option maxRecDepth 100000 in
theorem zk_X4_69 : Cond.methodLinkNest RX4 69 yX3_addRow "SourcePositions" ∈ zw_nest := zw_inN (by decide +kernel) rfl
set_option maxRecDepth 100000 in
theorem zk_X4_73 : Cond.methodLinkNest RX4 73 yX3_hasRow "SourcePositions" ∈ zw_nest := zw_inN (by decide +kernel) rfl
set_option maxRecDepth 100000 in
theorem zk_X4_82 : Cond.methodLinkNest RX4 82 yX3_moveRowsFrom "SourcePositions" ∈ zw_nest := zw_inN (by decide +kernel) rfl
set_option maxRecDepth 100000 in
theorem zk_X4_86 : Cond.methodLink RX4 86 yX4_isTask ∈ zw_good := zw_in (by decide +kernel) rfl
set_option maxRecDepth 100000 in
theorem zk_X4_89 : Cond.methodLinkNest RX4 89 yX3_isDone "SourcePositions" ∈ zw_nest := zw_inN (by decide +kernel) rfl
set_option maxRecDepth 100000 in
theorem zk_X4_96 : Cond.methodLink RX4 96 yX4_chooseByCredit ∈ zw_good := zw_in (by decide +kernel) rfl
set_option maxRecDepth 100000 in
theorem zk_X4_100 : Cond.methodLink RX4 100 yX4_deliverFrom ∈ zw_good := zw_in (by decide +kernel) rfl
set_option maxRecDepth 100000 in
theorem zk_X4_103 : Cond.methodLinkNest RX4 103 yX0_tell "SourcePositions" ∈ zw_nest := zw_inN (by decide +kernel) rfl
set_option maxRecDepth 100000 in
theorem zk_X4_110 : Cond.methodLinkNest RX4 110 yX2_keep "SourcePositions" ∈ zw_nest := zw_inN (by decide +kernel) rfl
set_option maxRecDepth 100000 in
theorem zk_X4_117 : Cond.methodLinkNest RX4 117 yX2_bringBack "SourcePositions" ∈ zw_nest := zw_inN (by decide +kernel) rfl
set_option maxRecDepth 100000 in
theorem zk_X4_122 : Cond.methodLinkNest RX4 122 yX1_copyFrom "SourcePositions" ∈ zw_nest := zw_inN (by decide +kernel) rfl
set_option maxRecDepth 100000 in
theorem zk_X4_126 : Cond.methodLinkNest RX4 126 yX1_forget "SourcePositions" ∈ zw_nest := zw_inN (by decide +kernel) rfl
set_option maxRecDepth 100000 in
theorem zk_X4_129 : Cond.methodLinkNest RX4 129 yX3_firstPlaceFrom "SourcePositions" ∈ zw_nest := zw_inN (by decide +kernel) rfl
set_option maxRecDepth 100000 in
theorem zk_X4_132 : Cond.methodLinkNest RX4 132 yX3_stand "SourcePositions" ∈ zw_nest := zw_inN (by decide +kernel) rfl
set_option maxRecDepth 100000 in
theorem zk_X4_136 : Cond.methodLinkNest RX4 136 yX3_isReady "SourcePositions" ∈ zw_nest := zw_inN (by decide +kernel) rfl
set_option maxRecDepth 100000 in
theorem zk_X4_179 : Cond.methodLinkNest RX4 179 yX3_isReadyFor "SourcePositions" ∈ zw_nest := zw_inN (by decide +kernel) rfl
set_option maxRecDepth 100000 in
theorem zk_X4_182 : Cond.methodLink RX4 182 Lib.Math.max.name ∈ zw_good := zw_in (by decide +kernel) rfl
set_option maxRecDepth 100000 in
theorem zk_X4_187 : Cond.methodLink RX4 187 Lib.Math.min.name ∈ zw_good := zw_in (by decide +kernel) rfl
set_option maxRecDepth 100000 in
theorem zk_X4_196 : Cond.methodLink RX4 196 yX4_countDone ∈ zw_good := zw_in (by decide +kernel) rfl
set_option maxRecDepth 100000 in
theorem zk_X4_209 : Cond.methodLinkNest RX4 209 yX0_forget "SourcePositions" ∈ zw_nest := zw_inN (by decide +kernel) rfl
set_option maxRecDepth 100000 in
theorem zk_X4_211 : Cond.methodLinkNest RX4 211 yX3_beginAnew "SourcePositions" ∈ zw_nest := zw_inN (by decide +kernel) rfl
set_option maxRecDepth 100000 in
theorem zk_X4_215 : Cond.methodLink RX4 215 yX4_noteLatest ∈ zw_good := zw_in (by decide +kernel) rfl
set_option maxRecDepth 100000 in
theorem zk_X4_221 : Cond.methodLinkNest RX4 221 yX0_take "SourcePositions" ∈ zw_nest := zw_inN (by decide +kernel) rfl
set_option maxRecDepth 100000 in
theorem zk_X4_231 : Cond.methodLinkNest RX4 231 yX1_setAside "SourcePositions" ∈ zw_nest := zw_inN (by decide +kernel) rfl
set_option maxRecDepth 100000 in
theorem zk_X4_234 : Cond.methodLinkNest RX4 234 yX3_pass "SourcePositions" ∈ zw_nest := zw_inN (by decide +kernel) rfl
set_option maxRecDepth 100000 in
theorem zk_X4_237 : Cond.methodLinkNest RX4 237 yX1_addGiven "SourcePositions" ∈ zw_nest := zw_inN (by decide +kernel) rfl
set_option maxRecDepth 100000 in
theorem zk_X0_3 : Cond.methodLink RX0 3 objectInit ∈ zw_good := zw_in (by decide +kernel) rfl
set_option maxRecDepth 100000 in
theorem zk_X1_3 : Cond.methodLink RX1 3 objectInit ∈ zw_good := zw_in (by decide +kernel) rfl
set_option maxRecDepth 100000 in
theorem zk_X1_29 : Cond.methodLink RX1 29 arraycopyName ∈ zw_good := zw_in (by decide +kernel) rfl
set_option maxRecDepth 100000 in
theorem zk_X2_3 : Cond.methodLink RX2 3 objectInit ∈ zw_good := zw_in (by decide +kernel) rfl
set_option maxRecDepth 100000 in
theorem zk_X2_26 : Cond.methodLinkNest RX2 26 yX1_init "SourcePositions" ∈ zw_nest := zw_inN (by decide +kernel) rfl
set_option maxRecDepth 100000 in
theorem zk_X2_31 : Cond.methodLink RX2 31 Lib.Math.min.name ∈ zw_good := zw_in (by decide +kernel) rfl
set_option maxRecDepth 100000 in
theorem zk_X2_55 : Cond.methodLinkNest RX2 55 yX1_copyFrom "SourcePositions" ∈ zw_nest := zw_inN (by decide +kernel) rfl
set_option maxRecDepth 100000 in
theorem zk_X2_59 : Cond.methodLinkNest RX2 59 yX3_stand "SourcePositions" ∈ zw_nest := zw_inN (by decide +kernel) rfl
set_option maxRecDepth 100000 in
theorem zk_X3_3 : Cond.methodLink RX3 3 objectInit ∈ zw_good := zw_in (by decide +kernel) rfl
set_option maxRecDepth 100000 in
theorem zk_X3_39 : Cond.methodLink RX3 39 yX3_stand ∈ zw_good := zw_in (by decide +kernel) rfl
set_option maxRecDepth 100000 in
theorem zk_X3_52 : Cond.methodLink RX3 52 yX3_hasRow ∈ zw_good := zw_in (by decide +kernel) rfl
set_option maxRecDepth 100000 in
theorem zk_X3_56 : Cond.methodLink RX3 56 yX3_isReady ∈ zw_good := zw_in (by decide +kernel) rfl
set_option maxRecDepth 100000 in
theorem zk_X3_60 : Cond.methodLink RX3 60 yX3_addRow ∈ zw_good := zw_in (by decide +kernel) rfl
set_option maxRecDepth 100000 in
theorem zk_X3_64 : Cond.methodLink RX3 64 Lib.Math.max.name ∈ zw_good := zw_in (by decide +kernel) rfl
set_option maxRecDepth 100000 in
theorem zk_L_7 : Cond.methodLink RL 7 yX4_number ∈ zw_good := zw_in (by decide +kernel) rfl
set_option maxRecDepth 100000 in
theorem zk_L_17 : Cond.methodLink RL 17 yX4_rate ∈ zw_good := zw_in (by decide +kernel) rfl
set_option maxRecDepth 100000 in
theorem zk_L_21 : Cond.methodLink RL 21 yX4_init ∈ zw_good := zw_in (by decide +kernel) rfl
set_option maxRecDepth 100000 in
theorem zk_L_24 : Cond.methodLink RL 24 yX5_init ∈ zw_good := zw_in (by decide +kernel) rfl
set_option maxRecDepth 100000 in
theorem zk_L_25 : Cond.methodLink RL 25 yX4_part ∈ zw_good := zw_in (by decide +kernel) rfl
set_option maxRecDepth 100000 in
theorem zk_L_28 : Cond.methodLink RL 28 yX5_part ∈ zw_good := zw_in (by decide +kernel) rfl
set_option maxRecDepth 100000 in
theorem zk_L_29 : Cond.methodLink RL 29 yX4_row ∈ zw_good := zw_in (by decide +kernel) rfl
set_option maxRecDepth 100000 in
theorem zk_L_33 : Cond.methodLink RL 33 yX5_row ∈ zw_good := zw_in (by decide +kernel) rfl
set_option maxRecDepth 100000 in
theorem zk_L_34 : Cond.methodLink RL 34 yX4_end ∈ zw_good := zw_in (by decide +kernel) rfl
set_option maxRecDepth 100000 in
theorem zk_L_37 : Cond.methodLink RL 37 yX5_end ∈ zw_good := zw_in (by decide +kernel) rfl
set_option maxRecDepth 100000 in
theorem zk_L_38 : Cond.methodLink RL 38 yX4_split ∈ zw_good := zw_in (by decide +kernel) rfl
set_option maxRecDepth 100000 in
theorem zk_L_41 : Cond.methodLink RL 41 yX5_split ∈ zw_good := zw_in (by decide +kernel) rfl
set_option maxRecDepth 100000 in
theorem zk_L_42 : Cond.methodLink RL 42 yX4_give ∈ zw_good := zw_in (by decide +kernel) rfl
set_option maxRecDepth 100000 in
theorem zk_L_45 : Cond.methodLink RL 45 yX5_give ∈ zw_good := zw_in (by decide +kernel) rfl
set_option maxRecDepth 100000 in
theorem zk_L_46 : Cond.methodLink RL 46 yX4_read ∈ zw_good := zw_in (by decide +kernel) rfl
set_option maxRecDepth 100000 in
theorem zk_L_49 : Cond.methodLink RL 49 yX5_read ∈ zw_good := zw_in (by decide +kernel) rfl
set_option maxRecDepth 100000 in
theorem zk_L_50 : Cond.methodLink RL 50 yX4_latest ∈ zw_good := zw_in (by decide +kernel) rfl
set_option maxRecDepth 100000 in
theorem zk_L_53 : Cond.methodLink RL 53 yX5_latest ∈ zw_good := zw_in (by decide +kernel) rfl
set_option maxRecDepth 100000 in
theorem zk_L_54 : Cond.methodLink RL 54 yX4_lose ∈ zw_good := zw_in (by decide +kernel) rfl
set_option maxRecDepth 100000 in
theorem zk_L_58 : Cond.methodLink RL 58 yX5_lose ∈ zw_good := zw_in (by decide +kernel) rfl
set_option maxRecDepth 100000 in
theorem zk_L_59 : Cond.methodLink RL 59 yX4_mark ∈ zw_good := zw_in (by decide +kernel) rfl
set_option maxRecDepth 100000 in
theorem zk_L_63 : Cond.methodLink RL 63 yX5_mark ∈ zw_good := zw_in (by decide +kernel) rfl
set_option maxRecDepth 100000 in
theorem zk_L_64 : Cond.methodLink RL 64 yX4_restore ∈ zw_good := zw_in (by decide +kernel) rfl
set_option maxRecDepth 100000 in
theorem zk_L_67 : Cond.methodLink RL 67 yX5_restore ∈ zw_good := zw_in (by decide +kernel) rfl
set_option maxRecDepth 100000 in
theorem zk_L_68 : Cond.methodLink RL 68 yX4_start ∈ zw_good := zw_in (by decide +kernel) rfl
set_option maxRecDepth 100000 in
theorem zk_L_71 : Cond.methodLink RL 71 yX5_start ∈ zw_good := zw_in (by decide +kernel) rfl
set_option maxRecDepth 100000 in
theorem zk_L_72 : Cond.methodLink RL 72 yX4_scale ∈ zw_good := zw_in (by decide +kernel) rfl
set_option maxRecDepth 100000 in
theorem zk_L_75 : Cond.methodLink RL 75 yX5_scale ∈ zw_good := zw_in (by decide +kernel) rfl
set_option maxRecDepth 100000 in
theorem zk_L_76 : Cond.methodLink RL 76 yX4_told ∈ zw_good := zw_in (by decide +kernel) rfl
set_option maxRecDepth 100000 in
theorem zk_L_79 : Cond.methodLink RL 79 yX5_told ∈ zw_good := zw_in (by decide +kernel) rfl
set_option maxRecDepth 100000 in
theorem zk_L_80 : Cond.methodLink RL 80 yX4_given ∈ zw_good := zw_in (by decide +kernel) rfl
set_option maxRecDepth 100000 in
theorem zk_L_83 : Cond.methodLink RL 83 yX5_given ∈ zw_good := zw_in (by decide +kernel) rfl
set_option maxRecDepth 100000 in
theorem zk_L_84 : Cond.methodLink RL 84 yL_number ∈ zw_good := zw_in (by decide +kernel) rfl
set_option maxRecDepth 100000 in
theorem zk_L_89 : Cond.methodLink RL 89 yX5_number ∈ zw_good := zw_in (by decide +kernel) rfl
set_option maxRecDepth 100000 in
theorem zk_L_90 : Cond.methodLink RL 90 yX5_thrown ∈ zw_good := zw_in (by decide +kernel) rfl
set_option maxRecDepth 100000 in
theorem zk_L_93 : Cond.methodLink RL 93 yX4_aside ∈ zw_good := zw_in (by decide +kernel) rfl
set_option maxRecDepth 100000 in
theorem zk_L_96 : Cond.methodLink RL 96 yX5_aside ∈ zw_good := zw_in (by decide +kernel) rfl
set_option maxRecDepth 100000 in
theorem zk_L_97 : Cond.methodLink RL 97 yL_rate ∈ zw_good := zw_in (by decide +kernel) rfl
set_option maxRecDepth 100000 in
theorem zk_L_100 : Cond.methodLink RL 100 yX5_rate ∈ zw_good := zw_in (by decide +kernel) rfl
set_option maxRecDepth 100000 in
theorem zk_L_101 : Cond.methodLink RL 101 yX4_water ∈ zw_good := zw_in (by decide +kernel) rfl
set_option maxRecDepth 100000 in
theorem zk_L_104 : Cond.methodLink RL 104 yX5_water ∈ zw_good := zw_in (by decide +kernel) rfl
set_option maxRecDepth 100000 in
theorem zk_L_105 : Cond.methodLink RL 105 yX4_count ∈ zw_good := zw_in (by decide +kernel) rfl
set_option maxRecDepth 100000 in
theorem zk_L_108 : Cond.methodLink RL 108 yX5_count ∈ zw_good := zw_in (by decide +kernel) rfl
set_option maxRecDepth 100000 in
theorem zk_L_109 : Cond.methodLink RL 109 yX4_clear ∈ zw_good := zw_in (by decide +kernel) rfl
set_option maxRecDepth 100000 in
theorem zk_L_112 : Cond.methodLink RL 112 yX5_clear ∈ zw_good := zw_in (by decide +kernel) rfl
set_option maxRecDepth 100000 in
theorem zk_X5_1 : Cond.methodLink RX5 1 objectInit ∈ zw_good := zw_in (by decide +kernel) rfl
set_option maxRecDepth 100000 in
theorem zk_X5_69 : Cond.methodLink RX5 69 yX5_forgets ∈ zw_good := zw_in (by decide +kernel) rfl
set_option maxRecDepth 100000 in
theorem zk_X5_78 : Cond.methodLink RX5 78 yX5_in ∈ zw_good := zw_in (by decide +kernel) rfl
set_option maxRecDepth 100000 in
theorem zk_X5_82 : Cond.methodLink RX5 82 yX5_isReady ∈ zw_good := zw_in (by decide +kernel) rfl
set_option maxRecDepth 100000 in
theorem zk_X5_86 : Cond.methodLink RX5 86 yX5_fresh ∈ zw_good := zw_in (by decide +kernel) rfl
set_option maxRecDepth 100000 in
theorem zk_X5_90 : Cond.methodLink RX5 90 yX5_adds ∈ zw_good := zw_in (by decide +kernel) rfl
set_option maxRecDepth 100000 in
theorem zk_X5_94 : Cond.methodLink RX5 94 yX5_isPart ∈ zw_good := zw_in (by decide +kernel) rfl
set_option maxRecDepth 100000 in
theorem zk_X5_98 : Cond.methodLink RX5 98 yX5_lays ∈ zw_good := zw_in (by decide +kernel) rfl
set_option maxRecDepth 100000 in
theorem zk_X5_102 : Cond.methodLink RX5 102 yX5_isDone ∈ zw_good := zw_in (by decide +kernel) rfl
set_option maxRecDepth 100000 in
theorem zk_X5_105 : Cond.methodLink RX5 105 yX5_reader ∈ zw_good := zw_in (by decide +kernel) rfl
set_option maxRecDepth 100000 in
theorem zk_X5_109 : Cond.methodLink RX5 109 yX5_nextOf ∈ zw_good := zw_in (by decide +kernel) rfl
set_option maxRecDepth 100000 in
theorem zk_X5_118 : Cond.methodLink RX5 118 yX5_notes ∈ zw_good := zw_in (by decide +kernel) rfl
set_option maxRecDepth 100000 in
theorem zk_X5_122 : Cond.methodLink RX5 122 yX5_passes ∈ zw_good := zw_in (by decide +kernel) rfl
set_option maxRecDepth 100000 in
theorem zk_X5_133 : Cond.methodLink RX5 133 yX5_givesNone ∈ zw_good := zw_in (by decide +kernel) rfl
set_option maxRecDepth 100000 in
theorem zmX4_init : Cond.code yX4_init cX4_init 2 none ∈ zw_good ∧ Cond.instanceMethod yX4_init ∈ zw_good ∧ Cond.initialized RX4 ∈ zw_good := ⟨(zw_in (List.mem_of_getElem? (i := 61) rfl) rfl), (zw_in (by decide +kernel) rfl), (zw_in (by decide +kernel) rfl)⟩
set_option maxRecDepth 100000 in
theorem zmX4_addPart : zmV yX4_addPart cX4_addPart 3 (some .int) 2 := ⟨(zw_in (List.mem_of_getElem? (i := 254) rfl) rfl), ⟨by decide +kernel, by decide +kernel, by decide +kernel⟩, by decide, (zw_in (by decide +kernel) rfl), (zw_in (by decide +kernel) rfl), (zw_in (by decide +kernel) rfl)⟩
set_option maxRecDepth 100000 in
theorem zmX4_aside : zmV yX4_aside cX4_aside 3 (some .int) 2 := ⟨(zw_in (List.mem_of_getElem? (i := 421) rfl) rfl), ⟨by decide +kernel, by decide +kernel, by decide +kernel⟩, by decide, (zw_in (by decide +kernel) rfl), (zw_in (by decide +kernel) rfl), (zw_in (by decide +kernel) rfl)⟩
set_option maxRecDepth 100000 in
theorem zmX4_begin : zmV yX4_begin cX4_begin 2 none 0 := ⟨(zw_in (List.mem_of_getElem? (i := 213) rfl) rfl), ⟨by decide +kernel, by decide +kernel, by decide +kernel⟩, by decide, (zw_in (by decide +kernel) rfl), (zw_in (by decide +kernel) rfl), (zw_in (by decide +kernel) rfl)⟩
set_option maxRecDepth 100000 in
theorem zmX4_chooseByCredit : zmV yX4_chooseByCredit cX4_chooseByCredit 6 (some .int) 1 := ⟨(zw_in (List.mem_of_getElem? (i := 323) rfl) rfl), ⟨by decide +kernel, by decide +kernel, by decide +kernel⟩, by decide, (zw_in (by decide +kernel) rfl), (zw_in (by decide +kernel) rfl), (zw_in (by decide +kernel) rfl)⟩
set_option maxRecDepth 100000 in
theorem zmX4_clear : zmV yX4_clear cX4_clear 2 (some .int) 0 := ⟨(zw_in (List.mem_of_getElem? (i := 439) rfl) rfl), ⟨by decide +kernel, by decide +kernel, by decide +kernel⟩, by decide, (zw_in (by decide +kernel) rfl), (zw_in (by decide +kernel) rfl), (zw_in (by decide +kernel) rfl)⟩
set_option maxRecDepth 100000 in
theorem zmX4_count : zmV yX4_count cX4_count 2 (some .int) 1 := ⟨(zw_in (List.mem_of_getElem? (i := 431) rfl) rfl), ⟨by decide +kernel, by decide +kernel, by decide +kernel⟩, by decide, (zw_in (by decide +kernel) rfl), (zw_in (by decide +kernel) rfl), (zw_in (by decide +kernel) rfl)⟩
set_option maxRecDepth 100000 in
theorem zmX4_countDone : zmV yX4_countDone cX4_countDone 3 (some .int) 0 := ⟨(zw_in (List.mem_of_getElem? (i := 435) rfl) rfl), ⟨by decide +kernel, by decide +kernel, by decide +kernel⟩, by decide, (zw_in (by decide +kernel) rfl), (zw_in (by decide +kernel) rfl), (zw_in (by decide +kernel) rfl)⟩
set_option maxRecDepth 100000 in
theorem zmX4_deliverFrom : zmV yX4_deliverFrom cX4_deliverFrom 7 (some .int) 1 := ⟨(zw_in (List.mem_of_getElem? (i := 331) rfl) rfl), ⟨by decide +kernel, by decide +kernel, by decide +kernel⟩, by decide, (zw_in (by decide +kernel) rfl), (zw_in (by decide +kernel) rfl), (zw_in (by decide +kernel) rfl)⟩
set_option maxRecDepth 100000 in
theorem zmX4_end : zmV yX4_end cX4_end 3 (some .int) 1 := ⟨(zw_in (List.mem_of_getElem? (i := 285) rfl) rfl), ⟨by decide +kernel, by decide +kernel, by decide +kernel⟩, by decide, (zw_in (by decide +kernel) rfl), (zw_in (by decide +kernel) rfl), (zw_in (by decide +kernel) rfl)⟩
set_option maxRecDepth 100000 in
theorem zmX4_give : zmV yX4_give cX4_give 5 (some .int) 2 := ⟨(zw_in (List.mem_of_getElem? (i := 302) rfl) rfl), ⟨by decide +kernel, by decide +kernel, by decide +kernel⟩, by decide, (zw_in (by decide +kernel) rfl), (zw_in (by decide +kernel) rfl), (zw_in (by decide +kernel) rfl)⟩
set_option maxRecDepth 100000 in
theorem zmX4_given : zmV yX4_given cX4_given 2 (some .int) 1 := ⟨(zw_in (List.mem_of_getElem? (i := 417) rfl) rfl), ⟨by decide +kernel, by decide +kernel, by decide +kernel⟩, by decide, (zw_in (by decide +kernel) rfl), (zw_in (by decide +kernel) rfl), (zw_in (by decide +kernel) rfl)⟩
set_option maxRecDepth 100000 in
theorem zmX4_isNumber : zmS yX4_isNumber cX4_isNumber 1 (some .boolean) 1 := ⟨(zw_in (List.mem_of_getElem? (i := 273) rfl) rfl), ⟨by decide +kernel, by decide +kernel, by decide +kernel⟩, by decide, (zw_in (by decide +kernel) rfl), (zw_in (by decide +kernel) rfl)⟩
set_option maxRecDepth 100000 in
theorem zmX4_isPart : zmV yX4_isPart cX4_isPart 2 (some .boolean) 1 := ⟨(zw_in (List.mem_of_getElem? (i := 270) rfl) rfl), ⟨by decide +kernel, by decide +kernel, by decide +kernel⟩, by decide, (zw_in (by decide +kernel) rfl), (zw_in (by decide +kernel) rfl), (zw_in (by decide +kernel) rfl)⟩
set_option maxRecDepth 100000 in
theorem zmX4_isTask : zmV yX4_isTask cX4_isTask 2 (some .boolean) 1 := ⟨(zw_in (List.mem_of_getElem? (i := 306) rfl) rfl), ⟨by decide +kernel, by decide +kernel, by decide +kernel⟩, by decide, (zw_in (by decide +kernel) rfl), (zw_in (by decide +kernel) rfl), (zw_in (by decide +kernel) rfl)⟩
set_option maxRecDepth 100000 in
theorem zmX4_isTime : zmS yX4_isTime cX4_isTime 1 (some .boolean) 1 := ⟨(zw_in (List.mem_of_getElem? (i := 276) rfl) rfl), ⟨by decide +kernel, by decide +kernel, by decide +kernel⟩, by decide, (zw_in (by decide +kernel) rfl), (zw_in (by decide +kernel) rfl)⟩
set_option maxRecDepth 100000 in
theorem zmX4_latest : zmV yX4_latest cX4_latest 2 (some .int) 1 := ⟨(zw_in (List.mem_of_getElem? (i := 359) rfl) rfl), ⟨by decide +kernel, by decide +kernel, by decide +kernel⟩, by decide, (zw_in (by decide +kernel) rfl), (zw_in (by decide +kernel) rfl), (zw_in (by decide +kernel) rfl)⟩
set_option maxRecDepth 100000 in
theorem zmX4_lose : zmV yX4_lose cX4_lose 3 (some .int) 2 := ⟨(zw_in (List.mem_of_getElem? (i := 363) rfl) rfl), ⟨by decide +kernel, by decide +kernel, by decide +kernel⟩, by decide, (zw_in (by decide +kernel) rfl), (zw_in (by decide +kernel) rfl), (zw_in (by decide +kernel) rfl)⟩
set_option maxRecDepth 100000 in
theorem zmX4_mark : zmV yX4_mark cX4_mark 1 (some .int) 0 := ⟨(zw_in (List.mem_of_getElem? (i := 371) rfl) rfl), ⟨by decide +kernel, by decide +kernel, by decide +kernel⟩, by decide, (zw_in (by decide +kernel) rfl), (zw_in (by decide +kernel) rfl), (zw_in (by decide +kernel) rfl)⟩
set_option maxRecDepth 100000 in
theorem zmX4_noteLatest : zmV yX4_noteLatest cX4_noteLatest 3 none 2 := ⟨(zw_in (List.mem_of_getElem? (i := 336) rfl) rfl), ⟨by decide +kernel, by decide +kernel, by decide +kernel⟩, by decide, (zw_in (by decide +kernel) rfl), (zw_in (by decide +kernel) rfl), (zw_in (by decide +kernel) rfl)⟩
set_option maxRecDepth 100000 in
theorem zmX4_number : zmV yX4_number cX4_number 3 (some .int) 2 := ⟨(zw_in (List.mem_of_getElem? (i := 557) rfl) rfl), ⟨by decide +kernel, by decide +kernel, by decide +kernel⟩, by decide, (zw_in (by decide +kernel) rfl), (zw_in (by decide +kernel) rfl), (zw_in (by decide +kernel) rfl)⟩
set_option maxRecDepth 100000 in
theorem zmX4_part : zmV yX4_part cX4_part 2 (some .int) 1 := ⟨(zw_in (List.mem_of_getElem? (i := 250) rfl) rfl), ⟨by decide +kernel, by decide +kernel, by decide +kernel⟩, by decide, (zw_in (by decide +kernel) rfl), (zw_in (by decide +kernel) rfl), (zw_in (by decide +kernel) rfl)⟩
set_option maxRecDepth 100000 in
theorem zmX4_rate : zmV yX4_rate cX4_rate 5 (some .int) 1 := ⟨(zw_in (List.mem_of_getElem? (i := 573) rfl) rfl), ⟨by decide +kernel, by decide +kernel, by decide +kernel⟩, by decide, (zw_in (by decide +kernel) rfl), (zw_in (by decide +kernel) rfl), (zw_in (by decide +kernel) rfl)⟩
set_option maxRecDepth 100000 in
theorem zmX4_read : zmV yX4_read cX4_read 3 (some .int) 1 := ⟨(zw_in (List.mem_of_getElem? (i := 319) rfl) rfl), ⟨by decide +kernel, by decide +kernel, by decide +kernel⟩, by decide, (zw_in (by decide +kernel) rfl), (zw_in (by decide +kernel) rfl), (zw_in (by decide +kernel) rfl)⟩
set_option maxRecDepth 100000 in
theorem zmX4_restore : zmV yX4_restore cX4_restore 6 (some .int) 1 := ⟨(zw_in (List.mem_of_getElem? (i := 389) rfl) rfl), ⟨by decide +kernel, by decide +kernel, by decide +kernel⟩, by decide, (zw_in (by decide +kernel) rfl), (zw_in (by decide +kernel) rfl), (zw_in (by decide +kernel) rfl)⟩
set_option maxRecDepth 100000 in
theorem zmX4_row : zmV yX4_row cX4_row 6 (some .int) 4 := ⟨(zw_in (List.mem_of_getElem? (i := 266) rfl) rfl), ⟨by decide +kernel, by decide +kernel, by decide +kernel⟩, by decide, (zw_in (by decide +kernel) rfl), (zw_in (by decide +kernel) rfl), (zw_in (by decide +kernel) rfl)⟩
set_option maxRecDepth 100000 in
theorem zmX4_scale : zmV yX4_scale cX4_scale 5 (some .int) 1 := ⟨(zw_in (List.mem_of_getElem? (i := 408) rfl) rfl), ⟨by decide +kernel, by decide +kernel, by decide +kernel⟩, by decide, (zw_in (by decide +kernel) rfl), (zw_in (by decide +kernel) rfl), (zw_in (by decide +kernel) rfl)⟩
set_option maxRecDepth 100000 in
theorem zmX4_split : zmV yX4_split cX4_split 5 (some .int) 2 := ⟨(zw_in (List.mem_of_getElem? (i := 289) rfl) rfl), ⟨by decide +kernel, by decide +kernel, by decide +kernel⟩, by decide, (zw_in (by decide +kernel) rfl), (zw_in (by decide +kernel) rfl), (zw_in (by decide +kernel) rfl)⟩
set_option maxRecDepth 100000 in
theorem zmX4_start : zmV yX4_start cX4_start 4 (some .int) 1 := ⟨(zw_in (List.mem_of_getElem? (i := 399) rfl) rfl), ⟨by decide +kernel, by decide +kernel, by decide +kernel⟩, by decide, (zw_in (by decide +kernel) rfl), (zw_in (by decide +kernel) rfl), (zw_in (by decide +kernel) rfl)⟩
set_option maxRecDepth 100000 in
theorem zmX4_told : zmV yX4_told cX4_told 4 (some .int) 2 := ⟨(zw_in (List.mem_of_getElem? (i := 412) rfl) rfl), ⟨by decide +kernel, by decide +kernel, by decide +kernel⟩, by decide, (zw_in (by decide +kernel) rfl), (zw_in (by decide +kernel) rfl), (zw_in (by decide +kernel) rfl)⟩
set_option maxRecDepth 100000 in
theorem zmX4_water : zmV yX4_water cX4_water 6 (some .int) 0 := ⟨(zw_in (List.mem_of_getElem? (i := 425) rfl) rfl), ⟨by decide +kernel, by decide +kernel, by decide +kernel⟩, by decide, (zw_in (by decide +kernel) rfl), (zw_in (by decide +kernel) rfl), (zw_in (by decide +kernel) rfl)⟩
set_option maxRecDepth 100000 in
theorem zmX0_init : Cond.code yX0_init cX0_init 1 none ∈ zw_good ∧ Cond.instanceMethod yX0_init ∈ zw_good ∧ Cond.initialized RX0 ∈ zw_good := ⟨(zw_in (List.mem_of_getElem? (i := 102) rfl) rfl), (zw_in (by decide +kernel) rfl), (zw_in (by decide +kernel) rfl)⟩
set_option maxRecDepth 100000 in
theorem zmX0_forget : zmV yX0_forget cX0_forget 2 none 0 := ⟨(zw_in (List.mem_of_getElem? (i := 221) rfl) rfl), ⟨by decide +kernel, by decide +kernel, by decide +kernel⟩, by decide, (zw_in (by decide +kernel) rfl), (zw_in (by decide +kernel) rfl), (zw_in (by decide +kernel) rfl)⟩
set_option maxRecDepth 100000 in
theorem zmX0_take : zmV yX0_take cX0_take 3 (some .boolean) 1 := ⟨(zw_in (List.mem_of_getElem? (i := 340) rfl) rfl), ⟨by decide +kernel, by decide +kernel, by decide +kernel⟩, by decide, (zw_in (by decide +kernel) rfl), (zw_in (by decide +kernel) rfl), (zw_in (by decide +kernel) rfl)⟩
set_option maxRecDepth 100000 in
theorem zmX0_tell : zmV yX0_tell cX0_tell 5 (some .boolean) 2 := ⟨(zw_in (List.mem_of_getElem? (i := 367) rfl) rfl), ⟨by decide +kernel, by decide +kernel, by decide +kernel⟩, by decide, (zw_in (by decide +kernel) rfl), (zw_in (by decide +kernel) rfl), (zw_in (by decide +kernel) rfl)⟩
set_option maxRecDepth 100000 in
theorem zmX1_init : Cond.code yX1_init cX1_init 1 none ∈ zw_good ∧ Cond.instanceMethod yX1_init ∈ zw_good ∧ Cond.initialized RX1 ∈ zw_good := ⟨(zw_in (List.mem_of_getElem? (i := 73) rfl) rfl), (zw_in (by decide +kernel) rfl), (zw_in (by decide +kernel) rfl)⟩
set_option maxRecDepth 100000 in
theorem zmX1_addGiven : zmV yX1_addGiven cX1_addGiven 2 none 1 := ⟨(zw_in (List.mem_of_getElem? (i := 355) rfl) rfl), ⟨by decide +kernel, by decide +kernel, by decide +kernel⟩, by decide, (zw_in (by decide +kernel) rfl), (zw_in (by decide +kernel) rfl), (zw_in (by decide +kernel) rfl)⟩
set_option maxRecDepth 100000 in
theorem zmX1_copyFrom : zmV yX1_copyFrom cX1_copyFrom 2 none 1 := ⟨(zw_in (List.mem_of_getElem? (i := 382) rfl) rfl), ⟨by decide +kernel, by decide +kernel, by decide +kernel⟩, by decide, (zw_in (by decide +kernel) rfl), (zw_in (by decide +kernel) rfl), (zw_in (by decide +kernel) rfl)⟩
set_option maxRecDepth 100000 in
theorem zmX1_forget : zmV yX1_forget cX1_forget 2 none 0 := ⟨(zw_in (List.mem_of_getElem? (i := 217) rfl) rfl), ⟨by decide +kernel, by decide +kernel, by decide +kernel⟩, by decide, (zw_in (by decide +kernel) rfl), (zw_in (by decide +kernel) rfl), (zw_in (by decide +kernel) rfl)⟩
set_option maxRecDepth 100000 in
theorem zmX1_setAside : zmV yX1_setAside cX1_setAside 3 none 2 := ⟨(zw_in (List.mem_of_getElem? (i := 344) rfl) rfl), ⟨by decide +kernel, by decide +kernel, by decide +kernel⟩, by decide, (zw_in (by decide +kernel) rfl), (zw_in (by decide +kernel) rfl), (zw_in (by decide +kernel) rfl)⟩
set_option maxRecDepth 100000 in
theorem zmX2_init : Cond.code yX2_init cX2_init 1 none ∈ zw_good ∧ Cond.instanceMethod yX2_init ∈ zw_good ∧ Cond.initialized RX2 ∈ zw_good := ⟨(zw_in (List.mem_of_getElem? (i := 186) rfl) rfl), (zw_in (by decide +kernel) rfl), (zw_in (by decide +kernel) rfl)⟩
set_option maxRecDepth 100000 in
theorem zmX2_bringBack : zmV yX2_bringBack cX2_bringBack 4 none 3 := ⟨(zw_in (List.mem_of_getElem? (i := 393) rfl) rfl), ⟨by decide +kernel, by decide +kernel, by decide +kernel⟩, by decide, (zw_in (by decide +kernel) rfl), (zw_in (by decide +kernel) rfl), (zw_in (by decide +kernel) rfl)⟩
set_option maxRecDepth 100000 in
theorem zmX2_keep : zmV yX2_keep cX2_keep 5 none 3 := ⟨(zw_in (List.mem_of_getElem? (i := 375) rfl) rfl), ⟨by decide +kernel, by decide +kernel, by decide +kernel⟩, by decide, (zw_in (by decide +kernel) rfl), (zw_in (by decide +kernel) rfl), (zw_in (by decide +kernel) rfl)⟩
set_option maxRecDepth 100000 in
theorem zmX3_init : Cond.code yX3_init cX3_init 1 none ∈ zw_good ∧ Cond.instanceMethod yX3_init ∈ zw_good ∧ Cond.initialized RX3 ∈ zw_good := ⟨(zw_in (List.mem_of_getElem? (i := 132) rfl) rfl), (zw_in (by decide +kernel) rfl), (zw_in (by decide +kernel) rfl)⟩
set_option maxRecDepth 100000 in
theorem zmX3_addRow : zmV yX3_addRow cX3_addRow 4 none 3 := ⟨(zw_in (List.mem_of_getElem? (i := 281) rfl) rfl), ⟨by decide +kernel, by decide +kernel, by decide +kernel⟩, by decide, (zw_in (by decide +kernel) rfl), (zw_in (by decide +kernel) rfl), (zw_in (by decide +kernel) rfl)⟩
set_option maxRecDepth 100000 in
theorem zmX3_beginAnew : zmV yX3_beginAnew cX3_beginAnew 3 none 2 := ⟨(zw_in (List.mem_of_getElem? (i := 258) rfl) rfl), ⟨by decide +kernel, by decide +kernel, by decide +kernel⟩, by decide, (zw_in (by decide +kernel) rfl), (zw_in (by decide +kernel) rfl), (zw_in (by decide +kernel) rfl)⟩
set_option maxRecDepth 100000 in
theorem zmX3_firstPlaceFrom : zmV yX3_firstPlaceFrom cX3_firstPlaceFrom 3 (some .int) 1 := ⟨(zw_in (List.mem_of_getElem? (i := 403) rfl) rfl), ⟨by decide +kernel, by decide +kernel, by decide +kernel⟩, by decide, (zw_in (by decide +kernel) rfl), (zw_in (by decide +kernel) rfl), (zw_in (by decide +kernel) rfl)⟩
set_option maxRecDepth 100000 in
theorem zmX3_hasRow : zmV yX3_hasRow cX3_hasRow 2 (some .boolean) 1 := ⟨(zw_in (List.mem_of_getElem? (i := 293) rfl) rfl), ⟨by decide +kernel, by decide +kernel, by decide +kernel⟩, by decide, (zw_in (by decide +kernel) rfl), (zw_in (by decide +kernel) rfl), (zw_in (by decide +kernel) rfl)⟩
set_option maxRecDepth 100000 in
theorem zmX3_isDone : zmV yX3_isDone cX3_isDone 1 (some .boolean) 0 := ⟨(zw_in (List.mem_of_getElem? (i := 310) rfl) rfl), ⟨by decide +kernel, by decide +kernel, by decide +kernel⟩, by decide, (zw_in (by decide +kernel) rfl), (zw_in (by decide +kernel) rfl), (zw_in (by decide +kernel) rfl)⟩
set_option maxRecDepth 100000 in
theorem zmX3_isReady : zmV yX3_isReady cX3_isReady 1 (some .boolean) 0 := ⟨(zw_in (List.mem_of_getElem? (i := 314) rfl) rfl), ⟨by decide +kernel, by decide +kernel, by decide +kernel⟩, by decide, (zw_in (by decide +kernel) rfl), (zw_in (by decide +kernel) rfl), (zw_in (by decide +kernel) rfl)⟩
set_option maxRecDepth 100000 in
theorem zmX3_isReadyFor : zmV yX3_isReadyFor cX3_isReadyFor 2 (some .boolean) 1 := ⟨(zw_in (List.mem_of_getElem? (i := 327) rfl) rfl), ⟨by decide +kernel, by decide +kernel, by decide +kernel⟩, by decide, (zw_in (by decide +kernel) rfl), (zw_in (by decide +kernel) rfl), (zw_in (by decide +kernel) rfl)⟩
set_option maxRecDepth 100000 in
theorem zmX3_moveRowsFrom : zmV yX3_moveRowsFrom cX3_moveRowsFrom 4 none 2 := ⟨(zw_in (List.mem_of_getElem? (i := 297) rfl) rfl), ⟨by decide +kernel, by decide +kernel, by decide +kernel⟩, by decide, (zw_in (by decide +kernel) rfl), (zw_in (by decide +kernel) rfl), (zw_in (by decide +kernel) rfl)⟩
set_option maxRecDepth 100000 in
theorem zmX3_pass : zmV yX3_pass cX3_pass 1 none 0 := ⟨(zw_in (List.mem_of_getElem? (i := 348) rfl) rfl), ⟨by decide +kernel, by decide +kernel, by decide +kernel⟩, by decide, (zw_in (by decide +kernel) rfl), (zw_in (by decide +kernel) rfl), (zw_in (by decide +kernel) rfl)⟩
set_option maxRecDepth 100000 in
theorem zmX3_stand : zmV yX3_stand cX3_stand 4 none 3 := ⟨(zw_in (List.mem_of_getElem? (i := 262) rfl) rfl), ⟨by decide +kernel, by decide +kernel, by decide +kernel⟩, by decide, (zw_in (by decide +kernel) rfl), (zw_in (by decide +kernel) rfl), (zw_in (by decide +kernel) rfl)⟩
set_option maxRecDepth 100000 in
theorem zmX5_init : Cond.code yX5_init cX5_init 1 none ∈ zw_good ∧ Cond.instanceMethod yX5_init ∈ zw_good ∧ Cond.initialized RX5 ∈ zw_good := ⟨(zw_in (List.mem_of_getElem? (i := 579) rfl) rfl), (zw_in (by decide +kernel) rfl), (zw_in (by decide +kernel) rfl)⟩
set_option maxRecDepth 100000 in
theorem zmX5_adds : zmV yX5_adds cX5_adds 3 (some .int) 2 := ⟨(zw_in (List.mem_of_getElem? (i := 678) rfl) rfl), ⟨by decide +kernel, by decide +kernel, by decide +kernel⟩, by decide, (zw_in (by decide +kernel) rfl), (zw_in (by decide +kernel) rfl), (zw_in (by decide +kernel) rfl)⟩
set_option maxRecDepth 100000 in
theorem zmX5_aside : zmV yX5_aside cX5_aside 3 (some .int) 2 := ⟨(zw_in (List.mem_of_getElem? (i := 780) rfl) rfl), ⟨by decide +kernel, by decide +kernel, by decide +kernel⟩, by decide, (zw_in (by decide +kernel) rfl), (zw_in (by decide +kernel) rfl), (zw_in (by decide +kernel) rfl)⟩
set_option maxRecDepth 100000 in
theorem zmX5_clear : zmV yX5_clear cX5_clear 3 (some .int) 0 := ⟨(zw_in (List.mem_of_getElem? (i := 797) rfl) rfl), ⟨by decide +kernel, by decide +kernel, by decide +kernel⟩, by decide, (zw_in (by decide +kernel) rfl), (zw_in (by decide +kernel) rfl), (zw_in (by decide +kernel) rfl)⟩
set_option maxRecDepth 100000 in
theorem zmX5_count : zmV yX5_count cX5_count 4 (some .int) 1 := ⟨(zw_in (List.mem_of_getElem? (i := 793) rfl) rfl), ⟨by decide +kernel, by decide +kernel, by decide +kernel⟩, by decide, (zw_in (by decide +kernel) rfl), (zw_in (by decide +kernel) rfl), (zw_in (by decide +kernel) rfl)⟩
set_option maxRecDepth 100000 in
theorem zmX5_end : zmV yX5_end cX5_end 2 (some .int) 1 := ⟨(zw_in (List.mem_of_getElem? (i := 699) rfl) rfl), ⟨by decide +kernel, by decide +kernel, by decide +kernel⟩, by decide, (zw_in (by decide +kernel) rfl), (zw_in (by decide +kernel) rfl), (zw_in (by decide +kernel) rfl)⟩
set_option maxRecDepth 100000 in
theorem zmX5_forgets : zmV yX5_forgets cX5_forgets 2 none 0 := ⟨(zw_in (List.mem_of_getElem? (i := 584) rfl) rfl), ⟨by decide +kernel, by decide +kernel, by decide +kernel⟩, by decide, (zw_in (by decide +kernel) rfl), (zw_in (by decide +kernel) rfl), (zw_in (by decide +kernel) rfl)⟩
set_option maxRecDepth 100000 in
theorem zmX5_fresh : zmV yX5_fresh cX5_fresh 2 none 1 := ⟨(zw_in (List.mem_of_getElem? (i := 682) rfl) rfl), ⟨by decide +kernel, by decide +kernel, by decide +kernel⟩, by decide, (zw_in (by decide +kernel) rfl), (zw_in (by decide +kernel) rfl), (zw_in (by decide +kernel) rfl)⟩
set_option maxRecDepth 100000 in
theorem zmX5_give : zmV yX5_give cX5_give 4 (some .int) 2 := ⟨(zw_in (List.mem_of_getElem? (i := 707) rfl) rfl), ⟨by decide +kernel, by decide +kernel, by decide +kernel⟩, by decide, (zw_in (by decide +kernel) rfl), (zw_in (by decide +kernel) rfl), (zw_in (by decide +kernel) rfl)⟩
set_option maxRecDepth 100000 in
theorem zmX5_given : zmV yX5_given cX5_given 2 (some .int) 1 := ⟨(zw_in (List.mem_of_getElem? (i := 772) rfl) rfl), ⟨by decide +kernel, by decide +kernel, by decide +kernel⟩, by decide, (zw_in (by decide +kernel) rfl), (zw_in (by decide +kernel) rfl), (zw_in (by decide +kernel) rfl)⟩
set_option maxRecDepth 100000 in
theorem zmX5_givesNone : zmV yX5_givesNone cX5_givesNone 2 none 0 := ⟨(zw_in (List.mem_of_getElem? (i := 759) rfl) rfl), ⟨by decide +kernel, by decide +kernel, by decide +kernel⟩, by decide, (zw_in (by decide +kernel) rfl), (zw_in (by decide +kernel) rfl), (zw_in (by decide +kernel) rfl)⟩
set_option maxRecDepth 100000 in
theorem zmX5_in : zmS yX5_in cX5_in 3 (some .boolean) 3 := ⟨(zw_in (List.mem_of_getElem? (i := 674) rfl) rfl), ⟨by decide +kernel, by decide +kernel, by decide +kernel⟩, by decide, (zw_in (by decide +kernel) rfl), (zw_in (by decide +kernel) rfl)⟩
set_option maxRecDepth 100000 in
theorem zmX5_isDone : zmV yX5_isDone cX5_isDone 2 (some .boolean) 1 := ⟨(zw_in (List.mem_of_getElem? (i := 711) rfl) rfl), ⟨by decide +kernel, by decide +kernel, by decide +kernel⟩, by decide, (zw_in (by decide +kernel) rfl), (zw_in (by decide +kernel) rfl), (zw_in (by decide +kernel) rfl)⟩
set_option maxRecDepth 100000 in
theorem zmX5_isPart : zmV yX5_isPart cX5_isPart 2 (some .boolean) 1 := ⟨(zw_in (List.mem_of_getElem? (i := 690) rfl) rfl), ⟨by decide +kernel, by decide +kernel, by decide +kernel⟩, by decide, (zw_in (by decide +kernel) rfl), (zw_in (by decide +kernel) rfl), (zw_in (by decide +kernel) rfl)⟩
set_option maxRecDepth 100000 in
theorem zmX5_isReady : zmV yX5_isReady cX5_isReady 2 (some .boolean) 1 := ⟨(zw_in (List.mem_of_getElem? (i := 715) rfl) rfl), ⟨by decide +kernel, by decide +kernel, by decide +kernel⟩, by decide, (zw_in (by decide +kernel) rfl), (zw_in (by decide +kernel) rfl), (zw_in (by decide +kernel) rfl)⟩
set_option maxRecDepth 100000 in
theorem zmX5_latest : zmV yX5_latest cX5_latest 2 (some .int) 1 := ⟨(zw_in (List.mem_of_getElem? (i := 739) rfl) rfl), ⟨by decide +kernel, by decide +kernel, by decide +kernel⟩, by decide, (zw_in (by decide +kernel) rfl), (zw_in (by decide +kernel) rfl), (zw_in (by decide +kernel) rfl)⟩
set_option maxRecDepth 100000 in
theorem zmX5_lays : zmV yX5_lays cX5_lays 6 none 4 := ⟨(zw_in (List.mem_of_getElem? (i := 695) rfl) rfl), ⟨by decide +kernel, by decide +kernel, by decide +kernel⟩, by decide, (zw_in (by decide +kernel) rfl), (zw_in (by decide +kernel) rfl), (zw_in (by decide +kernel) rfl)⟩
set_option maxRecDepth 100000 in
theorem zmX5_lose : zmV yX5_lose cX5_lose 5 (some .int) 2 := ⟨(zw_in (List.mem_of_getElem? (i := 743) rfl) rfl), ⟨by decide +kernel, by decide +kernel, by decide +kernel⟩, by decide, (zw_in (by decide +kernel) rfl), (zw_in (by decide +kernel) rfl), (zw_in (by decide +kernel) rfl)⟩
set_option maxRecDepth 100000 in
theorem zmX5_mark : zmV yX5_mark cX5_mark 2 (some .int) 0 := ⟨(zw_in (List.mem_of_getElem? (i := 747) rfl) rfl), ⟨by decide +kernel, by decide +kernel, by decide +kernel⟩, by decide, (zw_in (by decide +kernel) rfl), (zw_in (by decide +kernel) rfl), (zw_in (by decide +kernel) rfl)⟩
set_option maxRecDepth 100000 in
theorem zmX5_nextOf : zmV yX5_nextOf cX5_nextOf 5 (some .int) 1 := ⟨(zw_in (List.mem_of_getElem? (i := 727) rfl) rfl), ⟨by decide +kernel, by decide +kernel, by decide +kernel⟩, by decide, (zw_in (by decide +kernel) rfl), (zw_in (by decide +kernel) rfl), (zw_in (by decide +kernel) rfl)⟩
set_option maxRecDepth 100000 in
theorem zmX5_notes : zmV yX5_notes cX5_notes 3 none 2 := ⟨(zw_in (List.mem_of_getElem? (i := 731) rfl) rfl), ⟨by decide +kernel, by decide +kernel, by decide +kernel⟩, by decide, (zw_in (by decide +kernel) rfl), (zw_in (by decide +kernel) rfl), (zw_in (by decide +kernel) rfl)⟩
set_option maxRecDepth 100000 in
theorem zmX5_number : zmV yX5_number cX5_number 3 (some .int) 2 := ⟨(zw_in (List.mem_of_getElem? (i := 776) rfl) rfl), ⟨by decide +kernel, by decide +kernel, by decide +kernel⟩, by decide, (zw_in (by decide +kernel) rfl), (zw_in (by decide +kernel) rfl), (zw_in (by decide +kernel) rfl)⟩
set_option maxRecDepth 100000 in
theorem zmX5_part : zmV yX5_part cX5_part 2 (some .int) 1 := ⟨(zw_in (List.mem_of_getElem? (i := 671) rfl) rfl), ⟨by decide +kernel, by decide +kernel, by decide +kernel⟩, by decide, (zw_in (by decide +kernel) rfl), (zw_in (by decide +kernel) rfl), (zw_in (by decide +kernel) rfl)⟩
set_option maxRecDepth 100000 in
theorem zmX5_passes : zmV yX5_passes cX5_passes 3 none 1 := ⟨(zw_in (List.mem_of_getElem? (i := 735) rfl) rfl), ⟨by decide +kernel, by decide +kernel, by decide +kernel⟩, by decide, (zw_in (by decide +kernel) rfl), (zw_in (by decide +kernel) rfl), (zw_in (by decide +kernel) rfl)⟩
set_option maxRecDepth 100000 in
theorem zmX5_rate : zmV yX5_rate cX5_rate 4 (some .int) 1 := ⟨(zw_in (List.mem_of_getElem? (i := 784) rfl) rfl), ⟨by decide +kernel, by decide +kernel, by decide +kernel⟩, by decide, (zw_in (by decide +kernel) rfl), (zw_in (by decide +kernel) rfl), (zw_in (by decide +kernel) rfl)⟩
set_option maxRecDepth 100000 in
theorem zmX5_read : zmV yX5_read cX5_read 7 (some .int) 1 := ⟨(zw_in (List.mem_of_getElem? (i := 723) rfl) rfl), ⟨by decide +kernel, by decide +kernel, by decide +kernel⟩, by decide, (zw_in (by decide +kernel) rfl), (zw_in (by decide +kernel) rfl), (zw_in (by decide +kernel) rfl)⟩
set_option maxRecDepth 100000 in
theorem zmX5_reader : zmV yX5_reader cX5_reader 2 (some .int) 1 := ⟨(zw_in (List.mem_of_getElem? (i := 719) rfl) rfl), ⟨by decide +kernel, by decide +kernel, by decide +kernel⟩, by decide, (zw_in (by decide +kernel) rfl), (zw_in (by decide +kernel) rfl), (zw_in (by decide +kernel) rfl)⟩
set_option maxRecDepth 100000 in
theorem zmX5_restore : zmV yX5_restore cX5_restore 6 (some .int) 1 := ⟨(zw_in (List.mem_of_getElem? (i := 751) rfl) rfl), ⟨by decide +kernel, by decide +kernel, by decide +kernel⟩, by decide, (zw_in (by decide +kernel) rfl), (zw_in (by decide +kernel) rfl), (zw_in (by decide +kernel) rfl)⟩
set_option maxRecDepth 100000 in
theorem zmX5_row : zmV yX5_row cX5_row 5 (some .int) 4 := ⟨(zw_in (List.mem_of_getElem? (i := 686) rfl) rfl), ⟨by decide +kernel, by decide +kernel, by decide +kernel⟩, by decide, (zw_in (by decide +kernel) rfl), (zw_in (by decide +kernel) rfl), (zw_in (by decide +kernel) rfl)⟩
set_option maxRecDepth 100000 in
theorem zmX5_scale : zmV yX5_scale cX5_scale 4 (some .int) 1 := ⟨(zw_in (List.mem_of_getElem? (i := 763) rfl) rfl), ⟨by decide +kernel, by decide +kernel, by decide +kernel⟩, by decide, (zw_in (by decide +kernel) rfl), (zw_in (by decide +kernel) rfl), (zw_in (by decide +kernel) rfl)⟩
set_option maxRecDepth 100000 in
theorem zmX5_split : zmV yX5_split cX5_split 5 (some .int) 2 := ⟨(zw_in (List.mem_of_getElem? (i := 703) rfl) rfl), ⟨by decide +kernel, by decide +kernel, by decide +kernel⟩, by decide, (zw_in (by decide +kernel) rfl), (zw_in (by decide +kernel) rfl), (zw_in (by decide +kernel) rfl)⟩
set_option maxRecDepth 100000 in
theorem zmX5_start : zmV yX5_start cX5_start 5 (some .int) 1 := ⟨(zw_in (List.mem_of_getElem? (i := 755) rfl) rfl), ⟨by decide +kernel, by decide +kernel, by decide +kernel⟩, by decide, (zw_in (by decide +kernel) rfl), (zw_in (by decide +kernel) rfl), (zw_in (by decide +kernel) rfl)⟩
set_option maxRecDepth 100000 in
theorem zmX5_thrown : zmV yX5_thrown cX5_thrown 1 (some .int) 0 := ⟨(zw_in (List.mem_of_getElem? (i := 667) rfl) rfl), ⟨by decide +kernel, by decide +kernel, by decide +kernel⟩, by decide, (zw_in (by decide +kernel) rfl), (zw_in (by decide +kernel) rfl), (zw_in (by decide +kernel) rfl)⟩
set_option maxRecDepth 100000 in
theorem zmX5_told : zmV yX5_told cX5_told 3 (some .int) 2 := ⟨(zw_in (List.mem_of_getElem? (i := 767) rfl) rfl), ⟨by decide +kernel, by decide +kernel, by decide +kernel⟩, by decide, (zw_in (by decide +kernel) rfl), (zw_in (by decide +kernel) rfl), (zw_in (by decide +kernel) rfl)⟩
set_option maxRecDepth 100000 in
theorem zmX5_water : zmV yX5_water cX5_water 4 (some .int) 0 := ⟨(zw_in (List.mem_of_getElem? (i := 788) rfl) rfl), ⟨by decide +kernel, by decide +kernel, by decide +kernel⟩, by decide, (zw_in (by decide +kernel) rfl), (zw_in (by decide +kernel) rfl), (zw_in (by decide +kernel) rfl)⟩
end
section
theorem zu_o {Z : ZT} {c f a b : Nat} {v : Int32} (h : a ≠ c ∨ b ≠ f) : zu Z c f v a b = Z a b := by
  have : ¬ (a = c ∧ b = f) := by omega
  simp [zu, this]
def zfill (Z : ZT) (c n : Nat) (v : Int32) : ZT := fun a b => if a = c ∧ b < n then v else Z a b
theorem zfill_o {Z : ZT} {c n a b : Nat} {v : Int32} (h : a ≠ c ∨ n ≤ b) : zfill Z c n v a b = Z a b := by
  have : ¬ (a = c ∧ b < n) := by omega
  simp [zfill, this]
theorem zfill_i {Z : ZT} {c n b : Nat} {v : Int32} (h : b < n) : zfill Z c n v c b = v := by simp [zfill, h]
theorem zfill_0 {Z : ZT} {c : Nat} {v : Int32} : zfill Z c 0 v = Z := by
  funext a b
  simp [zfill]
theorem zfill_s {Z : ZT} {c n : Nat} {v : Int32} : zu (zfill Z c n v) c n v = zfill Z c (n + 1) v := by
  funext a b
  by_cases h1 : a = c
  · by_cases h2 : b = n
    · simp [zu, zfill, h1, h2]
    · by_cases h3 : b < n
      · simp [zu, zfill, h1, h2, h3, Nat.lt_succ_of_lt h3]
      · simp [zu, zfill, h1, h2, h3, show ¬ b < n + 1 by omega]
  · simp [zu, zfill, h1]
theorem zt2 (x : Int32) : x = nI 0 ∨ x = nI 1 ∨ (x.toInt < 0 ∨ 1 < x.toInt) := by
  by_cases h : x.toInt < 0 ∨ 1 < x.toInt
  · simp [h]
  · obtain ⟨j, hj, e⟩ := nI_of2 (x := x) (M := nI 1) (n := 1) rfl (fun z => h (Or.inl (Int32.lt_iff_toInt_lt.mp z))) (Int32.le_iff_toInt_le.mpr (by show x.toInt ≤ (1 : Int); omega))
    rcases (show j = 0 ∨ j = 1 by omega) with rfl | rfl <;> simp [e]
theorem zt5 (x : Int32) : x = nI 0 ∨ x = nI 1 ∨ x = nI 2 ∨ x = nI 3 ∨ x = nI 4 ∨ (x.toInt < 0 ∨ 4 < x.toInt) := by
  by_cases h : x.toInt < 0 ∨ 4 < x.toInt
  · simp [h]
  · obtain ⟨j, hj, e⟩ := nI_of2 (x := x) (M := nI 4) (n := 4) rfl (fun z => h (Or.inl (Int32.lt_iff_toInt_lt.mp z))) (Int32.le_iff_toInt_le.mpr (by show x.toInt ≤ (4 : Int); omega))
    rcases (show j = 0 ∨ j = 1 ∨ j = 2 ∨ j = 3 ∨ j = 4 by omega) with rfl | rfl | rfl | rfl | rfl <;> simp [e]
theorem zt10 (x : Int32) : x = nI 0 ∨ x = nI 1 ∨ x = nI 2 ∨ x = nI 3 ∨ x = nI 4 ∨ x = nI 5 ∨ x = nI 6 ∨ x = nI 7 ∨ x = nI 8 ∨ x = nI 9 ∨ (x.toInt < 0 ∨ 9 < x.toInt) := by
  by_cases h : x.toInt < 0 ∨ 9 < x.toInt
  · simp [h]
  · obtain ⟨j, hj, e⟩ := nI_of2 (x := x) (M := nI 9) (n := 9) rfl (fun z => h (Or.inl (Int32.lt_iff_toInt_lt.mp z))) (Int32.le_iff_toInt_le.mpr (by show x.toInt ≤ (9 : Int); omega))
    rcases (show j = 0 ∨ j = 1 ∨ j = 2 ∨ j = 3 ∨ j = 4 ∨ j = 5 ∨ j = 6 ∨ j = 7 ∨ j = 8 ∨ j = 9 by omega) with rfl | rfl | rfl | rfl | rfl | rfl | rfl | rfl | rfl | rfl <;> simp [e]
set_option maxRecDepth 100000 in
set_option maxHeartbeats 4000000 in
theorem kX3_stand {l : Launch} {D : va_G} {Y : YT} {b0 : Nat} {G : GT} (hD : GD b0 G) (hG : Gok 113 G) {Z : ZT} {i : Nat} (hi : i < 12) (p0 p1 p2 : Int32) : CV l D Y b0 G yX3_stand cX3_stand 4 0 [.ref (G.2.1 (11 + 4 * i)), .int (p0), .int (p1), .int (p2)] Z (fun Z' => Z' = zu (zu (zu Z (11 + 4 * i) 5 p0) (11 + 4 * i) 6 p1) (11 + 4 * i) 7 p2) := by
  refine cv_start (lv0 := [(0, .ref (G.2.1 (11 + 4 * i))), (1, .int (p0)), (2, .int (p1)), (3, .int (p2))]) hD rfl (Nat.le_of_ble_eq_true rfl) rfl ?_
  intro E C R hR hD hN
  refine j_aload_n C 0 dX3_stand_0 rfl rfl ?_
  refine j_iload_n C 1 dX3_stand_1 rfl rfl ?_
  refine j_putI C hD zK3 (zb_Part hG hi) (zs_Part hG hi) (f := 5) (by decide) rfl zk_X3_43 rfl rfl rfl rfl dX3_stand_2 ?_
  refine j_aload_n C 0 dX3_stand_5 rfl rfl ?_
  refine j_iload_n C 2 dX3_stand_6 rfl rfl ?_
  refine j_putI C hD zK3 (zb_Part hG hi) (zs_Part hG hi) (f := 6) (by decide) rfl zk_X3_46 rfl rfl rfl rfl dX3_stand_7 ?_
  refine j_aload_n C 0 dX3_stand_10 rfl rfl ?_
  refine j_iload_n C 3 dX3_stand_11 rfl rfl ?_
  refine j_putI C hD zK3 (zb_Part hG hi) (zs_Part hG hi) (f := 7) (by decide) rfl zk_X3_49 rfl rfl rfl rfl dX3_stand_12 ?_
  refine j_ret C R dX3_stand_15 ?_
  exact rfl
set_option maxRecDepth 100000 in
set_option maxHeartbeats 4000000 in
theorem kX3_hasRow {l : Launch} {D : va_G} {Y : YT} {b0 : Nat} {G : GT} (hD : GD b0 G) (hG : Gok 113 G) {Z : ZT} {i : Nat} (hi : i < 12) {rc : Int32} {rcI : Int} (hrc : Z (11 + 4 * i) 3 = rc) (hrcI : rc.toInt = rcI) {p0 : Int32} {b : Int} (hb : p0.toInt = b) : CI l D Y b0 G yX3_hasRow cX3_hasRow 2 (some .boolean) 0 [.ref (G.2.1 (11 + 4 * i)), .int (p0)] Z (fun r Z' => Z' = Z ∧ (r = nI 1 ∧ (0 ≤ b ∧ b < rcI) ∨ r = nI 0 ∧ (b < 0 ∨ rcI ≤ b))) := by
  refine ci_start (lv0 := [(0, .ref (G.2.1 (11 + 4 * i))), (1, .int (p0))]) hD rfl rfl (Nat.le_of_ble_eq_true rfl) rfl ?_
  intro E C R hR hD hN
  refine j_iload_n C 1 dX3_hasRow_0 rfl rfl ?_
  refine j_if_lt (tgt := 16) (a := b) C hb dX3_hasRow_1 (by decide) (fun c1 => ?_) (fun c1 => ?_)
  ·
    refine j_iconst C (nI 0) dX3_hasRow_16 (by decide) ?_
    refine j_zret C R (by decide) dX3_hasRow_17 ?_
    exact ⟨rfl, by first | exact Or.inl ⟨rfl, by omega⟩ | exact Or.inr ⟨rfl, by omega⟩⟩
  ·
    refine j_iload_n C 1 dX3_hasRow_4 rfl rfl ?_
    refine j_aload_n C 0 dX3_hasRow_5 rfl rfl ?_
    refine j_getI C zK3 (zb_Part hG hi) (zs_Part hG hi) (f := 3) (by decide) rfl zk_X3_22 rfl (rc) hrc dX3_hasRow_6 ?_
    refine j_icmp_ge (tgt := 16) (a := b) (b := rcI) C hb hrcI dX3_hasRow_9 (by decide) (fun c9 => ?_) (fun c9 => ?_)
    ·
      refine j_iconst C (nI 0) dX3_hasRow_16 (by decide) ?_
      refine j_zret C R (by decide) dX3_hasRow_17 ?_
      exact ⟨rfl, by first | exact Or.inl ⟨rfl, by omega⟩ | exact Or.inr ⟨rfl, by omega⟩⟩
    ·
      refine j_iconst C (nI 1) dX3_hasRow_12 (by decide) ?_
      refine j_goto (tgt := 17) C dX3_hasRow_13 (by decide) ?_
      refine j_zret C R (by decide) dX3_hasRow_17 ?_
      exact ⟨rfl, by first | exact Or.inl ⟨rfl, by omega⟩ | exact Or.inr ⟨rfl, by omega⟩⟩
set_option maxRecDepth 100000 in
set_option maxHeartbeats 4000000 in
theorem kX3_isReady {l : Launch} {D : va_G} {Y : YT} {b0 : Nat} {G : GT} (hD : GD b0 G) (hG : Gok 113 G) {Z : ZT} {i : Nat} (hi : i < 12) {rc : Int32} {rcI : Int} (hrc : Z (11 + 4 * i) 3 = rc) (hrcI : rc.toInt = rcI) {po : Int32} {poI : Int} (hpo : Z (11 + 4 * i) 5 = po) (hpoI : po.toInt = poI) : CI l D Y b0 G yX3_isReady cX3_isReady 1 (some .boolean) 1 [.ref (G.2.1 (11 + 4 * i))] Z (fun r Z' => Z' = Z ∧ (r = nI 1 ∧ (0 ≤ poI ∧ poI < rcI) ∨ r = nI 0 ∧ (poI < 0 ∨ rcI ≤ poI))) := by
  refine ci_start (lv0 := [(0, .ref (G.2.1 (11 + 4 * i)))]) hD rfl rfl (Nat.le_of_ble_eq_true rfl) rfl ?_
  intro E C R hR hD hN
  refine j_aload_n C 0 dX3_isReady_0 rfl rfl ?_
  refine j_aload_n C 0 dX3_isReady_1 rfl rfl ?_
  refine j_getI C zK3 (zb_Part hG hi) (zs_Part hG hi) (f := 5) (by decide) rfl zk_X3_43 rfl (po) hpo dX3_isReady_2 ?_
  refine j_callI C hR (kX3_hasRow hD hG (i := i)  hi (rc := rc) (rcI := rcI) hrc hrcI (p0 := po) (b := poI) hpoI) [] zmX3_hasRow zk_X3_52 zK3 (zb_Part hG hi) (zs_Part hG hi) (by decide) rfl rfl (Nat.le_of_ble_eq_true rfl) dX3_isReady_5 (fun r5 Z5 h5 => ?_)
  obtain ⟨e5, ⟨rfl, h5⟩ | ⟨rfl, h5⟩⟩ := h5
  ·
    refine j_Z e5 ?_
    refine j_zret C R (by decide) dX3_isReady_8 ?_
    exact ⟨rfl, by first | exact Or.inl ⟨rfl, by omega⟩ | exact Or.inr ⟨rfl, by omega⟩⟩
  ·
    refine j_Z e5 ?_
    refine j_zret C R (by decide) dX3_isReady_8 ?_
    exact ⟨rfl, by first | exact Or.inl ⟨rfl, by omega⟩ | exact Or.inr ⟨rfl, by omega⟩⟩
set_option maxRecDepth 100000 in
set_option maxHeartbeats 4000000 in
theorem kX3_isReadyFor {l : Launch} {D : va_G} {Y : YT} {b0 : Nat} {G : GT} (hD : GD b0 G) (hG : Gok 113 G) {Z : ZT} {i : Nat} (hi : i < 12) {rc : Int32} {rcI : Int} (hrc : Z (11 + 4 * i) 3 = rc) (hrcI : rc.toInt = rcI) {po : Int32} {poI : Int} (hpo : Z (11 + 4 * i) 5 = po) (hpoI : po.toInt = poI) {re : Int32} {reI : Int} (hre : Z (11 + 4 * i) 9 = re) (hreI : re.toInt = reI) {p0 : Int32} {b : Int} (hb : p0.toInt = b) : CI l D Y b0 G yX3_isReadyFor cX3_isReadyFor 2 (some .boolean) 2 [.ref (G.2.1 (11 + 4 * i)), .int (p0)] Z (fun r Z' => Z' = Z ∧ (r = nI 1 ∧ (reI = b ∧ 0 ≤ poI ∧ poI < rcI) ∨ r = nI 0 ∧ (reI ≠ b ∨ poI < 0 ∨ rcI ≤ poI))) := by
  refine ci_start (lv0 := [(0, .ref (G.2.1 (11 + 4 * i))), (1, .int (p0))]) hD rfl rfl (Nat.le_of_ble_eq_true rfl) rfl ?_
  intro E C R hR hD hN
  refine j_aload_n C 0 dX3_isReadyFor_0 rfl rfl ?_
  refine j_getI C zK3 (zb_Part hG hi) (zs_Part hG hi) (f := 9) (by decide) rfl zk_X3_36 rfl (re) hre dX3_isReadyFor_1 ?_
  refine j_iload_n C 1 dX3_isReadyFor_4 rfl rfl ?_
  refine j_icmp_ne (tgt := 19) (a := reI) (b := b) C hreI hb dX3_isReadyFor_5 (by decide) (fun c5 => ?_) (fun c5 => ?_)
  ·
    refine j_iconst C (nI 0) dX3_isReadyFor_19 (by decide) ?_
    refine j_zret C R (by decide) dX3_isReadyFor_20 ?_
    exact ⟨rfl, by first | exact Or.inl ⟨rfl, by omega⟩ | exact Or.inr ⟨rfl, by omega⟩⟩
  ·
    refine j_aload_n C 0 dX3_isReadyFor_8 rfl rfl ?_
    refine j_callI C hR (kX3_isReady hD hG (i := i)  hi (rc := rc) (rcI := rcI) hrc hrcI (po := po) (poI := poI) hpo hpoI) [] zmX3_isReady zk_X3_56 zK3 (zb_Part hG hi) (zs_Part hG hi) (by decide) rfl rfl (Nat.le_of_ble_eq_true rfl) dX3_isReadyFor_9 (fun r9 Z9 h9 => ?_)
    obtain ⟨e9, ⟨rfl, h9⟩ | ⟨rfl, h9⟩⟩ := h9
    ·
      refine j_Z e9 ?_
      refine j_if_eq (tgt := 19) (a := ((1 : Nat) : Int)) C (nI_toInt (by omega)) dX3_isReadyFor_12 (by decide) (fun c12 => absurd c12 (by omega)) (fun c12 => ?_)
      refine j_iconst C (nI 1) dX3_isReadyFor_15 (by decide) ?_
      refine j_goto (tgt := 20) C dX3_isReadyFor_16 (by decide) ?_
      refine j_zret C R (by decide) dX3_isReadyFor_20 ?_
      exact ⟨rfl, by first | exact Or.inl ⟨rfl, by omega⟩ | exact Or.inr ⟨rfl, by omega⟩⟩
    ·
      refine j_Z e9 ?_
      refine j_if_eq (tgt := 19) (a := ((0 : Nat) : Int)) C (nI_toInt (by omega)) dX3_isReadyFor_12 (by decide) (fun c12 => ?_) (fun c12 => absurd c12 (by omega))
      refine j_iconst C (nI 0) dX3_isReadyFor_19 (by decide) ?_
      refine j_zret C R (by decide) dX3_isReadyFor_20 ?_
      exact ⟨rfl, by first | exact Or.inl ⟨rfl, by omega⟩ | exact Or.inr ⟨rfl, by omega⟩⟩
set_option maxRecDepth 100000 in
set_option maxHeartbeats 4000000 in
theorem kX3_isDone {l : Launch} {D : va_G} {Y : YT} {b0 : Nat} {G : GT} (hD : GD b0 G) (hG : Gok 113 G) {Z : ZT} {i : Nat} (hi : i < 12) {rc : Int32} {rcI : Int} (hrc : Z (11 + 4 * i) 3 = rc) (hrcI : rc.toInt = rcI) {po : Int32} {poI : Int} (hpo : Z (11 + 4 * i) 5 = po) (hpoI : po.toInt = poI) {en : Int32} {enI : Int} (hen : Z (11 + 4 * i) 4 = en) (henI : en.toInt = enI) : CI l D Y b0 G yX3_isDone cX3_isDone 1 (some .boolean) 2 [.ref (G.2.1 (11 + 4 * i))] Z (fun r Z' => Z' = Z ∧ (r = nI 1 ∧ (enI ≠ 0 ∧ (poI < 0 ∨ rcI ≤ poI)) ∨ r = nI 0 ∧ (enI = 0 ∨ 0 ≤ poI ∧ poI < rcI))) := by
  refine ci_start (lv0 := [(0, .ref (G.2.1 (11 + 4 * i)))]) hD rfl rfl (Nat.le_of_ble_eq_true rfl) rfl ?_
  intro E C R hR hD hN
  refine j_aload_n C 0 dX3_isDone_0 rfl rfl ?_
  refine j_getI C zK3 (zb_Part hG hi) (zs_Part hG hi) (f := 4) (by decide) rfl zk_X3_26 rfl (en) hen dX3_isDone_1 ?_
  refine j_if_eq (tgt := 18) (a := enI) C henI dX3_isDone_4 (by decide) (fun c4 => ?_) (fun c4 => ?_)
  ·
    refine j_iconst C (nI 0) dX3_isDone_18 (by decide) ?_
    refine j_zret C R (by decide) dX3_isDone_19 ?_
    exact ⟨rfl, by first | exact Or.inl ⟨rfl, by omega⟩ | exact Or.inr ⟨rfl, by omega⟩⟩
  ·
    refine j_aload_n C 0 dX3_isDone_7 rfl rfl ?_
    refine j_callI C hR (kX3_isReady hD hG (i := i)  hi (rc := rc) (rcI := rcI) hrc hrcI (po := po) (poI := poI) hpo hpoI) [] zmX3_isReady zk_X3_56 zK3 (zb_Part hG hi) (zs_Part hG hi) (by decide) rfl rfl (Nat.le_of_ble_eq_true rfl) dX3_isDone_8 (fun r8 Z8 h8 => ?_)
    obtain ⟨e8, ⟨rfl, h8⟩ | ⟨rfl, h8⟩⟩ := h8
    ·
      refine j_Z e8 ?_
      refine j_if_ne (tgt := 18) (a := ((1 : Nat) : Int)) C (nI_toInt (by omega)) dX3_isDone_11 (by decide) (fun c11 => ?_) (fun c11 => absurd c11 (by omega))
      refine j_iconst C (nI 0) dX3_isDone_18 (by decide) ?_
      refine j_zret C R (by decide) dX3_isDone_19 ?_
      exact ⟨rfl, by first | exact Or.inl ⟨rfl, by omega⟩ | exact Or.inr ⟨rfl, by omega⟩⟩
    ·
      refine j_Z e8 ?_
      refine j_if_ne (tgt := 18) (a := ((0 : Nat) : Int)) C (nI_toInt (by omega)) dX3_isDone_11 (by decide) (fun c11 => absurd c11 (by omega)) (fun c11 => ?_)
      refine j_iconst C (nI 1) dX3_isDone_14 (by decide) ?_
      refine j_goto (tgt := 19) C dX3_isDone_15 (by decide) ?_
      refine j_zret C R (by decide) dX3_isDone_19 ?_
      exact ⟨rfl, by first | exact Or.inl ⟨rfl, by omega⟩ | exact Or.inr ⟨rfl, by omega⟩⟩
set_option maxRecDepth 100000 in
set_option maxHeartbeats 4000000 in
theorem kX3_beginAnew {l : Launch} {D : va_G} {Y : YT} {b0 : Nat} {G : GT} (hD : GD b0 G) (hG : Gok 113 G) {Z : ZT} {i : Nat} (hi : i < 12) (p0 p1 : Int32) : CV l D Y b0 G yX3_beginAnew cX3_beginAnew 3 1 [.ref (G.2.1 (11 + 4 * i)), .int (p0), .int (p1)] Z (fun Z' => Z' = (zu (zu (zu (zu (zu (zu (zu (zu Z (11 + 4 * i) (3) (nI 0)) (11 + 4 * i) (4) (nI 0)) (11 + 4 * i) (8) (p0)) (11 + 4 * i) (10) (p1)) (11 + 4 * i) (9) (-1)) (11 + 4 * i) (5) (nI 0)) (11 + 4 * i) (6) (-1)) (11 + 4 * i) (7) (nI 0))) := by
  refine cv_start (lv0 := [(0, .ref (G.2.1 (11 + 4 * i))), (1, .int (p0)), (2, .int (p1))]) hD rfl (Nat.le_of_ble_eq_true rfl) rfl ?_
  intro E C R hR hD hN
  refine j_aload_n C 0 dX3_beginAnew_0 rfl rfl ?_
  refine j_iconst C (nI 0) dX3_beginAnew_1 (by decide) ?_
  refine j_putI C hD zK3 (zb_Part hG hi) (zs_Part hG hi) (f := 3) (by decide) rfl zk_X3_22 rfl rfl rfl rfl dX3_beginAnew_2 ?_
  refine j_aload_n C 0 dX3_beginAnew_5 rfl rfl ?_
  refine j_iconst C (nI 0) dX3_beginAnew_6 (by decide) ?_
  refine j_putI C hD zK3 (zb_Part hG hi) (zs_Part hG hi) (f := 4) (by decide) rfl zk_X3_26 rfl rfl (zb_nr (by decide)) (zb_ft (by decide)) dX3_beginAnew_7 ?_
  refine j_aload_n C 0 dX3_beginAnew_10 rfl rfl ?_
  refine j_iload_n C 1 dX3_beginAnew_11 rfl rfl ?_
  refine j_putI C hD zK3 (zb_Part hG hi) (zs_Part hG hi) (f := 8) (by decide) rfl zk_X3_30 rfl rfl rfl rfl dX3_beginAnew_12 ?_
  refine j_aload_n C 0 dX3_beginAnew_15 rfl rfl ?_
  refine j_iload_n C 2 dX3_beginAnew_16 rfl rfl ?_
  refine j_putI C hD zK3 (zb_Part hG hi) (zs_Part hG hi) (f := 10) (by decide) rfl zk_X3_33 rfl rfl rfl rfl dX3_beginAnew_17 ?_
  refine j_aload_n C 0 dX3_beginAnew_20 rfl rfl ?_
  refine j_iconst C (-1) dX3_beginAnew_21 (by decide) ?_
  refine j_putI C hD zK3 (zb_Part hG hi) (zs_Part hG hi) (f := 9) (by decide) rfl zk_X3_36 rfl rfl rfl rfl dX3_beginAnew_22 ?_
  refine j_aload_n C 0 dX3_beginAnew_25 rfl rfl ?_
  refine j_iconst C (nI 0) dX3_beginAnew_26 (by decide) ?_
  refine j_iconst C (-1) dX3_beginAnew_27 (by decide) ?_
  refine j_iconst C (nI 0) dX3_beginAnew_28 (by decide) ?_
  refine j_callV C hR (kX3_stand hD hG (i := i)  hi (nI 0) (-1) (nI 0)) [] zmX3_stand zk_X3_39 zK3 (zb_Part hG hi) (zs_Part hG hi) (by decide) rfl rfl (Nat.le_of_ble_eq_true rfl) dX3_beginAnew_29 (fun Z29 h29 => ?_)
  refine j_Z (Z' := (zu (zu (zu (zu (zu (zu (zu (zu Z (11 + 4 * i) (3) (nI 0)) (11 + 4 * i) (4) (nI 0)) (11 + 4 * i) (8) (p0)) (11 + 4 * i) (10) (p1)) (11 + 4 * i) (9) (-1)) (11 + 4 * i) (5) (nI 0)) (11 + 4 * i) (6) (-1)) (11 + 4 * i) (7) (nI 0))) h29 ?_
  refine j_ret C R dX3_beginAnew_32 ?_
  exact rfl
set_option maxRecDepth 100000 in
set_option maxHeartbeats 4000000 in
theorem kX3_addRow {l : Launch} {D : va_G} {Y : YT} {b0 : Nat} {G : GT} (hD : GD b0 G) (hG : Gok 113 G) {Z : ZT} {i : Nat} (hi : i < 12) {k : Nat} (hk : Z (11 + 4 * i) 3 = nI k) (hk40 : k < 40) (p0 p1 : Int32) {p2 : Int32} (hz : p2 = 0 ∨ p2 = 1) : CV l D Y b0 G yX3_addRow cX3_addRow 4 0 [.ref (G.2.1 (11 + 4 * i)), .int (p0), .int (p1), .int (p2)] Z (fun Z' => Z' = (zu (zu (zu (zu Z (12 + 4 * i) (k) (p0)) (13 + 4 * i) (k) (p1)) (14 + 4 * i) (k) (p2)) (11 + 4 * i) (3) (nI (k + 1)))) := by
  refine cv_start (lv0 := [(0, .ref (G.2.1 (11 + 4 * i))), (1, .int (p0)), (2, .int (p1)), (3, .int (p2))]) hD rfl (Nat.le_of_ble_eq_true rfl) rfl ?_
  intro E C R hR hD hN
  refine j_aload_n C 0 dX3_addRow_0 rfl rfl ?_
  refine j_getI C zK3 (zb_Part hG hi) (zs_Part hG hi) (f := 3) (by decide) rfl zk_X3_22 rfl (nI k) hk dX3_addRow_1 ?_
  refine j_bipush C (nI 40) dX3_addRow_4 (by decide) ?_
  refine j_icmp_ge (tgt := 49) (a := ((k : Nat) : Int)) (b := ((40 : Nat) : Int)) C (nI_toInt (by omega)) (nI_toInt (by omega)) dX3_addRow_6 (by decide) (fun c6 => absurd c6 (by omega)) (fun c6 => ?_)
  refine j_aload_n C 0 dX3_addRow_9 rfl rfl ?_
  refine j_getR C zK3 (zb_Part hG hi) (zs_Part hG hi) (f := 0) (by decide) rfl zk_X3_9 rfl (zf_Part_0 hG hi) dX3_addRow_10 ?_
  refine j_aload_n C 0 dX3_addRow_13 rfl rfl ?_
  refine j_getI C zK3 (zb_Part hG hi) (zs_Part hG hi) (f := 3) (by decide) rfl zk_X3_22 rfl (nI k) hk dX3_addRow_14 ?_
  refine j_iload_n C 1 dX3_addRow_17 rfl rfl ?_
  refine j_iast C hD (zb_Num hG hi) (zs_Num hG hi) (zl_Num hG hi) rfl (by omega) (by decide) dX3_addRow_18 ?_
  refine j_aload_n C 0 dX3_addRow_19 rfl rfl ?_
  refine j_getR C zK3 (zb_Part hG hi) (zs_Part hG hi) (f := 1) (by decide) rfl zk_X3_15 rfl (zf_Part_1 hG hi) dX3_addRow_20 ?_
  refine j_aload_n C 0 dX3_addRow_23 rfl rfl ?_
  refine j_getI C zK3 (zb_Part hG hi) (zs_Part hG hi) (f := 3) (by decide) rfl zk_X3_22 rfl (nI k) ((zu_o (by omega)).trans (hk)) dX3_addRow_24 ?_
  refine j_iload_n C 2 dX3_addRow_27 rfl rfl ?_
  refine j_iast C hD (zb_Tim hG hi) (zs_Tim hG hi) (zl_Tim hG hi) rfl (by omega) (by decide) dX3_addRow_28 ?_
  refine j_aload_n C 0 dX3_addRow_29 rfl rfl ?_
  refine j_getR C zK3 (zb_Part hG hi) (zs_Part hG hi) (f := 2) (by decide) rfl zk_X3_18 rfl (zf_Part_2 hG hi) dX3_addRow_30 ?_
  refine j_aload_n C 0 dX3_addRow_33 rfl rfl ?_
  refine j_getI C zK3 (zb_Part hG hi) (zs_Part hG hi) (f := 3) (by decide) rfl zk_X3_22 rfl (nI k) ((zu_o (by omega)).trans ((zu_o (by omega)).trans (hk))) dX3_addRow_34 ?_
  refine j_iload_n C 3 dX3_addRow_37 rfl rfl ?_
  refine j_zast C hD (zb_Snd hG hi) (zs_Snd hG hi) (zl_Snd hG hi) rfl (by omega) (by decide) hz dX3_addRow_38 ?_
  refine j_aload_n C 0 dX3_addRow_39 rfl rfl ?_
  refine j_dup C dX3_addRow_40 rfl ?_
  refine j_getI C zK3 (zb_Part hG hi) (zs_Part hG hi) (f := 3) (by decide) rfl zk_X3_22 rfl (nI k) ((zu_o (by omega)).trans ((zu_o (by omega)).trans ((zu_o (by omega)).trans (hk)))) dX3_addRow_41 ?_
  refine j_iconst C (nI 1) dX3_addRow_44 (by decide) ?_
  refine j_iadd C (nI (k + 1)) dX3_addRow_45 (nI_add k 1) ?_
  refine j_putI C hD zK3 (zb_Part hG hi) (zs_Part hG hi) (f := 3) (by decide) rfl zk_X3_22 rfl rfl rfl rfl dX3_addRow_46 ?_
  refine j_ret C R dX3_addRow_49 ?_
  exact rfl
set_option maxRecDepth 100000 in
set_option maxHeartbeats 4000000 in
theorem kX3_pass {l : Launch} {D : va_G} {Y : YT} {b0 : Nat} {G : GT} (hD : GD b0 G) (hG : Gok 113 G) {Z : ZT} {i : Nat} (hi : i < 12) {rc : Int32} {rcI : Int} (hrc : Z (11 + 4 * i) 3 = rc) (hrcI : rc.toInt = rcI) {po : Nat} (hpo : Z (11 + 4 * i) 5 = nI po) (h40 : po < 40) (hr : (po : Int) < rcI) {w t : Int32} (hw : Z (11 + 4 * i) 6 = w) (ht : Z (13 + 4 * i) po = t) : CV l D Y b0 G yX3_pass cX3_pass 1 2 [.ref (G.2.1 (11 + 4 * i))] Z (fun Z' => Z' = zu (zu Z (11 + 4 * i) 6 (if w < t then t else w)) (11 + 4 * i) 5 (nI (po + 1))) := by
  refine cv_start (lv0 := [(0, .ref (G.2.1 (11 + 4 * i)))]) hD rfl (Nat.le_of_ble_eq_true rfl) rfl ?_
  intro E C R hR hD hN
  refine j_aload_n C 0 dX3_pass_0 rfl rfl ?_
  refine j_callI C hR (kX3_isReady hD hG (i := i)  hi (rc := rc) (rcI := rcI) hrc hrcI (po := nI po) (poI := ((po : Nat) : Int)) hpo (nI_toInt (by omega))) [] zmX3_isReady zk_X3_56 zK3 (zb_Part hG hi) (zs_Part hG hi) (by decide) rfl rfl (Nat.le_of_ble_eq_true rfl) dX3_pass_1 (fun r1 Z1 h1 => ?_)
  obtain ⟨e1, ⟨rfl, h1⟩ | ⟨rfl, h1⟩⟩ := h1
  ·
    refine j_Z e1 ?_
    refine j_if_eq (tgt := 37) (a := ((1 : Nat) : Int)) C (nI_toInt (by omega)) dX3_pass_4 (by decide) (fun c4 => absurd c4 (by omega)) (fun c4 => ?_)
    refine j_aload_n C 0 dX3_pass_7 rfl rfl ?_
    refine j_aload_n C 0 dX3_pass_8 rfl rfl ?_
    refine j_getI C zK3 (zb_Part hG hi) (zs_Part hG hi) (f := 6) (by decide) rfl zk_X3_46 rfl (w) hw dX3_pass_9 ?_
    refine j_aload_n C 0 dX3_pass_12 rfl rfl ?_
    refine j_getR C zK3 (zb_Part hG hi) (zs_Part hG hi) (f := 1) (by decide) rfl zk_X3_15 rfl (zf_Part_1 hG hi) dX3_pass_13 ?_
    refine j_aload_n C 0 dX3_pass_16 rfl rfl ?_
    refine j_getI C zK3 (zb_Part hG hi) (zs_Part hG hi) (f := 5) (by decide) rfl zk_X3_43 rfl (nI po) hpo dX3_pass_17 ?_
    refine j_iald C (zb_Tim hG hi) (zs_Tim hG hi) (zl_Tim hG hi) rfl (by omega) (by decide) (t) ht dX3_pass_20 ?_
    refine j_max C (hR) (if w < t then t else w) zk_X3_64 dX3_pass_21 (Nat.le_of_ble_eq_true rfl) rfl rfl rfl ?_
    refine j_putI C hD zK3 (zb_Part hG hi) (zs_Part hG hi) (f := 6) (by decide) rfl zk_X3_46 rfl rfl rfl rfl dX3_pass_24 ?_
    refine j_aload_n C 0 dX3_pass_27 rfl rfl ?_
    refine j_dup C dX3_pass_28 rfl ?_
    refine j_getI C zK3 (zb_Part hG hi) (zs_Part hG hi) (f := 5) (by decide) rfl zk_X3_43 rfl (nI po) ((zu_o (by omega)).trans (hpo)) dX3_pass_29 ?_
    refine j_iconst C (nI 1) dX3_pass_32 (by decide) ?_
    refine j_iadd C (nI (po + 1)) dX3_pass_33 (nI_add po 1) ?_
    refine j_putI C hD zK3 (zb_Part hG hi) (zs_Part hG hi) (f := 5) (by decide) rfl zk_X3_43 rfl rfl rfl rfl dX3_pass_34 ?_
    refine j_ret C R dX3_pass_37 ?_
    exact rfl
  ·
    refine j_Z e1 ?_
    exact absurd h1 (by omega)
end
section
def zcpy (Z : ZT) (c0 c1 m : Nat) : ZT := fun a b => if a = c1 ∧ b < m then Z c0 b else Z a b
theorem zcpy_o {Z : ZT} {c0 c1 m a b : Nat} (h : a ≠ c1 ∨ m ≤ b) : zcpy Z c0 c1 m a b = Z a b := by
  have : ¬ (a = c1 ∧ b < m) := by omega
  simp [zcpy, this]
theorem zcpy_i {Z : ZT} {c0 c1 m b : Nat} (h : b < m) : zcpy Z c0 c1 m c1 b = Z c0 b := by simp [zcpy, h]
set_option maxRecDepth 100000 in
theorem zw_ac1 : Cond.native arraycopyName ∈ zw_good := zw_in (by decide +kernel) rfl
set_option maxRecDepth 100000 in
theorem zw_ac2 : Cond.static arraycopyName ∈ zw_good := zw_in (by decide +kernel) rfl
set_option maxRecDepth 100000 in
theorem zw_ac3 : Cond.initialized "java/lang/System" ∈ zw_good := zw_in (by decide +kernel) rfl
theorem zc_cpy6 {G : GT} {Y : YT} {Z : ZT} {c0 c1 m : Nat} (h : c1 < G.1) (hs : G.2.2.1 c1 = 6) : (zc G Y Z).set c1 (G.2.1 c1, .inl (Y.1, G.2.2.2.1 c1, .inl (va_cpy (Z c0) (Z c1) 0 0 m))) = zc G Y (zcpy Z c0 c1 m) := by
  have e1 : zcpy Z c0 c1 m c1 = va_cpy (Z c0) (Z c1) 0 0 m := by
    funext b
    by_cases hb : b < m <;> simp [zcpy, va_cpy, hb]
  refine zc_set h (by rw [ze_I hs, e1]) (fun a ha => ?_)
  have hz : zcpy Z c0 c1 m a = Z a := by funext b; simp [zcpy, ha]
  simp only [ze, zfl, hz]
theorem zc_cpy7 {G : GT} {Y : YT} {Z : ZT} {c0 c1 m : Nat} (h : c1 < G.1) (hs : G.2.2.1 c1 = 7) : (zc G Y Z).set c1 (G.2.1 c1, .inl (Y.2.1, G.2.2.2.1 c1, .inl (va_cpy (Z c0) (Z c1) 0 0 m))) = zc G Y (zcpy Z c0 c1 m) := by
  have e1 : zcpy Z c0 c1 m c1 = va_cpy (Z c0) (Z c1) 0 0 m := by
    funext b
    by_cases hb : b < m <;> simp [zcpy, va_cpy, hb]
  refine zc_set h (by rw [ze_Z hs, e1]) (fun a ha => ?_)
  have hz : zcpy Z c0 c1 m a = Z a := by funext b; simp [zcpy, ha]
  simp only [ze, zfl, hz]
theorem j_copyI {E : ET} {own : String} {cc : ByteArray} {ce sl lev : Nat} {G : GT} {pc : Nat} {lv : List (Nat × Value)} {st : List Value} {Z : ZT} (C : Cb E own cc) (hD : GD (e0 E) G) (hR : eR E = rmL (lev + 2)) {c0 c1 m n0 n1 index : Nat} (hc0 : c0 < G.1) (hs0 : G.2.2.1 c0 = 6) (hn0 : G.2.2.2.1 c0 = n0) (hc1 : c1 < G.1) (hs1 : G.2.2.1 c1 = 6) (hn1 : G.2.2.2.1 c1 = n1) (h0 : m ≤ n0) (h1 : m ≤ n1) (hb0 : n0 < 2 ^ 31) (hb1 : n1 < 2 ^ 31) (hl : Cond.methodLink own index arraycopyName ∈ zw_good) (hst : (st.map fun v => v.category).sum ≤ 8) (hd : decode cc pc = .ok (.invokestatic index, 3)) (kk : J E ce sl G (pc + 3) lv st (zcpy Z c0 c1 m)) : J E ce sl G pc lv (.int (nI m) :: .int (nI 0) :: .ref (G.2.1 c1) :: .int (nI 0) :: .ref (G.2.1 c0) :: st) Z := by
  subst hn0; subst hn1
  intro H locs ls hP hS h
  have z0 : (nI 0).toNatClampNeg = 0 := nI_clamp (by decide)
  have zm : (nI m).toNatClampNeg = m := nI_clamp (by omega)
  have hfw : nativeFrameWords "java/lang/System" "arraycopy" 5 + 11 ≤ 60 := by decide +kernel
  refine va_copyi C.hx C.hb (C.hml.trans h.1.symm) C.ho (C.hts _ hl) (C.hts _ zw_ac1) (C.hts _ zw_ac2) (C.hts _ zw_ac3) C.hK hP (zc_D hD) hS c0 c1 0 0 (by rw [zc_at hc0, ze_I hs0]) (by rw [zc_at hc1, ze_I hs1]) rfl rfl rfl (nI_pos (by decide)) (nI_pos (by decide)) (nI_pos (by omega)) (by rw [z0, zm]; omega) (by rw [z0, zm]; omega) ?_ (by rw [hR]; show 1 ≤ lev + 2; omega) (by rw [hR]; show _ + _ ≤ 40 * (lev + 2); omega) hd ?_
  · rw [z0]
    exact (fun _ _ => rfl)
  · intro H1 locs1 hP1 _ hS1
    rw [z0, zm, zc_cpy6 hc1 hs1] at hP1
    exact kk H1 locs1 ls hP1 hS1 h
theorem j_copyZ {E : ET} {own : String} {cc : ByteArray} {ce sl lev : Nat} {G : GT} {pc : Nat} {lv : List (Nat × Value)} {st : List Value} {Z : ZT} (C : Cb E own cc) (hD : GD (e0 E) G) (hR : eR E = rmL (lev + 2)) {c0 c1 m n0 n1 index : Nat} (hc0 : c0 < G.1) (hs0 : G.2.2.1 c0 = 7) (hn0 : G.2.2.2.1 c0 = n0) (hc1 : c1 < G.1) (hs1 : G.2.2.1 c1 = 7) (hn1 : G.2.2.2.1 c1 = n1) (h0 : m ≤ n0) (h1 : m ≤ n1) (hb0 : n0 < 2 ^ 31) (hb1 : n1 < 2 ^ 31) (hz : ∀ j, j < m → Z c0 j = 0 ∨ Z c0 j = 1) (hl : Cond.methodLink own index arraycopyName ∈ zw_good) (hst : (st.map fun v => v.category).sum ≤ 8) (hd : decode cc pc = .ok (.invokestatic index, 3)) (kk : J E ce sl G (pc + 3) lv st (zcpy Z c0 c1 m)) : J E ce sl G pc lv (.int (nI m) :: .int (nI 0) :: .ref (G.2.1 c1) :: .int (nI 0) :: .ref (G.2.1 c0) :: st) Z := by
  subst hn0; subst hn1
  intro H locs ls hP hS h
  have z0 : (nI 0).toNatClampNeg = 0 := nI_clamp (by decide)
  have zm : (nI m).toNatClampNeg = m := nI_clamp (by omega)
  have hfw : nativeFrameWords "java/lang/System" "arraycopy" 5 + 11 ≤ 60 := by decide +kernel
  refine va_copyi C.hx C.hb (C.hml.trans h.1.symm) C.ho (C.hts _ hl) (C.hts _ zw_ac1) (C.hts _ zw_ac2) (C.hts _ zw_ac3) C.hK hP (zc_D hD) hS c0 c1 1 1 (by rw [zc_at hc0, ze_Z hs0]) (by rw [zc_at hc1, ze_Z hs1]) rfl rfl rfl (nI_pos (by decide)) (nI_pos (by decide)) (nI_pos (by omega)) (by rw [z0, zm]; omega) (by rw [z0, zm]; omega) ?_ (by rw [hR]; show 1 ≤ lev + 2; omega) (by rw [hR]; show _ + _ ≤ 40 * (lev + 2); omega) hd ?_
  · rw [z0]
    exact (fun j hj => by rw [nI_clamp (by omega)] at hj; rw [Nat.zero_add]; exact zb_ft (hz j hj))
  · intro H1 locs1 hP1 _ hS1
    rw [z0, zm, zc_cpy7 hc1 hs1] at hP1
    exact kk H1 locs1 ls hP1 hS1 h
def fpk (f : Nat → Int32) (t : Int32) : Nat → Nat
  | 0 => 0
  | n + 1 => if fpk f t n < n then fpk f t n else if (f n).toInt < t.toInt then n + 1 else n
theorem fpk_spec (f : Nat → Int32) (t : Int32) : ∀ n, fpk f t n ≤ n ∧ (∀ j, j < fpk f t n → (f j).toInt < t.toInt) ∧ (fpk f t n < n → t.toInt ≤ (f (fpk f t n)).toInt) := by
  intro n
  induction n with
  | zero => exact ⟨Nat.le_refl _, fun j hj => absurd hj (Nat.not_lt_zero j), fun h => absurd h (Nat.lt_irrefl 0)⟩
  | succ n ih =>
    obtain ⟨h1, h2, h3⟩ := ih
    by_cases h : fpk f t n < n
    · have e : fpk f t (n + 1) = fpk f t n := by simp [fpk, h]
      rw [e]
      exact ⟨by omega, h2, fun _ => h3 h⟩
    · have hn : fpk f t n = n := by omega
      by_cases hf : (f n).toInt < t.toInt
      · have e : fpk f t (n + 1) = n + 1 := by simp [fpk, h, hf]
        rw [e]
        refine ⟨Nat.le_refl _, fun j hj => ?_, fun h => absurd h (Nat.lt_irrefl _)⟩
        by_cases hj2 : j = n
        · rw [hj2]; exact hf
        · exact h2 j (by omega)
      · have e : fpk f t (n + 1) = n := by simp [fpk, h, hf]
        rw [e]
        exact ⟨by omega, fun j hj => h2 j (by omega), fun _ => by omega⟩
theorem fpk_eq {f : Nat → Int32} {t : Int32} {n k : Nat} (h1 : k ≤ n) (h2 : ∀ j, j < k → (f j).toInt < t.toInt) (h3 : k < n → t.toInt ≤ (f k).toInt) : k = fpk f t n := by
  obtain ⟨g1, g2, g3⟩ := fpk_spec f t n
  rcases Nat.lt_trichotomy k (fpk f t n) with h | h | h
  · have := g2 k h
    have := h3 (by omega)
    omega
  · exact h
  · have := h2 _ h
    have := g3 (by omega)
    omega
theorem fpk_congr {f g : Nat → Int32} {t : Int32} {n : Nat} (h : ∀ j, j < n → f j = g j) : fpk f t n = fpk g t n := by
  obtain ⟨g1, g2, g3⟩ := fpk_spec f t n
  exact fpk_eq g1 (fun j hj => by rw [← h j (by omega)]; exact g2 j hj) (fun hk => by rw [← h _ hk]; exact g3 hk)
/-- m rows of part i from place p on have gone to part i2 -/
def zmv (Z : ZT) (i i2 p m : Nat) : ZT := fun a b => if a = 12 + 4 * i2 ∧ b < m then Z (12 + 4 * i) (p + b) else if a = 13 + 4 * i2 ∧ b < m then Z (13 + 4 * i) (p + b) else if a = 14 + 4 * i2 ∧ b < m then Z (14 + 4 * i) (p + b) else if a = 11 + 4 * i2 ∧ b = 3 then nI m else Z a b
theorem zmv_0 {Z : ZT} {i i2 p : Nat} (h : Z (11 + 4 * i2) 3 = nI 0) : zmv Z i i2 p 0 = Z := by
  funext a b
  by_cases h1 : a = 11 + 4 * i2 ∧ b = 3
  · simp [zmv, h1, h]
  · simp [zmv, h1]
theorem zmv_o {Z : ZT} {i i2 p m a b : Nat} (h : a < 11 + 4 * i2 ∨ 15 + 4 * i2 ≤ a) : zmv Z i i2 p m a b = Z a b := by
  have h1 : a ≠ 12 + 4 * i2 := by omega
  have h2 : a ≠ 13 + 4 * i2 := by omega
  have h3 : a ≠ 14 + 4 * i2 := by omega
  have h4 : a ≠ 11 + 4 * i2 := by omega
  simp [zmv, h1, h2, h3, h4]
theorem zmv_3 {Z : ZT} {i i2 p m : Nat} : zmv Z i i2 p m (11 + 4 * i2) 3 = nI m := by
  have h1 : 11 + 4 * i2 ≠ 12 + 4 * i2 := by omega
  have h2 : 11 + 4 * i2 ≠ 13 + 4 * i2 := by omega
  have h3 : 11 + 4 * i2 ≠ 14 + 4 * i2 := by omega
  simp [zmv, h1, h2, h3]
theorem zmv_s {Z : ZT} {i i2 p m : Nat} : zu (zu (zu (zu (zmv Z i i2 p m) (12 + 4 * i2) m (Z (12 + 4 * i) (p + m))) (13 + 4 * i2) m (Z (13 + 4 * i) (p + m))) (14 + 4 * i2) m (Z (14 + 4 * i) (p + m))) (11 + 4 * i2) 3 (nI (m + 1)) = zmv Z i i2 p (m + 1) := by
  funext a b
  by_cases h1 : a = 12 + 4 * i2
  · have e2 : a ≠ 13 + 4 * i2 := by omega
    have e3 : a ≠ 14 + 4 * i2 := by omega
    have e4 : a ≠ 11 + 4 * i2 := by omega
    by_cases hb : b = m
    · simp [zu, zmv, h1, hb, show 12 + 4 * i2 ≠ 13 + 4 * i2 by omega, show 12 + 4 * i2 ≠ 14 + 4 * i2 by omega, show 12 + 4 * i2 ≠ 11 + 4 * i2 by omega]
    · by_cases hb2 : b < m
      · simp [zu, zmv, h1, hb, hb2, Nat.lt_succ_of_lt hb2, show 12 + 4 * i2 ≠ 13 + 4 * i2 by omega, show 12 + 4 * i2 ≠ 14 + 4 * i2 by omega, show 12 + 4 * i2 ≠ 11 + 4 * i2 by omega]
      · simp [zu, zmv, h1, hb, hb2, show ¬ b < m + 1 by omega, show 12 + 4 * i2 ≠ 13 + 4 * i2 by omega, show 12 + 4 * i2 ≠ 14 + 4 * i2 by omega, show 12 + 4 * i2 ≠ 11 + 4 * i2 by omega]
  · by_cases h2 : a = 13 + 4 * i2
    · by_cases hb : b = m
      · simp [zu, zmv, h2, hb, show 13 + 4 * i2 ≠ 12 + 4 * i2 by omega, show 13 + 4 * i2 ≠ 14 + 4 * i2 by omega, show 13 + 4 * i2 ≠ 11 + 4 * i2 by omega]
      · by_cases hb2 : b < m
        · simp [zu, zmv, h2, hb, hb2, Nat.lt_succ_of_lt hb2, show 13 + 4 * i2 ≠ 12 + 4 * i2 by omega, show 13 + 4 * i2 ≠ 14 + 4 * i2 by omega, show 13 + 4 * i2 ≠ 11 + 4 * i2 by omega]
        · simp [zu, zmv, h2, hb, hb2, show ¬ b < m + 1 by omega, show 13 + 4 * i2 ≠ 12 + 4 * i2 by omega, show 13 + 4 * i2 ≠ 14 + 4 * i2 by omega, show 13 + 4 * i2 ≠ 11 + 4 * i2 by omega]
    · by_cases h3 : a = 14 + 4 * i2
      · by_cases hb : b = m
        · simp [zu, zmv, h3, hb, show 14 + 4 * i2 ≠ 12 + 4 * i2 by omega, show 14 + 4 * i2 ≠ 13 + 4 * i2 by omega, show 14 + 4 * i2 ≠ 11 + 4 * i2 by omega]
        · by_cases hb2 : b < m
          · simp [zu, zmv, h3, hb, hb2, Nat.lt_succ_of_lt hb2, show 14 + 4 * i2 ≠ 12 + 4 * i2 by omega, show 14 + 4 * i2 ≠ 13 + 4 * i2 by omega, show 14 + 4 * i2 ≠ 11 + 4 * i2 by omega]
          · simp [zu, zmv, h3, hb, hb2, show ¬ b < m + 1 by omega, show 14 + 4 * i2 ≠ 12 + 4 * i2 by omega, show 14 + 4 * i2 ≠ 13 + 4 * i2 by omega, show 14 + 4 * i2 ≠ 11 + 4 * i2 by omega]
      · by_cases h4 : a = 11 + 4 * i2 ∧ b = 3
        · simp [zu, zmv, h1, h2, h3, h4, show 11 + 4 * i2 ≠ 12 + 4 * i2 by omega, show 11 + 4 * i2 ≠ 13 + 4 * i2 by omega, show 11 + 4 * i2 ≠ 14 + 4 * i2 by omega]
        · simp [zu, zmv, h1, h2, h3, h4]
def zkp (Z : ZT) (m k : Nat) : ZT := fun a b => if a = 60 + 9 * m ∧ b < k then Z (11 + 4 * b) 5 else if a = 61 + 9 * m ∧ b < k then Z (11 + 4 * b) 6 else if a = 62 + 9 * m ∧ b < k then Z (11 + 4 * b) 7 else if a = 63 + 9 * m ∧ b < k then Z (11 + 4 * b) 9 else Z a b
theorem zkp_0 {Z : ZT} {m : Nat} : zkp Z m 0 = Z := by
  funext a b
  simp [zkp]
theorem zkp_o {Z : ZT} {m k a b : Nat} (h : a < 60 + 9 * m ∨ 63 + 9 * m < a) : zkp Z m k a b = Z a b := by
  have h1 : a ≠ 60 + 9 * m := by omega
  have h2 : a ≠ 61 + 9 * m := by omega
  have h3 : a ≠ 62 + 9 * m := by omega
  have h4 : a ≠ 63 + 9 * m := by omega
  simp [zkp, h1, h2, h3, h4]
theorem zkp_s {Z : ZT} {m k : Nat} : zu (zu (zu (zu (zkp Z m k) (60 + 9 * m) k (Z (11 + 4 * k) 5)) (61 + 9 * m) k (Z (11 + 4 * k) 6)) (62 + 9 * m) k (Z (11 + 4 * k) 7)) (63 + 9 * m) k (Z (11 + 4 * k) 9) = zkp Z m (k + 1) := by
  funext a b
  simp only [zu, zkp]
  repeat' split
  all_goals first | rfl | (exfalso; omega) | (simp_all; done) | (congr 1; omega) | (congr 2; omega)
theorem zff_s {Z : ZT} {k : Nat} {v : Int32} : zu (zu (zfill (zfill Z 8 k v) 9 k v) 8 k v) 9 k v = zfill (zfill Z 8 (k + 1) v) 9 (k + 1) v := by
  funext a b
  simp only [zu, zfill]
  repeat' split
  all_goals first | rfl | (exfalso; omega) | (simp_all; done) | (congr 1; omega) | (congr 2; omega)
set_option maxRecDepth 100000 in
set_option maxHeartbeats 4000000 in
theorem kX3_firstPlaceFrom {l : Launch} {D : va_G} {Y : YT} {b0 : Nat} {G : GT} (hD : GD b0 G) (hG : Gok 113 G) {Z : ZT} {i : Nat} (hi : i < 12) {rc : Nat} (hrc : Z (11 + 4 * i) 3 = nI rc) (hrc40 : rc ≤ 40) (p0 : Int32) : CI l D Y b0 G yX3_firstPlaceFrom cX3_firstPlaceFrom 3 (some .int) 0 [.ref (G.2.1 (11 + 4 * i)), .int (p0)] Z (fun r Z' => Z' = Z ∧ r = nI (fpk (Z (13 + 4 * i)) p0 rc)) := by
  refine ci_start (lv0 := [(0, .ref (G.2.1 (11 + 4 * i))), (1, .int (p0))]) hD rfl rfl (Nat.le_of_ble_eq_true rfl) rfl ?_
  intro E C R hR hD hN
  have L2 : ∀ (n : Nat) (k : Nat), rc + 1 ≤ k + n → k ≤ rc → (∀ j, j < k → (Z (13 + 4 * i) j).toInt < p0.toInt) → J E 0 0 G 2 [(2, .int (nI k)), (0, .ref (G.2.1 (11 + 4 * i))), (1, .int (p0))] [] Z := by
    intro n
    induction n with
    | zero => intro k hn hk hj; exact absurd hn (by omega)
    | succ n ih =>
      intro k hn hk hj
      refine j_iload_n C 0 dX3_firstPlaceFrom_2 rfl rfl ?_
      refine j_aload_n C 1 dX3_firstPlaceFrom_3 rfl rfl ?_
      refine j_getI C zK3 (zb_Part hG hi) (zs_Part hG hi) (f := 3) (by decide) rfl zk_X3_22 rfl (nI rc) hrc dX3_firstPlaceFrom_4 ?_
      refine j_icmp_ge (tgt := 28) (a := ((k : Nat) : Int)) (b := ((rc : Nat) : Int)) C (nI_toInt (by omega)) (nI_toInt (by omega)) dX3_firstPlaceFrom_7 (by decide) (fun c7 => ?_) (fun c7 => ?_)
      ·
        refine j_aload_n C 1 dX3_firstPlaceFrom_28 rfl rfl ?_
        refine j_getI C zK3 (zb_Part hG hi) (zs_Part hG hi) (f := 3) (by decide) rfl zk_X3_22 rfl (nI rc) hrc dX3_firstPlaceFrom_29 ?_
        refine j_iret C R dX3_firstPlaceFrom_32 ?_
        exact ⟨rfl, congrArg nI (fpk_eq (Nat.le_refl _) (fun j hj2 => hj j (by omega)) (fun h => absurd h (Nat.lt_irrefl _)))⟩
      ·
        refine j_aload_n C 1 dX3_firstPlaceFrom_10 rfl rfl ?_
        refine j_getR C zK3 (zb_Part hG hi) (zs_Part hG hi) (f := 1) (by decide) rfl zk_X3_15 rfl (zf_Part_1 hG hi) dX3_firstPlaceFrom_11 ?_
        refine j_iload_n C 0 dX3_firstPlaceFrom_14 rfl rfl ?_
        refine j_iald C (zb_Tim hG hi) (zs_Tim hG hi) (zl_Tim hG hi) rfl (by omega) (by decide) (Z (13 + 4 * i) (k)) rfl dX3_firstPlaceFrom_15 ?_
        refine j_iload_n C 2 dX3_firstPlaceFrom_16 rfl rfl ?_
        refine j_icmp_lt (tgt := 22) (a := (Z (13 + 4 * i) (k)).toInt) (b := (p0).toInt) C rfl rfl dX3_firstPlaceFrom_17 (by decide) (fun c17 => ?_) (fun c17 => ?_)
        ·
          refine j_iinc (v := nI (k + 1)) (lv' := [(2, .int (nI (k + 1))), (0, .ref (G.2.1 (11 + 4 * i))), (1, .int (p0))]) C 0 dX3_firstPlaceFrom_22 rfl (nI_add k 1) (by rw [hN]; decide) rfl ?_
          refine j_goto (tgt := 2) C dX3_firstPlaceFrom_25 (by decide) ?_
          exact ih (k + 1) (by omega) (by omega) (fun j hj2 => by rcases Nat.lt_succ_iff_lt_or_eq.mp hj2 with q | q; exact hj j q; rw [q]; exact c17)
        ·
          refine j_iload_n C 0 dX3_firstPlaceFrom_20 rfl rfl ?_
          refine j_iret C R dX3_firstPlaceFrom_21 ?_
          exact ⟨rfl, congrArg nI (fpk_eq hk hj (fun _ => c17))⟩
  refine j_iconst C (nI 0) dX3_firstPlaceFrom_0 (by decide) ?_
  refine j_istore_n (lv' := [(2, .int (nI 0)), (0, .ref (G.2.1 (11 + 4 * i))), (1, .int (p0))]) C dX3_firstPlaceFrom_1 rfl (by rw [hN]; decide) rfl ?_
  exact L2 (rc + 1) 0 (by omega) (by omega) (fun j hj => absurd hj (Nat.not_lt_zero j))
set_option maxRecDepth 100000 in
set_option maxHeartbeats 4000000 in
theorem kX3_moveRowsFrom {l : Launch} {D : va_G} {Y : YT} {b0 : Nat} {G : GT} (hD : GD b0 G) (hG : Gok 113 G) {Z : ZT} {i i2 : Nat} (hi : i < 12) (hi2 : i2 < 12) (hne : i ≠ i2) {rc p : Nat} (hrc : Z (11 + 4 * i) 3 = nI rc) (hrc40 : rc ≤ 40) (hp : p ≤ rc) (h0 : Z (11 + 4 * i2) 3 = nI 0) (hsn : ∀ j, j < 40 → Z (14 + 4 * i) j = 0 ∨ Z (14 + 4 * i) j = 1) {en : Int32} (hen : Z (11 + 4 * i) 4 = en) (hez : en = 0 ∨ en = 1) : CV l D Y b0 G yX3_moveRowsFrom cX3_moveRowsFrom 4 1 [.ref (G.2.1 (11 + 4 * i)), .int (nI p), .ref (G.2.1 (11 + 4 * i2))] Z (fun Z' => Z' = zu (zu (zu (zmv Z i i2 p (rc - p)) (11 + 4 * i2) 4 en) (11 + 4 * i) 3 (nI p)) (11 + 4 * i) 4 (nI 1)) := by
  refine cv_start (lv0 := [(0, .ref (G.2.1 (11 + 4 * i))), (1, .int (nI p)), (2, .ref (G.2.1 (11 + 4 * i2)))]) hD rfl (Nat.le_of_ble_eq_true rfl) rfl ?_
  intro E C R hR hD hN
  have L2 : ∀ (n : Nat) (m : Nat), rc + 1 ≤ p + m + n → p + m ≤ rc → J E 0 0 G 2 [(3, .int (nI (p + m))), (0, .ref (G.2.1 (11 + 4 * i))), (1, .int (nI p)), (2, .ref (G.2.1 (11 + 4 * i2)))] [] (zmv Z i i2 p (m)) := by
    intro n
    induction n with
    | zero => intro m hn hm; exact absurd hn (by omega)
    | succ n ih =>
      intro m hn hm
      refine j_iload_n C 0 dX3_moveRowsFrom_2 rfl rfl ?_
      refine j_aload_n C 1 dX3_moveRowsFrom_3 rfl rfl ?_
      refine j_getI C zK3 (zb_Part hG hi) (zs_Part hG hi) (f := 3) (by decide) rfl zk_X3_22 rfl (nI rc) ((zmv_o (by omega)).trans (hrc)) dX3_moveRowsFrom_4 ?_
      refine j_icmp_ge (tgt := 38) (a := ((p + m : Nat) : Int)) (b := ((rc : Nat) : Int)) C (nI_toInt (by omega)) (nI_toInt (by omega)) dX3_moveRowsFrom_7 (by decide) (fun c7 => ?_) (fun c7 => ?_)
      ·
        refine j_aload_n C 3 dX3_moveRowsFrom_38 rfl rfl ?_
        refine j_aload_n C 1 dX3_moveRowsFrom_39 rfl rfl ?_
        refine j_getI C zK3 (zb_Part hG hi) (zs_Part hG hi) (f := 4) (by decide) rfl zk_X3_26 rfl (en) ((zmv_o (by omega)).trans (hen)) dX3_moveRowsFrom_40 ?_
        refine j_putI C hD zK3 (zb_Part hG hi2) (zs_Part hG hi2) (f := 4) (by decide) rfl zk_X3_26 rfl rfl (zb_nr hez) (zb_ft hez) dX3_moveRowsFrom_43 ?_
        refine j_aload_n C 1 dX3_moveRowsFrom_46 rfl rfl ?_
        refine j_iload_n C 2 dX3_moveRowsFrom_47 rfl rfl ?_
        refine j_putI C hD zK3 (zb_Part hG hi) (zs_Part hG hi) (f := 3) (by decide) rfl zk_X3_22 rfl rfl rfl rfl dX3_moveRowsFrom_48 ?_
        refine j_aload_n C 1 dX3_moveRowsFrom_51 rfl rfl ?_
        refine j_iconst C (nI 1) dX3_moveRowsFrom_52 (by decide) ?_
        refine j_putI C hD zK3 (zb_Part hG hi) (zs_Part hG hi) (f := 4) (by decide) rfl zk_X3_26 rfl rfl (zb_nr (by decide)) (zb_ft (by decide)) dX3_moveRowsFrom_53 ?_
        refine j_ret C R dX3_moveRowsFrom_56 ?_
        have e9 : m = rc - p := by omega
        subst e9
        exact rfl
      ·
        refine j_aload_n C 3 dX3_moveRowsFrom_10 rfl rfl ?_
        refine j_aload_n C 1 dX3_moveRowsFrom_11 rfl rfl ?_
        refine j_getR C zK3 (zb_Part hG hi) (zs_Part hG hi) (f := 0) (by decide) rfl zk_X3_9 rfl (zf_Part_0 hG hi) dX3_moveRowsFrom_12 ?_
        refine j_iload_n C 0 dX3_moveRowsFrom_15 rfl rfl ?_
        refine j_iald C (zb_Num hG hi) (zs_Num hG hi) (zl_Num hG hi) rfl (by omega) (by decide) (Z (12 + 4 * i) (p + m)) (zmv_o (by omega)) dX3_moveRowsFrom_16 ?_
        refine j_aload_n C 1 dX3_moveRowsFrom_17 rfl rfl ?_
        refine j_getR C zK3 (zb_Part hG hi) (zs_Part hG hi) (f := 1) (by decide) rfl zk_X3_15 rfl (zf_Part_1 hG hi) dX3_moveRowsFrom_18 ?_
        refine j_iload_n C 0 dX3_moveRowsFrom_21 rfl rfl ?_
        refine j_iald C (zb_Tim hG hi) (zs_Tim hG hi) (zl_Tim hG hi) rfl (by omega) (by decide) (Z (13 + 4 * i) (p + m)) (zmv_o (by omega)) dX3_moveRowsFrom_22 ?_
        refine j_aload_n C 1 dX3_moveRowsFrom_23 rfl rfl ?_
        refine j_getR C zK3 (zb_Part hG hi) (zs_Part hG hi) (f := 2) (by decide) rfl zk_X3_18 rfl (zf_Part_2 hG hi) dX3_moveRowsFrom_24 ?_
        refine j_iload_n C 0 dX3_moveRowsFrom_27 rfl rfl ?_
        refine j_zald C (zb_Snd hG hi) (zs_Snd hG hi) (zl_Snd hG hi) rfl (by omega) (by decide) (Z (14 + 4 * i) (p + m)) (zmv_o (by omega)) dX3_moveRowsFrom_28 ?_
        refine j_callV C hR (kX3_addRow hD hG (i := i2)  hi2 (k := m) zmv_3 (by omega) (Z (12 + 4 * i) (p + m)) (Z (13 + 4 * i) (p + m)) (hsn _ (by omega))) [] zmX3_addRow zk_X3_60 zK3 (zb_Part hG hi2) (zs_Part hG hi2) (by decide) rfl rfl (Nat.le_of_ble_eq_true rfl) dX3_moveRowsFrom_29 (fun Z29 h29 => ?_)
        refine j_Z (Z' := (zu (zu (zu (zu (zmv Z i i2 p (m)) (12 + 4 * i2) (m) (Z (12 + 4 * i) (p + m))) (13 + 4 * i2) (m) (Z (13 + 4 * i) (p + m))) (14 + 4 * i2) (m) (Z (14 + 4 * i) (p + m))) (11 + 4 * i2) (3) (nI (m + 1)))) h29 ?_
        refine j_iinc (v := nI (p + m + 1)) (lv' := [(3, .int (nI (p + m + 1))), (0, .ref (G.2.1 (11 + 4 * i))), (1, .int (nI p)), (2, .ref (G.2.1 (11 + 4 * i2)))]) C 0 dX3_moveRowsFrom_32 rfl (nI_add (p + m) 1) (by rw [hN]; decide) rfl ?_
        refine j_goto (tgt := 2) C dX3_moveRowsFrom_35 (by decide) ?_
        refine j_Z (Z' := (zmv Z i i2 p (m + 1))) zmv_s ?_
        exact ih (m + 1) (by omega) (by omega)
  refine j_iload_n C 1 dX3_moveRowsFrom_0 rfl rfl ?_
  refine j_istore_n (lv' := [(3, .int (nI p)), (0, .ref (G.2.1 (11 + 4 * i))), (1, .int (nI p)), (2, .ref (G.2.1 (11 + 4 * i2)))]) C dX3_moveRowsFrom_1 rfl (by rw [hN]; decide) rfl ?_
  refine j_Z (Z' := (zmv Z i i2 p (0))) (zmv_0 h0).symm ?_
  exact L2 (rc + 1) 0 (by omega) (by omega)
set_option maxRecDepth 100000 in
set_option maxHeartbeats 4000000 in
theorem kX0_forget {l : Launch} {D : va_G} {Y : YT} {b0 : Nat} {G : GT} (hD : GD b0 G) (hG : Gok 113 G) {Z : ZT}  : CV l D Y b0 G yX0_forget cX0_forget 2 0 [.ref (G.2.1 (7))] Z (fun Z' => Z' = (zu (zu (zu (zu (zfill (zfill Z (8) (64) (nI 0)) (9) (64) (nI 0)) (7) (2) (nI 0)) (7) (3) (nI 0)) (7) (4) (nI 0)) (7) (5) (nI 0))) := by
  refine cv_start (lv0 := [(0, .ref (G.2.1 (7)))]) hD rfl (Nat.le_of_ble_eq_true rfl) rfl ?_
  intro E C R hR hD hN
  have L2 : ∀ (n : Nat) (k : Nat), 64 + 1 ≤ k + n → k ≤ 64 → J E 0 0 G 2 [(1, .int (nI k)), (0, .ref (G.2.1 (7)))] [] (zfill (zfill Z (8) (k) (nI 0)) (9) (k) (nI 0)) := by
    intro n
    induction n with
    | zero => intro k hn hk; exact absurd hn (by omega)
    | succ n ih =>
      intro k hn hk
      refine j_iload_n C 0 dX0_forget_2 rfl rfl ?_
      refine j_bipush C (nI 64) dX0_forget_3 (by decide) ?_
      refine j_icmp_ge (tgt := 28) (a := ((k : Nat) : Int)) (b := ((64 : Nat) : Int)) C (nI_toInt (by omega)) (nI_toInt (by omega)) dX0_forget_5 (by decide) (fun c5 => ?_) (fun c5 => ?_)
      ·
        refine j_aload_n C 1 dX0_forget_28 rfl rfl ?_
        refine j_iconst C (nI 0) dX0_forget_29 (by decide) ?_
        refine j_putI C hD zK0 (zb_Del hG) (zs_Del hG) (f := 2) (by decide) rfl zk_X0_18 rfl rfl rfl rfl dX0_forget_30 ?_
        refine j_aload_n C 1 dX0_forget_33 rfl rfl ?_
        refine j_iconst C (nI 0) dX0_forget_34 (by decide) ?_
        refine j_putI C hD zK0 (zb_Del hG) (zs_Del hG) (f := 3) (by decide) rfl zk_X0_22 rfl rfl rfl rfl dX0_forget_35 ?_
        refine j_aload_n C 1 dX0_forget_38 rfl rfl ?_
        refine j_iconst C (nI 0) dX0_forget_39 (by decide) ?_
        refine j_putI C hD zK0 (zb_Del hG) (zs_Del hG) (f := 4) (by decide) rfl zk_X0_25 rfl rfl rfl rfl dX0_forget_40 ?_
        refine j_aload_n C 1 dX0_forget_43 rfl rfl ?_
        refine j_iconst C (nI 0) dX0_forget_44 (by decide) ?_
        refine j_putI C hD zK0 (zb_Del hG) (zs_Del hG) (f := 5) (by decide) rfl zk_X0_28 rfl rfl rfl rfl dX0_forget_45 ?_
        refine j_ret C R dX0_forget_48 ?_
        have e9 : k = 64 := by omega
        subst e9
        exact rfl
      ·
        refine j_aload_n C 1 dX0_forget_8 rfl rfl ?_
        refine j_getR C zK0 (zb_Del hG) (zs_Del hG) (f := 0) (by decide) rfl zk_X0_9 rfl (zf_Del_0 hG) dX0_forget_9 ?_
        refine j_iload_n C 0 dX0_forget_12 rfl rfl ?_
        refine j_iconst C (nI 0) dX0_forget_13 (by decide) ?_
        refine j_zast C hD (zb_Tol hG) (zs_Tol hG) (zl_Tol hG) rfl (by omega) (by decide) (by decide) dX0_forget_14 ?_
        refine j_aload_n C 1 dX0_forget_15 rfl rfl ?_
        refine j_getR C zK0 (zb_Del hG) (zs_Del hG) (f := 1) (by decide) rfl zk_X0_15 rfl (zf_Del_1 hG) dX0_forget_16 ?_
        refine j_iload_n C 0 dX0_forget_19 rfl rfl ?_
        refine j_iconst C (nI 0) dX0_forget_20 (by decide) ?_
        refine j_zast C hD (zb_Tor hG) (zs_Tor hG) (zl_Tor hG) rfl (by omega) (by decide) (by decide) dX0_forget_21 ?_
        refine j_iinc (v := nI (k + 1)) (lv' := [(1, .int (nI (k + 1))), (0, .ref (G.2.1 (7)))]) C 0 dX0_forget_22 rfl (nI_add k 1) (by rw [hN]; decide) rfl ?_
        refine j_goto (tgt := 2) C dX0_forget_25 (by decide) ?_
        refine j_Z (Z' := (zfill (zfill Z 8 (k + 1) (nI 0)) 9 (k + 1) (nI 0))) zff_s ?_
        exact ih (k + 1) (by omega) (by omega)
  refine j_iconst C (nI 0) dX0_forget_0 (by decide) ?_
  refine j_istore_n (lv' := [(1, .int (nI 0)), (0, .ref (G.2.1 (7)))]) C dX0_forget_1 rfl (by rw [hN]; decide) rfl ?_
  refine j_Z (Z' := (zfill (zfill Z 8 0 (nI 0)) 9 0 (nI 0))) (by rw [zfill_0, zfill_0]) ?_
  exact L2 65 0 (by omega) (by omega)
set_option maxRecDepth 100000 in
set_option maxHeartbeats 4000000 in
theorem kX0_tell {l : Launch} {D : va_G} {Y : YT} {b0 : Nat} {G : GT} (hD : GD b0 G) (hG : Gok 113 G) {Z : ZT} {md a : Nat} (hmd : Z 7 2 = nI md) (hma : md + a < 2 ^ 20) {td : Int32} (htd : Z 7 5 = td) {tv8 : Int32} {tv8I : Int} (htv8 : Z 8 ((md + a) % 64) = tv8) (htv8I : tv8.toInt = tv8I) {tv9 : Int32} {tv9I : Int} (htv9 : Z 9 ((md + a) % 64) = tv9) (htv9I : tv9.toInt = tv9I) {p1 : Int32} {p1I : Int} (hp1 : p1.toInt = p1I) : CI l D Y b0 G yX0_tell cX0_tell 5 (some .boolean) 0 [.ref (G.2.1 (7)), .int (nI a), .int (p1)] Z (fun r Z' => (p1I = 0 ∧ ((tv8I ≠ 0 ∧ r = nI 0 ∧ Z' = Z) ∨ (tv8I = 0 ∧ r = nI 1 ∧ Z' = zu (zu Z 8 ((md + a) % 64) (nI 1)) 7 5 (td + nI 1)))) ∨ (p1I ≠ 0 ∧ ((tv9I ≠ 0 ∧ r = nI 0 ∧ Z' = Z) ∨ (tv9I = 0 ∧ r = nI 1 ∧ Z' = zu (zu Z 9 ((md + a) % 64) (nI 1)) 7 5 (td + nI 1))))) := by
  refine ci_start (lv0 := [(0, .ref (G.2.1 (7))), (1, .int (nI a)), (2, .int (p1))]) hD rfl rfl (Nat.le_of_ble_eq_true rfl) rfl ?_
  intro E C R hR hD hN
  refine j_iload_n C 2 dX0_tell_0 rfl rfl ?_
  refine j_if_eq (tgt := 11) (a := p1I) C hp1 dX0_tell_1 (by decide) (fun c1 => ?_) (fun c1 => ?_)
  ·
    refine j_aload_n C 0 dX0_tell_11 rfl rfl ?_
    refine j_getR C zK0 (zb_Del hG) (zs_Del hG) (f := 0) (by decide) rfl zk_X0_9 rfl (zf_Del_0 hG) dX0_tell_12 ?_
    refine j_astore_n (lv' := [(3, .ref (G.2.1 (8))), (0, .ref (G.2.1 (7))), (1, .int (nI a)), (2, .int (p1))]) C dX0_tell_15 rfl (by rw [hN]; decide) rfl ?_
    refine j_aload_n C 1 dX0_tell_16 rfl rfl ?_
    refine j_getI C zK0 (zb_Del hG) (zs_Del hG) (f := 2) (by decide) rfl zk_X0_18 rfl (nI md) hmd dX0_tell_17 ?_
    refine j_iload_n C 2 dX0_tell_20 rfl rfl ?_
    refine j_iadd C (nI (md + a)) dX0_tell_21 (nI_add md a) ?_
    refine j_bipush C (nI 63) dX0_tell_22 (by decide) ?_
    refine j_iand C (nI ((md + a) % 64)) dX0_tell_24 (pk_andN (by omega) 6 (by decide)) ?_
    refine j_istore (lv' := [(4, .int (nI ((md + a) % 64))), (3, .ref (G.2.1 (8))), (0, .ref (G.2.1 (7))), (1, .int (nI a)), (2, .int (p1))]) C dX0_tell_25 (by rw [hN]; decide) rfl ?_
    refine j_aload_n C 1 dX0_tell_27 rfl rfl ?_
    refine j_iload C 0 dX0_tell_28 rfl ?_
    refine j_zald C (zb_Tol hG) (zs_Tol hG) (zl_Tol hG) rfl (by omega) (by decide) (tv8) htv8 dX0_tell_30 ?_
    refine j_if_eq (tgt := 36) (a := tv8I) C htv8I dX0_tell_31 (by decide) (fun c31 => ?_) (fun c31 => ?_)
    ·
      refine j_aload_n C 1 dX0_tell_36 rfl rfl ?_
      refine j_iload C 0 dX0_tell_37 rfl ?_
      refine j_iconst C (nI 1) dX0_tell_39 (by decide) ?_
      refine j_zast C hD (zb_Tol hG) (zs_Tol hG) (zl_Tol hG) rfl (by omega) (by decide) (by decide) dX0_tell_40 ?_
      refine j_aload_n C 2 dX0_tell_41 rfl rfl ?_
      refine j_dup C dX0_tell_42 rfl ?_
      refine j_getI C zK0 (zb_Del hG) (zs_Del hG) (f := 5) (by decide) rfl zk_X0_28 rfl (td) ((zu_o (by omega)).trans (htd)) dX0_tell_43 ?_
      refine j_iconst C (nI 1) dX0_tell_46 (by decide) ?_
      refine j_iadd C (td + (nI 1)) dX0_tell_47 rfl ?_
      refine j_putI C hD zK0 (zb_Del hG) (zs_Del hG) (f := 5) (by decide) rfl zk_X0_28 rfl rfl rfl rfl dX0_tell_48 ?_
      refine j_iconst C (nI 1) dX0_tell_51 (by decide) ?_
      refine j_zret C R (by decide) dX0_tell_52 ?_
      first | exact Or.inl ⟨c1, Or.inl ⟨c31, rfl, rfl⟩⟩ | exact Or.inl ⟨c1, Or.inr ⟨c31, rfl, rfl⟩⟩ | exact Or.inr ⟨c1, Or.inl ⟨c31, rfl, rfl⟩⟩ | exact Or.inr ⟨c1, Or.inr ⟨c31, rfl, rfl⟩⟩
    ·
      refine j_iconst C (nI 0) dX0_tell_34 (by decide) ?_
      refine j_zret C R (by decide) dX0_tell_35 ?_
      first | exact Or.inl ⟨c1, Or.inl ⟨c31, rfl, rfl⟩⟩ | exact Or.inl ⟨c1, Or.inr ⟨c31, rfl, rfl⟩⟩ | exact Or.inr ⟨c1, Or.inl ⟨c31, rfl, rfl⟩⟩ | exact Or.inr ⟨c1, Or.inr ⟨c31, rfl, rfl⟩⟩
  ·
    refine j_aload_n C 0 dX0_tell_4 rfl rfl ?_
    refine j_getR C zK0 (zb_Del hG) (zs_Del hG) (f := 1) (by decide) rfl zk_X0_15 rfl (zf_Del_1 hG) dX0_tell_5 ?_
    refine j_goto (tgt := 15) C dX0_tell_8 (by decide) ?_
    refine j_astore_n (lv' := [(3, .ref (G.2.1 (9))), (0, .ref (G.2.1 (7))), (1, .int (nI a)), (2, .int (p1))]) C dX0_tell_15 rfl (by rw [hN]; decide) rfl ?_
    refine j_aload_n C 1 dX0_tell_16 rfl rfl ?_
    refine j_getI C zK0 (zb_Del hG) (zs_Del hG) (f := 2) (by decide) rfl zk_X0_18 rfl (nI md) hmd dX0_tell_17 ?_
    refine j_iload_n C 2 dX0_tell_20 rfl rfl ?_
    refine j_iadd C (nI (md + a)) dX0_tell_21 (nI_add md a) ?_
    refine j_bipush C (nI 63) dX0_tell_22 (by decide) ?_
    refine j_iand C (nI ((md + a) % 64)) dX0_tell_24 (pk_andN (by omega) 6 (by decide)) ?_
    refine j_istore (lv' := [(4, .int (nI ((md + a) % 64))), (3, .ref (G.2.1 (9))), (0, .ref (G.2.1 (7))), (1, .int (nI a)), (2, .int (p1))]) C dX0_tell_25 (by rw [hN]; decide) rfl ?_
    refine j_aload_n C 1 dX0_tell_27 rfl rfl ?_
    refine j_iload C 0 dX0_tell_28 rfl ?_
    refine j_zald C (zb_Tor hG) (zs_Tor hG) (zl_Tor hG) rfl (by omega) (by decide) (tv9) htv9 dX0_tell_30 ?_
    refine j_if_eq (tgt := 36) (a := tv9I) C htv9I dX0_tell_31 (by decide) (fun c31 => ?_) (fun c31 => ?_)
    ·
      refine j_aload_n C 1 dX0_tell_36 rfl rfl ?_
      refine j_iload C 0 dX0_tell_37 rfl ?_
      refine j_iconst C (nI 1) dX0_tell_39 (by decide) ?_
      refine j_zast C hD (zb_Tor hG) (zs_Tor hG) (zl_Tor hG) rfl (by omega) (by decide) (by decide) dX0_tell_40 ?_
      refine j_aload_n C 2 dX0_tell_41 rfl rfl ?_
      refine j_dup C dX0_tell_42 rfl ?_
      refine j_getI C zK0 (zb_Del hG) (zs_Del hG) (f := 5) (by decide) rfl zk_X0_28 rfl (td) ((zu_o (by omega)).trans (htd)) dX0_tell_43 ?_
      refine j_iconst C (nI 1) dX0_tell_46 (by decide) ?_
      refine j_iadd C (td + (nI 1)) dX0_tell_47 rfl ?_
      refine j_putI C hD zK0 (zb_Del hG) (zs_Del hG) (f := 5) (by decide) rfl zk_X0_28 rfl rfl rfl rfl dX0_tell_48 ?_
      refine j_iconst C (nI 1) dX0_tell_51 (by decide) ?_
      refine j_zret C R (by decide) dX0_tell_52 ?_
      first | exact Or.inl ⟨c1, Or.inl ⟨c31, rfl, rfl⟩⟩ | exact Or.inl ⟨c1, Or.inr ⟨c31, rfl, rfl⟩⟩ | exact Or.inr ⟨c1, Or.inl ⟨c31, rfl, rfl⟩⟩ | exact Or.inr ⟨c1, Or.inr ⟨c31, rfl, rfl⟩⟩
    ·
      refine j_iconst C (nI 0) dX0_tell_34 (by decide) ?_
      refine j_zret C R (by decide) dX0_tell_35 ?_
      first | exact Or.inl ⟨c1, Or.inl ⟨c31, rfl, rfl⟩⟩ | exact Or.inl ⟨c1, Or.inr ⟨c31, rfl, rfl⟩⟩ | exact Or.inr ⟨c1, Or.inl ⟨c31, rfl, rfl⟩⟩ | exact Or.inr ⟨c1, Or.inr ⟨c31, rfl, rfl⟩⟩
def tbz (v : Int32) : Int32 := if v.toInt = 0 then 0 else 1
theorem zu_id {Z : ZT} {c f : Nat} {v : Int32} (h : Z c f = v) : zu Z c f v = Z := by
  funext a b
  by_cases hb : a = c ∧ b = f
  · rw [hb.1, hb.2, zu_s, h]
  · simp [zu, hb]
theorem ztk0 {Z : ZT} {c s : Nat} {td tv : Int32} (htd : Z 7 5 = td) (htv : Z c s = tv) (h : tv.toInt = 0) : Z = zu (zu Z c s (nI 0)) 7 5 (td - tbz tv) := by
  have e : tv = nI 0 := Int32.toInt_inj.mp (by rw [h]; rfl)
  have e2 : td - tbz tv = td := by simp [tbz, h]
  have h1 : zu Z c s (nI 0) = Z := zu_id (by rw [htv, e])
  rw [e2, h1, zu_id htd]
set_option maxRecDepth 100000 in
set_option maxHeartbeats 4000000 in
theorem kX0_take8 {l : Launch} {D : va_G} {Y : YT} {b0 : Nat} {G : GT} (hD : GD b0 G) (hG : Gok 113 G) {Z : ZT} {md : Nat} (hmd : Z 7 2 = nI md) (hm9 : md < 2 ^ 20) {td : Int32} (htd : Z 7 5 = td) {tv : Int32} {tvI : Int} (htv : Z 8 (md % 64) = tv) (htvI : tv.toInt = tvI) : CI l D Y b0 G yX0_take cX0_take 3 (some .boolean) 0 [.ref (G.2.1 (7)), .ref (G.2.1 (8))] Z (fun r Z' => Z' = zu (zu Z 8 (md % 64) (nI 0)) 7 5 (td - tbz tv) ∧ (r = nI 1 ∧ tvI ≠ 0 ∨ r = nI 0 ∧ tvI = 0)) := by
  refine ci_start (lv0 := [(0, .ref (G.2.1 (7))), (1, .ref (G.2.1 (8)))]) hD rfl rfl (Nat.le_of_ble_eq_true rfl) rfl ?_
  intro E C R hR hD hN
  refine j_aload_n C 0 dX0_take_0 rfl rfl ?_
  refine j_getI C zK0 (zb_Del hG) (zs_Del hG) (f := 2) (by decide) rfl zk_X0_18 rfl (nI md) hmd dX0_take_1 ?_
  refine j_bipush C (nI 63) dX0_take_4 (by decide) ?_
  refine j_iand C (nI (md % 64)) dX0_take_6 (pk_andN (by omega) 6 (by decide)) ?_
  refine j_istore_n (lv' := [(2, .int (nI (md % 64))), (0, .ref (G.2.1 (7))), (1, .ref (G.2.1 (8)))]) C dX0_take_7 rfl (by rw [hN]; decide) rfl ?_
  refine j_aload_n C 2 dX0_take_8 rfl rfl ?_
  refine j_iload_n C 0 dX0_take_9 rfl rfl ?_
  refine j_zald C (zb_Tol hG) (zs_Tol hG) (zl_Tol hG) rfl (by omega) (by decide) (tv) htv dX0_take_10 ?_
  refine j_if_ne (tgt := 16) (a := tvI) C htvI dX0_take_11 (by decide) (fun c11 => ?_) (fun c11 => ?_)
  ·
    refine j_aload_n C 2 dX0_take_16 rfl rfl ?_
    refine j_iload_n C 0 dX0_take_17 rfl rfl ?_
    refine j_iconst C (nI 0) dX0_take_18 (by decide) ?_
    refine j_zast C hD (zb_Tol hG) (zs_Tol hG) (zl_Tol hG) rfl (by omega) (by decide) (by decide) dX0_take_19 ?_
    refine j_aload_n C 1 dX0_take_20 rfl rfl ?_
    refine j_dup C dX0_take_21 rfl ?_
    refine j_getI C zK0 (zb_Del hG) (zs_Del hG) (f := 5) (by decide) rfl zk_X0_28 rfl (td) ((zu_o (by omega)).trans (htd)) dX0_take_22 ?_
    refine j_iconst C (nI 1) dX0_take_25 (by decide) ?_
    refine j_isub C (td - (nI 1)) dX0_take_26 rfl ?_
    refine j_putI C hD zK0 (zb_Del hG) (zs_Del hG) (f := 5) (by decide) rfl zk_X0_28 rfl rfl rfl rfl dX0_take_27 ?_
    refine j_iconst C (nI 1) dX0_take_30 (by decide) ?_
    refine j_zret C R (by decide) dX0_take_31 ?_
    refine ⟨?_, Or.inl ⟨rfl, c11⟩⟩
    rw [show tbz tv = nI 1 by simp [tbz, htvI, c11]; rfl]
  ·
    refine j_iconst C (nI 0) dX0_take_14 (by decide) ?_
    refine j_zret C R (by decide) dX0_take_15 ?_
    exact ⟨ztk0 htd htv (by omega), Or.inr ⟨rfl, c11⟩⟩
set_option maxRecDepth 100000 in
set_option maxHeartbeats 4000000 in
theorem kX0_take9 {l : Launch} {D : va_G} {Y : YT} {b0 : Nat} {G : GT} (hD : GD b0 G) (hG : Gok 113 G) {Z : ZT} {md : Nat} (hmd : Z 7 2 = nI md) (hm9 : md < 2 ^ 20) {td : Int32} (htd : Z 7 5 = td) {tv : Int32} {tvI : Int} (htv : Z 9 (md % 64) = tv) (htvI : tv.toInt = tvI) : CI l D Y b0 G yX0_take cX0_take 3 (some .boolean) 0 [.ref (G.2.1 (7)), .ref (G.2.1 (9))] Z (fun r Z' => Z' = zu (zu Z 9 (md % 64) (nI 0)) 7 5 (td - tbz tv) ∧ (r = nI 1 ∧ tvI ≠ 0 ∨ r = nI 0 ∧ tvI = 0)) := by
  refine ci_start (lv0 := [(0, .ref (G.2.1 (7))), (1, .ref (G.2.1 (9)))]) hD rfl rfl (Nat.le_of_ble_eq_true rfl) rfl ?_
  intro E C R hR hD hN
  refine j_aload_n C 0 dX0_take_0 rfl rfl ?_
  refine j_getI C zK0 (zb_Del hG) (zs_Del hG) (f := 2) (by decide) rfl zk_X0_18 rfl (nI md) hmd dX0_take_1 ?_
  refine j_bipush C (nI 63) dX0_take_4 (by decide) ?_
  refine j_iand C (nI (md % 64)) dX0_take_6 (pk_andN (by omega) 6 (by decide)) ?_
  refine j_istore_n (lv' := [(2, .int (nI (md % 64))), (0, .ref (G.2.1 (7))), (1, .ref (G.2.1 (9)))]) C dX0_take_7 rfl (by rw [hN]; decide) rfl ?_
  refine j_aload_n C 2 dX0_take_8 rfl rfl ?_
  refine j_iload_n C 0 dX0_take_9 rfl rfl ?_
  refine j_zald C (zb_Tor hG) (zs_Tor hG) (zl_Tor hG) rfl (by omega) (by decide) (tv) htv dX0_take_10 ?_
  refine j_if_ne (tgt := 16) (a := tvI) C htvI dX0_take_11 (by decide) (fun c11 => ?_) (fun c11 => ?_)
  ·
    refine j_aload_n C 2 dX0_take_16 rfl rfl ?_
    refine j_iload_n C 0 dX0_take_17 rfl rfl ?_
    refine j_iconst C (nI 0) dX0_take_18 (by decide) ?_
    refine j_zast C hD (zb_Tor hG) (zs_Tor hG) (zl_Tor hG) rfl (by omega) (by decide) (by decide) dX0_take_19 ?_
    refine j_aload_n C 1 dX0_take_20 rfl rfl ?_
    refine j_dup C dX0_take_21 rfl ?_
    refine j_getI C zK0 (zb_Del hG) (zs_Del hG) (f := 5) (by decide) rfl zk_X0_28 rfl (td) ((zu_o (by omega)).trans (htd)) dX0_take_22 ?_
    refine j_iconst C (nI 1) dX0_take_25 (by decide) ?_
    refine j_isub C (td - (nI 1)) dX0_take_26 rfl ?_
    refine j_putI C hD zK0 (zb_Del hG) (zs_Del hG) (f := 5) (by decide) rfl zk_X0_28 rfl rfl rfl rfl dX0_take_27 ?_
    refine j_iconst C (nI 1) dX0_take_30 (by decide) ?_
    refine j_zret C R (by decide) dX0_take_31 ?_
    refine ⟨?_, Or.inl ⟨rfl, c11⟩⟩
    rw [show tbz tv = nI 1 by simp [tbz, htvI, c11]; rfl]
  ·
    refine j_iconst C (nI 0) dX0_take_14 (by decide) ?_
    refine j_zret C R (by decide) dX0_take_15 ?_
    exact ⟨ztk0 htd htv (by omega), Or.inr ⟨rfl, c11⟩⟩
set_option maxRecDepth 100000 in
set_option maxHeartbeats 4000000 in
theorem kX1_forget {l : Launch} {D : va_G} {Y : YT} {b0 : Nat} {G : GT} (hD : GD b0 G) (hG : Gok 113 G) {Z : ZT}  : CV l D Y b0 G yX1_forget cX1_forget 2 0 [.ref (G.2.1 (3))] Z (fun Z' => Z' = (zu (zu (zfill Z (4) (256) (nI 0)) (3) (3) (nI 0)) (3) (4) (nI 0))) := by
  refine cv_start (lv0 := [(0, .ref (G.2.1 (3)))]) hD rfl (Nat.le_of_ble_eq_true rfl) rfl ?_
  intro E C R hR hD hN
  have L2 : ∀ (n : Nat) (k : Nat), 256 + 1 ≤ k + n → k ≤ 256 → J E 0 0 G 2 [(1, .int (nI k)), (0, .ref (G.2.1 (3)))] [] (zfill Z (4) (k) (nI 0)) := by
    intro n
    induction n with
    | zero => intro k hn hk; exact absurd hn (by omega)
    | succ n ih =>
      intro k hn hk
      refine j_iload_n C 0 dX1_forget_2 rfl rfl ?_
      refine j_sipush C (nI 255) dX1_forget_3 (by decide) ?_
      refine j_icmp_gt (tgt := 22) (a := ((k : Nat) : Int)) (b := ((255 : Nat) : Int)) C (nI_toInt (by omega)) (nI_toInt (by omega)) dX1_forget_6 (by decide) (fun c6 => ?_) (fun c6 => ?_)
      ·
        refine j_aload_n C 1 dX1_forget_22 rfl rfl ?_
        refine j_iconst C (nI 0) dX1_forget_23 (by decide) ?_
        refine j_putI C hD zK1 (zb_Fin hG) (zs_Fin hG) (f := 3) (by decide) rfl zk_X1_22 rfl rfl rfl rfl dX1_forget_24 ?_
        refine j_aload_n C 1 dX1_forget_27 rfl rfl ?_
        refine j_iconst C (nI 0) dX1_forget_28 (by decide) ?_
        refine j_putI C hD zK1 (zb_Fin hG) (zs_Fin hG) (f := 4) (by decide) rfl zk_X1_26 rfl rfl rfl rfl dX1_forget_29 ?_
        refine j_ret C R dX1_forget_32 ?_
        have e9 : k = 256 := by omega
        subst e9
        exact rfl
      ·
        refine j_aload_n C 1 dX1_forget_9 rfl rfl ?_
        refine j_getR C zK1 (zb_Fin hG) (zs_Fin hG) (f := 0) (by decide) rfl zk_X1_9 rfl (zf_Fin_0 hG) dX1_forget_10 ?_
        refine j_iload_n C 0 dX1_forget_13 rfl rfl ?_
        refine j_iconst C (nI 0) dX1_forget_14 (by decide) ?_
        refine j_zast C hD (zb_Giv hG) (zs_Giv hG) (zl_Giv hG) rfl (by omega) (by decide) (by decide) dX1_forget_15 ?_
        refine j_iinc (v := nI (k + 1)) (lv' := [(1, .int (nI (k + 1))), (0, .ref (G.2.1 (3)))]) C 0 dX1_forget_16 rfl (nI_add k 1) (by rw [hN]; decide) rfl ?_
        refine j_goto (tgt := 2) C dX1_forget_19 (by decide) ?_
        refine j_Z (Z' := (zfill Z 4 (k + 1) (nI 0))) zfill_s ?_
        exact ih (k + 1) (by omega) (by omega)
  refine j_iconst C (nI 0) dX1_forget_0 (by decide) ?_
  refine j_istore_n (lv' := [(1, .int (nI 0)), (0, .ref (G.2.1 (3)))]) C dX1_forget_1 rfl (by rw [hN]; decide) rfl ?_
  refine j_Z (Z' := (zfill Z 4 0 (nI 0))) (zfill_0).symm ?_
  exact L2 257 0 (by omega) (by omega)
set_option maxRecDepth 100000 in
set_option maxHeartbeats 4000000 in
theorem kX1_copyFromM {l : Launch} {D : va_G} {Y : YT} {b0 : Nat} {G : GT} (hD : GD b0 G) (hG : Gok 113 G) {Z : ZT} {j : Nat} (hj : j < 6) {gc ac : Int32} (hgc : Z 3 3 = gc) (hac : Z 3 4 = ac) (hz : ∀ b, b < 256 → Z 4 b = 0 ∨ Z 4 b = 1) : CV l D Y b0 G yX1_copyFrom cX1_copyFrom 2 2 [.ref (G.2.1 (64 + 9 * j)), .ref (G.2.1 (3))] Z (fun Z' => Z' = (zu (zu (zcpy (zcpy (zcpy Z (4) (65 + 9 * j) (256)) (5) (66 + 9 * j) (100)) (6) (67 + 9 * j) (100)) (64 + 9 * j) (3) (gc)) (64 + 9 * j) (4) (ac))) := by
  refine cv_start (lv0 := [(0, .ref (G.2.1 (64 + 9 * j))), (1, .ref (G.2.1 (3)))]) hD rfl (Nat.le_of_ble_eq_true rfl) rfl ?_
  intro E C R hR hD hN
  refine j_aload_n C 1 dX1_copyFrom_0 rfl rfl ?_
  refine j_getR C zK1 (zb_Fin hG) (zs_Fin hG) (f := 0) (by decide) rfl zk_X1_9 rfl (zf_Fin_0 hG) dX1_copyFrom_1 ?_
  refine j_iconst C (nI 0) dX1_copyFrom_4 (by decide) ?_
  refine j_aload_n C 0 dX1_copyFrom_5 rfl rfl ?_
  refine j_getR C zK1 (zb_Mfi hG hj) (zs_Mfi hG hj) (f := 0) (by decide) rfl zk_X1_9 rfl (zf_Mfi_0 hG hj) dX1_copyFrom_6 ?_
  refine j_iconst C (nI 0) dX1_copyFrom_9 (by decide) ?_
  refine j_sipush C (nI 256) dX1_copyFrom_10 (by decide) ?_
  refine j_copyZ C hD hR (zb_Giv hG) (zs_Giv hG) (zl_Giv hG) (zb_Mgi hG hj) (zs_Mgi hG hj) (zl_Mgi hG hj) (by omega) (by omega) (by decide) (by decide) hz zk_X1_29 (Nat.le_of_ble_eq_true rfl) dX1_copyFrom_13 ?_
  refine j_aload_n C 1 dX1_copyFrom_16 rfl rfl ?_
  refine j_getR C zK1 (zb_Fin hG) (zs_Fin hG) (f := 1) (by decide) rfl zk_X1_15 rfl (zf_Fin_1 hG) dX1_copyFrom_17 ?_
  refine j_iconst C (nI 0) dX1_copyFrom_20 (by decide) ?_
  refine j_aload_n C 0 dX1_copyFrom_21 rfl rfl ?_
  refine j_getR C zK1 (zb_Mfi hG hj) (zs_Mfi hG hj) (f := 1) (by decide) rfl zk_X1_15 rfl (zf_Mfi_1 hG hj) dX1_copyFrom_22 ?_
  refine j_iconst C (nI 0) dX1_copyFrom_25 (by decide) ?_
  refine j_bipush C (nI 100) dX1_copyFrom_26 (by decide) ?_
  refine j_copyI C hD hR (zb_Asp hG) (zs_Asp hG) (zl_Asp hG) (zb_Mas hG hj) (zs_Mas hG hj) (zl_Mas hG hj) (by omega) (by omega) (by decide) (by decide) zk_X1_29 (Nat.le_of_ble_eq_true rfl) dX1_copyFrom_28 ?_
  refine j_aload_n C 1 dX1_copyFrom_31 rfl rfl ?_
  refine j_getR C zK1 (zb_Fin hG) (zs_Fin hG) (f := 2) (by decide) rfl zk_X1_19 rfl (zf_Fin_2 hG) dX1_copyFrom_32 ?_
  refine j_iconst C (nI 0) dX1_copyFrom_35 (by decide) ?_
  refine j_aload_n C 0 dX1_copyFrom_36 rfl rfl ?_
  refine j_getR C zK1 (zb_Mfi hG hj) (zs_Mfi hG hj) (f := 2) (by decide) rfl zk_X1_19 rfl (zf_Mfi_2 hG hj) dX1_copyFrom_37 ?_
  refine j_iconst C (nI 0) dX1_copyFrom_40 (by decide) ?_
  refine j_bipush C (nI 100) dX1_copyFrom_41 (by decide) ?_
  refine j_copyI C hD hR (zb_Asq hG) (zs_Asq hG) (zl_Asq hG) (zb_Mat hG hj) (zs_Mat hG hj) (zl_Mat hG hj) (by omega) (by omega) (by decide) (by decide) zk_X1_29 (Nat.le_of_ble_eq_true rfl) dX1_copyFrom_43 ?_
  refine j_aload_n C 0 dX1_copyFrom_46 rfl rfl ?_
  refine j_aload_n C 1 dX1_copyFrom_47 rfl rfl ?_
  refine j_getI C zK1 (zb_Fin hG) (zs_Fin hG) (f := 3) (by decide) rfl zk_X1_22 rfl (gc) ((zcpy_o (by omega)).trans ((zcpy_o (by omega)).trans ((zcpy_o (by omega)).trans (hgc)))) dX1_copyFrom_48 ?_
  refine j_putI C hD zK1 (zb_Mfi hG hj) (zs_Mfi hG hj) (f := 3) (by decide) rfl zk_X1_22 rfl rfl rfl rfl dX1_copyFrom_51 ?_
  refine j_aload_n C 0 dX1_copyFrom_54 rfl rfl ?_
  refine j_aload_n C 1 dX1_copyFrom_55 rfl rfl ?_
  refine j_getI C zK1 (zb_Fin hG) (zs_Fin hG) (f := 4) (by decide) rfl zk_X1_26 rfl (ac) ((zu_o (by omega)).trans ((zcpy_o (by omega)).trans ((zcpy_o (by omega)).trans ((zcpy_o (by omega)).trans (hac))))) dX1_copyFrom_56 ?_
  refine j_putI C hD zK1 (zb_Mfi hG hj) (zs_Mfi hG hj) (f := 4) (by decide) rfl zk_X1_26 rfl rfl rfl rfl dX1_copyFrom_59 ?_
  refine j_ret C R dX1_copyFrom_62 ?_
  exact rfl
set_option maxRecDepth 100000 in
set_option maxHeartbeats 4000000 in
theorem kX1_copyFromX {l : Launch} {D : va_G} {Y : YT} {b0 : Nat} {G : GT} (hD : GD b0 G) (hG : Gok 113 G) {Z : ZT} {j : Nat} (hj : j < 6) {gc ac : Int32} (hgc : Z (64 + 9 * j) 3 = gc) (hac : Z (64 + 9 * j) 4 = ac) (hz : ∀ b, b < 256 → Z (65 + 9 * j) b = 0 ∨ Z (65 + 9 * j) b = 1) : CV l D Y b0 G yX1_copyFrom cX1_copyFrom 2 2 [.ref (G.2.1 (3)), .ref (G.2.1 (64 + 9 * j))] Z (fun Z' => Z' = (zu (zu (zcpy (zcpy (zcpy Z (65 + 9 * j) (4) (256)) (66 + 9 * j) (5) (100)) (67 + 9 * j) (6) (100)) (3) (3) (gc)) (3) (4) (ac))) := by
  refine cv_start (lv0 := [(0, .ref (G.2.1 (3))), (1, .ref (G.2.1 (64 + 9 * j)))]) hD rfl (Nat.le_of_ble_eq_true rfl) rfl ?_
  intro E C R hR hD hN
  refine j_aload_n C 1 dX1_copyFrom_0 rfl rfl ?_
  refine j_getR C zK1 (zb_Mfi hG hj) (zs_Mfi hG hj) (f := 0) (by decide) rfl zk_X1_9 rfl (zf_Mfi_0 hG hj) dX1_copyFrom_1 ?_
  refine j_iconst C (nI 0) dX1_copyFrom_4 (by decide) ?_
  refine j_aload_n C 0 dX1_copyFrom_5 rfl rfl ?_
  refine j_getR C zK1 (zb_Fin hG) (zs_Fin hG) (f := 0) (by decide) rfl zk_X1_9 rfl (zf_Fin_0 hG) dX1_copyFrom_6 ?_
  refine j_iconst C (nI 0) dX1_copyFrom_9 (by decide) ?_
  refine j_sipush C (nI 256) dX1_copyFrom_10 (by decide) ?_
  refine j_copyZ C hD hR (zb_Mgi hG hj) (zs_Mgi hG hj) (zl_Mgi hG hj) (zb_Giv hG) (zs_Giv hG) (zl_Giv hG) (by omega) (by omega) (by decide) (by decide) hz zk_X1_29 (Nat.le_of_ble_eq_true rfl) dX1_copyFrom_13 ?_
  refine j_aload_n C 1 dX1_copyFrom_16 rfl rfl ?_
  refine j_getR C zK1 (zb_Mfi hG hj) (zs_Mfi hG hj) (f := 1) (by decide) rfl zk_X1_15 rfl (zf_Mfi_1 hG hj) dX1_copyFrom_17 ?_
  refine j_iconst C (nI 0) dX1_copyFrom_20 (by decide) ?_
  refine j_aload_n C 0 dX1_copyFrom_21 rfl rfl ?_
  refine j_getR C zK1 (zb_Fin hG) (zs_Fin hG) (f := 1) (by decide) rfl zk_X1_15 rfl (zf_Fin_1 hG) dX1_copyFrom_22 ?_
  refine j_iconst C (nI 0) dX1_copyFrom_25 (by decide) ?_
  refine j_bipush C (nI 100) dX1_copyFrom_26 (by decide) ?_
  refine j_copyI C hD hR (zb_Mas hG hj) (zs_Mas hG hj) (zl_Mas hG hj) (zb_Asp hG) (zs_Asp hG) (zl_Asp hG) (by omega) (by omega) (by decide) (by decide) zk_X1_29 (Nat.le_of_ble_eq_true rfl) dX1_copyFrom_28 ?_
  refine j_aload_n C 1 dX1_copyFrom_31 rfl rfl ?_
  refine j_getR C zK1 (zb_Mfi hG hj) (zs_Mfi hG hj) (f := 2) (by decide) rfl zk_X1_19 rfl (zf_Mfi_2 hG hj) dX1_copyFrom_32 ?_
  refine j_iconst C (nI 0) dX1_copyFrom_35 (by decide) ?_
  refine j_aload_n C 0 dX1_copyFrom_36 rfl rfl ?_
  refine j_getR C zK1 (zb_Fin hG) (zs_Fin hG) (f := 2) (by decide) rfl zk_X1_19 rfl (zf_Fin_2 hG) dX1_copyFrom_37 ?_
  refine j_iconst C (nI 0) dX1_copyFrom_40 (by decide) ?_
  refine j_bipush C (nI 100) dX1_copyFrom_41 (by decide) ?_
  refine j_copyI C hD hR (zb_Mat hG hj) (zs_Mat hG hj) (zl_Mat hG hj) (zb_Asq hG) (zs_Asq hG) (zl_Asq hG) (by omega) (by omega) (by decide) (by decide) zk_X1_29 (Nat.le_of_ble_eq_true rfl) dX1_copyFrom_43 ?_
  refine j_aload_n C 0 dX1_copyFrom_46 rfl rfl ?_
  refine j_aload_n C 1 dX1_copyFrom_47 rfl rfl ?_
  refine j_getI C zK1 (zb_Mfi hG hj) (zs_Mfi hG hj) (f := 3) (by decide) rfl zk_X1_22 rfl (gc) ((zcpy_o (by omega)).trans ((zcpy_o (by omega)).trans ((zcpy_o (by omega)).trans (hgc)))) dX1_copyFrom_48 ?_
  refine j_putI C hD zK1 (zb_Fin hG) (zs_Fin hG) (f := 3) (by decide) rfl zk_X1_22 rfl rfl rfl rfl dX1_copyFrom_51 ?_
  refine j_aload_n C 0 dX1_copyFrom_54 rfl rfl ?_
  refine j_aload_n C 1 dX1_copyFrom_55 rfl rfl ?_
  refine j_getI C zK1 (zb_Mfi hG hj) (zs_Mfi hG hj) (f := 4) (by decide) rfl zk_X1_26 rfl (ac) ((zu_o (by omega)).trans ((zcpy_o (by omega)).trans ((zcpy_o (by omega)).trans ((zcpy_o (by omega)).trans (hac))))) dX1_copyFrom_56 ?_
  refine j_putI C hD zK1 (zb_Fin hG) (zs_Fin hG) (f := 4) (by decide) rfl zk_X1_26 rfl rfl rfl rfl dX1_copyFrom_59 ?_
  refine j_ret C R dX1_copyFrom_62 ?_
  exact rfl
set_option maxRecDepth 100000 in
set_option maxHeartbeats 4000000 in
theorem kX1_addGiven {l : Launch} {D : va_G} {Y : YT} {b0 : Nat} {G : GT} (hD : GD b0 G) (hG : Gok 113 G) {Z : ZT} {a : Nat} (ha : a < 256) {gc : Int32} (hgc : Z 3 3 = gc) : CV l D Y b0 G yX1_addGiven cX1_addGiven 2 0 [.ref (G.2.1 (3)), .int (nI a)] Z (fun Z' => Z' = zu (zu Z 4 a (nI 1)) 3 3 (gc + nI 1)) := by
  refine cv_start (lv0 := [(0, .ref (G.2.1 (3))), (1, .int (nI a))]) hD rfl (Nat.le_of_ble_eq_true rfl) rfl ?_
  intro E C R hR hD hN
  refine j_aload_n C 0 dX1_addGiven_0 rfl rfl ?_
  refine j_getR C zK1 (zb_Fin hG) (zs_Fin hG) (f := 0) (by decide) rfl zk_X1_9 rfl (zf_Fin_0 hG) dX1_addGiven_1 ?_
  refine j_iload_n C 1 dX1_addGiven_4 rfl rfl ?_
  refine j_iconst C (nI 1) dX1_addGiven_5 (by decide) ?_
  refine j_zast C hD (zb_Giv hG) (zs_Giv hG) (zl_Giv hG) rfl (by omega) (by decide) (by decide) dX1_addGiven_6 ?_
  refine j_aload_n C 0 dX1_addGiven_7 rfl rfl ?_
  refine j_dup C dX1_addGiven_8 rfl ?_
  refine j_getI C zK1 (zb_Fin hG) (zs_Fin hG) (f := 3) (by decide) rfl zk_X1_22 rfl (gc) ((zu_o (by omega)).trans (hgc)) dX1_addGiven_9 ?_
  refine j_iconst C (nI 1) dX1_addGiven_12 (by decide) ?_
  refine j_iadd C (gc + (nI 1)) dX1_addGiven_13 rfl ?_
  refine j_putI C hD zK1 (zb_Fin hG) (zs_Fin hG) (f := 3) (by decide) rfl zk_X1_22 rfl rfl rfl rfl dX1_addGiven_14 ?_
  refine j_ret C R dX1_addGiven_17 ?_
  exact rfl
set_option maxRecDepth 100000 in
set_option maxHeartbeats 4000000 in
theorem kX1_setAside {l : Launch} {D : va_G} {Y : YT} {b0 : Nat} {G : GT} (hD : GD b0 G) (hG : Gok 113 G) {Z : ZT} {ac : Nat} (hac : Z 3 4 = nI ac) (hac100 : ac ≤ 100) (p0 p1 : Int32) : CV l D Y b0 G yX1_setAside cX1_setAside 3 0 [.ref (G.2.1 (3)), .int (p0), .int (p1)] Z (fun Z' => (ac < 100 ∧ Z' = (zu (zu (zu Z (5) (ac) (p0)) (6) (ac) (p1)) (3) (4) (nI (ac + 1)))) ∨ (100 ≤ ac ∧ Z' = Z)) := by
  refine cv_start (lv0 := [(0, .ref (G.2.1 (3))), (1, .int (p0)), (2, .int (p1))]) hD rfl (Nat.le_of_ble_eq_true rfl) rfl ?_
  intro E C R hR hD hN
  refine j_aload_n C 0 dX1_setAside_0 rfl rfl ?_
  refine j_getI C zK1 (zb_Fin hG) (zs_Fin hG) (f := 4) (by decide) rfl zk_X1_26 rfl (nI ac) hac dX1_setAside_1 ?_
  refine j_bipush C (nI 100) dX1_setAside_4 (by decide) ?_
  refine j_icmp_ge (tgt := 39) (a := ((ac : Nat) : Int)) (b := ((100 : Nat) : Int)) C (nI_toInt (by omega)) (nI_toInt (by omega)) dX1_setAside_6 (by decide) (fun c6 => ?_) (fun c6 => ?_)
  ·
    refine j_ret C R dX1_setAside_39 ?_
    first | exact Or.inl ⟨by omega, rfl⟩ | exact Or.inr ⟨by omega, rfl⟩
  ·
    refine j_aload_n C 0 dX1_setAside_9 rfl rfl ?_
    refine j_getR C zK1 (zb_Fin hG) (zs_Fin hG) (f := 1) (by decide) rfl zk_X1_15 rfl (zf_Fin_1 hG) dX1_setAside_10 ?_
    refine j_aload_n C 0 dX1_setAside_13 rfl rfl ?_
    refine j_getI C zK1 (zb_Fin hG) (zs_Fin hG) (f := 4) (by decide) rfl zk_X1_26 rfl (nI ac) hac dX1_setAside_14 ?_
    refine j_iload_n C 1 dX1_setAside_17 rfl rfl ?_
    refine j_iast C hD (zb_Asp hG) (zs_Asp hG) (zl_Asp hG) rfl (by omega) (by decide) dX1_setAside_18 ?_
    refine j_aload_n C 0 dX1_setAside_19 rfl rfl ?_
    refine j_getR C zK1 (zb_Fin hG) (zs_Fin hG) (f := 2) (by decide) rfl zk_X1_19 rfl (zf_Fin_2 hG) dX1_setAside_20 ?_
    refine j_aload_n C 0 dX1_setAside_23 rfl rfl ?_
    refine j_getI C zK1 (zb_Fin hG) (zs_Fin hG) (f := 4) (by decide) rfl zk_X1_26 rfl (nI ac) ((zu_o (by omega)).trans (hac)) dX1_setAside_24 ?_
    refine j_iload_n C 2 dX1_setAside_27 rfl rfl ?_
    refine j_iast C hD (zb_Asq hG) (zs_Asq hG) (zl_Asq hG) rfl (by omega) (by decide) dX1_setAside_28 ?_
    refine j_aload_n C 0 dX1_setAside_29 rfl rfl ?_
    refine j_dup C dX1_setAside_30 rfl ?_
    refine j_getI C zK1 (zb_Fin hG) (zs_Fin hG) (f := 4) (by decide) rfl zk_X1_26 rfl (nI ac) ((zu_o (by omega)).trans ((zu_o (by omega)).trans (hac))) dX1_setAside_31 ?_
    refine j_iconst C (nI 1) dX1_setAside_34 (by decide) ?_
    refine j_iadd C (nI (ac + 1)) dX1_setAside_35 (nI_add ac 1) ?_
    refine j_putI C hD zK1 (zb_Fin hG) (zs_Fin hG) (f := 4) (by decide) rfl zk_X1_26 rfl rfl rfl rfl dX1_setAside_36 ?_
    refine j_ret C R dX1_setAside_39 ?_
    first | exact Or.inl ⟨by omega, rfl⟩ | exact Or.inr ⟨by omega, rfl⟩
set_option maxRecDepth 100000 in
set_option maxHeartbeats 4000000 in
theorem kX2_keep {l : Launch} {D : va_G} {Y : YT} {b0 : Nat} {G : GT} (hD : GD b0 G) (hG : Gok 113 G) {Z : ZT} {m np : Nat} (hm : m < 6) (hnp : np ≤ 12) (hz : ∀ b, b < 256 → Z 4 b = 0 ∨ Z 4 b = 1) : CV l D Y b0 G yX2_keep cX2_keep 5 3 [.ref (G.2.1 (59 + 9 * m)), .ref (G.2.1 (1)), .int (nI np), .ref (G.2.1 (3))] Z (fun Z' => Z' = (zu (zu (zcpy (zcpy (zcpy (zkp (zu Z (59 + 9 * m) (5) (nI np)) m (np)) (4) (65 + 9 * m) (256)) (5) (66 + 9 * m) (100)) (6) (67 + 9 * m) (100)) (64 + 9 * m) (3) (Z 3 3)) (64 + 9 * m) (4) (Z 3 4))) := by
  refine cv_start (lv0 := [(0, .ref (G.2.1 (59 + 9 * m))), (1, .ref (G.2.1 (1))), (2, .int (nI np)), (3, .ref (G.2.1 (3)))]) hD rfl (Nat.le_of_ble_eq_true rfl) rfl ?_
  intro E C R hR hD hN
  have L13 : ∀ (n : Nat) (k : Nat), np + 1 ≤ k + n → k ≤ np → J E 0 0 G 13 [(4, .int (nI k)), (0, .ref (G.2.1 (59 + 9 * m))), (1, .ref (G.2.1 (1))), (2, .int (nI np)), (3, .ref (G.2.1 (3)))] [] (zkp (zu Z (59 + 9 * m) (5) (nI np)) m (k)) := by
    intro n
    induction n with
    | zero => intro k hn hk; exact absurd hn (by omega)
    | succ n ih =>
      intro k hn hk
      refine j_iload C 0 dX2_keep_13 rfl ?_
      refine j_aload_n C 1 dX2_keep_15 rfl rfl ?_
      refine j_getI C zK2 (zb_Mark hG hm) (zs_Mark hG hm) (f := 5) (by decide) rfl zk_X2_37 rfl (nI np) ((zkp_o (by omega)).trans (zu_s)) dX2_keep_16 ?_
      refine j_icmp_ge (tgt := 84) (a := ((k : Nat) : Int)) (b := ((np : Nat) : Int)) C (nI_toInt (by omega)) (nI_toInt (by omega)) dX2_keep_19 (by decide) (fun c19 => ?_) (fun c19 => ?_)
      ·
        have e9 : k = np := by omega
        refine j_Z (Z' := (zkp (zu Z (59 + 9 * m) (5) (nI np)) m (np))) (by rw [e9]) ?_
        refine j_aload_n C 1 dX2_keep_84 rfl rfl ?_
        refine j_getR C zK2 (zb_Mark hG hm) (zs_Mark hG hm) (f := 4) (by decide) rfl zk_X2_27 rfl (zf_Mark_4 hG hm) dX2_keep_85 ?_
        refine j_aload_n C 4 dX2_keep_88 rfl rfl ?_
        refine j_callVN C hR (kX1_copyFromM hD hG hm (gc := Z 3 3) (ac := Z 3 4) ((zkp_o (by omega)).trans ((zu_o (by omega)))) ((zkp_o (by omega)).trans ((zu_o (by omega)))) (fun b hb => by rw [zkp_o (by omega), zu_o (by omega)]; exact hz b hb)) [] zmX1_copyFrom zk_X2_55 zK1 (zb_Mfi hG hm) (zs_Mfi hG hm) (by decide) rfl rfl (Nat.le_of_ble_eq_true rfl) dX2_keep_89 (fun Z89 h89 => ?_)
        refine j_Z (Z' := (zu (zu (zcpy (zcpy (zcpy (zkp (zu Z (59 + 9 * m) (5) (nI np)) m (np)) (4) (65 + 9 * m) (256)) (5) (66 + 9 * m) (100)) (6) (67 + 9 * m) (100)) (64 + 9 * m) (3) (Z 3 3)) (64 + 9 * m) (4) (Z 3 4))) h89 ?_
        refine j_ret C R dX2_keep_92 ?_
        exact rfl
      ·
        refine j_aload_n C 1 dX2_keep_22 rfl rfl ?_
        refine j_getR C zK2 (zb_Mark hG hm) (zs_Mark hG hm) (f := 0) (by decide) rfl zk_X2_9 rfl (zf_Mark_0 hG hm) dX2_keep_23 ?_
        refine j_iload C 0 dX2_keep_26 rfl ?_
        refine j_aload_n C 2 dX2_keep_28 rfl rfl ?_
        refine j_iload C 0 dX2_keep_29 rfl ?_
        refine j_aldP C (zb_Pts hG) (zs_Pts hG) (zl_Pts hG) rfl (by omega) (by decide) (zf_Pts hG (by omega)) dX2_keep_31 ?_
        refine j_getIN C zK3 (zb_Part hG (by omega)) (zs_Part hG (by omega)) (f := 5) (by decide) rfl zk_X2_41 rfl (Z (11 + 4 * k) (5)) ((zkp_o (by omega)).trans ((zu_o (by omega)))) dX2_keep_32 ?_
        refine j_iast C hD (zb_Mpo hG hm) (zs_Mpo hG hm) (zl_Mpo hG hm) rfl (by omega) (by decide) dX2_keep_35 ?_
        refine j_aload_n C 1 dX2_keep_36 rfl rfl ?_
        refine j_getR C zK2 (zb_Mark hG hm) (zs_Mark hG hm) (f := 1) (by decide) rfl zk_X2_15 rfl (zf_Mark_1 hG hm) dX2_keep_37 ?_
        refine j_iload C 0 dX2_keep_40 rfl ?_
        refine j_aload_n C 2 dX2_keep_42 rfl rfl ?_
        refine j_iload C 0 dX2_keep_43 rfl ?_
        refine j_aldP C (zb_Pts hG) (zs_Pts hG) (zl_Pts hG) rfl (by omega) (by decide) (zf_Pts hG (by omega)) dX2_keep_45 ?_
        refine j_getIN C zK3 (zb_Part hG (by omega)) (zs_Part hG (by omega)) (f := 6) (by decide) rfl zk_X2_46 rfl (Z (11 + 4 * k) (6)) ((zu_o (by omega)).trans ((zkp_o (by omega)).trans ((zu_o (by omega))))) dX2_keep_46 ?_
        refine j_iast C hD (zb_Mwa hG hm) (zs_Mwa hG hm) (zl_Mwa hG hm) rfl (by omega) (by decide) dX2_keep_49 ?_
        refine j_aload_n C 1 dX2_keep_50 rfl rfl ?_
        refine j_getR C zK2 (zb_Mark hG hm) (zs_Mark hG hm) (f := 2) (by decide) rfl zk_X2_18 rfl (zf_Mark_2 hG hm) dX2_keep_51 ?_
        refine j_iload C 0 dX2_keep_54 rfl ?_
        refine j_aload_n C 2 dX2_keep_56 rfl rfl ?_
        refine j_iload C 0 dX2_keep_57 rfl ?_
        refine j_aldP C (zb_Pts hG) (zs_Pts hG) (zl_Pts hG) rfl (by omega) (by decide) (zf_Pts hG (by omega)) dX2_keep_59 ?_
        refine j_getIN C zK3 (zb_Part hG (by omega)) (zs_Part hG (by omega)) (f := 7) (by decide) rfl zk_X2_49 rfl (Z (11 + 4 * k) (7)) ((zu_o (by omega)).trans ((zu_o (by omega)).trans ((zkp_o (by omega)).trans ((zu_o (by omega)))))) dX2_keep_60 ?_
        refine j_iast C hD (zb_Mcr hG hm) (zs_Mcr hG hm) (zl_Mcr hG hm) rfl (by omega) (by decide) dX2_keep_63 ?_
        refine j_aload_n C 1 dX2_keep_64 rfl rfl ?_
        refine j_getR C zK2 (zb_Mark hG hm) (zs_Mark hG hm) (f := 3) (by decide) rfl zk_X2_21 rfl (zf_Mark_3 hG hm) dX2_keep_65 ?_
        refine j_iload C 0 dX2_keep_68 rfl ?_
        refine j_aload_n C 2 dX2_keep_70 rfl rfl ?_
        refine j_iload C 0 dX2_keep_71 rfl ?_
        refine j_aldP C (zb_Pts hG) (zs_Pts hG) (zl_Pts hG) rfl (by omega) (by decide) (zf_Pts hG (by omega)) dX2_keep_73 ?_
        refine j_getIN C zK3 (zb_Part hG (by omega)) (zs_Part hG (by omega)) (f := 9) (by decide) rfl zk_X2_52 rfl (Z (11 + 4 * k) (9)) ((zu_o (by omega)).trans ((zu_o (by omega)).trans ((zu_o (by omega)).trans ((zkp_o (by omega)).trans ((zu_o (by omega))))))) dX2_keep_74 ?_
        refine j_iast C hD (zb_Mre hG hm) (zs_Mre hG hm) (zl_Mre hG hm) rfl (by omega) (by decide) dX2_keep_77 ?_
        refine j_iinc (v := nI (k + 1)) (lv' := [(4, .int (nI (k + 1))), (0, .ref (G.2.1 (59 + 9 * m))), (1, .ref (G.2.1 (1))), (2, .int (nI np)), (3, .ref (G.2.1 (3)))]) C 0 dX2_keep_78 rfl (nI_add k 1) (by rw [hN]; decide) rfl ?_
        refine j_goto (tgt := 13) C dX2_keep_81 (by decide) ?_
        refine j_Z (Z' := (zkp (zu Z (59 + 9 * m) 5 (nI np)) m (k + 1))) (by rw [← zkp_s, zu_o (by omega), zu_o (by omega), zu_o (by omega), zu_o (by omega)]) ?_
        exact ih (k + 1) (by omega) (by omega)
  refine j_aload_n C 0 dX2_keep_0 rfl rfl ?_
  refine j_iload_n C 2 dX2_keep_1 rfl rfl ?_
  refine j_bipush C (nI 12) dX2_keep_2 (by decide) ?_
  refine j_min C (hR) (nI np) zk_X2_31 dX2_keep_4 (Nat.le_of_ble_eq_true rfl) rfl rfl (if_neg (nI_nlt (by omega) (by omega))) ?_
  refine j_putI C hD zK2 (zb_Mark hG hm) (zs_Mark hG hm) (f := 5) (by decide) rfl zk_X2_37 rfl rfl rfl rfl dX2_keep_7 ?_
  refine j_iconst C (nI 0) dX2_keep_10 (by decide) ?_
  refine j_istore (lv' := [(4, .int (nI 0)), (0, .ref (G.2.1 (59 + 9 * m))), (1, .ref (G.2.1 (1))), (2, .int (nI np)), (3, .ref (G.2.1 (3)))]) C dX2_keep_11 (by rw [hN]; decide) rfl ?_
  refine j_Z (Z' := (zkp (zu Z (59 + 9 * m) 5 (nI np)) m 0)) (zkp_0).symm ?_
  exact L13 (np + 1) 0 (by omega) (by omega)
set_option maxRecDepth 100000 in
set_option maxHeartbeats 4000000 in
theorem kX2_bringBack {l : Launch} {D : va_G} {Y : YT} {b0 : Nat} {G : GT} (hD : GD b0 G) (hG : Gok 113 G) {Z : ZT} {m i kp : Nat} (hm : m < 6) (hi : i < 12) (hkp : Z (59 + 9 * m) 5 = nI kp) (hkp12 : kp ≤ 12) {po wa cr re : Int32} {reI : Int} (hpo : Z (60 + 9 * m) i = po) (hwa : Z (61 + 9 * m) i = wa) (hcr : Z (62 + 9 * m) i = cr) (hre : Z (63 + 9 * m) i = re) (hreI : re.toInt = reI) {nt : Int32} {ntI : Int} (hntI : nt.toInt = ntI) : CV l D Y b0 G yX2_bringBack cX2_bringBack 4 1 [.ref (G.2.1 (59 + 9 * m)), .int (nI i), .ref (G.2.1 (11 + 4 * i)), .int (nt)] Z (fun Z' => (kp ≤ i ∧ Z' = (zu (zu (zu (zu Z (11 + 4 * i) (5) (nI 0)) (11 + 4 * i) (6) (-1)) (11 + 4 * i) (7) (nI 0)) (11 + 4 * i) (9) (-1))) ∨ (i < kp ∧ reI < ntI ∧ Z' = (zu (zu (zu (zu Z (11 + 4 * i) (5) (po)) (11 + 4 * i) (6) (wa)) (11 + 4 * i) (7) (cr)) (11 + 4 * i) (9) (re))) ∨ (i < kp ∧ ntI ≤ reI ∧ Z' = (zu (zu (zu (zu Z (11 + 4 * i) (5) (po)) (11 + 4 * i) (6) (wa)) (11 + 4 * i) (7) (cr)) (11 + 4 * i) (9) (-1)))) := by
  refine cv_start (lv0 := [(0, .ref (G.2.1 (59 + 9 * m))), (1, .int (nI i)), (2, .ref (G.2.1 (11 + 4 * i))), (3, .int (nt))]) hD rfl (Nat.le_of_ble_eq_true rfl) rfl ?_
  intro E C R hR hD hN
  refine j_iload_n C 1 dX2_bringBack_0 rfl rfl ?_
  refine j_if_lt (tgt := 12) (a := ((i : Nat) : Int)) C (nI_toInt (by omega)) dX2_bringBack_1 (by decide) (fun c1 => absurd c1 (by omega)) (fun c1 => ?_)
  refine j_iload_n C 1 dX2_bringBack_4 rfl rfl ?_
  refine j_aload_n C 0 dX2_bringBack_5 rfl rfl ?_
  refine j_getI C zK2 (zb_Mark hG hm) (zs_Mark hG hm) (f := 5) (by decide) rfl zk_X2_37 rfl (nI kp) hkp dX2_bringBack_6 ?_
  refine j_icmp_lt (tgt := 25) (a := ((i : Nat) : Int)) (b := ((kp : Nat) : Int)) C (nI_toInt (by omega)) (nI_toInt (by omega)) dX2_bringBack_9 (by decide) (fun c9 => ?_) (fun c9 => ?_)
  ·
    refine j_aload_n C 2 dX2_bringBack_25 rfl rfl ?_
    refine j_aload_n C 0 dX2_bringBack_26 rfl rfl ?_
    refine j_getR C zK2 (zb_Mark hG hm) (zs_Mark hG hm) (f := 0) (by decide) rfl zk_X2_9 rfl (zf_Mark_0 hG hm) dX2_bringBack_27 ?_
    refine j_iload_n C 1 dX2_bringBack_30 rfl rfl ?_
    refine j_iald C (zb_Mpo hG hm) (zs_Mpo hG hm) (zl_Mpo hG hm) rfl (by omega) (by decide) (po) hpo dX2_bringBack_31 ?_
    refine j_aload_n C 0 dX2_bringBack_32 rfl rfl ?_
    refine j_getR C zK2 (zb_Mark hG hm) (zs_Mark hG hm) (f := 1) (by decide) rfl zk_X2_15 rfl (zf_Mark_1 hG hm) dX2_bringBack_33 ?_
    refine j_iload_n C 1 dX2_bringBack_36 rfl rfl ?_
    refine j_iald C (zb_Mwa hG hm) (zs_Mwa hG hm) (zl_Mwa hG hm) rfl (by omega) (by decide) (wa) hwa dX2_bringBack_37 ?_
    refine j_aload_n C 0 dX2_bringBack_38 rfl rfl ?_
    refine j_getR C zK2 (zb_Mark hG hm) (zs_Mark hG hm) (f := 2) (by decide) rfl zk_X2_18 rfl (zf_Mark_2 hG hm) dX2_bringBack_39 ?_
    refine j_iload_n C 1 dX2_bringBack_42 rfl rfl ?_
    refine j_iald C (zb_Mcr hG hm) (zs_Mcr hG hm) (zl_Mcr hG hm) rfl (by omega) (by decide) (cr) hcr dX2_bringBack_43 ?_
    refine j_callVN C hR (kX3_stand hD hG (i := i)  hi (po) (wa) (cr)) [] zmX3_stand zk_X2_59 zK3 (zb_Part hG hi) (zs_Part hG hi) (by decide) rfl rfl (Nat.le_of_ble_eq_true rfl) dX2_bringBack_44 (fun Z44 h44 => ?_)
    refine j_Z (Z' := (zu (zu (zu Z (11 + 4 * i) (5) (po)) (11 + 4 * i) (6) (wa)) (11 + 4 * i) (7) (cr))) h44 ?_
    refine j_aload_n C 2 dX2_bringBack_47 rfl rfl ?_
    refine j_aload_n C 0 dX2_bringBack_48 rfl rfl ?_
    refine j_getR C zK2 (zb_Mark hG hm) (zs_Mark hG hm) (f := 3) (by decide) rfl zk_X2_21 rfl (zf_Mark_3 hG hm) dX2_bringBack_49 ?_
    refine j_iload_n C 1 dX2_bringBack_52 rfl rfl ?_
    refine j_iald C (zb_Mre hG hm) (zs_Mre hG hm) (zl_Mre hG hm) rfl (by omega) (by decide) (re) ((zu_o (by omega)).trans ((zu_o (by omega)).trans ((zu_o (by omega)).trans (hre)))) dX2_bringBack_53 ?_
    refine j_iload_n C 3 dX2_bringBack_54 rfl rfl ?_
    refine j_icmp_ge (tgt := 67) (a := reI) (b := ntI) C hreI hntI dX2_bringBack_55 (by decide) (fun c55 => ?_) (fun c55 => ?_)
    ·
      refine j_iconst C (-1) dX2_bringBack_67 (by decide) ?_
      refine j_putIN C hD zK3 (zb_Part hG hi) (zs_Part hG hi) (f := 9) (by decide) rfl zk_X2_52 rfl rfl rfl rfl dX2_bringBack_68 ?_
      refine j_ret C R dX2_bringBack_71 ?_
      first | exact Or.inl ⟨by omega, rfl⟩ | exact Or.inr (Or.inl ⟨by omega, by omega, rfl⟩) | exact Or.inr (Or.inr ⟨by omega, by omega, rfl⟩)
    ·
      refine j_aload_n C 0 dX2_bringBack_58 rfl rfl ?_
      refine j_getR C zK2 (zb_Mark hG hm) (zs_Mark hG hm) (f := 3) (by decide) rfl zk_X2_21 rfl (zf_Mark_3 hG hm) dX2_bringBack_59 ?_
      refine j_iload_n C 1 dX2_bringBack_62 rfl rfl ?_
      refine j_iald C (zb_Mre hG hm) (zs_Mre hG hm) (zl_Mre hG hm) rfl (by omega) (by decide) (re) ((zu_o (by omega)).trans ((zu_o (by omega)).trans ((zu_o (by omega)).trans (hre)))) dX2_bringBack_63 ?_
      refine j_goto (tgt := 68) C dX2_bringBack_64 (by decide) ?_
      refine j_putIN C hD zK3 (zb_Part hG hi) (zs_Part hG hi) (f := 9) (by decide) rfl zk_X2_52 rfl rfl rfl rfl dX2_bringBack_68 ?_
      refine j_ret C R dX2_bringBack_71 ?_
      first | exact Or.inl ⟨by omega, rfl⟩ | exact Or.inr (Or.inl ⟨by omega, by omega, rfl⟩) | exact Or.inr (Or.inr ⟨by omega, by omega, rfl⟩)
  ·
    refine j_aload_n C 2 dX2_bringBack_12 rfl rfl ?_
    refine j_iconst C (nI 0) dX2_bringBack_13 (by decide) ?_
    refine j_iconst C (-1) dX2_bringBack_14 (by decide) ?_
    refine j_iconst C (nI 0) dX2_bringBack_15 (by decide) ?_
    refine j_callVN C hR (kX3_stand hD hG (i := i)  hi (nI 0) (-1) (nI 0)) [] zmX3_stand zk_X2_59 zK3 (zb_Part hG hi) (zs_Part hG hi) (by decide) rfl rfl (Nat.le_of_ble_eq_true rfl) dX2_bringBack_16 (fun Z16 h16 => ?_)
    refine j_Z (Z' := (zu (zu (zu Z (11 + 4 * i) (5) (nI 0)) (11 + 4 * i) (6) (-1)) (11 + 4 * i) (7) (nI 0))) h16 ?_
    refine j_aload_n C 2 dX2_bringBack_19 rfl rfl ?_
    refine j_iconst C (-1) dX2_bringBack_20 (by decide) ?_
    refine j_putIN C hD zK3 (zb_Part hG hi) (zs_Part hG hi) (f := 9) (by decide) rfl zk_X2_52 rfl rfl rfl rfl dX2_bringBack_21 ?_
    refine j_ret C R dX2_bringBack_24 ?_
    first | exact Or.inl ⟨by omega, rfl⟩ | exact Or.inr (Or.inl ⟨by omega, by omega, rfl⟩) | exact Or.inr (Or.inr ⟨by omega, by omega, rfl⟩)
end
section
theorem zi_nat {x : Int32} {n : Nat} (h0 : 0 ≤ x.toInt) (h1 : x.toInt < (n : Int)) : ∃ j : Nat, j < n ∧ x = nI j := by
  obtain ⟨j, hj, e⟩ := nI_of (x := x) (fun z => by have := Int32.lt_iff_toInt_lt.mp z; have e0 : (0 : Int32).toInt = 0 := rfl; omega)
  refine ⟨j, ?_, e⟩
  rw [e, nI_toInt hj] at h1
  omega
def zsum (f : Nat → Int32) : Nat → Int32
  | 0 => 0
  | n + 1 => zsum f n + f n
def zcn (f : Nat → Bool) : Nat → Nat
  | 0 => 0
  | n + 1 => if f n = true then zcn f n + 1 else zcn f n
theorem zcn_t {f : Nat → Bool} {n : Nat} (h : f n = true) : zcn f (n + 1) = zcn f n + 1 := by simp [zcn, h]
theorem zcn_f {f : Nat → Bool} {n : Nat} (h : f n = false) : zcn f (n + 1) = zcn f n := by simp [zcn, h]
theorem zcn_le (f : Nat → Bool) : ∀ n, zcn f n ≤ n := by
  intro n
  induction n with
  | zero => exact Nat.le_refl _
  | succ n ih => by_cases h : f n = true <;> simp [zcn, h] <;> omega
theorem zcn_congr {f g : Nat → Bool} : ∀ {n : Nat}, (∀ i, i < n → f i = g i) → zcn f n = zcn g n := by
  intro n
  induction n with
  | zero => intro _; rfl
  | succ n ih => intro h; simp [zcn, h n (by omega), ih (fun i hi => h i (by omega))]
theorem zsum_congr {f g : Nat → Int32} : ∀ {n : Nat}, (∀ i, i < n → f i = g i) → zsum f n = zsum g n := by
  intro n
  induction n with
  | zero => intro _; rfl
  | succ n ih => intro h; simp [zsum, h n (by omega), ih (fun i hi => h i (by omega))]
def dnz (en po rc : Int32) : Bool := decide (en.toInt ≠ 0 ∧ rc.toInt ≤ po.toInt)
def rdz (po rc : Int32) : Bool := decide (po.toInt < rc.toInt)
abbrev dnC (Z : ZT) (i : Nat) : Bool := dnz (Z (11 + 4 * i) 4) (Z (11 + 4 * i) 5) (Z (11 + 4 * i) 3)
abbrev rdC (Z : ZT) (i : Nat) : Bool := rdz (Z (11 + 4 * i) 5) (Z (11 + 4 * i) 3)
set_option maxRecDepth 100000 in
set_option maxHeartbeats 4000000 in
theorem kX4_isPart {l : Launch} {D : va_G} {Y : YT} {b0 : Nat} {G : GT} (hD : GD b0 G) (hG : Gok 113 G) {Z : ZT} {np : Int32} {npI : Int} (hnp : Z 0 5 = np) (hnpI : np.toInt = npI) {p0 : Int32} {b : Int} (hb : p0.toInt = b) : CI l D Y b0 G yX4_isPart cX4_isPart 2 (some .boolean) 0 [.ref (G.2.1 (0)), .int (p0)] Z (fun r Z' => Z' = Z ∧ (r = nI 1 ∧ (0 ≤ b ∧ b < npI) ∨ r = nI 0 ∧ (b < 0 ∨ npI ≤ b))) := by
  refine ci_start (lv0 := [(0, .ref (G.2.1 (0))), (1, .int (p0))]) hD rfl rfl (Nat.le_of_ble_eq_true rfl) rfl ?_
  intro E C R hR hD hN
  refine j_iload_n C 1 dX4_isPart_0 rfl rfl ?_
  refine j_if_lt (tgt := 16) (a := b) C hb dX4_isPart_1 (by decide) (fun c1 => ?_) (fun c1 => ?_)
  ·
    refine j_iconst C (nI 0) dX4_isPart_16 (by decide) ?_
    refine j_zret C R (by decide) dX4_isPart_17 ?_
    exact ⟨rfl, by first | exact Or.inl ⟨rfl, by omega⟩ | exact Or.inr ⟨rfl, by omega⟩⟩
  ·
    refine j_iload_n C 1 dX4_isPart_4 rfl rfl ?_
    refine j_aload_n C 0 dX4_isPart_5 rfl rfl ?_
    refine j_getI C zK4 (zb_X hG) (zs_X hG) (f := 5) (by decide) rfl zk_X4_44 rfl (np) hnp dX4_isPart_6 ?_
    refine j_icmp_ge (tgt := 16) (a := b) (b := npI) C hb hnpI dX4_isPart_9 (by decide) (fun c9 => ?_) (fun c9 => ?_)
    ·
      refine j_iconst C (nI 0) dX4_isPart_16 (by decide) ?_
      refine j_zret C R (by decide) dX4_isPart_17 ?_
      exact ⟨rfl, by first | exact Or.inl ⟨rfl, by omega⟩ | exact Or.inr ⟨rfl, by omega⟩⟩
    ·
      refine j_iconst C (nI 1) dX4_isPart_12 (by decide) ?_
      refine j_goto (tgt := 17) C dX4_isPart_13 (by decide) ?_
      refine j_zret C R (by decide) dX4_isPart_17 ?_
      exact ⟨rfl, by first | exact Or.inl ⟨rfl, by omega⟩ | exact Or.inr ⟨rfl, by omega⟩⟩
set_option maxRecDepth 100000 in
set_option maxHeartbeats 4000000 in
theorem kX4_isTask {l : Launch} {D : va_G} {Y : YT} {b0 : Nat} {G : GT} (hD : GD b0 G) (hG : Gok 113 G) {Z : ZT} {nt : Int32} {ntI : Int} (hnt : Z 0 7 = nt) (hntI : nt.toInt = ntI) {p0 : Int32} {b : Int} (hb : p0.toInt = b) : CI l D Y b0 G yX4_isTask cX4_isTask 2 (some .boolean) 0 [.ref (G.2.1 (0)), .int (p0)] Z (fun r Z' => Z' = Z ∧ (r = nI 1 ∧ (0 ≤ b ∧ b < ntI) ∨ r = nI 0 ∧ (b < 0 ∨ ntI ≤ b))) := by
  refine ci_start (lv0 := [(0, .ref (G.2.1 (0))), (1, .int (p0))]) hD rfl rfl (Nat.le_of_ble_eq_true rfl) rfl ?_
  intro E C R hR hD hN
  refine j_iload_n C 1 dX4_isTask_0 rfl rfl ?_
  refine j_if_lt (tgt := 16) (a := b) C hb dX4_isTask_1 (by decide) (fun c1 => ?_) (fun c1 => ?_)
  ·
    refine j_iconst C (nI 0) dX4_isTask_16 (by decide) ?_
    refine j_zret C R (by decide) dX4_isTask_17 ?_
    exact ⟨rfl, by first | exact Or.inl ⟨rfl, by omega⟩ | exact Or.inr ⟨rfl, by omega⟩⟩
  ·
    refine j_iload_n C 1 dX4_isTask_4 rfl rfl ?_
    refine j_aload_n C 0 dX4_isTask_5 rfl rfl ?_
    refine j_getI C zK4 (zb_X hG) (zs_X hG) (f := 7) (by decide) rfl zk_X4_114 rfl (nt) hnt dX4_isTask_6 ?_
    refine j_icmp_ge (tgt := 16) (a := b) (b := ntI) C hb hntI dX4_isTask_9 (by decide) (fun c9 => ?_) (fun c9 => ?_)
    ·
      refine j_iconst C (nI 0) dX4_isTask_16 (by decide) ?_
      refine j_zret C R (by decide) dX4_isTask_17 ?_
      exact ⟨rfl, by first | exact Or.inl ⟨rfl, by omega⟩ | exact Or.inr ⟨rfl, by omega⟩⟩
    ·
      refine j_iconst C (nI 1) dX4_isTask_12 (by decide) ?_
      refine j_goto (tgt := 17) C dX4_isTask_13 (by decide) ?_
      refine j_zret C R (by decide) dX4_isTask_17 ?_
      exact ⟨rfl, by first | exact Or.inl ⟨rfl, by omega⟩ | exact Or.inr ⟨rfl, by omega⟩⟩
set_option maxRecDepth 100000 in
set_option maxHeartbeats 4000000 in
theorem kX4_isNumber {l : Launch} {D : va_G} {Y : YT} {b0 : Nat} {G : GT} (hD : GD b0 G) (hG : Gok 113 G) {Z : ZT} {p0 : Int32} {b : Int} (hb : p0.toInt = b) : CI l D Y b0 G yX4_isNumber cX4_isNumber 1 (some .boolean) 0 [.int (p0)] Z (fun r Z' => Z' = Z ∧ (r = nI 1 ∧ (0 ≤ b ∧ b ≤ 255) ∨ r = nI 0 ∧ (b < 0 ∨ 255 < b))) := by
  refine ci_start (lv0 := [(0, .int (p0))]) hD rfl rfl (Nat.le_of_ble_eq_true rfl) rfl ?_
  intro E C R hR hD hN
  refine j_iload_n C 0 dX4_isNumber_0 rfl rfl ?_
  refine j_if_lt (tgt := 15) (a := b) C hb dX4_isNumber_1 (by decide) (fun c1 => ?_) (fun c1 => ?_)
  ·
    refine j_iconst C (nI 0) dX4_isNumber_15 (by decide) ?_
    refine j_zret C R (by decide) dX4_isNumber_16 ?_
    exact ⟨rfl, by first | exact Or.inl ⟨rfl, by omega⟩ | exact Or.inr ⟨rfl, by omega⟩⟩
  ·
    refine j_iload_n C 0 dX4_isNumber_4 rfl rfl ?_
    refine j_sipush C (nI 255) dX4_isNumber_5 (by decide) ?_
    refine j_icmp_gt (tgt := 15) (a := b) (b := ((255 : Nat) : Int)) C hb (nI_toInt (by omega)) dX4_isNumber_8 (by decide) (fun c8 => ?_) (fun c8 => ?_)
    ·
      refine j_iconst C (nI 0) dX4_isNumber_15 (by decide) ?_
      refine j_zret C R (by decide) dX4_isNumber_16 ?_
      exact ⟨rfl, by first | exact Or.inl ⟨rfl, by omega⟩ | exact Or.inr ⟨rfl, by omega⟩⟩
    ·
      refine j_iconst C (nI 1) dX4_isNumber_11 (by decide) ?_
      refine j_goto (tgt := 16) C dX4_isNumber_12 (by decide) ?_
      refine j_zret C R (by decide) dX4_isNumber_16 ?_
      exact ⟨rfl, by first | exact Or.inl ⟨rfl, by omega⟩ | exact Or.inr ⟨rfl, by omega⟩⟩
set_option maxRecDepth 100000 in
set_option maxHeartbeats 4000000 in
theorem kX4_isTime {l : Launch} {D : va_G} {Y : YT} {b0 : Nat} {G : GT} (hD : GD b0 G) (hG : Gok 113 G) {Z : ZT} {p0 : Int32} {b : Int} (hb : p0.toInt = b) : CI l D Y b0 G yX4_isTime cX4_isTime 1 (some .boolean) 0 [.int (p0)] Z (fun r Z' => Z' = Z ∧ (r = nI 1 ∧ (0 ≤ b ∧ b ≤ 100000) ∨ r = nI 0 ∧ (b < 0 ∨ 100000 < b))) := by
  refine ci_start (lv0 := [(0, .int (p0))]) hD rfl rfl (Nat.le_of_ble_eq_true rfl) rfl ?_
  intro E C R hR hD hN
  refine j_iload_n C 0 dX4_isTime_0 rfl rfl ?_
  refine j_if_lt (tgt := 14) (a := b) C hb dX4_isTime_1 (by decide) (fun c1 => ?_) (fun c1 => ?_)
  ·
    refine j_iconst C (nI 0) dX4_isTime_14 (by decide) ?_
    refine j_zret C R (by decide) dX4_isTime_15 ?_
    exact ⟨rfl, by first | exact Or.inl ⟨rfl, by omega⟩ | exact Or.inr ⟨rfl, by omega⟩⟩
  ·
    refine j_iload_n C 0 dX4_isTime_4 rfl rfl ?_
    refine j_ldc C (nI 100000) zk_X4_210 dX4_isTime_5 ?_
    refine j_icmp_gt (tgt := 14) (a := b) (b := ((100000 : Nat) : Int)) C hb (nI_toInt (by omega)) dX4_isTime_7 (by decide) (fun c7 => ?_) (fun c7 => ?_)
    ·
      refine j_iconst C (nI 0) dX4_isTime_14 (by decide) ?_
      refine j_zret C R (by decide) dX4_isTime_15 ?_
      exact ⟨rfl, by first | exact Or.inl ⟨rfl, by omega⟩ | exact Or.inr ⟨rfl, by omega⟩⟩
    ·
      refine j_iconst C (nI 1) dX4_isTime_10 (by decide) ?_
      refine j_goto (tgt := 15) C dX4_isTime_11 (by decide) ?_
      refine j_zret C R (by decide) dX4_isTime_15 ?_
      exact ⟨rfl, by first | exact Or.inl ⟨rfl, by omega⟩ | exact Or.inr ⟨rfl, by omega⟩⟩
set_option maxRecDepth 100000 in
set_option maxHeartbeats 4000000 in
theorem kX4_addPart {l : Launch} {D : va_G} {Y : YT} {b0 : Nat} {G : GT} (hD : GD b0 G) (hG : Gok 113 G) {Z : ZT} {np : Nat} (hnp : Z 0 5 = nI np) (hnp12 : np < 12) (p0 p1 : Int32) : CI l D Y b0 G yX4_addPart cX4_addPart 3 (some .int) 2 [.ref (G.2.1 (0)), .int (p0), .int (p1)] Z (fun r Z' => Z' = (zu (zu (zu (zu (zu (zu (zu (zu (zu Z (11 + 4 * np) (3) (nI 0)) (11 + 4 * np) (4) (nI 0)) (11 + 4 * np) (8) (p0)) (11 + 4 * np) (10) (p1)) (11 + 4 * np) (9) (-1)) (11 + 4 * np) (5) (nI 0)) (11 + 4 * np) (6) (-1)) (11 + 4 * np) (7) (nI 0)) (0) (5) (nI (np + 1))) ∧ r = nI np) := by
  refine ci_start (lv0 := [(0, .ref (G.2.1 (0))), (1, .int (p0)), (2, .int (p1))]) hD rfl rfl (Nat.le_of_ble_eq_true rfl) rfl ?_
  intro E C R hR hD hN
  refine j_aload_n C 0 dX4_addPart_0 rfl rfl ?_
  refine j_getR C zK4 (zb_X hG) (zs_X hG) (f := 0) (by decide) rfl zk_X4_11 rfl (zf_X_0 hG) dX4_addPart_1 ?_
  refine j_aload_n C 0 dX4_addPart_4 rfl rfl ?_
  refine j_getI C zK4 (zb_X hG) (zs_X hG) (f := 5) (by decide) rfl zk_X4_44 rfl (nI np) hnp dX4_addPart_5 ?_
  refine j_aldP C (zb_Pts hG) (zs_Pts hG) (zl_Pts hG) rfl (by omega) (by decide) (zf_Pts hG (by omega)) dX4_addPart_8 ?_
  refine j_iload_n C 1 dX4_addPart_9 rfl rfl ?_
  refine j_iload_n C 2 dX4_addPart_10 rfl rfl ?_
  refine j_callVN C hR (kX3_beginAnew hD hG (i := np)  (by omega) (p0) (p1)) [] zmX3_beginAnew zk_X4_211 zK3 (zb_Part hG (by omega)) (zs_Part hG (by omega)) (by decide) rfl rfl (Nat.le_of_ble_eq_true rfl) dX4_addPart_11 (fun Z11 h11 => ?_)
  refine j_Z (Z' := (zu (zu (zu (zu (zu (zu (zu (zu Z (11 + 4 * np) (3) (nI 0)) (11 + 4 * np) (4) (nI 0)) (11 + 4 * np) (8) (p0)) (11 + 4 * np) (10) (p1)) (11 + 4 * np) (9) (-1)) (11 + 4 * np) (5) (nI 0)) (11 + 4 * np) (6) (-1)) (11 + 4 * np) (7) (nI 0))) h11 ?_
  refine j_aload_n C 0 dX4_addPart_14 rfl rfl ?_
  refine j_dup C dX4_addPart_15 rfl ?_
  refine j_getI C zK4 (zb_X hG) (zs_X hG) (f := 5) (by decide) rfl zk_X4_44 rfl (nI np) ((zu_o (by omega)).trans ((zu_o (by omega)).trans ((zu_o (by omega)).trans ((zu_o (by omega)).trans ((zu_o (by omega)).trans ((zu_o (by omega)).trans ((zu_o (by omega)).trans ((zu_o (by omega)).trans (hnp))))))))) dX4_addPart_16 ?_
  refine j_iconst C (nI 1) dX4_addPart_19 (by decide) ?_
  refine j_iadd C (nI (np + 1)) dX4_addPart_20 (nI_add np 1) ?_
  refine j_putI C hD zK4 (zb_X hG) (zs_X hG) (f := 5) (by decide) rfl zk_X4_44 rfl rfl rfl rfl dX4_addPart_21 ?_
  refine j_aload_n C 0 dX4_addPart_24 rfl rfl ?_
  refine j_getI C zK4 (zb_X hG) (zs_X hG) (f := 5) (by decide) rfl zk_X4_44 rfl (nI (np + 1)) zu_s dX4_addPart_25 ?_
  refine j_iconst C (nI 1) dX4_addPart_28 (by decide) ?_
  refine j_isub C (nI np) dX4_addPart_29 (pk_sub (by omega)) ?_
  refine j_iret C R dX4_addPart_30 ?_
  exact ⟨rfl, rfl⟩
set_option maxRecDepth 100000 in
set_option maxHeartbeats 4000000 in
theorem kX4_part {l : Launch} {D : va_G} {Y : YT} {b0 : Nat} {G : GT} (hD : GD b0 G) (hG : Gok 113 G) {Z : ZT} {np : Nat} (hnp : Z 0 5 = nI np) (hnp12 : np ≤ 12) (p0 : Int32) : CI l D Y b0 G yX4_part cX4_part 2 (some .int) 3 [.ref (G.2.1 (0)), .int (p0)] Z (fun r Z' => ((p0.toInt < 1 ∨ 9 < p0.toInt) ∧ r = (-12) ∧ Z' = Z) ∨ ((1 ≤ p0.toInt ∧ p0.toInt ≤ 9 ∧ 12 ≤ np) ∧ r = (-14) ∧ Z' = Z) ∨ ((1 ≤ p0.toInt ∧ p0.toInt ≤ 9 ∧ np < 12) ∧ r = nI np ∧ Z' = (zu (zu (zu (zu (zu (zu (zu (zu (zu Z (11 + 4 * np) (3) (nI 0)) (11 + 4 * np) (4) (nI 0)) (11 + 4 * np) (8) (p0)) (11 + 4 * np) (10) (-1)) (11 + 4 * np) (9) (-1)) (11 + 4 * np) (5) (nI 0)) (11 + 4 * np) (6) (-1)) (11 + 4 * np) (7) (nI 0)) (0) (5) (nI (np + 1))))) := by
  refine ci_start (lv0 := [(0, .ref (G.2.1 (0))), (1, .int (p0))]) hD rfl rfl (Nat.le_of_ble_eq_true rfl) rfl ?_
  intro E C R hR hD hN
  refine j_iload_n C 1 dX4_part_0 rfl rfl ?_
  refine j_iconst C (nI 1) dX4_part_1 (by decide) ?_
  refine j_icmp_lt (tgt := 11) (a := (p0).toInt) (b := ((1 : Nat) : Int)) C rfl (nI_toInt (by omega)) dX4_part_2 (by decide) (fun c2 => ?_) (fun c2 => ?_)
  ·
    refine j_bipush C (-12) dX4_part_11 (by decide) ?_
    refine j_iret C R dX4_part_13 ?_
    first | exact Or.inl ⟨by omega, rfl, rfl⟩ | exact Or.inr (Or.inl ⟨by omega, rfl, rfl⟩) | exact Or.inr (Or.inr (⟨by omega, rfl, rfl⟩))
  ·
    refine j_iload_n C 1 dX4_part_5 rfl rfl ?_
    refine j_bipush C (nI 9) dX4_part_6 (by decide) ?_
    refine j_icmp_le (tgt := 14) (a := (p0).toInt) (b := ((9 : Nat) : Int)) C rfl (nI_toInt (by omega)) dX4_part_8 (by decide) (fun c8 => ?_) (fun c8 => ?_)
    ·
      refine j_aload_n C 0 dX4_part_14 rfl rfl ?_
      refine j_getI C zK4 (zb_X hG) (zs_X hG) (f := 5) (by decide) rfl zk_X4_44 rfl (nI np) hnp dX4_part_15 ?_
      refine j_bipush C (nI 12) dX4_part_18 (by decide) ?_
      refine j_icmp_lt (tgt := 26) (a := ((np : Nat) : Int)) (b := ((12 : Nat) : Int)) C (nI_toInt (by omega)) (nI_toInt (by omega)) dX4_part_20 (by decide) (fun c20 => ?_) (fun c20 => ?_)
      ·
        refine j_aload_n C 0 dX4_part_26 rfl rfl ?_
        refine j_iload_n C 1 dX4_part_27 rfl rfl ?_
        refine j_iconst C (-1) dX4_part_28 (by decide) ?_
        refine j_callI C hR (kX4_addPart hD hG (np := np) hnp (by omega) (p0) (-1)) [] zmX4_addPart zk_X4_48 zK4 (zb_X hG) (zs_X hG) (by decide) rfl rfl (Nat.le_of_ble_eq_true rfl) dX4_part_29 (fun r29 Z29 h29 => ?_)
        obtain ⟨h29, rfl⟩ := h29
        refine j_Z (Z' := (zu (zu (zu (zu (zu (zu (zu (zu (zu Z (11 + 4 * np) (3) (nI 0)) (11 + 4 * np) (4) (nI 0)) (11 + 4 * np) (8) (p0)) (11 + 4 * np) (10) (-1)) (11 + 4 * np) (9) (-1)) (11 + 4 * np) (5) (nI 0)) (11 + 4 * np) (6) (-1)) (11 + 4 * np) (7) (nI 0)) (0) (5) (nI (np + 1)))) h29 ?_
        refine j_iret C R dX4_part_32 ?_
        first | exact Or.inl ⟨by omega, rfl, rfl⟩ | exact Or.inr (Or.inl ⟨by omega, rfl, rfl⟩) | exact Or.inr (Or.inr (⟨by omega, rfl, rfl⟩))
      ·
        refine j_bipush C (-14) dX4_part_23 (by decide) ?_
        refine j_iret C R dX4_part_25 ?_
        first | exact Or.inl ⟨by omega, rfl, rfl⟩ | exact Or.inr (Or.inl ⟨by omega, rfl, rfl⟩) | exact Or.inr (Or.inr (⟨by omega, rfl, rfl⟩))
    ·
      refine j_bipush C (-12) dX4_part_11 (by decide) ?_
      refine j_iret C R dX4_part_13 ?_
      first | exact Or.inl ⟨by omega, rfl, rfl⟩ | exact Or.inr (Or.inl ⟨by omega, rfl, rfl⟩) | exact Or.inr (Or.inr (⟨by omega, rfl, rfl⟩))
set_option maxRecDepth 100000 in
set_option maxHeartbeats 4000000 in
theorem kX4_row {l : Launch} {D : va_G} {Y : YT} {b0 : Nat} {G : GT} (hD : GD b0 G) (hG : Gok 113 G) {Z : ZT} {np : Nat} (hnp : Z 0 5 = nI np) (hnp12 : np ≤ 12) {rc : Nat → Nat} (hrc : ∀ i, i < np → Z (11 + 4 * i) 3 = nI (rc i) ∧ rc i ≤ 40) (p0 p1 p2 : Int32) {p3 : Int32} (hz : p3 = 0 ∨ p3 = 1) : CI l D Y b0 G yX4_row cX4_row 6 (some .int) 1 [.ref (G.2.1 (0)), .int (p0), .int (p1), .int (p2), .int (p3)] Z (fun r Z' => ((p0.toInt < 0 ∨ (np : Int) ≤ p0.toInt) ∧ r = (-11) ∧ Z' = Z) ∨ ∃ p : Nat, p < np ∧ p0 = nI p ∧ (((p1.toInt < 0 ∨ 255 < p1.toInt ∨ p2.toInt < 0 ∨ 100000 < p2.toInt) ∧ r = (-12) ∧ Z' = Z) ∨ ((0 ≤ p1.toInt ∧ p1.toInt ≤ 255 ∧ 0 ≤ p2.toInt ∧ p2.toInt ≤ 100000 ∧ (Z (11 + 4 * p) 4).toInt ≠ 0) ∧ r = (-13) ∧ Z' = Z) ∨ ((0 ≤ p1.toInt ∧ p1.toInt ≤ 255 ∧ 0 ≤ p2.toInt ∧ p2.toInt ≤ 100000 ∧ (Z (11 + 4 * p) 4).toInt = 0 ∧ 40 ≤ rc p) ∧ r = (-14) ∧ Z' = Z) ∨ ((0 ≤ p1.toInt ∧ p1.toInt ≤ 255 ∧ 0 ≤ p2.toInt ∧ p2.toInt ≤ 100000 ∧ (Z (11 + 4 * p) 4).toInt = 0 ∧ rc p < 40) ∧ r = nI (rc p + 1) ∧ Z' = (zu (zu (zu (zu Z (12 + 4 * p) (rc p) (p1)) (13 + 4 * p) (rc p) (p2)) (14 + 4 * p) (rc p) (p3)) (11 + 4 * p) (3) (nI (rc p + 1)))))) := by
  refine ci_start (lv0 := [(0, .ref (G.2.1 (0))), (1, .int (p0)), (2, .int (p1)), (3, .int (p2)), (4, .int (p3))]) hD rfl rfl (Nat.le_of_ble_eq_true rfl) rfl ?_
  intro E C R hR hD hN
  refine j_aload_n C 0 dX4_row_0 rfl rfl ?_
  refine j_iload_n C 1 dX4_row_1 rfl rfl ?_
  refine j_callI C hR (kX4_isPart hD hG (np := nI np) (npI := ((np : Nat) : Int)) hnp (nI_toInt (by omega)) (p0 := p0) (b := (p0).toInt) rfl) [] zmX4_isPart zk_X4_52 zK4 (zb_X hG) (zs_X hG) (by decide) rfl rfl (Nat.le_of_ble_eq_true rfl) dX4_row_2 (fun r2 Z2 h2 => ?_)
  obtain ⟨e2, ⟨rfl, h2⟩ | ⟨rfl, h2⟩⟩ := h2
  ·
    refine j_Z e2 ?_
    refine j_if_ne (tgt := 11) (a := ((1 : Nat) : Int)) C (nI_toInt (by omega)) dX4_row_5 (by decide) (fun c5 => ?_) (fun c5 => absurd c5 (by omega))
    obtain ⟨p, hp, rfl⟩ := zi_nat (x := p0) (n := np) (by omega) (by omega)
    obtain ⟨hrcp, hrc40⟩ := hrc p hp
    refine j_iload_n C 2 dX4_row_11 rfl rfl ?_
    refine j_callS C hR (kX4_isNumber hD hG (p0 := p1) (b := (p1).toInt) rfl) [] zmX4_isNumber rfl zk_X4_56 (by decide) rfl rfl (Nat.le_of_ble_eq_true rfl) dX4_row_12 (fun r12 Z12 h12 => ?_)
    obtain ⟨e12, ⟨rfl, h12⟩ | ⟨rfl, h12⟩⟩ := h12
    ·
      refine j_Z e12 ?_
      refine j_if_eq (tgt := 25) (a := ((1 : Nat) : Int)) C (nI_toInt (by omega)) dX4_row_15 (by decide) (fun c15 => absurd c15 (by omega)) (fun c15 => ?_)
      refine j_iload_n C 3 dX4_row_18 rfl rfl ?_
      refine j_callS C hR (kX4_isTime hD hG (p0 := p2) (b := (p2).toInt) rfl) [] zmX4_isTime rfl zk_X4_59 (by decide) rfl rfl (Nat.le_of_ble_eq_true rfl) dX4_row_19 (fun r19 Z19 h19 => ?_)
      obtain ⟨e19, ⟨rfl, h19⟩ | ⟨rfl, h19⟩⟩ := h19
      ·
        refine j_Z e19 ?_
        refine j_if_ne (tgt := 28) (a := ((1 : Nat) : Int)) C (nI_toInt (by omega)) dX4_row_22 (by decide) (fun c22 => ?_) (fun c22 => absurd c22 (by omega))
        refine j_aload_n C 0 dX4_row_28 rfl rfl ?_
        refine j_getR C zK4 (zb_X hG) (zs_X hG) (f := 0) (by decide) rfl zk_X4_11 rfl (zf_X_0 hG) dX4_row_29 ?_
        refine j_iload_n C 1 dX4_row_32 rfl rfl ?_
        refine j_aldP C (zb_Pts hG) (zs_Pts hG) (zl_Pts hG) rfl (by omega) (by decide) (zf_Pts hG (by omega)) dX4_row_33 ?_
        refine j_astore (lv' := [(5, .ref (G.2.1 (11 + 4 * p))), (0, .ref (G.2.1 (0))), (1, .int (nI p)), (2, .int (p1)), (3, .int (p2)), (4, .int (p3))]) C dX4_row_34 (by rw [hN]; decide) rfl ?_
        refine j_aload C 0 dX4_row_36 rfl ?_
        refine j_getIN C zK3 (zb_Part hG (by omega)) (zs_Part hG (by omega)) (f := 4) (by decide) rfl zk_X4_62 rfl (Z (11 + 4 * p) (4)) rfl dX4_row_38 ?_
        refine j_if_eq (tgt := 47) (a := (Z (11 + 4 * p) (4)).toInt) C rfl dX4_row_41 (by decide) (fun c41 => ?_) (fun c41 => ?_)
        ·
          refine j_aload C 0 dX4_row_47 rfl ?_
          refine j_getIN C zK3 (zb_Part hG (by omega)) (zs_Part hG (by omega)) (f := 3) (by decide) rfl zk_X4_66 rfl (nI (rc p)) hrcp dX4_row_49 ?_
          refine j_bipush C (nI 40) dX4_row_52 (by decide) ?_
          refine j_icmp_lt (tgt := 60) (a := ((rc p : Nat) : Int)) (b := ((40 : Nat) : Int)) C (nI_toInt (by omega)) (nI_toInt (by omega)) dX4_row_54 (by decide) (fun c54 => ?_) (fun c54 => ?_)
          ·
            refine j_aload C 0 dX4_row_60 rfl ?_
            refine j_iload_n C 3 dX4_row_62 rfl rfl ?_
            refine j_iload_n C 4 dX4_row_63 rfl rfl ?_
            refine j_iload C 5 dX4_row_64 rfl ?_
            refine j_callVN C hR (kX3_addRow hD hG (i := p)  (by omega) (k := rc p) hrcp (by omega) (p1) (p2) hz) [] zmX3_addRow zk_X4_69 zK3 (zb_Part hG (by omega)) (zs_Part hG (by omega)) (by decide) rfl rfl (Nat.le_of_ble_eq_true rfl) dX4_row_66 (fun Z66 h66 => ?_)
            refine j_Z (Z' := (zu (zu (zu (zu Z (12 + 4 * p) (rc p) (p1)) (13 + 4 * p) (rc p) (p2)) (14 + 4 * p) (rc p) (p3)) (11 + 4 * p) (3) (nI (rc p + 1)))) h66 ?_
            refine j_aload C 0 dX4_row_69 rfl ?_
            refine j_getIN C zK3 (zb_Part hG (by omega)) (zs_Part hG (by omega)) (f := 3) (by decide) rfl zk_X4_66 rfl (nI (rc p + 1)) zu_s dX4_row_71 ?_
            refine j_iret C R dX4_row_74 ?_
            first | exact Or.inr ⟨p, hp, rfl, (Or.inl ⟨by omega, rfl, rfl⟩)⟩ | exact Or.inr ⟨p, hp, rfl, (Or.inr (Or.inl ⟨by omega, rfl, rfl⟩))⟩ | exact Or.inr ⟨p, hp, rfl, (Or.inr (Or.inr (Or.inl ⟨by omega, rfl, rfl⟩)))⟩ | exact Or.inr ⟨p, hp, rfl, (Or.inr (Or.inr (Or.inr (⟨by omega, rfl, rfl⟩))))⟩
          ·
            refine j_bipush C (-14) dX4_row_57 (by decide) ?_
            refine j_iret C R dX4_row_59 ?_
            first | exact Or.inr ⟨p, hp, rfl, (Or.inl ⟨by omega, rfl, rfl⟩)⟩ | exact Or.inr ⟨p, hp, rfl, (Or.inr (Or.inl ⟨by omega, rfl, rfl⟩))⟩ | exact Or.inr ⟨p, hp, rfl, (Or.inr (Or.inr (Or.inl ⟨by omega, rfl, rfl⟩)))⟩ | exact Or.inr ⟨p, hp, rfl, (Or.inr (Or.inr (Or.inr (⟨by omega, rfl, rfl⟩))))⟩
        ·
          refine j_bipush C (-13) dX4_row_44 (by decide) ?_
          refine j_iret C R dX4_row_46 ?_
          first | exact Or.inr ⟨p, hp, rfl, (Or.inl ⟨by omega, rfl, rfl⟩)⟩ | exact Or.inr ⟨p, hp, rfl, (Or.inr (Or.inl ⟨by omega, rfl, rfl⟩))⟩ | exact Or.inr ⟨p, hp, rfl, (Or.inr (Or.inr (Or.inl ⟨by omega, rfl, rfl⟩)))⟩ | exact Or.inr ⟨p, hp, rfl, (Or.inr (Or.inr (Or.inr (⟨by omega, rfl, rfl⟩))))⟩
      ·
        refine j_Z e19 ?_
        refine j_if_ne (tgt := 28) (a := ((0 : Nat) : Int)) C (nI_toInt (by omega)) dX4_row_22 (by decide) (fun c22 => absurd c22 (by omega)) (fun c22 => ?_)
        refine j_bipush C (-12) dX4_row_25 (by decide) ?_
        refine j_iret C R dX4_row_27 ?_
        first | exact Or.inr ⟨p, hp, rfl, (Or.inl ⟨by omega, rfl, rfl⟩)⟩ | exact Or.inr ⟨p, hp, rfl, (Or.inr (Or.inl ⟨by omega, rfl, rfl⟩))⟩ | exact Or.inr ⟨p, hp, rfl, (Or.inr (Or.inr (Or.inl ⟨by omega, rfl, rfl⟩)))⟩ | exact Or.inr ⟨p, hp, rfl, (Or.inr (Or.inr (Or.inr (⟨by omega, rfl, rfl⟩))))⟩
    ·
      refine j_Z e12 ?_
      refine j_if_eq (tgt := 25) (a := ((0 : Nat) : Int)) C (nI_toInt (by omega)) dX4_row_15 (by decide) (fun c15 => ?_) (fun c15 => absurd c15 (by omega))
      refine j_bipush C (-12) dX4_row_25 (by decide) ?_
      refine j_iret C R dX4_row_27 ?_
      first | exact Or.inr ⟨p, hp, rfl, (Or.inl ⟨by omega, rfl, rfl⟩)⟩ | exact Or.inr ⟨p, hp, rfl, (Or.inr (Or.inl ⟨by omega, rfl, rfl⟩))⟩ | exact Or.inr ⟨p, hp, rfl, (Or.inr (Or.inr (Or.inl ⟨by omega, rfl, rfl⟩)))⟩ | exact Or.inr ⟨p, hp, rfl, (Or.inr (Or.inr (Or.inr (⟨by omega, rfl, rfl⟩))))⟩
  ·
    refine j_Z e2 ?_
    refine j_if_ne (tgt := 11) (a := ((0 : Nat) : Int)) C (nI_toInt (by omega)) dX4_row_5 (by decide) (fun c5 => absurd c5 (by omega)) (fun c5 => ?_)
    refine j_bipush C (-11) dX4_row_8 (by decide) ?_
    refine j_iret C R dX4_row_10 ?_
    exact Or.inl ⟨by omega, rfl, rfl⟩
set_option maxRecDepth 100000 in
set_option maxHeartbeats 4000000 in
theorem kX4_end {l : Launch} {D : va_G} {Y : YT} {b0 : Nat} {G : GT} (hD : GD b0 G) (hG : Gok 113 G) {Z : ZT} {np : Nat} (hnp : Z 0 5 = nI np) (hnp12 : np ≤ 12) {rc : Nat → Nat} (hrc : ∀ i, i < np → Z (11 + 4 * i) 3 = nI (rc i) ∧ rc i ≤ 40) (p0 : Int32) : CI l D Y b0 G yX4_end cX4_end 3 (some .int) 1 [.ref (G.2.1 (0)), .int (p0)] Z (fun r Z' => ((p0.toInt < 0 ∨ (np : Int) ≤ p0.toInt) ∧ r = (-11) ∧ Z' = Z) ∨ ∃ p : Nat, p < np ∧ p0 = nI p ∧ ((((Z (11 + 4 * p) 4).toInt ≠ 0) ∧ r = (-13) ∧ Z' = Z) ∨ (((Z (11 + 4 * p) 4).toInt = 0) ∧ r = nI (rc p) ∧ Z' = zu Z (11 + 4 * p) 4 (nI 1)))) := by
  refine ci_start (lv0 := [(0, .ref (G.2.1 (0))), (1, .int (p0))]) hD rfl rfl (Nat.le_of_ble_eq_true rfl) rfl ?_
  intro E C R hR hD hN
  refine j_aload_n C 0 dX4_end_0 rfl rfl ?_
  refine j_iload_n C 1 dX4_end_1 rfl rfl ?_
  refine j_callI C hR (kX4_isPart hD hG (np := nI np) (npI := ((np : Nat) : Int)) hnp (nI_toInt (by omega)) (p0 := p0) (b := (p0).toInt) rfl) [] zmX4_isPart zk_X4_52 zK4 (zb_X hG) (zs_X hG) (by decide) rfl rfl (Nat.le_of_ble_eq_true rfl) dX4_end_2 (fun r2 Z2 h2 => ?_)
  obtain ⟨e2, ⟨rfl, h2⟩ | ⟨rfl, h2⟩⟩ := h2
  ·
    refine j_Z e2 ?_
    refine j_if_ne (tgt := 11) (a := ((1 : Nat) : Int)) C (nI_toInt (by omega)) dX4_end_5 (by decide) (fun c5 => ?_) (fun c5 => absurd c5 (by omega))
    obtain ⟨p, hp, rfl⟩ := zi_nat (x := p0) (n := np) (by omega) (by omega)
    obtain ⟨hrcp, hrc40⟩ := hrc p hp
    refine j_aload_n C 0 dX4_end_11 rfl rfl ?_
    refine j_getR C zK4 (zb_X hG) (zs_X hG) (f := 0) (by decide) rfl zk_X4_11 rfl (zf_X_0 hG) dX4_end_12 ?_
    refine j_iload_n C 1 dX4_end_15 rfl rfl ?_
    refine j_aldP C (zb_Pts hG) (zs_Pts hG) (zl_Pts hG) rfl (by omega) (by decide) (zf_Pts hG (by omega)) dX4_end_16 ?_
    refine j_astore_n (lv' := [(2, .ref (G.2.1 (11 + 4 * p))), (0, .ref (G.2.1 (0))), (1, .int (nI p))]) C dX4_end_17 rfl (by rw [hN]; decide) rfl ?_
    refine j_aload_n C 0 dX4_end_18 rfl rfl ?_
    refine j_getIN C zK3 (zb_Part hG (by omega)) (zs_Part hG (by omega)) (f := 4) (by decide) rfl zk_X4_62 rfl (Z (11 + 4 * p) (4)) rfl dX4_end_19 ?_
    refine j_if_eq (tgt := 28) (a := (Z (11 + 4 * p) (4)).toInt) C rfl dX4_end_22 (by decide) (fun c22 => ?_) (fun c22 => ?_)
    ·
      refine j_aload_n C 0 dX4_end_28 rfl rfl ?_
      refine j_iconst C (nI 1) dX4_end_29 (by decide) ?_
      refine j_putIN C hD zK3 (zb_Part hG (by omega)) (zs_Part hG (by omega)) (f := 4) (by decide) rfl zk_X4_62 rfl rfl (zb_nr (by decide)) (zb_ft (by decide)) dX4_end_30 ?_
      refine j_aload_n C 0 dX4_end_33 rfl rfl ?_
      refine j_getIN C zK3 (zb_Part hG (by omega)) (zs_Part hG (by omega)) (f := 3) (by decide) rfl zk_X4_66 rfl (nI (rc p)) ((zu_o (by omega)).trans (hrcp)) dX4_end_34 ?_
      refine j_iret C R dX4_end_37 ?_
      first | exact Or.inr ⟨p, hp, rfl, (Or.inl ⟨by omega, rfl, rfl⟩)⟩ | exact Or.inr ⟨p, hp, rfl, (Or.inr (⟨by omega, rfl, rfl⟩))⟩
    ·
      refine j_bipush C (-13) dX4_end_25 (by decide) ?_
      refine j_iret C R dX4_end_27 ?_
      first | exact Or.inr ⟨p, hp, rfl, (Or.inl ⟨by omega, rfl, rfl⟩)⟩ | exact Or.inr ⟨p, hp, rfl, (Or.inr (⟨by omega, rfl, rfl⟩))⟩
  ·
    refine j_Z e2 ?_
    refine j_if_ne (tgt := 11) (a := ((0 : Nat) : Int)) C (nI_toInt (by omega)) dX4_end_5 (by decide) (fun c5 => absurd c5 (by omega)) (fun c5 => ?_)
    refine j_bipush C (-11) dX4_end_8 (by decide) ?_
    refine j_iret C R dX4_end_10 ?_
    exact Or.inl ⟨by omega, rfl, rfl⟩
set_option maxRecDepth 100000 in
set_option maxHeartbeats 4000000 in
theorem kX4_give {l : Launch} {D : va_G} {Y : YT} {b0 : Nat} {G : GT} (hD : GD b0 G) (hG : Gok 113 G) {Z : ZT} {np : Nat} (hnp : Z 0 5 = nI np) (hnp12 : np ≤ 12) (hpo : ∀ i, i < np → 0 ≤ (Z (11 + 4 * i) 5).toInt) {nt : Int32} {ntI : Int} (hnt : Z 0 7 = nt) (hntI : nt.toInt = ntI) (p0 p1 : Int32) : CI l D Y b0 G yX4_give cX4_give 5 (some .int) 3 [.ref (G.2.1 (0)), .int (p0), .int (p1)] Z (fun r Z' => ((p0.toInt < 0 ∨ (np : Int) ≤ p0.toInt ∨ (p1.toInt ≠ -1 ∧ (p1.toInt < 0 ∨ ntI ≤ p1.toInt))) ∧ r = (-11) ∧ Z' = Z) ∨ ∃ p : Nat, p < np ∧ p0 = nI p ∧ (p1.toInt = -1 ∨ (0 ≤ p1.toInt ∧ p1.toInt < ntI)) ∧ (((dnC Z p = true) ∧ r = (-13) ∧ Z' = Z) ∨ ((dnC Z p = false) ∧ r = Z (11 + 4 * p) 9 ∧ Z' = zu Z (11 + 4 * p) 9 p1))) := by
  refine ci_start (lv0 := [(0, .ref (G.2.1 (0))), (1, .int (p0)), (2, .int (p1))]) hD rfl rfl (Nat.le_of_ble_eq_true rfl) rfl ?_
  intro E C R hR hD hN
  refine j_aload_n C 0 dX4_give_0 rfl rfl ?_
  refine j_iload_n C 1 dX4_give_1 rfl rfl ?_
  refine j_callI C hR (kX4_isPart hD hG (np := nI np) (npI := ((np : Nat) : Int)) hnp (nI_toInt (by omega)) (p0 := p0) (b := (p0).toInt) rfl) [] zmX4_isPart zk_X4_52 zK4 (zb_X hG) (zs_X hG) (by decide) rfl rfl (Nat.le_of_ble_eq_true rfl) dX4_give_2 (fun r2 Z2 h2 => ?_)
  obtain ⟨e2, ⟨rfl, h2⟩ | ⟨rfl, h2⟩⟩ := h2
  ·
    refine j_Z e2 ?_
    refine j_if_eq (tgt := 21) (a := ((1 : Nat) : Int)) C (nI_toInt (by omega)) dX4_give_5 (by decide) (fun c5 => absurd c5 (by omega)) (fun c5 => ?_)
    refine j_iload_n C 2 dX4_give_8 rfl rfl ?_
    refine j_iconst C (-1) dX4_give_9 (by decide) ?_
    refine j_icmp_eq (tgt := 24) (a := (p1).toInt) (b := -1) C rfl (show ((-1 : Int32)).toInt = -1 by decide) dX4_give_10 (by decide) (fun c10 => ?_) (fun c10 => ?_)
    ·
      obtain ⟨p, hp, rfl⟩ := zi_nat (x := p0) (n := np) (by omega) (by omega)
      refine j_aload_n C 0 dX4_give_24 rfl rfl ?_
      refine j_getR C zK4 (zb_X hG) (zs_X hG) (f := 0) (by decide) rfl zk_X4_11 rfl (zf_X_0 hG) dX4_give_25 ?_
      refine j_iload_n C 1 dX4_give_28 rfl rfl ?_
      refine j_aldP C (zb_Pts hG) (zs_Pts hG) (zl_Pts hG) rfl (by omega) (by decide) (zf_Pts hG (by omega)) dX4_give_29 ?_
      refine j_astore_n (lv' := [(3, .ref (G.2.1 (11 + 4 * p))), (0, .ref (G.2.1 (0))), (1, .int (nI p)), (2, .int (p1))]) C dX4_give_30 rfl (by rw [hN]; decide) rfl ?_
      refine j_aload_n C 0 dX4_give_31 rfl rfl ?_
      refine j_callIN C hR (kX3_isDone hD hG (i := p)  (by omega) (rc := Z (11 + 4 * p) (3)) (rcI := (Z (11 + 4 * p) (3)).toInt) rfl rfl (po := Z (11 + 4 * p) (5)) (poI := (Z (11 + 4 * p) (5)).toInt) rfl rfl (en := Z (11 + 4 * p) (4)) (enI := (Z (11 + 4 * p) (4)).toInt) rfl rfl) [] zmX3_isDone zk_X4_89 zK3 (zb_Part hG (by omega)) (zs_Part hG (by omega)) (by decide) rfl rfl (Nat.le_of_ble_eq_true rfl) dX4_give_32 (fun r32 Z32 h32 => ?_)
      obtain ⟨e32, ⟨rfl, h32⟩ | ⟨rfl, h32⟩⟩ := h32
      ·
        refine j_Z e32 ?_
        have hdn : dnC Z p = true := decide_eq_true (by have := hpo p hp; omega)
        refine j_if_eq (tgt := 41) (a := ((1 : Nat) : Int)) C (nI_toInt (by omega)) dX4_give_35 (by decide) (fun c35 => absurd c35 (by omega)) (fun c35 => ?_)
        refine j_bipush C (-13) dX4_give_38 (by decide) ?_
        refine j_iret C R dX4_give_40 ?_
        exact Or.inr ⟨p, hp, rfl, by omega, Or.inl ⟨hdn, rfl, rfl⟩⟩
      ·
        refine j_Z e32 ?_
        have hdn : dnC Z p = false := decide_eq_false (by have := hpo p hp; omega)
        refine j_if_eq (tgt := 41) (a := ((0 : Nat) : Int)) C (nI_toInt (by omega)) dX4_give_35 (by decide) (fun c35 => ?_) (fun c35 => absurd c35 (by omega))
        refine j_aload_n C 0 dX4_give_41 rfl rfl ?_
        refine j_getIN C zK3 (zb_Part hG (by omega)) (zs_Part hG (by omega)) (f := 9) (by decide) rfl zk_X4_93 rfl (Z (11 + 4 * p) (9)) rfl dX4_give_42 ?_
        refine j_istore (lv' := [(4, .int (Z (11 + 4 * p) (9))), (3, .ref (G.2.1 (11 + 4 * p))), (0, .ref (G.2.1 (0))), (1, .int (nI p)), (2, .int (p1))]) C dX4_give_45 (by rw [hN]; decide) rfl ?_
        refine j_aload_n C 1 dX4_give_47 rfl rfl ?_
        refine j_iload_n C 4 dX4_give_48 rfl rfl ?_
        refine j_putIN C hD zK3 (zb_Part hG (by omega)) (zs_Part hG (by omega)) (f := 9) (by decide) rfl zk_X4_93 rfl rfl rfl rfl dX4_give_49 ?_
        refine j_iload C 0 dX4_give_52 rfl ?_
        refine j_iret C R dX4_give_54 ?_
        exact Or.inr ⟨p, hp, rfl, by omega, Or.inr ⟨hdn, rfl, rfl⟩⟩
    ·
      refine j_aload_n C 0 dX4_give_13 rfl rfl ?_
      refine j_iload_n C 2 dX4_give_14 rfl rfl ?_
      refine j_callI C hR (kX4_isTask hD hG (nt := nt) (ntI := ntI) hnt hntI (p0 := p1) (b := (p1).toInt) rfl) [] zmX4_isTask zk_X4_86 zK4 (zb_X hG) (zs_X hG) (by decide) rfl rfl (Nat.le_of_ble_eq_true rfl) dX4_give_15 (fun r15 Z15 h15 => ?_)
      obtain ⟨e15, ⟨rfl, h15⟩ | ⟨rfl, h15⟩⟩ := h15
      ·
        refine j_Z e15 ?_
        refine j_if_ne (tgt := 24) (a := ((1 : Nat) : Int)) C (nI_toInt (by omega)) dX4_give_18 (by decide) (fun c18 => ?_) (fun c18 => absurd c18 (by omega))
        obtain ⟨p, hp, rfl⟩ := zi_nat (x := p0) (n := np) (by omega) (by omega)
        refine j_aload_n C 0 dX4_give_24 rfl rfl ?_
        refine j_getR C zK4 (zb_X hG) (zs_X hG) (f := 0) (by decide) rfl zk_X4_11 rfl (zf_X_0 hG) dX4_give_25 ?_
        refine j_iload_n C 1 dX4_give_28 rfl rfl ?_
        refine j_aldP C (zb_Pts hG) (zs_Pts hG) (zl_Pts hG) rfl (by omega) (by decide) (zf_Pts hG (by omega)) dX4_give_29 ?_
        refine j_astore_n (lv' := [(3, .ref (G.2.1 (11 + 4 * p))), (0, .ref (G.2.1 (0))), (1, .int (nI p)), (2, .int (p1))]) C dX4_give_30 rfl (by rw [hN]; decide) rfl ?_
        refine j_aload_n C 0 dX4_give_31 rfl rfl ?_
        refine j_callIN C hR (kX3_isDone hD hG (i := p)  (by omega) (rc := Z (11 + 4 * p) (3)) (rcI := (Z (11 + 4 * p) (3)).toInt) rfl rfl (po := Z (11 + 4 * p) (5)) (poI := (Z (11 + 4 * p) (5)).toInt) rfl rfl (en := Z (11 + 4 * p) (4)) (enI := (Z (11 + 4 * p) (4)).toInt) rfl rfl) [] zmX3_isDone zk_X4_89 zK3 (zb_Part hG (by omega)) (zs_Part hG (by omega)) (by decide) rfl rfl (Nat.le_of_ble_eq_true rfl) dX4_give_32 (fun r32 Z32 h32 => ?_)
        obtain ⟨e32, ⟨rfl, h32⟩ | ⟨rfl, h32⟩⟩ := h32
        ·
          refine j_Z e32 ?_
          have hdn : dnC Z p = true := decide_eq_true (by have := hpo p hp; omega)
          refine j_if_eq (tgt := 41) (a := ((1 : Nat) : Int)) C (nI_toInt (by omega)) dX4_give_35 (by decide) (fun c35 => absurd c35 (by omega)) (fun c35 => ?_)
          refine j_bipush C (-13) dX4_give_38 (by decide) ?_
          refine j_iret C R dX4_give_40 ?_
          exact Or.inr ⟨p, hp, rfl, by omega, Or.inl ⟨hdn, rfl, rfl⟩⟩
        ·
          refine j_Z e32 ?_
          have hdn : dnC Z p = false := decide_eq_false (by have := hpo p hp; omega)
          refine j_if_eq (tgt := 41) (a := ((0 : Nat) : Int)) C (nI_toInt (by omega)) dX4_give_35 (by decide) (fun c35 => ?_) (fun c35 => absurd c35 (by omega))
          refine j_aload_n C 0 dX4_give_41 rfl rfl ?_
          refine j_getIN C zK3 (zb_Part hG (by omega)) (zs_Part hG (by omega)) (f := 9) (by decide) rfl zk_X4_93 rfl (Z (11 + 4 * p) (9)) rfl dX4_give_42 ?_
          refine j_istore (lv' := [(4, .int (Z (11 + 4 * p) (9))), (3, .ref (G.2.1 (11 + 4 * p))), (0, .ref (G.2.1 (0))), (1, .int (nI p)), (2, .int (p1))]) C dX4_give_45 (by rw [hN]; decide) rfl ?_
          refine j_aload_n C 1 dX4_give_47 rfl rfl ?_
          refine j_iload_n C 4 dX4_give_48 rfl rfl ?_
          refine j_putIN C hD zK3 (zb_Part hG (by omega)) (zs_Part hG (by omega)) (f := 9) (by decide) rfl zk_X4_93 rfl rfl rfl rfl dX4_give_49 ?_
          refine j_iload C 0 dX4_give_52 rfl ?_
          refine j_iret C R dX4_give_54 ?_
          exact Or.inr ⟨p, hp, rfl, by omega, Or.inr ⟨hdn, rfl, rfl⟩⟩
      ·
        refine j_Z e15 ?_
        refine j_if_ne (tgt := 24) (a := ((0 : Nat) : Int)) C (nI_toInt (by omega)) dX4_give_18 (by decide) (fun c18 => absurd c18 (by omega)) (fun c18 => ?_)
        refine j_bipush C (-11) dX4_give_21 (by decide) ?_
        refine j_iret C R dX4_give_23 ?_
        exact Or.inl ⟨by omega, rfl, rfl⟩
  ·
    refine j_Z e2 ?_
    refine j_if_eq (tgt := 21) (a := ((0 : Nat) : Int)) C (nI_toInt (by omega)) dX4_give_5 (by decide) (fun c5 => ?_) (fun c5 => absurd c5 (by omega))
    refine j_bipush C (-11) dX4_give_21 (by decide) ?_
    refine j_iret C R dX4_give_23 ?_
    exact Or.inl ⟨by omega, rfl, rfl⟩
set_option maxRecDepth 100000 in
set_option maxHeartbeats 4000000 in
theorem kX4_latest {l : Launch} {D : va_G} {Y : YT} {b0 : Nat} {G : GT} (hD : GD b0 G) (hG : Gok 113 G) {Z : ZT} (p0 : Int32) : CI l D Y b0 G yX4_latest cX4_latest 2 (some .int) 0 [.ref (G.2.1 (0)), .int (p0)] Z (fun r Z' => ((p0.toInt < 0 ∨ 5 ≤ p0.toInt) ∧ r = (-12) ∧ Z' = Z) ∨ ∃ j : Nat, j < 5 ∧ p0 = nI j ∧ r = Z 10 j ∧ Z' = Z) := by
  refine ci_start (lv0 := [(0, .ref (G.2.1 (0))), (1, .int (p0))]) hD rfl rfl (Nat.le_of_ble_eq_true rfl) rfl ?_
  intro E C R hR hD hN
  refine j_iload_n C 1 dX4_latest_0 rfl rfl ?_
  refine j_if_lt (tgt := 9) (a := (p0).toInt) C rfl dX4_latest_1 (by decide) (fun c1 => ?_) (fun c1 => ?_)
  ·
    refine j_bipush C (-12) dX4_latest_9 (by decide) ?_
    refine j_iret C R dX4_latest_11 ?_
    exact Or.inl ⟨by omega, rfl, rfl⟩
  ·
    refine j_iload_n C 1 dX4_latest_4 rfl rfl ?_
    refine j_iconst C (nI 5) dX4_latest_5 (by decide) ?_
    refine j_icmp_lt (tgt := 12) (a := (p0).toInt) (b := ((5 : Nat) : Int)) C rfl (nI_toInt (by omega)) dX4_latest_6 (by decide) (fun c6 => ?_) (fun c6 => ?_)
    ·
      obtain ⟨j, hj, rfl⟩ := zi_nat (x := p0) (n := 5) (by omega) (by omega)
      refine j_aload_n C 0 dX4_latest_12 rfl rfl ?_
      refine j_getR C zK4 (zb_X hG) (zs_X hG) (f := 4) (by decide) rfl zk_X4_35 rfl (zf_X_4 hG) dX4_latest_13 ?_
      refine j_iload_n C 1 dX4_latest_16 rfl rfl ?_
      refine j_iald C (zb_Lat hG) (zs_Lat hG) (zl_Lat hG) rfl (by omega) (by decide) (Z 10 j) rfl dX4_latest_17 ?_
      refine j_iret C R dX4_latest_18 ?_
      exact Or.inr ⟨j, hj, rfl, rfl, rfl⟩
    ·
      refine j_bipush C (-12) dX4_latest_9 (by decide) ?_
      refine j_iret C R dX4_latest_11 ?_
      exact Or.inl ⟨by omega, rfl, rfl⟩
set_option maxRecDepth 100000 in
set_option maxHeartbeats 4000000 in
theorem kX4_given {l : Launch} {D : va_G} {Y : YT} {b0 : Nat} {G : GT} (hD : GD b0 G) (hG : Gok 113 G) {Z : ZT} (p0 : Int32) : CI l D Y b0 G yX4_given cX4_given 2 (some .int) 1 [.ref (G.2.1 (0)), .int (p0)] Z (fun r Z' => ((p0.toInt < 0 ∨ 255 < p0.toInt) ∧ r = (-12) ∧ Z' = Z) ∨ ∃ j : Nat, j < 256 ∧ p0 = nI j ∧ r = (if (Z 4 j).toInt = 0 then nI 0 else nI 1) ∧ Z' = Z) := by
  refine ci_start (lv0 := [(0, .ref (G.2.1 (0))), (1, .int (p0))]) hD rfl rfl (Nat.le_of_ble_eq_true rfl) rfl ?_
  intro E C R hR hD hN
  refine j_iload_n C 1 dX4_given_0 rfl rfl ?_
  refine j_callS C hR (kX4_isNumber hD hG (p0 := p0) (b := (p0).toInt) rfl) [] zmX4_isNumber rfl zk_X4_56 (by decide) rfl rfl (Nat.le_of_ble_eq_true rfl) dX4_given_1 (fun r1 Z1 h1 => ?_)
  obtain ⟨e1, ⟨rfl, h1⟩ | ⟨rfl, h1⟩⟩ := h1
  ·
    refine j_Z e1 ?_
    refine j_if_ne (tgt := 10) (a := ((1 : Nat) : Int)) C (nI_toInt (by omega)) dX4_given_4 (by decide) (fun c4 => ?_) (fun c4 => absurd c4 (by omega))
    obtain ⟨j, hj, rfl⟩ := zi_nat (x := p0) (n := 256) (by omega) (by omega)
    refine j_aload_n C 0 dX4_given_10 rfl rfl ?_
    refine j_getR C zK4 (zb_X hG) (zs_X hG) (f := 2) (by decide) rfl zk_X4_24 rfl (zf_X_2 hG) dX4_given_11 ?_
    refine j_getRN C zK1 (zb_Fin hG) (zs_Fin hG) (f := 0) (by decide) rfl zk_X4_149 rfl (zf_Fin_0 hG) dX4_given_14 ?_
    refine j_iload_n C 1 dX4_given_17 rfl rfl ?_
    refine j_zald C (zb_Giv hG) (zs_Giv hG) (zl_Giv hG) rfl (by omega) (by decide) (Z 4 j) rfl dX4_given_18 ?_
    refine j_if_eq (tgt := 26) (a := (Z 4 j).toInt) C rfl dX4_given_19 (by decide) (fun c19 => ?_) (fun c19 => ?_)
    ·
      refine j_iconst C (nI 0) dX4_given_26 (by decide) ?_
      refine j_iret C R dX4_given_27 ?_
      exact Or.inr ⟨j, hj, rfl, by simp [c19], rfl⟩
    ·
      refine j_iconst C (nI 1) dX4_given_22 (by decide) ?_
      refine j_goto (tgt := 27) C dX4_given_23 (by decide) ?_
      refine j_iret C R dX4_given_27 ?_
      exact Or.inr ⟨j, hj, rfl, by simp [c19], rfl⟩
  ·
    refine j_Z e1 ?_
    refine j_if_ne (tgt := 10) (a := ((0 : Nat) : Int)) C (nI_toInt (by omega)) dX4_given_4 (by decide) (fun c4 => absurd c4 (by omega)) (fun c4 => ?_)
    refine j_bipush C (-12) dX4_given_7 (by decide) ?_
    refine j_iret C R dX4_given_9 ?_
    exact Or.inl ⟨by omega, rfl, rfl⟩
theorem zlook {x : Int32} (h : x.toInt < 0 ∨ 1 < x.toInt) : Op.lookupswitch.offset (#[((0 : Int), (25 : Int)), (1, 35)] : Array (Int × Int)).toList 45 x.toInt = 45 := by
  have h1 : ¬ x.toInt = 0 := by omega
  have h2 : ¬ x.toInt = 1 := by omega
  have h3 : ¬ 0 = x.toInt := by omega
  have h4 : ¬ 1 = x.toInt := by omega
  simp [Op.lookupswitch.offset, h1, h2, h3, h4]
set_option maxRecDepth 100000 in
set_option maxHeartbeats 4000000 in
theorem kX4_aside {l : Launch} {D : va_G} {Y : YT} {b0 : Nat} {G : GT} (hD : GD b0 G) (hG : Gok 113 G) {Z : ZT} {na : Nat} (hna : Z 3 4 = nI na) (hna100 : na ≤ 100) (p0 p1 : Int32) : CI l D Y b0 G yX4_aside cX4_aside 3 (some .int) 0 [.ref (G.2.1 (0)), .int (p0), .int (p1)] Z (fun r Z' => ((p0.toInt < 0 ∨ (na : Int) ≤ p0.toInt) ∧ r = (-11) ∧ Z' = Z) ∨ ∃ j : Nat, j < na ∧ p0 = nI j ∧ (((p1.toInt < 0 ∨ 1 < p1.toInt) ∧ r = (-12) ∧ Z' = Z) ∨ ((p1 = nI 0) ∧ r = Z 5 j ∧ Z' = Z) ∨ ((p1 = nI 1) ∧ r = Z 6 j ∧ Z' = Z))) := by
  refine ci_start (lv0 := [(0, .ref (G.2.1 (0))), (1, .int (p0)), (2, .int (p1))]) hD rfl rfl (Nat.le_of_ble_eq_true rfl) rfl ?_
  intro E C R hR hD hN
  refine j_iload_n C 1 dX4_aside_0 rfl rfl ?_
  refine j_if_lt (tgt := 15) (a := (p0).toInt) C rfl dX4_aside_1 (by decide) (fun c1 => ?_) (fun c1 => ?_)
  ·
    refine j_bipush C (-11) dX4_aside_15 (by decide) ?_
    refine j_iret C R dX4_aside_17 ?_
    exact Or.inl ⟨by omega, rfl, rfl⟩
  ·
    refine j_iload_n C 1 dX4_aside_4 rfl rfl ?_
    refine j_aload_n C 0 dX4_aside_5 rfl rfl ?_
    refine j_getR C zK4 (zb_X hG) (zs_X hG) (f := 2) (by decide) rfl zk_X4_24 rfl (zf_X_2 hG) dX4_aside_6 ?_
    refine j_getIN C zK1 (zb_Fin hG) (zs_Fin hG) (f := 4) (by decide) rfl zk_X4_168 rfl (nI na) hna dX4_aside_9 ?_
    refine j_icmp_lt (tgt := 18) (a := (p0).toInt) (b := ((na : Nat) : Int)) C rfl (nI_toInt (by omega)) dX4_aside_12 (by decide) (fun c12 => ?_) (fun c12 => ?_)
    ·
      obtain ⟨j, hj, rfl⟩ := zi_nat (x := p0) (n := na) (by omega) (by omega)
      refine j_iload_n C 2 dX4_aside_18 rfl rfl ?_
      rcases zt2 (p1) with e19 | e19 | c19
      ·
        refine j_top e19 ?_
        refine j_lookup (tgt := 44) C dX4_aside_19 (by decide) rfl (by decide) ?_
        refine j_aload_n C 0 dX4_aside_44 rfl rfl ?_
        refine j_getR C zK4 (zb_X hG) (zs_X hG) (f := 2) (by decide) rfl zk_X4_24 rfl (zf_X_2 hG) dX4_aside_45 ?_
        refine j_getRN C zK1 (zb_Fin hG) (zs_Fin hG) (f := 1) (by decide) rfl zk_X4_171 rfl (zf_Fin_1 hG) dX4_aside_48 ?_
        refine j_iload_n C 1 dX4_aside_51 rfl rfl ?_
        refine j_iald C (zb_Asp hG) (zs_Asp hG) (zl_Asp hG) rfl (by omega) (by decide) (Z 5 j) rfl dX4_aside_52 ?_
        refine j_iret C R dX4_aside_53 ?_
        exact Or.inr ⟨j, hj, rfl, Or.inr (Or.inl ⟨e19, rfl, rfl⟩)⟩
      ·
        refine j_top e19 ?_
        refine j_lookup (tgt := 54) C dX4_aside_19 (by decide) rfl (by decide) ?_
        refine j_aload_n C 0 dX4_aside_54 rfl rfl ?_
        refine j_getR C zK4 (zb_X hG) (zs_X hG) (f := 2) (by decide) rfl zk_X4_24 rfl (zf_X_2 hG) dX4_aside_55 ?_
        refine j_getRN C zK1 (zb_Fin hG) (zs_Fin hG) (f := 2) (by decide) rfl zk_X4_174 rfl (zf_Fin_2 hG) dX4_aside_58 ?_
        refine j_iload_n C 1 dX4_aside_61 rfl rfl ?_
        refine j_iald C (zb_Asq hG) (zs_Asq hG) (zl_Asq hG) rfl (by omega) (by decide) (Z 6 j) rfl dX4_aside_62 ?_
        refine j_iret C R dX4_aside_63 ?_
        exact Or.inr ⟨j, hj, rfl, Or.inr (Or.inr ⟨e19, rfl, rfl⟩)⟩
      ·
        refine j_lookup (tgt := 64) (off := 45) C dX4_aside_19 (by decide) (zlook c19) (by decide) ?_
        refine j_bipush C (-12) dX4_aside_64 (by decide) ?_
        refine j_iret C R dX4_aside_66 ?_
        exact Or.inr ⟨j, hj, rfl, Or.inl ⟨c19, rfl, rfl⟩⟩
    ·
      refine j_bipush C (-11) dX4_aside_15 (by decide) ?_
      refine j_iret C R dX4_aside_17 ?_
      exact Or.inl ⟨by omega, rfl, rfl⟩
set_option maxRecDepth 100000 in
set_option maxHeartbeats 4000000 in
theorem kX4_begin {l : Launch} {D : va_G} {Y : YT} {b0 : Nat} {G : GT} (hD : GD b0 G) (hG : Gok 113 G) {Z : ZT}  : CV l D Y b0 G yX4_begin cX4_begin 2 1 [.ref (G.2.1 (0))] Z (fun Z' => Z' = (zfill (zu (zu (zu (zu (zfill (zfill (zu (zu (zfill (zu (zu (zu Z (0) (5) (nI 0)) (0) (6) (nI 0)) (0) (7) (nI 1)) (4) (256) (nI 0)) (3) (3) (nI 0)) (3) (4) (nI 0)) (8) (64) (nI 0)) (9) (64) (nI 0)) (7) (2) (nI 0)) (7) (3) (nI 0)) (7) (4) (nI 0)) (7) (5) (nI 0)) (10) (5) (-1))) := by
  refine cv_start (lv0 := [(0, .ref (G.2.1 (0)))]) hD rfl (Nat.le_of_ble_eq_true rfl) rfl ?_
  intro E C R hR hD hN
  have L31 : ∀ (n : Nat) (k : Nat), 5 + 1 ≤ k + n → k ≤ 5 → J E 0 0 G 31 [(1, .int (nI k)), (0, .ref (G.2.1 (0)))] [] (zfill (zu (zu (zu (zu (zfill (zfill (zu (zu (zfill (zu (zu (zu Z (0) (5) (nI 0)) (0) (6) (nI 0)) (0) (7) (nI 1)) (4) (256) (nI 0)) (3) (3) (nI 0)) (3) (4) (nI 0)) (8) (64) (nI 0)) (9) (64) (nI 0)) (7) (2) (nI 0)) (7) (3) (nI 0)) (7) (4) (nI 0)) (7) (5) (nI 0)) (10) (k) (-1)) := by
    intro n
    induction n with
    | zero => intro k hn hk; exact absurd hn (by omega)
    | succ n ih =>
      intro k hn hk
      refine j_iload_n C 0 dX4_begin_31 rfl rfl ?_
      refine j_iconst C (nI 5) dX4_begin_32 (by decide) ?_
      refine j_icmp_ge (tgt := 49) (a := ((k : Nat) : Int)) (b := ((5 : Nat) : Int)) C (nI_toInt (by omega)) (nI_toInt (by omega)) dX4_begin_33 (by decide) (fun c33 => ?_) (fun c33 => ?_)
      ·
        refine j_ret C R dX4_begin_49 ?_
        have e9 : k = 5 := by omega
        subst e9
        exact rfl
      ·
        refine j_aload_n C 1 dX4_begin_36 rfl rfl ?_
        refine j_getR C zK4 (zb_X hG) (zs_X hG) (f := 4) (by decide) rfl zk_X4_35 rfl (zf_X_4 hG) dX4_begin_37 ?_
        refine j_iload_n C 0 dX4_begin_40 rfl rfl ?_
        refine j_iconst C (-1) dX4_begin_41 (by decide) ?_
        refine j_iast C hD (zb_Lat hG) (zs_Lat hG) (zl_Lat hG) rfl (by omega) (by decide) dX4_begin_42 ?_
        refine j_iinc (v := nI (k + 1)) (lv' := [(1, .int (nI (k + 1))), (0, .ref (G.2.1 (0)))]) C 0 dX4_begin_43 rfl (nI_add k 1) (by rw [hN]; decide) rfl ?_
        refine j_goto (tgt := 31) C dX4_begin_46 (by decide) ?_
        refine j_Z (Z' := (zfill (zu (zu (zu (zu (zfill (zfill (zu (zu (zfill (zu (zu (zu Z (0) (5) (nI 0)) (0) (6) (nI 0)) (0) (7) (nI 1)) (4) (256) (nI 0)) (3) (3) (nI 0)) (3) (4) (nI 0)) (8) (64) (nI 0)) (9) (64) (nI 0)) (7) (2) (nI 0)) (7) (3) (nI 0)) (7) (4) (nI 0)) (7) (5) (nI 0)) (10) (k + 1) (-1))) zfill_s ?_
        exact ih (k + 1) (by omega) (by omega)
  refine j_aload_n C 0 dX4_begin_0 rfl rfl ?_
  refine j_iconst C (nI 0) dX4_begin_1 (by decide) ?_
  refine j_putI C hD zK4 (zb_X hG) (zs_X hG) (f := 5) (by decide) rfl zk_X4_44 rfl rfl rfl rfl dX4_begin_2 ?_
  refine j_aload_n C 0 dX4_begin_5 rfl rfl ?_
  refine j_iconst C (nI 0) dX4_begin_6 (by decide) ?_
  refine j_putI C hD zK4 (zb_X hG) (zs_X hG) (f := 6) (by decide) rfl zk_X4_107 rfl rfl rfl rfl dX4_begin_7 ?_
  refine j_aload_n C 0 dX4_begin_10 rfl rfl ?_
  refine j_iconst C (nI 1) dX4_begin_11 (by decide) ?_
  refine j_putI C hD zK4 (zb_X hG) (zs_X hG) (f := 7) (by decide) rfl zk_X4_114 rfl rfl rfl rfl dX4_begin_12 ?_
  refine j_aload_n C 0 dX4_begin_15 rfl rfl ?_
  refine j_getR C zK4 (zb_X hG) (zs_X hG) (f := 2) (by decide) rfl zk_X4_24 rfl (zf_X_2 hG) dX4_begin_16 ?_
  refine j_callVN C hR (kX1_forget hD hG) [] zmX1_forget zk_X4_126 zK1 (zb_Fin hG) (zs_Fin hG) (by decide) rfl rfl (Nat.le_of_ble_eq_true rfl) dX4_begin_19 (fun Z19 h19 => ?_)
  refine j_Z (Z' := (zu (zu (zfill (zu (zu (zu Z (0) (5) (nI 0)) (0) (6) (nI 0)) (0) (7) (nI 1)) (4) (256) (nI 0)) (3) (3) (nI 0)) (3) (4) (nI 0))) h19 ?_
  refine j_aload_n C 0 dX4_begin_22 rfl rfl ?_
  refine j_getR C zK4 (zb_X hG) (zs_X hG) (f := 3) (by decide) rfl zk_X4_31 rfl (zf_X_3 hG) dX4_begin_23 ?_
  refine j_callVN C hR (kX0_forget hD hG) [] zmX0_forget zk_X4_209 zK0 (zb_Del hG) (zs_Del hG) (by decide) rfl rfl (Nat.le_of_ble_eq_true rfl) dX4_begin_26 (fun Z26 h26 => ?_)
  refine j_Z (Z' := (zu (zu (zu (zu (zfill (zfill (zu (zu (zfill (zu (zu (zu Z (0) (5) (nI 0)) (0) (6) (nI 0)) (0) (7) (nI 1)) (4) (256) (nI 0)) (3) (3) (nI 0)) (3) (4) (nI 0)) (8) (64) (nI 0)) (9) (64) (nI 0)) (7) (2) (nI 0)) (7) (3) (nI 0)) (7) (4) (nI 0)) (7) (5) (nI 0))) h26 ?_
  refine j_iconst C (nI 0) dX4_begin_29 (by decide) ?_
  refine j_istore_n (lv' := [(1, .int (nI 0)), (0, .ref (G.2.1 (0)))]) C dX4_begin_30 rfl (by rw [hN]; decide) rfl ?_
  refine j_Z (Z' := (zfill (zu (zu (zu (zu (zfill (zfill (zu (zu (zfill (zu (zu (zu Z (0) (5) (nI 0)) (0) (6) (nI 0)) (0) (7) (nI 1)) (4) (256) (nI 0)) (3) (3) (nI 0)) (3) (4) (nI 0)) (8) (64) (nI 0)) (9) (64) (nI 0)) (7) (2) (nI 0)) (7) (3) (nI 0)) (7) (4) (nI 0)) (7) (5) (nI 0)) (10) (0) (-1))) (zfill_0).symm ?_
  exact L31 6 0 (by omega) (by omega)
set_option maxRecDepth 100000 in
set_option maxHeartbeats 4000000 in
theorem kX4_clear {l : Launch} {D : va_G} {Y : YT} {b0 : Nat} {G : GT} (hD : GD b0 G) (hG : Gok 113 G) {Z : ZT} {np : Nat} (hnp : Z 0 5 = nI np) (hnp12 : np ≤ 12) : CI l D Y b0 G yX4_clear cX4_clear 2 (some .int) 2 [.ref (G.2.1 (0))] Z (fun r Z' => r = nI np ∧ Z' = (zfill (zu (zu (zu (zu (zfill (zfill (zu (zu (zfill (zu (zu (zu Z (0) (5) (nI 0)) (0) (6) (nI 0)) (0) (7) (nI 1)) (4) (256) (nI 0)) (3) (3) (nI 0)) (3) (4) (nI 0)) (8) (64) (nI 0)) (9) (64) (nI 0)) (7) (2) (nI 0)) (7) (3) (nI 0)) (7) (4) (nI 0)) (7) (5) (nI 0)) (10) (5) (-1))) := by
  refine ci_start (lv0 := [(0, .ref (G.2.1 (0)))]) hD rfl rfl (Nat.le_of_ble_eq_true rfl) rfl ?_
  intro E C R hR hD hN
  refine j_aload_n C 0 dX4_clear_0 rfl rfl ?_
  refine j_getI C zK4 (zb_X hG) (zs_X hG) (f := 5) (by decide) rfl zk_X4_44 rfl (nI np) hnp dX4_clear_1 ?_
  refine j_istore_n (lv' := [(1, .int (nI np)), (0, .ref (G.2.1 (0)))]) C dX4_clear_4 rfl (by rw [hN]; decide) rfl ?_
  refine j_aload_n C 1 dX4_clear_5 rfl rfl ?_
  refine j_callV C hR (kX4_begin hD hG) [] zmX4_begin zk_X4_41 zK4 (zb_X hG) (zs_X hG) (by decide) rfl rfl (Nat.le_of_ble_eq_true rfl) dX4_clear_6 (fun Z6 h6 => ?_)
  refine j_Z (Z' := (zfill (zu (zu (zu (zu (zfill (zfill (zu (zu (zfill (zu (zu (zu Z (0) (5) (nI 0)) (0) (6) (nI 0)) (0) (7) (nI 1)) (4) (256) (nI 0)) (3) (3) (nI 0)) (3) (4) (nI 0)) (8) (64) (nI 0)) (9) (64) (nI 0)) (7) (2) (nI 0)) (7) (3) (nI 0)) (7) (4) (nI 0)) (7) (5) (nI 0)) (10) (5) (-1))) h6 ?_
  refine j_iload_n C 0 dX4_clear_9 rfl rfl ?_
  refine j_iret C R dX4_clear_10 ?_
  exact ⟨rfl, rfl⟩
set_option maxRecDepth 100000 in
set_option maxHeartbeats 4000000 in
theorem kX4_countDone {l : Launch} {D : va_G} {Y : YT} {b0 : Nat} {G : GT} (hD : GD b0 G) (hG : Gok 113 G) {Z : ZT} {np : Nat} (hnp : Z 0 5 = nI np) (hnp12 : np ≤ 12) (hpo : ∀ i, i < np → 0 ≤ (Z (11 + 4 * i) 5).toInt) : CI l D Y b0 G yX4_countDone cX4_countDone 3 (some .int) 3 [.ref (G.2.1 (0))] Z (fun r Z' => Z' = Z ∧ r = nI (zcn (dnC Z) np)) := by
  refine ci_start (lv0 := [(0, .ref (G.2.1 (0)))]) hD rfl rfl (Nat.le_of_ble_eq_true rfl) rfl ?_
  intro E C R hR hD hN
  have L4 : ∀ (n : Nat) (k : Nat), np + 1 ≤ k + n → k ≤ np → J E 0 0 G 4 [(2, .int (nI k)), (1, .int (nI (zcn (dnC Z) k))), (0, .ref (G.2.1 (0)))] [] Z := by
    intro n
    induction n with
    | zero => intro k hn hk; exact absurd hn (by omega)
    | succ n ih =>
      intro k hn hk
      refine j_iload_n C 0 dX4_countDone_4 rfl rfl ?_
      refine j_aload_n C 2 dX4_countDone_5 rfl rfl ?_
      refine j_getI C zK4 (zb_X hG) (zs_X hG) (f := 5) (by decide) rfl zk_X4_44 rfl (nI np) hnp dX4_countDone_6 ?_
      refine j_icmp_ge (tgt := 33) (a := ((k : Nat) : Int)) (b := ((np : Nat) : Int)) C (nI_toInt (by omega)) (nI_toInt (by omega)) dX4_countDone_9 (by decide) (fun c9 => ?_) (fun c9 => ?_)
      ·
        refine j_iload_n C 1 dX4_countDone_33 rfl rfl ?_
        refine j_iret C R dX4_countDone_34 ?_
        have e9 : k = np := by omega
        subst e9
        exact ⟨rfl, rfl⟩
      ·
        refine j_aload_n C 2 dX4_countDone_12 rfl rfl ?_
        refine j_getR C zK4 (zb_X hG) (zs_X hG) (f := 0) (by decide) rfl zk_X4_11 rfl (zf_X_0 hG) dX4_countDone_13 ?_
        refine j_iload_n C 0 dX4_countDone_16 rfl rfl ?_
        refine j_aldP C (zb_Pts hG) (zs_Pts hG) (zl_Pts hG) rfl (by omega) (by decide) (zf_Pts hG (by omega)) dX4_countDone_17 ?_
        refine j_callIN C hR (kX3_isDone hD hG (i := k)  (by omega) (rc := Z (11 + 4 * k) (3)) (rcI := (Z (11 + 4 * k) (3)).toInt) rfl rfl (po := Z (11 + 4 * k) (5)) (poI := (Z (11 + 4 * k) (5)).toInt) rfl rfl (en := Z (11 + 4 * k) (4)) (enI := (Z (11 + 4 * k) (4)).toInt) rfl rfl) [] zmX3_isDone zk_X4_89 zK3 (zb_Part hG (by omega)) (zs_Part hG (by omega)) (by decide) rfl rfl (Nat.le_of_ble_eq_true rfl) dX4_countDone_18 (fun r18 Z18 h18 => ?_)
        obtain ⟨e18, ⟨rfl, h18⟩ | ⟨rfl, h18⟩⟩ := h18
        ·
          refine j_Z e18 ?_
          have hdn : dnC Z k = true := decide_eq_true (by have := hpo k (by omega); omega)
          refine j_if_eq (tgt := 27) (a := ((1 : Nat) : Int)) C (nI_toInt (by omega)) dX4_countDone_21 (by decide) (fun c21 => absurd c21 (by omega)) (fun c21 => ?_)
          refine j_iinc (v := nI (zcn (dnC Z) k + 1)) (lv' := [(1, .int (nI (zcn (dnC Z) k + 1))), (2, .int (nI k)), (0, .ref (G.2.1 (0)))]) C 1 dX4_countDone_24 rfl (nI_add (zcn (dnC Z) k) 1) (by rw [hN]; decide) rfl ?_
          refine j_iinc (v := nI (k + 1)) (lv' := [(2, .int (nI (k + 1))), (1, .int (nI (zcn (dnC Z) k + 1))), (0, .ref (G.2.1 (0)))]) C 1 dX4_countDone_27 rfl (nI_add k 1) (by rw [hN]; decide) rfl ?_
          refine j_goto (tgt := 4) C dX4_countDone_30 (by decide) ?_
          refine j_lv (lv' := [(2, .int (nI (k + 1))), (1, .int (nI (zcn (dnC Z) (k + 1)))), (0, .ref (G.2.1 (0)))]) (by first | rw [zcn_t hdn] | rw [zcn_f hdn]) ?_
          exact ih (k + 1) (by omega) (by omega)
        ·
          refine j_Z e18 ?_
          have hdn : dnC Z k = false := decide_eq_false (by have := hpo k (by omega); omega)
          refine j_if_eq (tgt := 27) (a := ((0 : Nat) : Int)) C (nI_toInt (by omega)) dX4_countDone_21 (by decide) (fun c21 => ?_) (fun c21 => absurd c21 (by omega))
          refine j_iinc (v := nI (k + 1)) (lv' := [(2, .int (nI (k + 1))), (1, .int (nI (zcn (dnC Z) k))), (0, .ref (G.2.1 (0)))]) C 0 dX4_countDone_27 rfl (nI_add k 1) (by rw [hN]; decide) rfl ?_
          refine j_goto (tgt := 4) C dX4_countDone_30 (by decide) ?_
          refine j_lv (lv' := [(2, .int (nI (k + 1))), (1, .int (nI (zcn (dnC Z) (k + 1)))), (0, .ref (G.2.1 (0)))]) (by first | rw [zcn_t hdn] | rw [zcn_f hdn]) ?_
          exact ih (k + 1) (by omega) (by omega)
  refine j_iconst C (nI 0) dX4_countDone_0 (by decide) ?_
  refine j_istore_n (lv' := [(1, .int (nI 0)), (0, .ref (G.2.1 (0)))]) C dX4_countDone_1 rfl (by rw [hN]; decide) rfl ?_
  refine j_iconst C (nI 0) dX4_countDone_2 (by decide) ?_
  refine j_istore_n (lv' := [(2, .int (nI 0)), (1, .int (nI 0)), (0, .ref (G.2.1 (0)))]) C dX4_countDone_3 rfl (by rw [hN]; decide) rfl ?_
  exact L4 (np + 1) 0 (by omega) (by omega)
end
section
def zpf (Z : ZT) (k : Nat) (F : Nat → Nat → Int32) (fs : List Nat) : ZT := fun a b => if b ∈ fs ∧ 11 ≤ a ∧ a < 11 + 4 * k ∧ (a - 11) % 4 = 0 then F ((a - 11) / 4) b else Z a b
theorem zpf_at {Z : ZT} {k i b : Nat} {F : Nat → Nat → Int32} {fs : List Nat} (h : i < k) (hb : b ∈ fs) : zpf Z k F fs (11 + 4 * i) b = F i b := by
  have h1 : 11 ≤ 11 + 4 * i := by omega
  have h2 : 11 + 4 * i < 11 + 4 * k := by omega
  have h3 : (11 + 4 * i - 11) % 4 = 0 := by omega
  have h4 : (11 + 4 * i - 11) / 4 = i := by omega
  simp only [zpf, hb, h1, h2, h3, h4, and_self, if_true]
theorem zpf_o {Z : ZT} {k a b : Nat} {F : Nat → Nat → Int32} {fs : List Nat} (h : a < 11 ∨ 11 + 4 * k ≤ a ∨ (a - 11) % 4 ≠ 0) : zpf Z k F fs a b = Z a b := by
  have : ¬ (b ∈ fs ∧ 11 ≤ a ∧ a < 11 + 4 * k ∧ (a - 11) % 4 = 0) := by omega
  simp only [zpf, this, if_false]
theorem zpf_f {Z : ZT} {k a b : Nat} {F : Nat → Nat → Int32} {fs : List Nat} (h : b ∉ fs) : zpf Z k F fs a b = Z a b := by
  simp only [zpf, h, false_and, if_false]
theorem zpf_0 {Z : ZT} {F : Nat → Nat → Int32} {fs : List Nat} : zpf Z 0 F fs = Z := by
  funext a b
  exact zpf_o (by omega)
theorem zpf_s {Z Z1 : ZT} {k : Nat} {F : Nat → Nat → Int32} {fs : List Nat} (h1 : ∀ a b, a ≠ 11 + 4 * k → Z1 a b = zpf Z k F fs a b) (h2 : ∀ b, b ∈ fs → Z1 (11 + 4 * k) b = F k b) (h3 : ∀ b, b ∉ fs → Z1 (11 + 4 * k) b = Z (11 + 4 * k) b) : Z1 = zpf Z (k + 1) F fs := by
  funext a b
  by_cases ha : a = 11 + 4 * k
  · rw [ha]
    by_cases hb : b ∈ fs
    · rw [h2 b hb, zpf_at (by omega) hb]
    · rw [h3 b hb, zpf_f hb]
  · rw [h1 a b ha]
    by_cases hc : b ∈ fs ∧ 11 ≤ a ∧ a < 11 + 4 * k ∧ (a - 11) % 4 = 0
    · have hc2 : b ∈ fs ∧ 11 ≤ a ∧ a < 11 + 4 * (k + 1) ∧ (a - 11) % 4 = 0 := ⟨hc.1, hc.2.1, by omega, hc.2.2.2⟩
      simp only [zpf, hc, hc2, if_true, and_self]
    · have hc2 : ¬ (b ∈ fs ∧ 11 ≤ a ∧ a < 11 + 4 * (k + 1) ∧ (a - 11) % 4 = 0) := fun q => hc ⟨q.1, q.2.1, by omega, q.2.2.2⟩
      simp only [zpf, hc, hc2, if_false]
theorem zpf_n {Z : ZT} {k : Nat} {F : Nat → Nat → Int32} {fs : List Nat} (h : ∀ b, b ∈ fs → F k b = Z (11 + 4 * k) b) : zpf Z k F fs = zpf Z (k + 1) F fs :=
  zpf_s (fun _ _ _ => rfl) (fun b hb => by rw [zpf_o (by omega), h b hb]) (fun b hb => zpf_f hb)
def rtz (re po rc t : Int32) : Bool := decide (re.toInt = t.toInt ∧ po.toInt < rc.toInt)
abbrev rtC (Z : ZT) (t : Int32) (i : Nat) : Bool := rtz (Z (11 + 4 * i) 9) (Z (11 + 4 * i) 5) (Z (11 + 4 * i) 3) t
def ncC (Z : ZT) (t : Int32) (i : Nat) : Int32 := if rtC Z t i = true then Z (11 + 4 * i) 7 + Z (11 + 4 * i) 8 else Z (11 + 4 * i) 7
def nxb (rd : Nat → Bool) (nc : Nat → Int32) : Nat → Option Nat
  | 0 => none
  | n + 1 => if rd n = true then (match nxb rd nc n with
    | none => some n
    | some c => if (nc n).toInt ≤ (nc c).toInt then some c else some n) else nxb rd nc n
def nxs (rd : Nat → Bool) (sh : Nat → Int32) : Nat → Int32
  | 0 => 0
  | n + 1 => if rd n = true then nxs rd sh n + sh n else nxs rd sh n
def oiz : Option Nat → Int32
  | none => -1
  | some c => nI c
theorem nxb_spec {rd : Nat → Bool} {nc : Nat → Int32} : ∀ {n c : Nat}, nxb rd nc n = some c → c < n ∧ rd c = true := by
  intro n
  induction n with
  | zero => intro c h; cases h
  | succ n ih =>
    intro c h
    by_cases hr : rd n = true
    · cases hb : nxb rd nc n with
      | none =>
        simp only [nxb, hr, hb, if_true] at h
        cases h
        exact ⟨by omega, hr⟩
      | some d =>
        simp only [nxb, hr, hb, if_true] at h
        by_cases hc : (nc n).toInt ≤ (nc d).toInt
        · simp only [hc, if_true] at h
          cases h
          have := ih hb
          exact ⟨by omega, this.2⟩
        · simp only [hc, if_false] at h
          cases h
          exact ⟨by omega, hr⟩
    · simp only [nxb, hr, if_false] at h
      have := ih h
      exact ⟨by omega, this.2⟩
theorem nxb_congr {rd rd' : Nat → Bool} {nc nc' : Nat → Int32} : ∀ {n : Nat}, (∀ i, i < n → rd i = rd' i) → (∀ i, i < n → nc i = nc' i) → nxb rd nc n = nxb rd' nc' n := by
  intro n
  induction n with
  | zero => intro _ _; rfl
  | succ n ih =>
    intro h1 h2
    have e := ih (fun i hi => h1 i (by omega)) (fun i hi => h2 i (by omega))
    have e1 := h1 n (by omega)
    have e2 := h2 n (by omega)
    cases hb : nxb rd' nc' n with
    | none => rw [hb] at e; simp only [nxb, e, e1, hb]
    | some d =>
      rw [hb] at e
      have e3 := h2 d (by have := nxb_spec hb; omega)
      simp only [nxb, e, e1, e2, e3, hb]
theorem nxs_congr {rd rd' : Nat → Bool} {sh sh' : Nat → Int32} : ∀ {n : Nat}, (∀ i, i < n → rd i = rd' i) → (∀ i, i < n → sh i = sh' i) → nxs rd sh n = nxs rd' sh' n := by
  intro n
  induction n with
  | zero => intro _ _; rfl
  | succ n ih => intro h1 h2; simp only [nxs, h1 n (by omega), h2 n (by omega), ih (fun i hi => h1 i (by omega)) (fun i hi => h2 i (by omega))]
theorem nxb_f {rd : Nat → Bool} {nc : Nat → Int32} {n : Nat} (h : rd n = false) : nxb rd nc (n + 1) = nxb rd nc n := by simp [nxb, h]
theorem nxb_0 {rd : Nat → Bool} {nc : Nat → Int32} {n : Nat} (h : rd n = true) (hb : nxb rd nc n = none) : nxb rd nc (n + 1) = some n := by simp [nxb, h, hb]
theorem nxb_1 {rd : Nat → Bool} {nc : Nat → Int32} {n c : Nat} (h : rd n = true) (hb : nxb rd nc n = some c) (hc : (nc n).toInt ≤ (nc c).toInt) : nxb rd nc (n + 1) = some c := by simp [nxb, h, hb, hc]
theorem nxb_2 {rd : Nat → Bool} {nc : Nat → Int32} {n c : Nat} (h : rd n = true) (hb : nxb rd nc n = some c) (hc : (nc c).toInt < (nc n).toInt) : nxb rd nc (n + 1) = some n := by simp [nxb, h, hb, show ¬ (nc n).toInt ≤ (nc c).toInt by omega]
theorem nxs_t {rd : Nat → Bool} {sh : Nat → Int32} {n : Nat} (h : rd n = true) : nxs rd sh (n + 1) = nxs rd sh n + sh n := by simp [nxs, h]
theorem nxs_f {rd : Nat → Bool} {sh : Nat → Int32} {n : Nat} (h : rd n = false) : nxs rd sh (n + 1) = nxs rd sh n := by simp [nxs, h]
abbrev shC (Z : ZT) (i : Nat) : Int32 := Z (11 + 4 * i) 8
set_option maxRecDepth 100000 in
set_option maxHeartbeats 4000000 in
theorem kX4_chooseByCredit {l : Launch} {D : va_G} {Y : YT} {b0 : Nat} {G : GT} (hD : GD b0 G) (hG : Gok 113 G) {Z : ZT} {np : Nat} (hnp : Z 0 5 = nI np) (hnp12 : np ≤ 12) (hpo : ∀ i, i < np → 0 ≤ (Z (11 + 4 * i) 5).toInt) (p0 : Int32) : CI l D Y b0 G yX4_chooseByCredit cX4_chooseByCredit 6 (some .int) 3 [.ref (G.2.1 (0)), .int (p0)] Z (fun r Z' => (nxb (rtC Z p0) (ncC Z p0) np = none ∧ r = (-1) ∧ Z' = zpf Z np (fun i _ => ncC Z p0 i) [7]) ∨ ∃ c, nxb (rtC Z p0) (ncC Z p0) np = some c ∧ r = nI c ∧ Z' = zu (zpf Z np (fun i _ => ncC Z p0 i) [7]) (11 + 4 * c) 7 (ncC Z p0 c - nxs (rtC Z p0) (shC Z) np)) := by
  refine ci_start (lv0 := [(0, .ref (G.2.1 (0))), (1, .int (p0))]) hD rfl rfl (Nat.le_of_ble_eq_true rfl) rfl ?_
  intro E C R hR hD hN
  have L7 : ∀ (n : Nat) (k : Nat) (o : Option Nat), np + 1 ≤ k + n → k ≤ np → nxb (rtC Z p0) (ncC Z p0) k = o → J E 0 0 G 7 [(4, .int (nI k)), (2, .int (oiz o)), (3, .int (nxs (rtC Z p0) (shC Z) k)), (0, .ref (G.2.1 (0))), (1, .int (p0))] [] (zpf Z (k) (fun i _ => ncC Z p0 i) [7]) := by
    intro n
    induction n with
    | zero => intro k o hn hk ho; exact absurd hn (by omega)
    | succ n ih =>
      intro k o hn hk ho
      rcases o with _ | c
      ·
        refine j_iload C 0 dX4_chooseByCredit_7 rfl ?_
        refine j_aload_n C 3 dX4_chooseByCredit_9 rfl rfl ?_
        refine j_getI C zK4 (zb_X hG) (zs_X hG) (f := 5) (by decide) rfl zk_X4_44 rfl (nI np) ((zpf_o (by omega)).trans (hnp)) dX4_chooseByCredit_10 ?_
        refine j_icmp_ge (tgt := 88) (a := ((k : Nat) : Int)) (b := ((np : Nat) : Int)) C (nI_toInt (by omega)) (nI_toInt (by omega)) dX4_chooseByCredit_13 (by decide) (fun c13 => ?_) (fun c13 => ?_)
        ·
          have e9 : k = np := by omega
          subst e9
          refine j_iload_n C 1 dX4_chooseByCredit_88 rfl rfl ?_
          refine j_iconst C (-1) dX4_chooseByCredit_89 (by decide) ?_
          refine j_icmp_eq (tgt := 108) (a := -1) (b := -1) C (show ((-1 : Int32)).toInt = -1 by decide) (show ((-1 : Int32)).toInt = -1 by decide) dX4_chooseByCredit_90 (by decide) (fun c90 => ?_) (fun c90 => absurd c90 (by omega))
          refine j_iload_n C 1 dX4_chooseByCredit_108 rfl rfl ?_
          refine j_iret C R dX4_chooseByCredit_109 ?_
          exact Or.inl ⟨ho, rfl, rfl⟩
        ·
          refine j_aload_n C 3 dX4_chooseByCredit_16 rfl rfl ?_
          refine j_getR C zK4 (zb_X hG) (zs_X hG) (f := 0) (by decide) rfl zk_X4_11 rfl (zf_X_0 hG) dX4_chooseByCredit_17 ?_
          refine j_iload C 0 dX4_chooseByCredit_20 rfl ?_
          refine j_aldP C (zb_Pts hG) (zs_Pts hG) (zl_Pts hG) rfl (by omega) (by decide) (zf_Pts hG (by omega)) dX4_chooseByCredit_22 ?_
          refine j_astore (lv' := [(5, .ref (G.2.1 (11 + 4 * k))), (4, .int (nI k)), (2, .int (-1)), (3, .int (nxs (rtC Z p0) (shC Z) k)), (0, .ref (G.2.1 (0))), (1, .int (p0))]) C dX4_chooseByCredit_23 (by rw [hN]; decide) rfl ?_
          refine j_aload C 0 dX4_chooseByCredit_25 rfl ?_
          refine j_iload_n C 5 dX4_chooseByCredit_27 rfl rfl ?_
          refine j_callIN C hR (kX3_isReadyFor hD hG (i := k)  (by omega) (rc := Z (11 + 4 * k) (3)) (rcI := (Z (11 + 4 * k) (3)).toInt) (zpf_o (by omega)) rfl (po := Z (11 + 4 * k) (5)) (poI := (Z (11 + 4 * k) (5)).toInt) (zpf_o (by omega)) rfl (re := Z (11 + 4 * k) (9)) (reI := (Z (11 + 4 * k) (9)).toInt) (zpf_o (by omega)) rfl (p0 := p0) (b := (p0).toInt) rfl) [] zmX3_isReadyFor zk_X4_179 zK3 (zb_Part hG (by omega)) (zs_Part hG (by omega)) (by decide) rfl rfl (Nat.le_of_ble_eq_true rfl) dX4_chooseByCredit_28 (fun r28 Z28 h28 => ?_)
          obtain ⟨e28, ⟨rfl, h28⟩ | ⟨rfl, h28⟩⟩ := h28
          ·
            refine j_Z e28 ?_
            have hrt : rtC Z p0 k = true := decide_eq_true (by have := hpo k (by omega); omega)
            have hnc : Z (11 + 4 * k) 7 + Z (11 + 4 * k) 8 = ncC Z p0 k := by simp only [ncC, hrt, if_true]
            refine j_if_eq (tgt := 82) (a := ((1 : Nat) : Int)) C (nI_toInt (by omega)) dX4_chooseByCredit_31 (by decide) (fun c31 => absurd c31 (by omega)) (fun c31 => ?_)
            refine j_aload C 0 dX4_chooseByCredit_34 rfl ?_
            refine j_dup C dX4_chooseByCredit_36 rfl ?_
            refine j_getIN C zK3 (zb_Part hG (by omega)) (zs_Part hG (by omega)) (f := 7) (by decide) rfl zk_X4_142 rfl (Z (11 + 4 * k) (7)) (zpf_o (by omega)) dX4_chooseByCredit_37 ?_
            refine j_aload C 0 dX4_chooseByCredit_40 rfl ?_
            refine j_getIN C zK3 (zb_Part hG (by omega)) (zs_Part hG (by omega)) (f := 8) (by decide) rfl zk_X4_79 rfl (Z (11 + 4 * k) (8)) (zpf_o (by omega)) dX4_chooseByCredit_42 ?_
            refine j_iadd C (ncC Z p0 k) dX4_chooseByCredit_45 hnc ?_
            refine j_putIN C hD zK3 (zb_Part hG (by omega)) (zs_Part hG (by omega)) (f := 7) (by decide) rfl zk_X4_142 rfl rfl rfl rfl dX4_chooseByCredit_46 ?_
            refine j_iload_n C 3 dX4_chooseByCredit_49 rfl rfl ?_
            refine j_aload C 0 dX4_chooseByCredit_50 rfl ?_
            refine j_getIN C zK3 (zb_Part hG (by omega)) (zs_Part hG (by omega)) (f := 8) (by decide) rfl zk_X4_79 rfl (Z (11 + 4 * k) (8)) ((zu_o (by omega)).trans ((zpf_o (by omega)))) dX4_chooseByCredit_52 ?_
            refine j_iadd C ((nxs (rtC Z p0) (shC Z) k) + (Z (11 + 4 * k) (8))) dX4_chooseByCredit_55 rfl ?_
            refine j_istore_n (lv' := [(3, .int ((nxs (rtC Z p0) (shC Z) k) + (Z (11 + 4 * k) (8)))), (5, .ref (G.2.1 (11 + 4 * k))), (4, .int (nI k)), (2, .int (-1)), (0, .ref (G.2.1 (0))), (1, .int (p0))]) C dX4_chooseByCredit_56 rfl (by rw [hN]; decide) rfl ?_
            refine j_iload_n C 3 dX4_chooseByCredit_57 rfl rfl ?_
            refine j_iconst C (-1) dX4_chooseByCredit_58 (by decide) ?_
            refine j_icmp_eq (tgt := 79) (a := -1) (b := -1) C (show ((-1 : Int32)).toInt = -1 by decide) (show ((-1 : Int32)).toInt = -1 by decide) dX4_chooseByCredit_59 (by decide) (fun c59 => ?_) (fun c59 => absurd c59 (by omega))
            refine j_iload C 2 dX4_chooseByCredit_79 rfl ?_
            refine j_istore_n (lv' := [(2, .int (nI k)), (3, .int ((nxs (rtC Z p0) (shC Z) k) + (Z (11 + 4 * k) (8)))), (5, .ref (G.2.1 (11 + 4 * k))), (4, .int (nI k)), (0, .ref (G.2.1 (0))), (1, .int (p0))]) C dX4_chooseByCredit_81 rfl (by rw [hN]; decide) rfl ?_
            refine j_iinc (v := nI (k + 1)) (lv' := [(4, .int (nI (k + 1))), (2, .int (nI k)), (3, .int ((nxs (rtC Z p0) (shC Z) k) + (Z (11 + 4 * k) (8)))), (5, .ref (G.2.1 (11 + 4 * k))), (0, .ref (G.2.1 (0))), (1, .int (p0))]) C 3 dX4_chooseByCredit_82 rfl (nI_add k 1) (by rw [hN]; decide) rfl ?_
            refine j_goto (tgt := 7) C dX4_chooseByCredit_85 (by decide) ?_
            refine j_sub (lv' := [(4, .int (nI (k + 1))), (2, .int (nI k)), (3, .int ((nxs (rtC Z p0) (shC Z) k) + (Z (11 + 4 * k) (8)))), (0, .ref (G.2.1 (0))), (1, .int (p0))]) [0, 1, 2, 4, 5] rfl ?_
            refine j_lv (lv' := [(4, .int (nI (k + 1))), (2, .int (oiz (some k))), (3, .int (nxs (rtC Z p0) (shC Z) (k + 1))), (0, .ref (G.2.1 (0))), (1, .int (p0))]) (by rw [nxs_t hrt]; rfl) ?_
            refine j_Z (Z' := (zpf Z (k + 1) (fun i _ => ncC Z p0 i) [7])) (zpf_s (fun a b ha => zu_o (by omega)) (fun b hb => by rw [List.mem_singleton.mp hb, zu_s]; try exact hnc) (fun b hb => by rw [zu_o (Or.inr (fun q => hb (by rw [q]; decide))), zpf_o (by omega)])) ?_
            exact ih (k + 1) (some k) (by omega) (by omega) (by first | exact nxb_0 hrt ho | exact nxb_2 hrt ho (by omega))
          ·
            refine j_Z e28 ?_
            have hrt : rtC Z p0 k = false := decide_eq_false (by have := hpo k (by omega); omega)
            have hnc : ncC Z p0 k = Z (11 + 4 * k) 7 := by simp only [ncC, hrt]; rfl
            refine j_if_eq (tgt := 82) (a := ((0 : Nat) : Int)) C (nI_toInt (by omega)) dX4_chooseByCredit_31 (by decide) (fun c31 => ?_) (fun c31 => absurd c31 (by omega))
            refine j_iinc (v := nI (k + 1)) (lv' := [(4, .int (nI (k + 1))), (5, .ref (G.2.1 (11 + 4 * k))), (2, .int (-1)), (3, .int (nxs (rtC Z p0) (shC Z) k)), (0, .ref (G.2.1 (0))), (1, .int (p0))]) C 1 dX4_chooseByCredit_82 rfl (nI_add k 1) (by rw [hN]; decide) rfl ?_
            refine j_goto (tgt := 7) C dX4_chooseByCredit_85 (by decide) ?_
            refine j_sub (lv' := [(4, .int (nI (k + 1))), (2, .int (-1)), (3, .int (nxs (rtC Z p0) (shC Z) k)), (0, .ref (G.2.1 (0))), (1, .int (p0))]) [0, 2, 3, 4, 5] rfl ?_
            refine j_lv (lv' := [(4, .int (nI (k + 1))), (2, .int (oiz none)), (3, .int (nxs (rtC Z p0) (shC Z) (k + 1))), (0, .ref (G.2.1 (0))), (1, .int (p0))]) (by rw [nxs_f hrt]; rfl) ?_
            refine j_Z (Z' := (zpf Z (k + 1) (fun i _ => ncC Z p0 i) [7])) (zpf_n (fun b hb => by rw [List.mem_singleton.mp hb]; exact hnc)) ?_
            exact ih (k + 1) none (by omega) (by omega) (by rw [nxb_f hrt]; exact ho)
      ·
        have hc : c < k := (nxb_spec ho).1
        refine j_iload C 0 dX4_chooseByCredit_7 rfl ?_
        refine j_aload_n C 3 dX4_chooseByCredit_9 rfl rfl ?_
        refine j_getI C zK4 (zb_X hG) (zs_X hG) (f := 5) (by decide) rfl zk_X4_44 rfl (nI np) ((zpf_o (by omega)).trans (hnp)) dX4_chooseByCredit_10 ?_
        refine j_icmp_ge (tgt := 88) (a := ((k : Nat) : Int)) (b := ((np : Nat) : Int)) C (nI_toInt (by omega)) (nI_toInt (by omega)) dX4_chooseByCredit_13 (by decide) (fun c13 => ?_) (fun c13 => ?_)
        ·
          have e9 : k = np := by omega
          subst e9
          refine j_iload_n C 1 dX4_chooseByCredit_88 rfl rfl ?_
          refine j_iconst C (-1) dX4_chooseByCredit_89 (by decide) ?_
          refine j_icmp_eq (tgt := 108) (a := ((c : Nat) : Int)) (b := -1) C (nI_toInt (by omega)) (show ((-1 : Int32)).toInt = -1 by decide) dX4_chooseByCredit_90 (by decide) (fun c90 => ?_) (fun c90 => ?_)
          ·
            refine j_iload_n C 1 dX4_chooseByCredit_108 rfl rfl ?_
            refine j_iret C R dX4_chooseByCredit_109 ?_
            exact absurd c90 (by omega)
          ·
            refine j_aload_n C 3 dX4_chooseByCredit_93 rfl rfl ?_
            refine j_getR C zK4 (zb_X hG) (zs_X hG) (f := 0) (by decide) rfl zk_X4_11 rfl (zf_X_0 hG) dX4_chooseByCredit_94 ?_
            refine j_iload_n C 1 dX4_chooseByCredit_97 rfl rfl ?_
            refine j_aldP C (zb_Pts hG) (zs_Pts hG) (zl_Pts hG) rfl (by omega) (by decide) (zf_Pts hG (by omega)) dX4_chooseByCredit_98 ?_
            refine j_dup C dX4_chooseByCredit_99 rfl ?_
            refine j_getIN C zK3 (zb_Part hG (by omega)) (zs_Part hG (by omega)) (f := 7) (by decide) rfl zk_X4_142 rfl (ncC Z p0 c) (zpf_at (by omega) (by decide)) dX4_chooseByCredit_100 ?_
            refine j_iload_n C 2 dX4_chooseByCredit_103 rfl rfl ?_
            refine j_isub C ((ncC Z p0 c) - (nxs (rtC Z p0) (shC Z) k)) dX4_chooseByCredit_104 rfl ?_
            refine j_putIN C hD zK3 (zb_Part hG (by omega)) (zs_Part hG (by omega)) (f := 7) (by decide) rfl zk_X4_142 rfl rfl rfl rfl dX4_chooseByCredit_105 ?_
            refine j_iload_n C 1 dX4_chooseByCredit_108 rfl rfl ?_
            refine j_iret C R dX4_chooseByCredit_109 ?_
            exact Or.inr ⟨c, ho, rfl, rfl⟩
        ·
          refine j_aload_n C 3 dX4_chooseByCredit_16 rfl rfl ?_
          refine j_getR C zK4 (zb_X hG) (zs_X hG) (f := 0) (by decide) rfl zk_X4_11 rfl (zf_X_0 hG) dX4_chooseByCredit_17 ?_
          refine j_iload C 0 dX4_chooseByCredit_20 rfl ?_
          refine j_aldP C (zb_Pts hG) (zs_Pts hG) (zl_Pts hG) rfl (by omega) (by decide) (zf_Pts hG (by omega)) dX4_chooseByCredit_22 ?_
          refine j_astore (lv' := [(5, .ref (G.2.1 (11 + 4 * k))), (4, .int (nI k)), (2, .int (nI c)), (3, .int (nxs (rtC Z p0) (shC Z) k)), (0, .ref (G.2.1 (0))), (1, .int (p0))]) C dX4_chooseByCredit_23 (by rw [hN]; decide) rfl ?_
          refine j_aload C 0 dX4_chooseByCredit_25 rfl ?_
          refine j_iload_n C 5 dX4_chooseByCredit_27 rfl rfl ?_
          refine j_callIN C hR (kX3_isReadyFor hD hG (i := k)  (by omega) (rc := Z (11 + 4 * k) (3)) (rcI := (Z (11 + 4 * k) (3)).toInt) (zpf_o (by omega)) rfl (po := Z (11 + 4 * k) (5)) (poI := (Z (11 + 4 * k) (5)).toInt) (zpf_o (by omega)) rfl (re := Z (11 + 4 * k) (9)) (reI := (Z (11 + 4 * k) (9)).toInt) (zpf_o (by omega)) rfl (p0 := p0) (b := (p0).toInt) rfl) [] zmX3_isReadyFor zk_X4_179 zK3 (zb_Part hG (by omega)) (zs_Part hG (by omega)) (by decide) rfl rfl (Nat.le_of_ble_eq_true rfl) dX4_chooseByCredit_28 (fun r28 Z28 h28 => ?_)
          obtain ⟨e28, ⟨rfl, h28⟩ | ⟨rfl, h28⟩⟩ := h28
          ·
            refine j_Z e28 ?_
            have hrt : rtC Z p0 k = true := decide_eq_true (by have := hpo k (by omega); omega)
            have hnc : Z (11 + 4 * k) 7 + Z (11 + 4 * k) 8 = ncC Z p0 k := by simp only [ncC, hrt, if_true]
            refine j_if_eq (tgt := 82) (a := ((1 : Nat) : Int)) C (nI_toInt (by omega)) dX4_chooseByCredit_31 (by decide) (fun c31 => absurd c31 (by omega)) (fun c31 => ?_)
            refine j_aload C 0 dX4_chooseByCredit_34 rfl ?_
            refine j_dup C dX4_chooseByCredit_36 rfl ?_
            refine j_getIN C zK3 (zb_Part hG (by omega)) (zs_Part hG (by omega)) (f := 7) (by decide) rfl zk_X4_142 rfl (Z (11 + 4 * k) (7)) (zpf_o (by omega)) dX4_chooseByCredit_37 ?_
            refine j_aload C 0 dX4_chooseByCredit_40 rfl ?_
            refine j_getIN C zK3 (zb_Part hG (by omega)) (zs_Part hG (by omega)) (f := 8) (by decide) rfl zk_X4_79 rfl (Z (11 + 4 * k) (8)) (zpf_o (by omega)) dX4_chooseByCredit_42 ?_
            refine j_iadd C (ncC Z p0 k) dX4_chooseByCredit_45 hnc ?_
            refine j_putIN C hD zK3 (zb_Part hG (by omega)) (zs_Part hG (by omega)) (f := 7) (by decide) rfl zk_X4_142 rfl rfl rfl rfl dX4_chooseByCredit_46 ?_
            refine j_iload_n C 3 dX4_chooseByCredit_49 rfl rfl ?_
            refine j_aload C 0 dX4_chooseByCredit_50 rfl ?_
            refine j_getIN C zK3 (zb_Part hG (by omega)) (zs_Part hG (by omega)) (f := 8) (by decide) rfl zk_X4_79 rfl (Z (11 + 4 * k) (8)) ((zu_o (by omega)).trans ((zpf_o (by omega)))) dX4_chooseByCredit_52 ?_
            refine j_iadd C ((nxs (rtC Z p0) (shC Z) k) + (Z (11 + 4 * k) (8))) dX4_chooseByCredit_55 rfl ?_
            refine j_istore_n (lv' := [(3, .int ((nxs (rtC Z p0) (shC Z) k) + (Z (11 + 4 * k) (8)))), (5, .ref (G.2.1 (11 + 4 * k))), (4, .int (nI k)), (2, .int (nI c)), (0, .ref (G.2.1 (0))), (1, .int (p0))]) C dX4_chooseByCredit_56 rfl (by rw [hN]; decide) rfl ?_
            refine j_iload_n C 3 dX4_chooseByCredit_57 rfl rfl ?_
            refine j_iconst C (-1) dX4_chooseByCredit_58 (by decide) ?_
            refine j_icmp_eq (tgt := 79) (a := ((c : Nat) : Int)) (b := -1) C (nI_toInt (by omega)) (show ((-1 : Int32)).toInt = -1 by decide) dX4_chooseByCredit_59 (by decide) (fun c59 => ?_) (fun c59 => ?_)
            ·
              refine j_iload C 2 dX4_chooseByCredit_79 rfl ?_
              refine j_istore_n (lv' := [(2, .int (nI k)), (3, .int ((nxs (rtC Z p0) (shC Z) k) + (Z (11 + 4 * k) (8)))), (5, .ref (G.2.1 (11 + 4 * k))), (4, .int (nI k)), (0, .ref (G.2.1 (0))), (1, .int (p0))]) C dX4_chooseByCredit_81 rfl (by rw [hN]; decide) rfl ?_
              refine j_iinc (v := nI (k + 1)) (lv' := [(4, .int (nI (k + 1))), (2, .int (nI k)), (3, .int ((nxs (rtC Z p0) (shC Z) k) + (Z (11 + 4 * k) (8)))), (5, .ref (G.2.1 (11 + 4 * k))), (0, .ref (G.2.1 (0))), (1, .int (p0))]) C 3 dX4_chooseByCredit_82 rfl (nI_add k 1) (by rw [hN]; decide) rfl ?_
              refine j_goto (tgt := 7) C dX4_chooseByCredit_85 (by decide) ?_
              refine j_sub (lv' := [(4, .int (nI (k + 1))), (2, .int (nI k)), (3, .int ((nxs (rtC Z p0) (shC Z) k) + (Z (11 + 4 * k) (8)))), (0, .ref (G.2.1 (0))), (1, .int (p0))]) [0, 1, 2, 4, 5] rfl ?_
              refine j_lv (lv' := [(4, .int (nI (k + 1))), (2, .int (oiz (some k))), (3, .int (nxs (rtC Z p0) (shC Z) (k + 1))), (0, .ref (G.2.1 (0))), (1, .int (p0))]) (by rw [nxs_t hrt]; rfl) ?_
              refine j_Z (Z' := (zpf Z (k + 1) (fun i _ => ncC Z p0 i) [7])) (zpf_s (fun a b ha => zu_o (by omega)) (fun b hb => by rw [List.mem_singleton.mp hb, zu_s]; try exact hnc) (fun b hb => by rw [zu_o (Or.inr (fun q => hb (by rw [q]; decide))), zpf_o (by omega)])) ?_
              exact ih (k + 1) (some k) (by omega) (by omega) (by first | exact nxb_0 hrt ho | exact nxb_2 hrt ho (by omega))
            ·
              refine j_aload C 1 dX4_chooseByCredit_62 rfl ?_
              refine j_getIN C zK3 (zb_Part hG (by omega)) (zs_Part hG (by omega)) (f := 7) (by decide) rfl zk_X4_142 rfl (ncC Z p0 k) zu_s dX4_chooseByCredit_64 ?_
              refine j_aload_n C 4 dX4_chooseByCredit_67 rfl rfl ?_
              refine j_getR C zK4 (zb_X hG) (zs_X hG) (f := 0) (by decide) rfl zk_X4_11 rfl (zf_X_0 hG) dX4_chooseByCredit_68 ?_
              refine j_iload_n C 3 dX4_chooseByCredit_71 rfl rfl ?_
              refine j_aldP C (zb_Pts hG) (zs_Pts hG) (zl_Pts hG) rfl (by omega) (by decide) (zf_Pts hG (by omega)) dX4_chooseByCredit_72 ?_
              refine j_getIN C zK3 (zb_Part hG (by omega)) (zs_Part hG (by omega)) (f := 7) (by decide) rfl zk_X4_142 rfl (ncC Z p0 c) ((zu_o (by omega)).trans ((zpf_at (by omega) (by decide)))) dX4_chooseByCredit_73 ?_
              refine j_icmp_le (tgt := 82) (a := (ncC Z p0 k).toInt) (b := (ncC Z p0 c).toInt) C rfl rfl dX4_chooseByCredit_76 (by decide) (fun c76 => ?_) (fun c76 => ?_)
              ·
                refine j_iinc (v := nI (k + 1)) (lv' := [(4, .int (nI (k + 1))), (3, .int ((nxs (rtC Z p0) (shC Z) k) + (Z (11 + 4 * k) (8)))), (5, .ref (G.2.1 (11 + 4 * k))), (2, .int (nI c)), (0, .ref (G.2.1 (0))), (1, .int (p0))]) C 2 dX4_chooseByCredit_82 rfl (nI_add k 1) (by rw [hN]; decide) rfl ?_
                refine j_goto (tgt := 7) C dX4_chooseByCredit_85 (by decide) ?_
                refine j_sub (lv' := [(4, .int (nI (k + 1))), (2, .int (nI c)), (3, .int ((nxs (rtC Z p0) (shC Z) k) + (Z (11 + 4 * k) (8)))), (0, .ref (G.2.1 (0))), (1, .int (p0))]) [0, 3, 1, 4, 5] rfl ?_
                refine j_lv (lv' := [(4, .int (nI (k + 1))), (2, .int (oiz (some c))), (3, .int (nxs (rtC Z p0) (shC Z) (k + 1))), (0, .ref (G.2.1 (0))), (1, .int (p0))]) (by rw [nxs_t hrt]; rfl) ?_
                refine j_Z (Z' := (zpf Z (k + 1) (fun i _ => ncC Z p0 i) [7])) (zpf_s (fun a b ha => zu_o (by omega)) (fun b hb => by rw [List.mem_singleton.mp hb, zu_s]; try exact hnc) (fun b hb => by rw [zu_o (Or.inr (fun q => hb (by rw [q]; decide))), zpf_o (by omega)])) ?_
                exact ih (k + 1) (some c) (by omega) (by omega) (nxb_1 hrt ho (by omega))
              ·
                refine j_iload C 2 dX4_chooseByCredit_79 rfl ?_
                refine j_istore_n (lv' := [(2, .int (nI k)), (3, .int ((nxs (rtC Z p0) (shC Z) k) + (Z (11 + 4 * k) (8)))), (5, .ref (G.2.1 (11 + 4 * k))), (4, .int (nI k)), (0, .ref (G.2.1 (0))), (1, .int (p0))]) C dX4_chooseByCredit_81 rfl (by rw [hN]; decide) rfl ?_
                refine j_iinc (v := nI (k + 1)) (lv' := [(4, .int (nI (k + 1))), (2, .int (nI k)), (3, .int ((nxs (rtC Z p0) (shC Z) k) + (Z (11 + 4 * k) (8)))), (5, .ref (G.2.1 (11 + 4 * k))), (0, .ref (G.2.1 (0))), (1, .int (p0))]) C 3 dX4_chooseByCredit_82 rfl (nI_add k 1) (by rw [hN]; decide) rfl ?_
                refine j_goto (tgt := 7) C dX4_chooseByCredit_85 (by decide) ?_
                refine j_sub (lv' := [(4, .int (nI (k + 1))), (2, .int (nI k)), (3, .int ((nxs (rtC Z p0) (shC Z) k) + (Z (11 + 4 * k) (8)))), (0, .ref (G.2.1 (0))), (1, .int (p0))]) [0, 1, 2, 4, 5] rfl ?_
                refine j_lv (lv' := [(4, .int (nI (k + 1))), (2, .int (oiz (some k))), (3, .int (nxs (rtC Z p0) (shC Z) (k + 1))), (0, .ref (G.2.1 (0))), (1, .int (p0))]) (by rw [nxs_t hrt]; rfl) ?_
                refine j_Z (Z' := (zpf Z (k + 1) (fun i _ => ncC Z p0 i) [7])) (zpf_s (fun a b ha => zu_o (by omega)) (fun b hb => by rw [List.mem_singleton.mp hb, zu_s]; try exact hnc) (fun b hb => by rw [zu_o (Or.inr (fun q => hb (by rw [q]; decide))), zpf_o (by omega)])) ?_
                exact ih (k + 1) (some k) (by omega) (by omega) (by first | exact nxb_0 hrt ho | exact nxb_2 hrt ho (by omega))
          ·
            refine j_Z e28 ?_
            have hrt : rtC Z p0 k = false := decide_eq_false (by have := hpo k (by omega); omega)
            have hnc : ncC Z p0 k = Z (11 + 4 * k) 7 := by simp only [ncC, hrt]; rfl
            refine j_if_eq (tgt := 82) (a := ((0 : Nat) : Int)) C (nI_toInt (by omega)) dX4_chooseByCredit_31 (by decide) (fun c31 => ?_) (fun c31 => absurd c31 (by omega))
            refine j_iinc (v := nI (k + 1)) (lv' := [(4, .int (nI (k + 1))), (5, .ref (G.2.1 (11 + 4 * k))), (2, .int (nI c)), (3, .int (nxs (rtC Z p0) (shC Z) k)), (0, .ref (G.2.1 (0))), (1, .int (p0))]) C 1 dX4_chooseByCredit_82 rfl (nI_add k 1) (by rw [hN]; decide) rfl ?_
            refine j_goto (tgt := 7) C dX4_chooseByCredit_85 (by decide) ?_
            refine j_sub (lv' := [(4, .int (nI (k + 1))), (2, .int (nI c)), (3, .int (nxs (rtC Z p0) (shC Z) k)), (0, .ref (G.2.1 (0))), (1, .int (p0))]) [0, 2, 3, 4, 5] rfl ?_
            refine j_lv (lv' := [(4, .int (nI (k + 1))), (2, .int (oiz (some c))), (3, .int (nxs (rtC Z p0) (shC Z) (k + 1))), (0, .ref (G.2.1 (0))), (1, .int (p0))]) (by rw [nxs_f hrt]; rfl) ?_
            refine j_Z (Z' := (zpf Z (k + 1) (fun i _ => ncC Z p0 i) [7])) (zpf_n (fun b hb => by rw [List.mem_singleton.mp hb]; exact hnc)) ?_
            exact ih (k + 1) (some c) (by omega) (by omega) (by rw [nxb_f hrt]; exact ho)
  refine j_iconst C (-1) dX4_chooseByCredit_0 (by decide) ?_
  refine j_istore_n (lv' := [(2, .int (-1)), (0, .ref (G.2.1 (0))), (1, .int (p0))]) C dX4_chooseByCredit_1 rfl (by rw [hN]; decide) rfl ?_
  refine j_iconst C (nI 0) dX4_chooseByCredit_2 (by decide) ?_
  refine j_istore_n (lv' := [(3, .int (nI 0)), (2, .int (-1)), (0, .ref (G.2.1 (0))), (1, .int (p0))]) C dX4_chooseByCredit_3 rfl (by rw [hN]; decide) rfl ?_
  refine j_iconst C (nI 0) dX4_chooseByCredit_4 (by decide) ?_
  refine j_istore (lv' := [(4, .int (nI 0)), (3, .int (nI 0)), (2, .int (-1)), (0, .ref (G.2.1 (0))), (1, .int (p0))]) C dX4_chooseByCredit_5 (by rw [hN]; decide) rfl ?_
  refine j_sub (lv' := [(4, .int (nI 0)), (2, .int (-1)), (3, .int (nI 0)), (0, .ref (G.2.1 (0))), (1, .int (p0))]) [0, 2, 1, 3, 4] rfl ?_
  refine j_lv (lv' := [(4, .int (nI 0)), (2, .int (oiz none)), (3, .int (nxs (rtC Z p0) (shC Z) 0)), (0, .ref (G.2.1 (0))), (1, .int (p0))]) rfl ?_
  refine j_Z (Z' := (zpf Z (0) (fun i _ => ncC Z p0 i) [7])) (zpf_0).symm ?_
  exact L7 (np + 1) 0 none (by omega) (by omega) rfl
set_option maxRecDepth 100000 in
set_option maxHeartbeats 4000000 in
theorem kX4_noteLatest {l : Launch} {D : va_G} {Y : YT} {b0 : Nat} {G : GT} (hD : GD b0 G) (hG : Gok 113 G) {Z : ZT} {c pl : Nat} (hc : c < 12) (hpl : pl < 40) {t md cr : Int32} (ht : Z (13 + 4 * c) pl = t) (hmd : Z 7 2 = md) (hcr : Z (11 + 4 * c) 7 = cr) : CV l D Y b0 G yX4_noteLatest cX4_noteLatest 3 0 [.ref (G.2.1 (0)), .int (nI c), .int (nI pl)] Z (fun Z' => Z' = (zu (zu (zu (zu (zu Z (10) (0) (nI c)) (10) (1) (nI pl)) (10) (2) (t)) (10) (3) (md)) (10) (4) (cr))) := by
  refine cv_start (lv0 := [(0, .ref (G.2.1 (0))), (1, .int (nI c)), (2, .int (nI pl))]) hD rfl (Nat.le_of_ble_eq_true rfl) rfl ?_
  intro E C R hR hD hN
  refine j_aload_n C 0 dX4_noteLatest_0 rfl rfl ?_
  refine j_getR C zK4 (zb_X hG) (zs_X hG) (f := 4) (by decide) rfl zk_X4_35 rfl (zf_X_4 hG) dX4_noteLatest_1 ?_
  refine j_iconst C (nI 0) dX4_noteLatest_4 (by decide) ?_
  refine j_iload_n C 1 dX4_noteLatest_5 rfl rfl ?_
  refine j_iast C hD (zb_Lat hG) (zs_Lat hG) (zl_Lat hG) rfl (by omega) (by decide) dX4_noteLatest_6 ?_
  refine j_aload_n C 0 dX4_noteLatest_7 rfl rfl ?_
  refine j_getR C zK4 (zb_X hG) (zs_X hG) (f := 4) (by decide) rfl zk_X4_35 rfl (zf_X_4 hG) dX4_noteLatest_8 ?_
  refine j_iconst C (nI 1) dX4_noteLatest_11 (by decide) ?_
  refine j_iload_n C 2 dX4_noteLatest_12 rfl rfl ?_
  refine j_iast C hD (zb_Lat hG) (zs_Lat hG) (zl_Lat hG) rfl (by omega) (by decide) dX4_noteLatest_13 ?_
  refine j_aload_n C 0 dX4_noteLatest_14 rfl rfl ?_
  refine j_getR C zK4 (zb_X hG) (zs_X hG) (f := 4) (by decide) rfl zk_X4_35 rfl (zf_X_4 hG) dX4_noteLatest_15 ?_
  refine j_iconst C (nI 2) dX4_noteLatest_18 (by decide) ?_
  refine j_aload_n C 0 dX4_noteLatest_19 rfl rfl ?_
  refine j_getR C zK4 (zb_X hG) (zs_X hG) (f := 0) (by decide) rfl zk_X4_11 rfl (zf_X_0 hG) dX4_noteLatest_20 ?_
  refine j_iload_n C 1 dX4_noteLatest_23 rfl rfl ?_
  refine j_aldP C (zb_Pts hG) (zs_Pts hG) (zl_Pts hG) rfl (by omega) (by decide) (zf_Pts hG hc) dX4_noteLatest_24 ?_
  refine j_getRN C zK3 (zb_Part hG hc) (zs_Part hG hc) (f := 1) (by decide) rfl zk_X4_241 rfl (zf_Part_1 hG hc) dX4_noteLatest_25 ?_
  refine j_iload_n C 2 dX4_noteLatest_28 rfl rfl ?_
  refine j_iald C (zb_Tim hG hc) (zs_Tim hG hc) (zl_Tim hG hc) rfl (by omega) (by decide) (t) ((zu_o (by omega)).trans ((zu_o (by omega)).trans (ht))) dX4_noteLatest_29 ?_
  refine j_iast C hD (zb_Lat hG) (zs_Lat hG) (zl_Lat hG) rfl (by omega) (by decide) dX4_noteLatest_30 ?_
  refine j_aload_n C 0 dX4_noteLatest_31 rfl rfl ?_
  refine j_getR C zK4 (zb_X hG) (zs_X hG) (f := 4) (by decide) rfl zk_X4_35 rfl (zf_X_4 hG) dX4_noteLatest_32 ?_
  refine j_iconst C (nI 3) dX4_noteLatest_35 (by decide) ?_
  refine j_aload_n C 0 dX4_noteLatest_36 rfl rfl ?_
  refine j_getR C zK4 (zb_X hG) (zs_X hG) (f := 3) (by decide) rfl zk_X4_31 rfl (zf_X_3 hG) dX4_noteLatest_37 ?_
  refine j_getIN C zK0 (zb_Del hG) (zs_Del hG) (f := 2) (by decide) rfl zk_X4_190 rfl (md) ((zu_o (by omega)).trans ((zu_o (by omega)).trans ((zu_o (by omega)).trans (hmd)))) dX4_noteLatest_40 ?_
  refine j_iast C hD (zb_Lat hG) (zs_Lat hG) (zl_Lat hG) rfl (by omega) (by decide) dX4_noteLatest_43 ?_
  refine j_aload_n C 0 dX4_noteLatest_44 rfl rfl ?_
  refine j_getR C zK4 (zb_X hG) (zs_X hG) (f := 4) (by decide) rfl zk_X4_35 rfl (zf_X_4 hG) dX4_noteLatest_45 ?_
  refine j_iconst C (nI 4) dX4_noteLatest_48 (by decide) ?_
  refine j_aload_n C 0 dX4_noteLatest_49 rfl rfl ?_
  refine j_getR C zK4 (zb_X hG) (zs_X hG) (f := 0) (by decide) rfl zk_X4_11 rfl (zf_X_0 hG) dX4_noteLatest_50 ?_
  refine j_iload_n C 1 dX4_noteLatest_53 rfl rfl ?_
  refine j_aldP C (zb_Pts hG) (zs_Pts hG) (zl_Pts hG) rfl (by omega) (by decide) (zf_Pts hG hc) dX4_noteLatest_54 ?_
  refine j_getIN C zK3 (zb_Part hG hc) (zs_Part hG hc) (f := 7) (by decide) rfl zk_X4_142 rfl (cr) ((zu_o (by omega)).trans ((zu_o (by omega)).trans ((zu_o (by omega)).trans ((zu_o (by omega)).trans (hcr))))) dX4_noteLatest_55 ?_
  refine j_iast C hD (zb_Lat hG) (zs_Lat hG) (zl_Lat hG) rfl (by omega) (by decide) dX4_noteLatest_58 ?_
  refine j_ret C R dX4_noteLatest_59 ?_
  exact rfl
set_option maxRecDepth 100000 in
set_option maxHeartbeats 4000000 in
theorem kX4_deliverFrom {l : Launch} {D : va_G} {Y : YT} {b0 : Nat} {G : GT} (hD : GD b0 G) (hG : Gok 113 G) {Z : ZT} {c : Nat} (hc : c < 12) {rc : Nat} (hrc : Z (11 + 4 * c) 3 = nI rc) (hrc40 : rc ≤ 40) {po : Nat} (hpo : Z (11 + 4 * c) 5 = nI po) (hporc : po < rc) {w : Int32} (hw : Z (11 + 4 * c) 6 = w) {t : Int32} (ht : Z (13 + 4 * c) po = t) {cr : Int32} (hcr : Z (11 + 4 * c) 7 = cr) {nu : Nat} (hnu : Z (12 + 4 * c) po = nI nu) (hnu256 : nu < 256) {sd : Int32} {sdI : Int} (hsd : Z (14 + 4 * c) po = sd) (hsdI : sd.toInt = sdI) {md : Nat} (hmd : Z 7 2 = nI md) (hmd9 : md < 2 ^ 19) {lo : Int32} (hlo : Z 7 3 = lo) {du : Int32} (hdu : Z 7 4 = du) {td : Int32} (htd : Z 7 5 = td) {tv8 : Int32} {tv8I : Int} (htv8 : Z 8 ((md + 1) % 64) = tv8) (htv8I : tv8.toInt = tv8I) {tv9 : Int32} {tv9I : Int} (htv9 : Z 9 ((md + 1) % 64) = tv9) (htv9I : tv9.toInt = tv9I) {gv : Int32} {gvI : Int} (hgv : Z 4 nu = gv) (hgvI : gv.toInt = gvI) {gc : Int32} (hgc : Z 3 3 = gc) {ac : Nat} (hac : Z 3 4 = nI ac) (hac100 : ac ≤ 100) : CI l D Y b0 G yX4_deliverFrom cX4_deliverFrom 7 (some .int) 3 [.ref (G.2.1 (0)), .int (nI c)] Z (fun r Z' => ((tv8I ≠ 0) ∧ r = (-2) ∧ Z' = (zu (zu (zu (zu (zu (zu (zu (zu (zu (zu (zu Z (7) (2) (nI (md + 1))) (10) (0) (nI c)) (10) (1) (nI po)) (10) (2) (t)) (10) (3) (nI (md + 1))) (10) (4) (cr)) (8) ((md + 1) % 64) (nI 0)) (7) (5) (td - tbz tv8)) (9) ((md + 1) % 64) (nI 0)) (7) (5) ((td - tbz tv8) - tbz tv9)) (7) (3) (lo + nI 1))) ∨ ((tv8I = 0 ∧ sdI = 0 ∧ ac < 100) ∧ r = (-3) ∧ Z' = (zu (zu (zu (zu (zu (zu (zu (zu (zu (zu (zu (zu (zu (zu (zu Z (7) (2) (nI (md + 1))) (10) (0) (nI c)) (10) (1) (nI po)) (10) (2) (t)) (10) (3) (nI (md + 1))) (10) (4) (cr)) (8) ((md + 1) % 64) (nI 0)) (7) (5) (td - tbz tv8)) (9) ((md + 1) % 64) (nI 0)) (7) (5) ((td - tbz tv8) - tbz tv9)) (5) (ac) (nI c)) (6) (ac) (nI po)) (3) (4) (nI (ac + 1))) (11 + 4 * c) (6) (if w < t then t else w)) (11 + 4 * c) (5) (nI (po + 1)))) ∨ ((tv8I = 0 ∧ sdI = 0 ∧ 100 ≤ ac) ∧ r = (-3) ∧ Z' = (zu (zu (zu (zu (zu (zu (zu (zu (zu (zu (zu (zu Z (7) (2) (nI (md + 1))) (10) (0) (nI c)) (10) (1) (nI po)) (10) (2) (t)) (10) (3) (nI (md + 1))) (10) (4) (cr)) (8) ((md + 1) % 64) (nI 0)) (7) (5) (td - tbz tv8)) (9) ((md + 1) % 64) (nI 0)) (7) (5) ((td - tbz tv8) - tbz tv9)) (11 + 4 * c) (6) (if w < t then t else w)) (11 + 4 * c) (5) (nI (po + 1)))) ∨ ((tv8I = 0 ∧ sdI ≠ 0 ∧ gvI ≠ 0) ∧ r = (-4) ∧ Z' = (zu (zu (zu (zu (zu (zu (zu (zu (zu (zu (zu (zu (zu Z (7) (2) (nI (md + 1))) (10) (0) (nI c)) (10) (1) (nI po)) (10) (2) (t)) (10) (3) (nI (md + 1))) (10) (4) (cr)) (8) ((md + 1) % 64) (nI 0)) (7) (5) (td - tbz tv8)) (9) ((md + 1) % 64) (nI 0)) (7) (5) ((td - tbz tv8) - tbz tv9)) (7) (4) (du + nI 1)) (11 + 4 * c) (6) (if w < t then t else w)) (11 + 4 * c) (5) (nI (po + 1)))) ∨ ((tv8I = 0 ∧ sdI ≠ 0 ∧ gvI = 0 ∧ tv9I = 0) ∧ r = nI nu ∧ Z' = (zu (zu (zu (zu (zu (zu (zu (zu (zu (zu (zu (zu (zu (zu Z (7) (2) (nI (md + 1))) (10) (0) (nI c)) (10) (1) (nI po)) (10) (2) (t)) (10) (3) (nI (md + 1))) (10) (4) (cr)) (8) ((md + 1) % 64) (nI 0)) (7) (5) (td - tbz tv8)) (9) ((md + 1) % 64) (nI 0)) (7) (5) ((td - tbz tv8) - tbz tv9)) (4) (nu) (nI 1)) (3) (3) (gc + nI 1)) (11 + 4 * c) (6) (if w < t then t else w)) (11 + 4 * c) (5) (nI (po + 1)))) ∨ ((tv8I = 0 ∧ sdI ≠ 0 ∧ gvI = 0 ∧ tv9I ≠ 0) ∧ r = nI nu ∧ Z' = (zu (zu (zu (zu (zu (zu (zu (zu (zu (zu (zu (zu Z (7) (2) (nI (md + 1))) (10) (0) (nI c)) (10) (1) (nI po)) (10) (2) (t)) (10) (3) (nI (md + 1))) (10) (4) (cr)) (8) ((md + 1) % 64) (nI 0)) (7) (5) (td - tbz tv8)) (9) ((md + 1) % 64) (nI 0)) (7) (5) ((td - tbz tv8) - tbz tv9)) (4) (nu) (nI 1)) (3) (3) (gc + nI 1)))) := by
  refine ci_start (lv0 := [(0, .ref (G.2.1 (0))), (1, .int (nI c))]) hD rfl rfl (Nat.le_of_ble_eq_true rfl) rfl ?_
  intro E C R hR hD hN
  refine j_aload_n C 0 dX4_deliverFrom_0 rfl rfl ?_
  refine j_getR C zK4 (zb_X hG) (zs_X hG) (f := 0) (by decide) rfl zk_X4_11 rfl (zf_X_0 hG) dX4_deliverFrom_1 ?_
  refine j_iload_n C 1 dX4_deliverFrom_4 rfl rfl ?_
  refine j_aldP C (zb_Pts hG) (zs_Pts hG) (zl_Pts hG) rfl (by omega) (by decide) (zf_Pts hG hc) dX4_deliverFrom_5 ?_
  refine j_astore_n (lv' := [(2, .ref (G.2.1 (11 + 4 * c))), (0, .ref (G.2.1 (0))), (1, .int (nI c))]) C dX4_deliverFrom_6 rfl (by rw [hN]; decide) rfl ?_
  refine j_aload_n C 0 dX4_deliverFrom_7 rfl rfl ?_
  refine j_callIN C hR (kX3_isReady hD hG (i := c)  hc (rc := nI rc) (rcI := ((rc : Nat) : Int)) hrc (nI_toInt (by omega)) (po := nI po) (poI := ((po : Nat) : Int)) hpo (nI_toInt (by omega))) [] zmX3_isReady zk_X4_136 zK3 (zb_Part hG hc) (zs_Part hG hc) (by decide) rfl rfl (Nat.le_of_ble_eq_true rfl) dX4_deliverFrom_8 (fun r8 Z8 h8 => ?_)
  obtain ⟨e8, ⟨rfl, h8⟩ | ⟨rfl, h8⟩⟩ := h8
  ·
    refine j_Z e8 ?_
    refine j_if_ne (tgt := 16) (a := ((1 : Nat) : Int)) C (nI_toInt (by omega)) dX4_deliverFrom_11 (by decide) (fun c11 => ?_) (fun c11 => absurd c11 (by omega))
    refine j_aload_n C 0 dX4_deliverFrom_16 rfl rfl ?_
    refine j_getIN C zK3 (zb_Part hG hc) (zs_Part hG hc) (f := 5) (by decide) rfl zk_X4_76 rfl (nI po) hpo dX4_deliverFrom_17 ?_
    refine j_istore_n (lv' := [(3, .int (nI po)), (2, .ref (G.2.1 (11 + 4 * c))), (0, .ref (G.2.1 (0))), (1, .int (nI c))]) C dX4_deliverFrom_20 rfl (by rw [hN]; decide) rfl ?_
    refine j_aload_n C 1 dX4_deliverFrom_21 rfl rfl ?_
    refine j_getRN C zK3 (zb_Part hG hc) (zs_Part hG hc) (f := 0) (by decide) rfl zk_X4_165 rfl (zf_Part_0 hG hc) dX4_deliverFrom_22 ?_
    refine j_iload_n C 0 dX4_deliverFrom_25 rfl rfl ?_
    refine j_iald C (zb_Num hG hc) (zs_Num hG hc) (zl_Num hG hc) rfl (by omega) (by decide) (nI nu) hnu dX4_deliverFrom_26 ?_
    refine j_istore (lv' := [(4, .int (nI nu)), (3, .int (nI po)), (2, .ref (G.2.1 (11 + 4 * c))), (0, .ref (G.2.1 (0))), (1, .int (nI c))]) C dX4_deliverFrom_27 (by rw [hN]; decide) rfl ?_
    refine j_aload_n C 3 dX4_deliverFrom_29 rfl rfl ?_
    refine j_getR C zK4 (zb_X hG) (zs_X hG) (f := 3) (by decide) rfl zk_X4_31 rfl (zf_X_3 hG) dX4_deliverFrom_30 ?_
    refine j_dup C dX4_deliverFrom_33 rfl ?_
    refine j_getIN C zK0 (zb_Del hG) (zs_Del hG) (f := 2) (by decide) rfl zk_X4_190 rfl (nI md) hmd dX4_deliverFrom_34 ?_
    refine j_iconst C (nI 1) dX4_deliverFrom_37 (by decide) ?_
    refine j_iadd C (nI (md + 1)) dX4_deliverFrom_38 (nI_add md 1) ?_
    refine j_putIN C hD zK0 (zb_Del hG) (zs_Del hG) (f := 2) (by decide) rfl zk_X4_190 rfl rfl rfl rfl dX4_deliverFrom_39 ?_
    refine j_aload_n C 3 dX4_deliverFrom_42 rfl rfl ?_
    refine j_iload_n C 4 dX4_deliverFrom_43 rfl rfl ?_
    refine j_iload_n C 1 dX4_deliverFrom_44 rfl rfl ?_
    refine j_callV C hR (kX4_noteLatest hD hG (c := c) (pl := po) (by omega) (by omega) (t := t) (md := nI (md + 1)) (cr := cr) ((zu_o (by omega)).trans (ht)) zu_s ((zu_o (by omega)).trans (hcr))) [] zmX4_noteLatest zk_X4_215 zK4 (zb_X hG) (zs_X hG) (by decide) rfl rfl (Nat.le_of_ble_eq_true rfl) dX4_deliverFrom_45 (fun Z45 h45 => ?_)
    refine j_Z (Z' := (zu (zu (zu (zu (zu (zu Z (7) (2) (nI (md + 1))) (10) (0) (nI c)) (10) (1) (nI po)) (10) (2) (t)) (10) (3) (nI (md + 1))) (10) (4) (cr))) h45 ?_
    refine j_aload_n C 3 dX4_deliverFrom_48 rfl rfl ?_
    refine j_getR C zK4 (zb_X hG) (zs_X hG) (f := 3) (by decide) rfl zk_X4_31 rfl (zf_X_3 hG) dX4_deliverFrom_49 ?_
    refine j_aload_n C 3 dX4_deliverFrom_52 rfl rfl ?_
    refine j_getR C zK4 (zb_X hG) (zs_X hG) (f := 3) (by decide) rfl zk_X4_31 rfl (zf_X_3 hG) dX4_deliverFrom_53 ?_
    refine j_getRN C zK0 (zb_Del hG) (zs_Del hG) (f := 0) (by decide) rfl zk_X4_218 rfl (zf_Del_0 hG) dX4_deliverFrom_56 ?_
    refine j_callIN C hR (kX0_take8 hD hG (md := md + 1) ((zu_o (by omega)).trans ((zu_o (by omega)).trans ((zu_o (by omega)).trans ((zu_o (by omega)).trans ((zu_o (by omega)).trans (zu_s)))))) (by omega) (td := td) ((zu_o (by omega)).trans ((zu_o (by omega)).trans ((zu_o (by omega)).trans ((zu_o (by omega)).trans ((zu_o (by omega)).trans ((zu_o (by omega)).trans (htd))))))) (tv := tv8) (tvI := tv8I) ((zu_o (by omega)).trans ((zu_o (by omega)).trans ((zu_o (by omega)).trans ((zu_o (by omega)).trans ((zu_o (by omega)).trans ((zu_o (by omega)).trans (htv8))))))) htv8I) [] zmX0_take zk_X4_221 zK0 (zb_Del hG) (zs_Del hG) (by decide) rfl rfl (Nat.le_of_ble_eq_true rfl) dX4_deliverFrom_59 (fun r59 Z59 h59 => ?_)
    obtain ⟨e59, ⟨rfl, h59⟩ | ⟨rfl, h59⟩⟩ := h59
    ·
      refine j_Z (Z' := (zu (zu (zu (zu (zu (zu (zu (zu Z (7) (2) (nI (md + 1))) (10) (0) (nI c)) (10) (1) (nI po)) (10) (2) (t)) (10) (3) (nI (md + 1))) (10) (4) (cr)) (8) ((md + 1) % 64) (nI 0)) (7) (5) (td - tbz tv8))) e59 ?_
      refine j_istore (lv' := [(5, .int (nI 1)), (4, .int (nI nu)), (3, .int (nI po)), (2, .ref (G.2.1 (11 + 4 * c))), (0, .ref (G.2.1 (0))), (1, .int (nI c))]) C dX4_deliverFrom_62 (by rw [hN]; decide) rfl ?_
      refine j_aload_n C 4 dX4_deliverFrom_64 rfl rfl ?_
      refine j_getR C zK4 (zb_X hG) (zs_X hG) (f := 3) (by decide) rfl zk_X4_31 rfl (zf_X_3 hG) dX4_deliverFrom_65 ?_
      refine j_aload_n C 4 dX4_deliverFrom_68 rfl rfl ?_
      refine j_getR C zK4 (zb_X hG) (zs_X hG) (f := 3) (by decide) rfl zk_X4_31 rfl (zf_X_3 hG) dX4_deliverFrom_69 ?_
      refine j_getRN C zK0 (zb_Del hG) (zs_Del hG) (f := 1) (by decide) rfl zk_X4_225 rfl (zf_Del_1 hG) dX4_deliverFrom_72 ?_
      refine j_callIN C hR (kX0_take9 hD hG (md := md + 1) ((zu_o (by omega)).trans ((zu_o (by omega)).trans ((zu_o (by omega)).trans ((zu_o (by omega)).trans ((zu_o (by omega)).trans ((zu_o (by omega)).trans ((zu_o (by omega)).trans (zu_s)))))))) (by omega) (td := td - tbz tv8) zu_s (tv := tv9) (tvI := tv9I) ((zu_o (by omega)).trans ((zu_o (by omega)).trans ((zu_o (by omega)).trans ((zu_o (by omega)).trans ((zu_o (by omega)).trans ((zu_o (by omega)).trans ((zu_o (by omega)).trans ((zu_o (by omega)).trans (htv9))))))))) htv9I) [] zmX0_take zk_X4_221 zK0 (zb_Del hG) (zs_Del hG) (by decide) rfl rfl (Nat.le_of_ble_eq_true rfl) dX4_deliverFrom_75 (fun r75 Z75 h75 => ?_)
      obtain ⟨e75, ⟨rfl, h75⟩ | ⟨rfl, h75⟩⟩ := h75
      ·
        refine j_Z (Z' := (zu (zu (zu (zu (zu (zu (zu (zu (zu (zu Z (7) (2) (nI (md + 1))) (10) (0) (nI c)) (10) (1) (nI po)) (10) (2) (t)) (10) (3) (nI (md + 1))) (10) (4) (cr)) (8) ((md + 1) % 64) (nI 0)) (7) (5) (td - tbz tv8)) (9) ((md + 1) % 64) (nI 0)) (7) (5) ((td - tbz tv8) - tbz tv9))) e75 ?_
        refine j_istore (lv' := [(6, .int (nI 1)), (5, .int (nI 1)), (4, .int (nI nu)), (3, .int (nI po)), (2, .ref (G.2.1 (11 + 4 * c))), (0, .ref (G.2.1 (0))), (1, .int (nI c))]) C dX4_deliverFrom_78 (by rw [hN]; decide) rfl ?_
        refine j_iload C 1 dX4_deliverFrom_80 rfl ?_
        refine j_if_eq (tgt := 101) (a := ((1 : Nat) : Int)) C (nI_toInt (by omega)) dX4_deliverFrom_82 (by decide) (fun c82 => absurd c82 (by omega)) (fun c82 => ?_)
        refine j_aload_n C 5 dX4_deliverFrom_85 rfl rfl ?_
        refine j_getR C zK4 (zb_X hG) (zs_X hG) (f := 3) (by decide) rfl zk_X4_31 rfl (zf_X_3 hG) dX4_deliverFrom_86 ?_
        refine j_dup C dX4_deliverFrom_89 rfl ?_
        refine j_getIN C zK0 (zb_Del hG) (zs_Del hG) (f := 3) (by decide) rfl zk_X4_200 rfl (lo) ((zu_o (by omega)).trans ((zu_o (by omega)).trans ((zu_o (by omega)).trans ((zu_o (by omega)).trans ((zu_o (by omega)).trans ((zu_o (by omega)).trans ((zu_o (by omega)).trans ((zu_o (by omega)).trans ((zu_o (by omega)).trans ((zu_o (by omega)).trans (hlo))))))))))) dX4_deliverFrom_90 ?_
        refine j_iconst C (nI 1) dX4_deliverFrom_93 (by decide) ?_
        refine j_iadd C (lo + (nI 1)) dX4_deliverFrom_94 rfl ?_
        refine j_putIN C hD zK0 (zb_Del hG) (zs_Del hG) (f := 3) (by decide) rfl zk_X4_200 rfl rfl rfl rfl dX4_deliverFrom_95 ?_
        refine j_bipush C (-2) dX4_deliverFrom_98 (by decide) ?_
        refine j_iret C R dX4_deliverFrom_100 ?_
        first | exact Or.inl ⟨by omega, rfl, rfl⟩ | exact Or.inr (Or.inl ⟨by omega, rfl, rfl⟩) | exact Or.inr (Or.inr (Or.inl ⟨by omega, rfl, rfl⟩)) | exact Or.inr (Or.inr (Or.inr (Or.inl ⟨by omega, rfl, rfl⟩))) | exact Or.inr (Or.inr (Or.inr (Or.inr (Or.inl ⟨by omega, rfl, rfl⟩)))) | exact Or.inr (Or.inr (Or.inr (Or.inr (Or.inr (⟨by omega, rfl, rfl⟩)))))
      ·
        refine j_Z (Z' := (zu (zu (zu (zu (zu (zu (zu (zu (zu (zu Z (7) (2) (nI (md + 1))) (10) (0) (nI c)) (10) (1) (nI po)) (10) (2) (t)) (10) (3) (nI (md + 1))) (10) (4) (cr)) (8) ((md + 1) % 64) (nI 0)) (7) (5) (td - tbz tv8)) (9) ((md + 1) % 64) (nI 0)) (7) (5) ((td - tbz tv8) - tbz tv9))) e75 ?_
        refine j_istore (lv' := [(6, .int (nI 0)), (5, .int (nI 1)), (4, .int (nI nu)), (3, .int (nI po)), (2, .ref (G.2.1 (11 + 4 * c))), (0, .ref (G.2.1 (0))), (1, .int (nI c))]) C dX4_deliverFrom_78 (by rw [hN]; decide) rfl ?_
        refine j_iload C 1 dX4_deliverFrom_80 rfl ?_
        refine j_if_eq (tgt := 101) (a := ((1 : Nat) : Int)) C (nI_toInt (by omega)) dX4_deliverFrom_82 (by decide) (fun c82 => absurd c82 (by omega)) (fun c82 => ?_)
        refine j_aload_n C 5 dX4_deliverFrom_85 rfl rfl ?_
        refine j_getR C zK4 (zb_X hG) (zs_X hG) (f := 3) (by decide) rfl zk_X4_31 rfl (zf_X_3 hG) dX4_deliverFrom_86 ?_
        refine j_dup C dX4_deliverFrom_89 rfl ?_
        refine j_getIN C zK0 (zb_Del hG) (zs_Del hG) (f := 3) (by decide) rfl zk_X4_200 rfl (lo) ((zu_o (by omega)).trans ((zu_o (by omega)).trans ((zu_o (by omega)).trans ((zu_o (by omega)).trans ((zu_o (by omega)).trans ((zu_o (by omega)).trans ((zu_o (by omega)).trans ((zu_o (by omega)).trans ((zu_o (by omega)).trans ((zu_o (by omega)).trans (hlo))))))))))) dX4_deliverFrom_90 ?_
        refine j_iconst C (nI 1) dX4_deliverFrom_93 (by decide) ?_
        refine j_iadd C (lo + (nI 1)) dX4_deliverFrom_94 rfl ?_
        refine j_putIN C hD zK0 (zb_Del hG) (zs_Del hG) (f := 3) (by decide) rfl zk_X4_200 rfl rfl rfl rfl dX4_deliverFrom_95 ?_
        refine j_bipush C (-2) dX4_deliverFrom_98 (by decide) ?_
        refine j_iret C R dX4_deliverFrom_100 ?_
        first | exact Or.inl ⟨by omega, rfl, rfl⟩ | exact Or.inr (Or.inl ⟨by omega, rfl, rfl⟩) | exact Or.inr (Or.inr (Or.inl ⟨by omega, rfl, rfl⟩)) | exact Or.inr (Or.inr (Or.inr (Or.inl ⟨by omega, rfl, rfl⟩))) | exact Or.inr (Or.inr (Or.inr (Or.inr (Or.inl ⟨by omega, rfl, rfl⟩)))) | exact Or.inr (Or.inr (Or.inr (Or.inr (Or.inr (⟨by omega, rfl, rfl⟩)))))
    ·
      refine j_Z (Z' := (zu (zu (zu (zu (zu (zu (zu (zu Z (7) (2) (nI (md + 1))) (10) (0) (nI c)) (10) (1) (nI po)) (10) (2) (t)) (10) (3) (nI (md + 1))) (10) (4) (cr)) (8) ((md + 1) % 64) (nI 0)) (7) (5) (td - tbz tv8))) e59 ?_
      refine j_istore (lv' := [(5, .int (nI 0)), (4, .int (nI nu)), (3, .int (nI po)), (2, .ref (G.2.1 (11 + 4 * c))), (0, .ref (G.2.1 (0))), (1, .int (nI c))]) C dX4_deliverFrom_62 (by rw [hN]; decide) rfl ?_
      refine j_aload_n C 4 dX4_deliverFrom_64 rfl rfl ?_
      refine j_getR C zK4 (zb_X hG) (zs_X hG) (f := 3) (by decide) rfl zk_X4_31 rfl (zf_X_3 hG) dX4_deliverFrom_65 ?_
      refine j_aload_n C 4 dX4_deliverFrom_68 rfl rfl ?_
      refine j_getR C zK4 (zb_X hG) (zs_X hG) (f := 3) (by decide) rfl zk_X4_31 rfl (zf_X_3 hG) dX4_deliverFrom_69 ?_
      refine j_getRN C zK0 (zb_Del hG) (zs_Del hG) (f := 1) (by decide) rfl zk_X4_225 rfl (zf_Del_1 hG) dX4_deliverFrom_72 ?_
      refine j_callIN C hR (kX0_take9 hD hG (md := md + 1) ((zu_o (by omega)).trans ((zu_o (by omega)).trans ((zu_o (by omega)).trans ((zu_o (by omega)).trans ((zu_o (by omega)).trans ((zu_o (by omega)).trans ((zu_o (by omega)).trans (zu_s)))))))) (by omega) (td := td - tbz tv8) zu_s (tv := tv9) (tvI := tv9I) ((zu_o (by omega)).trans ((zu_o (by omega)).trans ((zu_o (by omega)).trans ((zu_o (by omega)).trans ((zu_o (by omega)).trans ((zu_o (by omega)).trans ((zu_o (by omega)).trans ((zu_o (by omega)).trans (htv9))))))))) htv9I) [] zmX0_take zk_X4_221 zK0 (zb_Del hG) (zs_Del hG) (by decide) rfl rfl (Nat.le_of_ble_eq_true rfl) dX4_deliverFrom_75 (fun r75 Z75 h75 => ?_)
      obtain ⟨e75, ⟨rfl, h75⟩ | ⟨rfl, h75⟩⟩ := h75
      ·
        refine j_Z (Z' := (zu (zu (zu (zu (zu (zu (zu (zu (zu (zu Z (7) (2) (nI (md + 1))) (10) (0) (nI c)) (10) (1) (nI po)) (10) (2) (t)) (10) (3) (nI (md + 1))) (10) (4) (cr)) (8) ((md + 1) % 64) (nI 0)) (7) (5) (td - tbz tv8)) (9) ((md + 1) % 64) (nI 0)) (7) (5) ((td - tbz tv8) - tbz tv9))) e75 ?_
        refine j_istore (lv' := [(6, .int (nI 1)), (5, .int (nI 0)), (4, .int (nI nu)), (3, .int (nI po)), (2, .ref (G.2.1 (11 + 4 * c))), (0, .ref (G.2.1 (0))), (1, .int (nI c))]) C dX4_deliverFrom_78 (by rw [hN]; decide) rfl ?_
        refine j_iload C 1 dX4_deliverFrom_80 rfl ?_
        refine j_if_eq (tgt := 101) (a := ((0 : Nat) : Int)) C (nI_toInt (by omega)) dX4_deliverFrom_82 (by decide) (fun c82 => ?_) (fun c82 => absurd c82 (by omega))
        refine j_aload_n C 4 dX4_deliverFrom_101 rfl rfl ?_
        refine j_getRN C zK3 (zb_Part hG hc) (zs_Part hG hc) (f := 2) (by decide) rfl zk_X4_228 rfl (zf_Part_2 hG hc) dX4_deliverFrom_102 ?_
        refine j_iload_n C 3 dX4_deliverFrom_105 rfl rfl ?_
        refine j_zald C (zb_Snd hG hc) (zs_Snd hG hc) (zl_Snd hG hc) rfl (by omega) (by decide) (sd) ((zu_o (by omega)).trans ((zu_o (by omega)).trans ((zu_o (by omega)).trans ((zu_o (by omega)).trans ((zu_o (by omega)).trans ((zu_o (by omega)).trans ((zu_o (by omega)).trans ((zu_o (by omega)).trans ((zu_o (by omega)).trans ((zu_o (by omega)).trans (hsd))))))))))) dX4_deliverFrom_106 ?_
        refine j_if_ne (tgt := 126) (a := sdI) C hsdI dX4_deliverFrom_107 (by decide) (fun c107 => ?_) (fun c107 => ?_)
        ·
          refine j_aload_n C 5 dX4_deliverFrom_126 rfl rfl ?_
          refine j_getR C zK4 (zb_X hG) (zs_X hG) (f := 2) (by decide) rfl zk_X4_24 rfl (zf_X_2 hG) dX4_deliverFrom_127 ?_
          refine j_getRN C zK1 (zb_Fin hG) (zs_Fin hG) (f := 0) (by decide) rfl zk_X4_149 rfl (zf_Fin_0 hG) dX4_deliverFrom_130 ?_
          refine j_iload C 2 dX4_deliverFrom_133 rfl ?_
          refine j_zald C (zb_Giv hG) (zs_Giv hG) (zl_Giv hG) rfl (by omega) (by decide) (gv) ((zu_o (by omega)).trans ((zu_o (by omega)).trans ((zu_o (by omega)).trans ((zu_o (by omega)).trans ((zu_o (by omega)).trans ((zu_o (by omega)).trans ((zu_o (by omega)).trans ((zu_o (by omega)).trans ((zu_o (by omega)).trans ((zu_o (by omega)).trans (hgv))))))))))) dX4_deliverFrom_135 ?_
          refine j_if_eq (tgt := 159) (a := gvI) C hgvI dX4_deliverFrom_136 (by decide) (fun c136 => ?_) (fun c136 => ?_)
          ·
            refine j_aload_n C 5 dX4_deliverFrom_159 rfl rfl ?_
            refine j_getR C zK4 (zb_X hG) (zs_X hG) (f := 2) (by decide) rfl zk_X4_24 rfl (zf_X_2 hG) dX4_deliverFrom_160 ?_
            refine j_iload C 2 dX4_deliverFrom_163 rfl ?_
            refine j_callVN C hR (kX1_addGiven hD hG (a := nu) (by omega) (gc := gc) ((zu_o (by omega)).trans ((zu_o (by omega)).trans ((zu_o (by omega)).trans ((zu_o (by omega)).trans ((zu_o (by omega)).trans ((zu_o (by omega)).trans ((zu_o (by omega)).trans ((zu_o (by omega)).trans ((zu_o (by omega)).trans ((zu_o (by omega)).trans (hgc)))))))))))) [] zmX1_addGiven zk_X4_237 zK1 (zb_Fin hG) (zs_Fin hG) (by decide) rfl rfl (Nat.le_of_ble_eq_true rfl) dX4_deliverFrom_165 (fun Z165 h165 => ?_)
            refine j_Z (Z' := (zu (zu (zu (zu (zu (zu (zu (zu (zu (zu (zu (zu Z (7) (2) (nI (md + 1))) (10) (0) (nI c)) (10) (1) (nI po)) (10) (2) (t)) (10) (3) (nI (md + 1))) (10) (4) (cr)) (8) ((md + 1) % 64) (nI 0)) (7) (5) (td - tbz tv8)) (9) ((md + 1) % 64) (nI 0)) (7) (5) ((td - tbz tv8) - tbz tv9)) (4) (nu) (nI 1)) (3) (3) (gc + nI 1))) h165 ?_
            refine j_iload C 0 dX4_deliverFrom_168 rfl ?_
            refine j_if_ne (tgt := 177) (a := ((1 : Nat) : Int)) C (nI_toInt (by omega)) dX4_deliverFrom_170 (by decide) (fun c170 => ?_) (fun c170 => absurd c170 (by omega))
            refine j_iload C 2 dX4_deliverFrom_177 rfl ?_
            refine j_iret C R dX4_deliverFrom_179 ?_
            first | exact Or.inl ⟨by omega, rfl, rfl⟩ | exact Or.inr (Or.inl ⟨by omega, rfl, rfl⟩) | exact Or.inr (Or.inr (Or.inl ⟨by omega, rfl, rfl⟩)) | exact Or.inr (Or.inr (Or.inr (Or.inl ⟨by omega, rfl, rfl⟩))) | exact Or.inr (Or.inr (Or.inr (Or.inr (Or.inl ⟨by omega, rfl, rfl⟩)))) | exact Or.inr (Or.inr (Or.inr (Or.inr (Or.inr (⟨by omega, rfl, rfl⟩)))))
          ·
            refine j_aload_n C 5 dX4_deliverFrom_139 rfl rfl ?_
            refine j_getR C zK4 (zb_X hG) (zs_X hG) (f := 3) (by decide) rfl zk_X4_31 rfl (zf_X_3 hG) dX4_deliverFrom_140 ?_
            refine j_dup C dX4_deliverFrom_143 rfl ?_
            refine j_getIN C zK0 (zb_Del hG) (zs_Del hG) (f := 4) (by decide) rfl zk_X4_203 rfl (du) ((zu_o (by omega)).trans ((zu_o (by omega)).trans ((zu_o (by omega)).trans ((zu_o (by omega)).trans ((zu_o (by omega)).trans ((zu_o (by omega)).trans ((zu_o (by omega)).trans ((zu_o (by omega)).trans ((zu_o (by omega)).trans ((zu_o (by omega)).trans (hdu))))))))))) dX4_deliverFrom_144 ?_
            refine j_iconst C (nI 1) dX4_deliverFrom_147 (by decide) ?_
            refine j_iadd C (du + (nI 1)) dX4_deliverFrom_148 rfl ?_
            refine j_putIN C hD zK0 (zb_Del hG) (zs_Del hG) (f := 4) (by decide) rfl zk_X4_203 rfl rfl rfl rfl dX4_deliverFrom_149 ?_
            refine j_aload_n C 4 dX4_deliverFrom_152 rfl rfl ?_
            refine j_callVN C hR (kX3_pass hD hG (i := c)  hc (rc := nI rc) (rcI := ((rc : Nat) : Int)) (((zu_o (by omega)).trans ((zu_o (by omega)).trans ((zu_o (by omega)).trans ((zu_o (by omega)).trans ((zu_o (by omega)).trans ((zu_o (by omega)).trans ((zu_o (by omega)).trans ((zu_o (by omega)).trans ((zu_o (by omega)).trans ((zu_o (by omega)).trans ((zu_o (by omega)).trans (hrc))))))))))))) (nI_toInt (by omega)) (po := po) ((zu_o (by omega)).trans ((zu_o (by omega)).trans ((zu_o (by omega)).trans ((zu_o (by omega)).trans ((zu_o (by omega)).trans ((zu_o (by omega)).trans ((zu_o (by omega)).trans ((zu_o (by omega)).trans ((zu_o (by omega)).trans ((zu_o (by omega)).trans ((zu_o (by omega)).trans (hpo)))))))))))) (by omega) (by omega) (w := w) (((zu_o (by omega)).trans ((zu_o (by omega)).trans ((zu_o (by omega)).trans ((zu_o (by omega)).trans ((zu_o (by omega)).trans ((zu_o (by omega)).trans ((zu_o (by omega)).trans ((zu_o (by omega)).trans ((zu_o (by omega)).trans ((zu_o (by omega)).trans ((zu_o (by omega)).trans (hw))))))))))))) (t := t) (((zu_o (by omega)).trans ((zu_o (by omega)).trans ((zu_o (by omega)).trans ((zu_o (by omega)).trans ((zu_o (by omega)).trans ((zu_o (by omega)).trans ((zu_o (by omega)).trans ((zu_o (by omega)).trans ((zu_o (by omega)).trans ((zu_o (by omega)).trans ((zu_o (by omega)).trans (ht)))))))))))))) [] zmX3_pass zk_X4_234 zK3 (zb_Part hG hc) (zs_Part hG hc) (by decide) rfl rfl (Nat.le_of_ble_eq_true rfl) dX4_deliverFrom_153 (fun Z153 h153 => ?_)
            refine j_Z (Z' := (zu (zu (zu (zu (zu (zu (zu (zu (zu (zu (zu (zu (zu Z (7) (2) (nI (md + 1))) (10) (0) (nI c)) (10) (1) (nI po)) (10) (2) (t)) (10) (3) (nI (md + 1))) (10) (4) (cr)) (8) ((md + 1) % 64) (nI 0)) (7) (5) (td - tbz tv8)) (9) ((md + 1) % 64) (nI 0)) (7) (5) ((td - tbz tv8) - tbz tv9)) (7) (4) (du + (nI 1))) (11 + 4 * c) (6) (if w < t then t else w)) (11 + 4 * c) (5) (nI (po + 1)))) h153 ?_
            refine j_bipush C (-4) dX4_deliverFrom_156 (by decide) ?_
            refine j_iret C R dX4_deliverFrom_158 ?_
            first | exact Or.inl ⟨by omega, rfl, rfl⟩ | exact Or.inr (Or.inl ⟨by omega, rfl, rfl⟩) | exact Or.inr (Or.inr (Or.inl ⟨by omega, rfl, rfl⟩)) | exact Or.inr (Or.inr (Or.inr (Or.inl ⟨by omega, rfl, rfl⟩))) | exact Or.inr (Or.inr (Or.inr (Or.inr (Or.inl ⟨by omega, rfl, rfl⟩)))) | exact Or.inr (Or.inr (Or.inr (Or.inr (Or.inr (⟨by omega, rfl, rfl⟩)))))
        ·
          refine j_aload_n C 5 dX4_deliverFrom_110 rfl rfl ?_
          refine j_getR C zK4 (zb_X hG) (zs_X hG) (f := 2) (by decide) rfl zk_X4_24 rfl (zf_X_2 hG) dX4_deliverFrom_111 ?_
          refine j_iload_n C 6 dX4_deliverFrom_114 rfl rfl ?_
          refine j_iload_n C 3 dX4_deliverFrom_115 rfl rfl ?_
          refine j_callVN C hR (kX1_setAside hD hG (ac := ac) ((zu_o (by omega)).trans ((zu_o (by omega)).trans ((zu_o (by omega)).trans ((zu_o (by omega)).trans ((zu_o (by omega)).trans ((zu_o (by omega)).trans ((zu_o (by omega)).trans ((zu_o (by omega)).trans ((zu_o (by omega)).trans ((zu_o (by omega)).trans (hac))))))))))) (by omega) (nI c) (nI po)) [] zmX1_setAside zk_X4_231 zK1 (zb_Fin hG) (zs_Fin hG) (by decide) rfl rfl (Nat.le_of_ble_eq_true rfl) dX4_deliverFrom_116 (fun Z116 h116 => ?_)
          rcases h116 with ⟨h116, e116⟩ | ⟨h116, e116⟩
          ·
            refine j_Z (Z' := (zu (zu (zu (zu (zu (zu (zu (zu (zu (zu (zu (zu (zu Z (7) (2) (nI (md + 1))) (10) (0) (nI c)) (10) (1) (nI po)) (10) (2) (t)) (10) (3) (nI (md + 1))) (10) (4) (cr)) (8) ((md + 1) % 64) (nI 0)) (7) (5) (td - tbz tv8)) (9) ((md + 1) % 64) (nI 0)) (7) (5) ((td - tbz tv8) - tbz tv9)) (5) (ac) (nI c)) (6) (ac) (nI po)) (3) (4) (nI (ac + 1)))) e116 ?_
            refine j_aload_n C 4 dX4_deliverFrom_119 rfl rfl ?_
            refine j_callVN C hR (kX3_pass hD hG (i := c)  hc (rc := nI rc) (rcI := ((rc : Nat) : Int)) (((zu_o (by omega)).trans ((zu_o (by omega)).trans ((zu_o (by omega)).trans ((zu_o (by omega)).trans ((zu_o (by omega)).trans ((zu_o (by omega)).trans ((zu_o (by omega)).trans ((zu_o (by omega)).trans ((zu_o (by omega)).trans ((zu_o (by omega)).trans ((zu_o (by omega)).trans ((zu_o (by omega)).trans ((zu_o (by omega)).trans (hrc))))))))))))))) (nI_toInt (by omega)) (po := po) ((zu_o (by omega)).trans ((zu_o (by omega)).trans ((zu_o (by omega)).trans ((zu_o (by omega)).trans ((zu_o (by omega)).trans ((zu_o (by omega)).trans ((zu_o (by omega)).trans ((zu_o (by omega)).trans ((zu_o (by omega)).trans ((zu_o (by omega)).trans ((zu_o (by omega)).trans ((zu_o (by omega)).trans ((zu_o (by omega)).trans (hpo)))))))))))))) (by omega) (by omega) (w := w) (((zu_o (by omega)).trans ((zu_o (by omega)).trans ((zu_o (by omega)).trans ((zu_o (by omega)).trans ((zu_o (by omega)).trans ((zu_o (by omega)).trans ((zu_o (by omega)).trans ((zu_o (by omega)).trans ((zu_o (by omega)).trans ((zu_o (by omega)).trans ((zu_o (by omega)).trans ((zu_o (by omega)).trans ((zu_o (by omega)).trans (hw))))))))))))))) (t := t) (((zu_o (by omega)).trans ((zu_o (by omega)).trans ((zu_o (by omega)).trans ((zu_o (by omega)).trans ((zu_o (by omega)).trans ((zu_o (by omega)).trans ((zu_o (by omega)).trans ((zu_o (by omega)).trans ((zu_o (by omega)).trans ((zu_o (by omega)).trans ((zu_o (by omega)).trans ((zu_o (by omega)).trans ((zu_o (by omega)).trans (ht)))))))))))))))) [] zmX3_pass zk_X4_234 zK3 (zb_Part hG hc) (zs_Part hG hc) (by decide) rfl rfl (Nat.le_of_ble_eq_true rfl) dX4_deliverFrom_120 (fun Z120 h120 => ?_)
            refine j_Z (Z' := (zu (zu (zu (zu (zu (zu (zu (zu (zu (zu (zu (zu (zu (zu (zu Z (7) (2) (nI (md + 1))) (10) (0) (nI c)) (10) (1) (nI po)) (10) (2) (t)) (10) (3) (nI (md + 1))) (10) (4) (cr)) (8) ((md + 1) % 64) (nI 0)) (7) (5) (td - tbz tv8)) (9) ((md + 1) % 64) (nI 0)) (7) (5) ((td - tbz tv8) - tbz tv9)) (5) (ac) (nI c)) (6) (ac) (nI po)) (3) (4) (nI (ac + 1))) (11 + 4 * c) (6) (if w < t then t else w)) (11 + 4 * c) (5) (nI (po + 1)))) h120 ?_
            refine j_bipush C (-3) dX4_deliverFrom_123 (by decide) ?_
            refine j_iret C R dX4_deliverFrom_125 ?_
            first | exact Or.inl ⟨by omega, rfl, rfl⟩ | exact Or.inr (Or.inl ⟨by omega, rfl, rfl⟩) | exact Or.inr (Or.inr (Or.inl ⟨by omega, rfl, rfl⟩)) | exact Or.inr (Or.inr (Or.inr (Or.inl ⟨by omega, rfl, rfl⟩))) | exact Or.inr (Or.inr (Or.inr (Or.inr (Or.inl ⟨by omega, rfl, rfl⟩)))) | exact Or.inr (Or.inr (Or.inr (Or.inr (Or.inr (⟨by omega, rfl, rfl⟩)))))
          ·
            refine j_Z (Z' := (zu (zu (zu (zu (zu (zu (zu (zu (zu (zu Z (7) (2) (nI (md + 1))) (10) (0) (nI c)) (10) (1) (nI po)) (10) (2) (t)) (10) (3) (nI (md + 1))) (10) (4) (cr)) (8) ((md + 1) % 64) (nI 0)) (7) (5) (td - tbz tv8)) (9) ((md + 1) % 64) (nI 0)) (7) (5) ((td - tbz tv8) - tbz tv9))) e116 ?_
            refine j_aload_n C 4 dX4_deliverFrom_119 rfl rfl ?_
            refine j_callVN C hR (kX3_pass hD hG (i := c)  hc (rc := nI rc) (rcI := ((rc : Nat) : Int)) (((zu_o (by omega)).trans ((zu_o (by omega)).trans ((zu_o (by omega)).trans ((zu_o (by omega)).trans ((zu_o (by omega)).trans ((zu_o (by omega)).trans ((zu_o (by omega)).trans ((zu_o (by omega)).trans ((zu_o (by omega)).trans ((zu_o (by omega)).trans (hrc)))))))))))) (nI_toInt (by omega)) (po := po) ((zu_o (by omega)).trans ((zu_o (by omega)).trans ((zu_o (by omega)).trans ((zu_o (by omega)).trans ((zu_o (by omega)).trans ((zu_o (by omega)).trans ((zu_o (by omega)).trans ((zu_o (by omega)).trans ((zu_o (by omega)).trans ((zu_o (by omega)).trans (hpo))))))))))) (by omega) (by omega) (w := w) (((zu_o (by omega)).trans ((zu_o (by omega)).trans ((zu_o (by omega)).trans ((zu_o (by omega)).trans ((zu_o (by omega)).trans ((zu_o (by omega)).trans ((zu_o (by omega)).trans ((zu_o (by omega)).trans ((zu_o (by omega)).trans ((zu_o (by omega)).trans (hw)))))))))))) (t := t) (((zu_o (by omega)).trans ((zu_o (by omega)).trans ((zu_o (by omega)).trans ((zu_o (by omega)).trans ((zu_o (by omega)).trans ((zu_o (by omega)).trans ((zu_o (by omega)).trans ((zu_o (by omega)).trans ((zu_o (by omega)).trans ((zu_o (by omega)).trans (ht))))))))))))) [] zmX3_pass zk_X4_234 zK3 (zb_Part hG hc) (zs_Part hG hc) (by decide) rfl rfl (Nat.le_of_ble_eq_true rfl) dX4_deliverFrom_120 (fun Z120 h120 => ?_)
            refine j_Z (Z' := (zu (zu (zu (zu (zu (zu (zu (zu (zu (zu (zu (zu Z (7) (2) (nI (md + 1))) (10) (0) (nI c)) (10) (1) (nI po)) (10) (2) (t)) (10) (3) (nI (md + 1))) (10) (4) (cr)) (8) ((md + 1) % 64) (nI 0)) (7) (5) (td - tbz tv8)) (9) ((md + 1) % 64) (nI 0)) (7) (5) ((td - tbz tv8) - tbz tv9)) (11 + 4 * c) (6) (if w < t then t else w)) (11 + 4 * c) (5) (nI (po + 1)))) h120 ?_
            refine j_bipush C (-3) dX4_deliverFrom_123 (by decide) ?_
            refine j_iret C R dX4_deliverFrom_125 ?_
            first | exact Or.inl ⟨by omega, rfl, rfl⟩ | exact Or.inr (Or.inl ⟨by omega, rfl, rfl⟩) | exact Or.inr (Or.inr (Or.inl ⟨by omega, rfl, rfl⟩)) | exact Or.inr (Or.inr (Or.inr (Or.inl ⟨by omega, rfl, rfl⟩))) | exact Or.inr (Or.inr (Or.inr (Or.inr (Or.inl ⟨by omega, rfl, rfl⟩)))) | exact Or.inr (Or.inr (Or.inr (Or.inr (Or.inr (⟨by omega, rfl, rfl⟩)))))
      ·
        refine j_Z (Z' := (zu (zu (zu (zu (zu (zu (zu (zu (zu (zu Z (7) (2) (nI (md + 1))) (10) (0) (nI c)) (10) (1) (nI po)) (10) (2) (t)) (10) (3) (nI (md + 1))) (10) (4) (cr)) (8) ((md + 1) % 64) (nI 0)) (7) (5) (td - tbz tv8)) (9) ((md + 1) % 64) (nI 0)) (7) (5) ((td - tbz tv8) - tbz tv9))) e75 ?_
        refine j_istore (lv' := [(6, .int (nI 0)), (5, .int (nI 0)), (4, .int (nI nu)), (3, .int (nI po)), (2, .ref (G.2.1 (11 + 4 * c))), (0, .ref (G.2.1 (0))), (1, .int (nI c))]) C dX4_deliverFrom_78 (by rw [hN]; decide) rfl ?_
        refine j_iload C 1 dX4_deliverFrom_80 rfl ?_
        refine j_if_eq (tgt := 101) (a := ((0 : Nat) : Int)) C (nI_toInt (by omega)) dX4_deliverFrom_82 (by decide) (fun c82 => ?_) (fun c82 => absurd c82 (by omega))
        refine j_aload_n C 4 dX4_deliverFrom_101 rfl rfl ?_
        refine j_getRN C zK3 (zb_Part hG hc) (zs_Part hG hc) (f := 2) (by decide) rfl zk_X4_228 rfl (zf_Part_2 hG hc) dX4_deliverFrom_102 ?_
        refine j_iload_n C 3 dX4_deliverFrom_105 rfl rfl ?_
        refine j_zald C (zb_Snd hG hc) (zs_Snd hG hc) (zl_Snd hG hc) rfl (by omega) (by decide) (sd) ((zu_o (by omega)).trans ((zu_o (by omega)).trans ((zu_o (by omega)).trans ((zu_o (by omega)).trans ((zu_o (by omega)).trans ((zu_o (by omega)).trans ((zu_o (by omega)).trans ((zu_o (by omega)).trans ((zu_o (by omega)).trans ((zu_o (by omega)).trans (hsd))))))))))) dX4_deliverFrom_106 ?_
        refine j_if_ne (tgt := 126) (a := sdI) C hsdI dX4_deliverFrom_107 (by decide) (fun c107 => ?_) (fun c107 => ?_)
        ·
          refine j_aload_n C 5 dX4_deliverFrom_126 rfl rfl ?_
          refine j_getR C zK4 (zb_X hG) (zs_X hG) (f := 2) (by decide) rfl zk_X4_24 rfl (zf_X_2 hG) dX4_deliverFrom_127 ?_
          refine j_getRN C zK1 (zb_Fin hG) (zs_Fin hG) (f := 0) (by decide) rfl zk_X4_149 rfl (zf_Fin_0 hG) dX4_deliverFrom_130 ?_
          refine j_iload C 2 dX4_deliverFrom_133 rfl ?_
          refine j_zald C (zb_Giv hG) (zs_Giv hG) (zl_Giv hG) rfl (by omega) (by decide) (gv) ((zu_o (by omega)).trans ((zu_o (by omega)).trans ((zu_o (by omega)).trans ((zu_o (by omega)).trans ((zu_o (by omega)).trans ((zu_o (by omega)).trans ((zu_o (by omega)).trans ((zu_o (by omega)).trans ((zu_o (by omega)).trans ((zu_o (by omega)).trans (hgv))))))))))) dX4_deliverFrom_135 ?_
          refine j_if_eq (tgt := 159) (a := gvI) C hgvI dX4_deliverFrom_136 (by decide) (fun c136 => ?_) (fun c136 => ?_)
          ·
            refine j_aload_n C 5 dX4_deliverFrom_159 rfl rfl ?_
            refine j_getR C zK4 (zb_X hG) (zs_X hG) (f := 2) (by decide) rfl zk_X4_24 rfl (zf_X_2 hG) dX4_deliverFrom_160 ?_
            refine j_iload C 2 dX4_deliverFrom_163 rfl ?_
            refine j_callVN C hR (kX1_addGiven hD hG (a := nu) (by omega) (gc := gc) ((zu_o (by omega)).trans ((zu_o (by omega)).trans ((zu_o (by omega)).trans ((zu_o (by omega)).trans ((zu_o (by omega)).trans ((zu_o (by omega)).trans ((zu_o (by omega)).trans ((zu_o (by omega)).trans ((zu_o (by omega)).trans ((zu_o (by omega)).trans (hgc)))))))))))) [] zmX1_addGiven zk_X4_237 zK1 (zb_Fin hG) (zs_Fin hG) (by decide) rfl rfl (Nat.le_of_ble_eq_true rfl) dX4_deliverFrom_165 (fun Z165 h165 => ?_)
            refine j_Z (Z' := (zu (zu (zu (zu (zu (zu (zu (zu (zu (zu (zu (zu Z (7) (2) (nI (md + 1))) (10) (0) (nI c)) (10) (1) (nI po)) (10) (2) (t)) (10) (3) (nI (md + 1))) (10) (4) (cr)) (8) ((md + 1) % 64) (nI 0)) (7) (5) (td - tbz tv8)) (9) ((md + 1) % 64) (nI 0)) (7) (5) ((td - tbz tv8) - tbz tv9)) (4) (nu) (nI 1)) (3) (3) (gc + nI 1))) h165 ?_
            refine j_iload C 0 dX4_deliverFrom_168 rfl ?_
            refine j_if_ne (tgt := 177) (a := ((0 : Nat) : Int)) C (nI_toInt (by omega)) dX4_deliverFrom_170 (by decide) (fun c170 => absurd c170 (by omega)) (fun c170 => ?_)
            refine j_aload_n C 4 dX4_deliverFrom_173 rfl rfl ?_
            refine j_callVN C hR (kX3_pass hD hG (i := c)  hc (rc := nI rc) (rcI := ((rc : Nat) : Int)) (((zu_o (by omega)).trans ((zu_o (by omega)).trans ((zu_o (by omega)).trans ((zu_o (by omega)).trans ((zu_o (by omega)).trans ((zu_o (by omega)).trans ((zu_o (by omega)).trans ((zu_o (by omega)).trans ((zu_o (by omega)).trans ((zu_o (by omega)).trans ((zu_o (by omega)).trans ((zu_o (by omega)).trans (hrc)))))))))))))) (nI_toInt (by omega)) (po := po) ((zu_o (by omega)).trans ((zu_o (by omega)).trans ((zu_o (by omega)).trans ((zu_o (by omega)).trans ((zu_o (by omega)).trans ((zu_o (by omega)).trans ((zu_o (by omega)).trans ((zu_o (by omega)).trans ((zu_o (by omega)).trans ((zu_o (by omega)).trans ((zu_o (by omega)).trans ((zu_o (by omega)).trans (hpo))))))))))))) (by omega) (by omega) (w := w) (((zu_o (by omega)).trans ((zu_o (by omega)).trans ((zu_o (by omega)).trans ((zu_o (by omega)).trans ((zu_o (by omega)).trans ((zu_o (by omega)).trans ((zu_o (by omega)).trans ((zu_o (by omega)).trans ((zu_o (by omega)).trans ((zu_o (by omega)).trans ((zu_o (by omega)).trans ((zu_o (by omega)).trans (hw)))))))))))))) (t := t) (((zu_o (by omega)).trans ((zu_o (by omega)).trans ((zu_o (by omega)).trans ((zu_o (by omega)).trans ((zu_o (by omega)).trans ((zu_o (by omega)).trans ((zu_o (by omega)).trans ((zu_o (by omega)).trans ((zu_o (by omega)).trans ((zu_o (by omega)).trans ((zu_o (by omega)).trans ((zu_o (by omega)).trans (ht))))))))))))))) [] zmX3_pass zk_X4_234 zK3 (zb_Part hG hc) (zs_Part hG hc) (by decide) rfl rfl (Nat.le_of_ble_eq_true rfl) dX4_deliverFrom_174 (fun Z174 h174 => ?_)
            refine j_Z (Z' := (zu (zu (zu (zu (zu (zu (zu (zu (zu (zu (zu (zu (zu (zu Z (7) (2) (nI (md + 1))) (10) (0) (nI c)) (10) (1) (nI po)) (10) (2) (t)) (10) (3) (nI (md + 1))) (10) (4) (cr)) (8) ((md + 1) % 64) (nI 0)) (7) (5) (td - tbz tv8)) (9) ((md + 1) % 64) (nI 0)) (7) (5) ((td - tbz tv8) - tbz tv9)) (4) (nu) (nI 1)) (3) (3) (gc + nI 1)) (11 + 4 * c) (6) (if w < t then t else w)) (11 + 4 * c) (5) (nI (po + 1)))) h174 ?_
            refine j_iload C 2 dX4_deliverFrom_177 rfl ?_
            refine j_iret C R dX4_deliverFrom_179 ?_
            first | exact Or.inl ⟨by omega, rfl, rfl⟩ | exact Or.inr (Or.inl ⟨by omega, rfl, rfl⟩) | exact Or.inr (Or.inr (Or.inl ⟨by omega, rfl, rfl⟩)) | exact Or.inr (Or.inr (Or.inr (Or.inl ⟨by omega, rfl, rfl⟩))) | exact Or.inr (Or.inr (Or.inr (Or.inr (Or.inl ⟨by omega, rfl, rfl⟩)))) | exact Or.inr (Or.inr (Or.inr (Or.inr (Or.inr (⟨by omega, rfl, rfl⟩)))))
          ·
            refine j_aload_n C 5 dX4_deliverFrom_139 rfl rfl ?_
            refine j_getR C zK4 (zb_X hG) (zs_X hG) (f := 3) (by decide) rfl zk_X4_31 rfl (zf_X_3 hG) dX4_deliverFrom_140 ?_
            refine j_dup C dX4_deliverFrom_143 rfl ?_
            refine j_getIN C zK0 (zb_Del hG) (zs_Del hG) (f := 4) (by decide) rfl zk_X4_203 rfl (du) ((zu_o (by omega)).trans ((zu_o (by omega)).trans ((zu_o (by omega)).trans ((zu_o (by omega)).trans ((zu_o (by omega)).trans ((zu_o (by omega)).trans ((zu_o (by omega)).trans ((zu_o (by omega)).trans ((zu_o (by omega)).trans ((zu_o (by omega)).trans (hdu))))))))))) dX4_deliverFrom_144 ?_
            refine j_iconst C (nI 1) dX4_deliverFrom_147 (by decide) ?_
            refine j_iadd C (du + (nI 1)) dX4_deliverFrom_148 rfl ?_
            refine j_putIN C hD zK0 (zb_Del hG) (zs_Del hG) (f := 4) (by decide) rfl zk_X4_203 rfl rfl rfl rfl dX4_deliverFrom_149 ?_
            refine j_aload_n C 4 dX4_deliverFrom_152 rfl rfl ?_
            refine j_callVN C hR (kX3_pass hD hG (i := c)  hc (rc := nI rc) (rcI := ((rc : Nat) : Int)) (((zu_o (by omega)).trans ((zu_o (by omega)).trans ((zu_o (by omega)).trans ((zu_o (by omega)).trans ((zu_o (by omega)).trans ((zu_o (by omega)).trans ((zu_o (by omega)).trans ((zu_o (by omega)).trans ((zu_o (by omega)).trans ((zu_o (by omega)).trans ((zu_o (by omega)).trans (hrc))))))))))))) (nI_toInt (by omega)) (po := po) ((zu_o (by omega)).trans ((zu_o (by omega)).trans ((zu_o (by omega)).trans ((zu_o (by omega)).trans ((zu_o (by omega)).trans ((zu_o (by omega)).trans ((zu_o (by omega)).trans ((zu_o (by omega)).trans ((zu_o (by omega)).trans ((zu_o (by omega)).trans ((zu_o (by omega)).trans (hpo)))))))))))) (by omega) (by omega) (w := w) (((zu_o (by omega)).trans ((zu_o (by omega)).trans ((zu_o (by omega)).trans ((zu_o (by omega)).trans ((zu_o (by omega)).trans ((zu_o (by omega)).trans ((zu_o (by omega)).trans ((zu_o (by omega)).trans ((zu_o (by omega)).trans ((zu_o (by omega)).trans ((zu_o (by omega)).trans (hw))))))))))))) (t := t) (((zu_o (by omega)).trans ((zu_o (by omega)).trans ((zu_o (by omega)).trans ((zu_o (by omega)).trans ((zu_o (by omega)).trans ((zu_o (by omega)).trans ((zu_o (by omega)).trans ((zu_o (by omega)).trans ((zu_o (by omega)).trans ((zu_o (by omega)).trans ((zu_o (by omega)).trans (ht)))))))))))))) [] zmX3_pass zk_X4_234 zK3 (zb_Part hG hc) (zs_Part hG hc) (by decide) rfl rfl (Nat.le_of_ble_eq_true rfl) dX4_deliverFrom_153 (fun Z153 h153 => ?_)
            refine j_Z (Z' := (zu (zu (zu (zu (zu (zu (zu (zu (zu (zu (zu (zu (zu Z (7) (2) (nI (md + 1))) (10) (0) (nI c)) (10) (1) (nI po)) (10) (2) (t)) (10) (3) (nI (md + 1))) (10) (4) (cr)) (8) ((md + 1) % 64) (nI 0)) (7) (5) (td - tbz tv8)) (9) ((md + 1) % 64) (nI 0)) (7) (5) ((td - tbz tv8) - tbz tv9)) (7) (4) (du + (nI 1))) (11 + 4 * c) (6) (if w < t then t else w)) (11 + 4 * c) (5) (nI (po + 1)))) h153 ?_
            refine j_bipush C (-4) dX4_deliverFrom_156 (by decide) ?_
            refine j_iret C R dX4_deliverFrom_158 ?_
            first | exact Or.inl ⟨by omega, rfl, rfl⟩ | exact Or.inr (Or.inl ⟨by omega, rfl, rfl⟩) | exact Or.inr (Or.inr (Or.inl ⟨by omega, rfl, rfl⟩)) | exact Or.inr (Or.inr (Or.inr (Or.inl ⟨by omega, rfl, rfl⟩))) | exact Or.inr (Or.inr (Or.inr (Or.inr (Or.inl ⟨by omega, rfl, rfl⟩)))) | exact Or.inr (Or.inr (Or.inr (Or.inr (Or.inr (⟨by omega, rfl, rfl⟩)))))
        ·
          refine j_aload_n C 5 dX4_deliverFrom_110 rfl rfl ?_
          refine j_getR C zK4 (zb_X hG) (zs_X hG) (f := 2) (by decide) rfl zk_X4_24 rfl (zf_X_2 hG) dX4_deliverFrom_111 ?_
          refine j_iload_n C 6 dX4_deliverFrom_114 rfl rfl ?_
          refine j_iload_n C 3 dX4_deliverFrom_115 rfl rfl ?_
          refine j_callVN C hR (kX1_setAside hD hG (ac := ac) ((zu_o (by omega)).trans ((zu_o (by omega)).trans ((zu_o (by omega)).trans ((zu_o (by omega)).trans ((zu_o (by omega)).trans ((zu_o (by omega)).trans ((zu_o (by omega)).trans ((zu_o (by omega)).trans ((zu_o (by omega)).trans ((zu_o (by omega)).trans (hac))))))))))) (by omega) (nI c) (nI po)) [] zmX1_setAside zk_X4_231 zK1 (zb_Fin hG) (zs_Fin hG) (by decide) rfl rfl (Nat.le_of_ble_eq_true rfl) dX4_deliverFrom_116 (fun Z116 h116 => ?_)
          rcases h116 with ⟨h116, e116⟩ | ⟨h116, e116⟩
          ·
            refine j_Z (Z' := (zu (zu (zu (zu (zu (zu (zu (zu (zu (zu (zu (zu (zu Z (7) (2) (nI (md + 1))) (10) (0) (nI c)) (10) (1) (nI po)) (10) (2) (t)) (10) (3) (nI (md + 1))) (10) (4) (cr)) (8) ((md + 1) % 64) (nI 0)) (7) (5) (td - tbz tv8)) (9) ((md + 1) % 64) (nI 0)) (7) (5) ((td - tbz tv8) - tbz tv9)) (5) (ac) (nI c)) (6) (ac) (nI po)) (3) (4) (nI (ac + 1)))) e116 ?_
            refine j_aload_n C 4 dX4_deliverFrom_119 rfl rfl ?_
            refine j_callVN C hR (kX3_pass hD hG (i := c)  hc (rc := nI rc) (rcI := ((rc : Nat) : Int)) (((zu_o (by omega)).trans ((zu_o (by omega)).trans ((zu_o (by omega)).trans ((zu_o (by omega)).trans ((zu_o (by omega)).trans ((zu_o (by omega)).trans ((zu_o (by omega)).trans ((zu_o (by omega)).trans ((zu_o (by omega)).trans ((zu_o (by omega)).trans ((zu_o (by omega)).trans ((zu_o (by omega)).trans ((zu_o (by omega)).trans (hrc))))))))))))))) (nI_toInt (by omega)) (po := po) ((zu_o (by omega)).trans ((zu_o (by omega)).trans ((zu_o (by omega)).trans ((zu_o (by omega)).trans ((zu_o (by omega)).trans ((zu_o (by omega)).trans ((zu_o (by omega)).trans ((zu_o (by omega)).trans ((zu_o (by omega)).trans ((zu_o (by omega)).trans ((zu_o (by omega)).trans ((zu_o (by omega)).trans ((zu_o (by omega)).trans (hpo)))))))))))))) (by omega) (by omega) (w := w) (((zu_o (by omega)).trans ((zu_o (by omega)).trans ((zu_o (by omega)).trans ((zu_o (by omega)).trans ((zu_o (by omega)).trans ((zu_o (by omega)).trans ((zu_o (by omega)).trans ((zu_o (by omega)).trans ((zu_o (by omega)).trans ((zu_o (by omega)).trans ((zu_o (by omega)).trans ((zu_o (by omega)).trans ((zu_o (by omega)).trans (hw))))))))))))))) (t := t) (((zu_o (by omega)).trans ((zu_o (by omega)).trans ((zu_o (by omega)).trans ((zu_o (by omega)).trans ((zu_o (by omega)).trans ((zu_o (by omega)).trans ((zu_o (by omega)).trans ((zu_o (by omega)).trans ((zu_o (by omega)).trans ((zu_o (by omega)).trans ((zu_o (by omega)).trans ((zu_o (by omega)).trans ((zu_o (by omega)).trans (ht)))))))))))))))) [] zmX3_pass zk_X4_234 zK3 (zb_Part hG hc) (zs_Part hG hc) (by decide) rfl rfl (Nat.le_of_ble_eq_true rfl) dX4_deliverFrom_120 (fun Z120 h120 => ?_)
            refine j_Z (Z' := (zu (zu (zu (zu (zu (zu (zu (zu (zu (zu (zu (zu (zu (zu (zu Z (7) (2) (nI (md + 1))) (10) (0) (nI c)) (10) (1) (nI po)) (10) (2) (t)) (10) (3) (nI (md + 1))) (10) (4) (cr)) (8) ((md + 1) % 64) (nI 0)) (7) (5) (td - tbz tv8)) (9) ((md + 1) % 64) (nI 0)) (7) (5) ((td - tbz tv8) - tbz tv9)) (5) (ac) (nI c)) (6) (ac) (nI po)) (3) (4) (nI (ac + 1))) (11 + 4 * c) (6) (if w < t then t else w)) (11 + 4 * c) (5) (nI (po + 1)))) h120 ?_
            refine j_bipush C (-3) dX4_deliverFrom_123 (by decide) ?_
            refine j_iret C R dX4_deliverFrom_125 ?_
            first | exact Or.inl ⟨by omega, rfl, rfl⟩ | exact Or.inr (Or.inl ⟨by omega, rfl, rfl⟩) | exact Or.inr (Or.inr (Or.inl ⟨by omega, rfl, rfl⟩)) | exact Or.inr (Or.inr (Or.inr (Or.inl ⟨by omega, rfl, rfl⟩))) | exact Or.inr (Or.inr (Or.inr (Or.inr (Or.inl ⟨by omega, rfl, rfl⟩)))) | exact Or.inr (Or.inr (Or.inr (Or.inr (Or.inr (⟨by omega, rfl, rfl⟩)))))
          ·
            refine j_Z (Z' := (zu (zu (zu (zu (zu (zu (zu (zu (zu (zu Z (7) (2) (nI (md + 1))) (10) (0) (nI c)) (10) (1) (nI po)) (10) (2) (t)) (10) (3) (nI (md + 1))) (10) (4) (cr)) (8) ((md + 1) % 64) (nI 0)) (7) (5) (td - tbz tv8)) (9) ((md + 1) % 64) (nI 0)) (7) (5) ((td - tbz tv8) - tbz tv9))) e116 ?_
            refine j_aload_n C 4 dX4_deliverFrom_119 rfl rfl ?_
            refine j_callVN C hR (kX3_pass hD hG (i := c)  hc (rc := nI rc) (rcI := ((rc : Nat) : Int)) (((zu_o (by omega)).trans ((zu_o (by omega)).trans ((zu_o (by omega)).trans ((zu_o (by omega)).trans ((zu_o (by omega)).trans ((zu_o (by omega)).trans ((zu_o (by omega)).trans ((zu_o (by omega)).trans ((zu_o (by omega)).trans ((zu_o (by omega)).trans (hrc)))))))))))) (nI_toInt (by omega)) (po := po) ((zu_o (by omega)).trans ((zu_o (by omega)).trans ((zu_o (by omega)).trans ((zu_o (by omega)).trans ((zu_o (by omega)).trans ((zu_o (by omega)).trans ((zu_o (by omega)).trans ((zu_o (by omega)).trans ((zu_o (by omega)).trans ((zu_o (by omega)).trans (hpo))))))))))) (by omega) (by omega) (w := w) (((zu_o (by omega)).trans ((zu_o (by omega)).trans ((zu_o (by omega)).trans ((zu_o (by omega)).trans ((zu_o (by omega)).trans ((zu_o (by omega)).trans ((zu_o (by omega)).trans ((zu_o (by omega)).trans ((zu_o (by omega)).trans ((zu_o (by omega)).trans (hw)))))))))))) (t := t) (((zu_o (by omega)).trans ((zu_o (by omega)).trans ((zu_o (by omega)).trans ((zu_o (by omega)).trans ((zu_o (by omega)).trans ((zu_o (by omega)).trans ((zu_o (by omega)).trans ((zu_o (by omega)).trans ((zu_o (by omega)).trans ((zu_o (by omega)).trans (ht))))))))))))) [] zmX3_pass zk_X4_234 zK3 (zb_Part hG hc) (zs_Part hG hc) (by decide) rfl rfl (Nat.le_of_ble_eq_true rfl) dX4_deliverFrom_120 (fun Z120 h120 => ?_)
            refine j_Z (Z' := (zu (zu (zu (zu (zu (zu (zu (zu (zu (zu (zu (zu Z (7) (2) (nI (md + 1))) (10) (0) (nI c)) (10) (1) (nI po)) (10) (2) (t)) (10) (3) (nI (md + 1))) (10) (4) (cr)) (8) ((md + 1) % 64) (nI 0)) (7) (5) (td - tbz tv8)) (9) ((md + 1) % 64) (nI 0)) (7) (5) ((td - tbz tv8) - tbz tv9)) (11 + 4 * c) (6) (if w < t then t else w)) (11 + 4 * c) (5) (nI (po + 1)))) h120 ?_
            refine j_bipush C (-3) dX4_deliverFrom_123 (by decide) ?_
            refine j_iret C R dX4_deliverFrom_125 ?_
            first | exact Or.inl ⟨by omega, rfl, rfl⟩ | exact Or.inr (Or.inl ⟨by omega, rfl, rfl⟩) | exact Or.inr (Or.inr (Or.inl ⟨by omega, rfl, rfl⟩)) | exact Or.inr (Or.inr (Or.inr (Or.inl ⟨by omega, rfl, rfl⟩))) | exact Or.inr (Or.inr (Or.inr (Or.inr (Or.inl ⟨by omega, rfl, rfl⟩)))) | exact Or.inr (Or.inr (Or.inr (Or.inr (Or.inr (⟨by omega, rfl, rfl⟩)))))
  ·
    refine j_Z e8 ?_
    exact absurd h8 (by omega)
end
section
def DFx (Z : ZT) (c po nu md ac : Nat) (r : Int32) (Z' : ZT) : Prop := ((((Z 8 ((md + 1) % 64)).toInt) ≠ 0) ∧ r = (-2) ∧ Z' = (zu (zu (zu (zu (zu (zu (zu (zu (zu (zu (zu Z (7) (2) (nI (md + 1))) (10) (0) (nI c)) (10) (1) (nI po)) (10) (2) ((Z (13 + 4 * c) po))) (10) (3) (nI (md + 1))) (10) (4) ((Z (11 + 4 * c) 7))) (8) ((md + 1) % 64) (nI 0)) (7) (5) ((Z 7 5) - tbz (Z 8 ((md + 1) % 64)))) (9) ((md + 1) % 64) (nI 0)) (7) (5) (((Z 7 5) - tbz (Z 8 ((md + 1) % 64))) - tbz (Z 9 ((md + 1) % 64)))) (7) (3) ((Z 7 3) + nI 1))) ∨ ((((Z 8 ((md + 1) % 64)).toInt) = 0 ∧ ((Z (14 + 4 * c) po).toInt) = 0 ∧ ac < 100) ∧ r = (-3) ∧ Z' = (zu (zu (zu (zu (zu (zu (zu (zu (zu (zu (zu (zu (zu (zu (zu Z (7) (2) (nI (md + 1))) (10) (0) (nI c)) (10) (1) (nI po)) (10) (2) ((Z (13 + 4 * c) po))) (10) (3) (nI (md + 1))) (10) (4) ((Z (11 + 4 * c) 7))) (8) ((md + 1) % 64) (nI 0)) (7) (5) ((Z 7 5) - tbz (Z 8 ((md + 1) % 64)))) (9) ((md + 1) % 64) (nI 0)) (7) (5) (((Z 7 5) - tbz (Z 8 ((md + 1) % 64))) - tbz (Z 9 ((md + 1) % 64)))) (5) (ac) (nI c)) (6) (ac) (nI po)) (3) (4) (nI (ac + 1))) (11 + 4 * c) (6) (if (Z (11 + 4 * c) 6) < (Z (13 + 4 * c) po) then (Z (13 + 4 * c) po) else (Z (11 + 4 * c) 6))) (11 + 4 * c) (5) (nI (po + 1)))) ∨ ((((Z 8 ((md + 1) % 64)).toInt) = 0 ∧ ((Z (14 + 4 * c) po).toInt) = 0 ∧ 100 ≤ ac) ∧ r = (-3) ∧ Z' = (zu (zu (zu (zu (zu (zu (zu (zu (zu (zu (zu (zu Z (7) (2) (nI (md + 1))) (10) (0) (nI c)) (10) (1) (nI po)) (10) (2) ((Z (13 + 4 * c) po))) (10) (3) (nI (md + 1))) (10) (4) ((Z (11 + 4 * c) 7))) (8) ((md + 1) % 64) (nI 0)) (7) (5) ((Z 7 5) - tbz (Z 8 ((md + 1) % 64)))) (9) ((md + 1) % 64) (nI 0)) (7) (5) (((Z 7 5) - tbz (Z 8 ((md + 1) % 64))) - tbz (Z 9 ((md + 1) % 64)))) (11 + 4 * c) (6) (if (Z (11 + 4 * c) 6) < (Z (13 + 4 * c) po) then (Z (13 + 4 * c) po) else (Z (11 + 4 * c) 6))) (11 + 4 * c) (5) (nI (po + 1)))) ∨ ((((Z 8 ((md + 1) % 64)).toInt) = 0 ∧ ((Z (14 + 4 * c) po).toInt) ≠ 0 ∧ ((Z 4 nu).toInt) ≠ 0) ∧ r = (-4) ∧ Z' = (zu (zu (zu (zu (zu (zu (zu (zu (zu (zu (zu (zu (zu Z (7) (2) (nI (md + 1))) (10) (0) (nI c)) (10) (1) (nI po)) (10) (2) ((Z (13 + 4 * c) po))) (10) (3) (nI (md + 1))) (10) (4) ((Z (11 + 4 * c) 7))) (8) ((md + 1) % 64) (nI 0)) (7) (5) ((Z 7 5) - tbz (Z 8 ((md + 1) % 64)))) (9) ((md + 1) % 64) (nI 0)) (7) (5) (((Z 7 5) - tbz (Z 8 ((md + 1) % 64))) - tbz (Z 9 ((md + 1) % 64)))) (7) (4) ((Z 7 4) + nI 1)) (11 + 4 * c) (6) (if (Z (11 + 4 * c) 6) < (Z (13 + 4 * c) po) then (Z (13 + 4 * c) po) else (Z (11 + 4 * c) 6))) (11 + 4 * c) (5) (nI (po + 1)))) ∨ ((((Z 8 ((md + 1) % 64)).toInt) = 0 ∧ ((Z (14 + 4 * c) po).toInt) ≠ 0 ∧ ((Z 4 nu).toInt) = 0 ∧ ((Z 9 ((md + 1) % 64)).toInt) = 0) ∧ r = nI nu ∧ Z' = (zu (zu (zu (zu (zu (zu (zu (zu (zu (zu (zu (zu (zu (zu Z (7) (2) (nI (md + 1))) (10) (0) (nI c)) (10) (1) (nI po)) (10) (2) ((Z (13 + 4 * c) po))) (10) (3) (nI (md + 1))) (10) (4) ((Z (11 + 4 * c) 7))) (8) ((md + 1) % 64) (nI 0)) (7) (5) ((Z 7 5) - tbz (Z 8 ((md + 1) % 64)))) (9) ((md + 1) % 64) (nI 0)) (7) (5) (((Z 7 5) - tbz (Z 8 ((md + 1) % 64))) - tbz (Z 9 ((md + 1) % 64)))) (4) (nu) (nI 1)) (3) (3) ((Z 3 3) + nI 1)) (11 + 4 * c) (6) (if (Z (11 + 4 * c) 6) < (Z (13 + 4 * c) po) then (Z (13 + 4 * c) po) else (Z (11 + 4 * c) 6))) (11 + 4 * c) (5) (nI (po + 1)))) ∨ ((((Z 8 ((md + 1) % 64)).toInt) = 0 ∧ ((Z (14 + 4 * c) po).toInt) ≠ 0 ∧ ((Z 4 nu).toInt) = 0 ∧ ((Z 9 ((md + 1) % 64)).toInt) ≠ 0) ∧ r = nI nu ∧ Z' = (zu (zu (zu (zu (zu (zu (zu (zu (zu (zu (zu (zu Z (7) (2) (nI (md + 1))) (10) (0) (nI c)) (10) (1) (nI po)) (10) (2) ((Z (13 + 4 * c) po))) (10) (3) (nI (md + 1))) (10) (4) ((Z (11 + 4 * c) 7))) (8) ((md + 1) % 64) (nI 0)) (7) (5) ((Z 7 5) - tbz (Z 8 ((md + 1) % 64)))) (9) ((md + 1) % 64) (nI 0)) (7) (5) (((Z 7 5) - tbz (Z 8 ((md + 1) % 64))) - tbz (Z 9 ((md + 1) % 64)))) (4) (nu) (nI 1)) (3) (3) ((Z 3 3) + nI 1)))
theorem zpo_of {Z : ZT} {np : Nat} {po : Nat → Nat} (hpon : ∀ i, i < np → Z (11 + 4 * i) 5 = nI (po i)) (hpo40 : ∀ i, i < np → po i ≤ 40) : ∀ i, i < np → 0 ≤ (Z (11 + 4 * i) 5).toInt := fun i hi => by
  rw [hpon i hi, nI_toInt (by have := hpo40 i hi; omega)]
  omega
set_option maxRecDepth 100000 in
set_option maxHeartbeats 4000000 in
theorem kX4_read {l : Launch} {D : va_G} {Y : YT} {b0 : Nat} {G : GT} (hD : GD b0 G) (hG : Gok 113 G) {Z : ZT} {np : Nat} (hnp : Z 0 5 = nI np) (hnp12 : np ≤ 12) {nt : Int32} {ntI : Int} (hnt : Z 0 7 = nt) (hntI : nt.toInt = ntI) {rc : Nat → Nat} (hrc : ∀ i, i < np → Z (11 + 4 * i) 3 = nI (rc i) ∧ rc i ≤ 40) {po : Nat → Nat} (hpon : ∀ i, i < np → Z (11 + 4 * i) 5 = nI (po i)) (hpo40 : ∀ i, i < np → po i ≤ 40) {nu : Nat → Nat → Nat} (hnu : ∀ i, i < np → ∀ j, j < rc i → Z (12 + 4 * i) j = nI (nu i j) ∧ nu i j < 256) {md ac : Nat} (hmd : Z 7 2 = nI md) (hmd9 : md < 2 ^ 19) (hac : Z 3 4 = nI ac) (hac100 : ac ≤ 100) (p0 : Int32) : CI l D Y b0 G yX4_read cX4_read 3 (some .int) 4 [.ref (G.2.1 (0)), .int (p0)] Z (fun r Z' => ((p0.toInt < 0 ∨ ntI ≤ p0.toInt) ∧ r = (-11) ∧ Z' = Z) ∨ ((0 ≤ p0.toInt ∧ p0.toInt < ntI) ∧ nxb (rtC Z p0) (ncC Z p0) np = none ∧ r = (-1) ∧ Z' = zpf Z np (fun i _ => ncC Z p0 i) [7]) ∨ ((0 ≤ p0.toInt ∧ p0.toInt < ntI) ∧ ∃ c, nxb (rtC Z p0) (ncC Z p0) np = some c ∧ DFx (zu (zpf Z np (fun i _ => ncC Z p0 i) [7]) (11 + 4 * c) 7 (ncC Z p0 c - nxs (rtC Z p0) (shC Z) np)) c (po c) (nu c (po c)) md ac r Z')) := by
  refine ci_start (lv0 := [(0, .ref (G.2.1 (0))), (1, .int (p0))]) hD rfl rfl (Nat.le_of_ble_eq_true rfl) rfl ?_
  intro E C R hR hD hN
  have hpo := zpo_of hpon hpo40
  refine j_aload_n C 0 dX4_read_0 rfl rfl ?_
  refine j_iload_n C 1 dX4_read_1 rfl rfl ?_
  refine j_callI C hR (kX4_isTask hD hG (nt := nt) (ntI := ntI) hnt hntI (p0 := p0) (b := (p0).toInt) rfl) [] zmX4_isTask zk_X4_86 zK4 (zb_X hG) (zs_X hG) (by decide) rfl rfl (Nat.le_of_ble_eq_true rfl) dX4_read_2 (fun r2 Z2 h2 => ?_)
  obtain ⟨e2, ⟨rfl, h2⟩ | ⟨rfl, h2⟩⟩ := h2
  ·
    refine j_Z e2 ?_
    refine j_if_ne (tgt := 11) (a := ((1 : Nat) : Int)) C (nI_toInt (by omega)) dX4_read_5 (by decide) (fun c5 => ?_) (fun c5 => absurd c5 (by omega))
    refine j_aload_n C 0 dX4_read_11 rfl rfl ?_
    refine j_iload_n C 1 dX4_read_12 rfl rfl ?_
    refine j_callI C hR (kX4_chooseByCredit hD hG (np := np) hnp (by omega) hpo (p0)) [] zmX4_chooseByCredit zk_X4_96 zK4 (zb_X hG) (zs_X hG) (by decide) rfl rfl (Nat.le_of_ble_eq_true rfl) dX4_read_13 (fun r13 Z13 h13 => ?_)
    rcases h13 with ⟨hb, rfl, e13⟩ | ⟨c, hb, rfl, e13⟩
    ·
      refine j_Z (Z' := (zpf Z (np) (fun i _ => ncC Z p0 i) [7])) e13 ?_
      refine j_istore_n (lv' := [(2, .int (-1)), (0, .ref (G.2.1 (0))), (1, .int (p0))]) C dX4_read_16 rfl (by rw [hN]; decide) rfl ?_
      refine j_aload_n C 1 dX4_read_17 rfl rfl ?_
      refine j_iload_n C 0 dX4_read_18 rfl rfl ?_
      refine j_callI C hR (kX4_isPart hD hG (np := nI np) (npI := ((np : Nat) : Int)) ((zpf_o (by omega)).trans (hnp)) (nI_toInt (by omega)) (p0 := -1) (b := -1) (show ((-1 : Int32)).toInt = -1 by decide)) [] zmX4_isPart zk_X4_52 zK4 (zb_X hG) (zs_X hG) (by decide) rfl rfl (Nat.le_of_ble_eq_true rfl) dX4_read_19 (fun r19 Z19 h19 => ?_)
      obtain ⟨e19, ⟨rfl, h19⟩ | ⟨rfl, h19⟩⟩ := h19
      ·
        refine j_Z e19 ?_
        exact absurd h19 (by omega)
      ·
        refine j_Z e19 ?_
        refine j_if_ne (tgt := 27) (a := ((0 : Nat) : Int)) C (nI_toInt (by omega)) dX4_read_22 (by decide) (fun c22 => absurd c22 (by omega)) (fun c22 => ?_)
        refine j_iconst C (-1) dX4_read_25 (by decide) ?_
        refine j_iret C R dX4_read_26 ?_
        exact Or.inr (Or.inl ⟨by omega, hb, rfl, rfl⟩)
    ·
      refine j_Z (Z' := (zu (zpf Z (np) (fun i _ => ncC Z p0 i) [7]) (11 + 4 * c) (7) (ncC Z p0 c - nxs (rtC Z p0) (shC Z) np))) e13 ?_
      obtain ⟨hcn, hrtc⟩ := nxb_spec hb
      obtain ⟨hrcc, hrc40⟩ := hrc c hcn
      have hpoc := hpon c hcn
      have hpo9 := hpo40 c hcn
      have hlt : po c < rc c := by
        have q := (of_decide_eq_true hrtc).2
        rw [hrcc, hpoc, nI_toInt (by omega), nI_toInt (by omega)] at q
        omega
      obtain ⟨hnuc, hnu256⟩ := hnu c hcn (po c) hlt
      refine j_istore_n (lv' := [(2, .int (nI c)), (0, .ref (G.2.1 (0))), (1, .int (p0))]) C dX4_read_16 rfl (by rw [hN]; decide) rfl ?_
      refine j_aload_n C 1 dX4_read_17 rfl rfl ?_
      refine j_iload_n C 0 dX4_read_18 rfl rfl ?_
      refine j_callI C hR (kX4_isPart hD hG (np := nI np) (npI := ((np : Nat) : Int)) ((zu_o (by omega)).trans ((zpf_o (by omega)).trans (hnp))) (nI_toInt (by omega)) (p0 := nI c) (b := ((c : Nat) : Int)) (nI_toInt (by omega))) [] zmX4_isPart zk_X4_52 zK4 (zb_X hG) (zs_X hG) (by decide) rfl rfl (Nat.le_of_ble_eq_true rfl) dX4_read_19 (fun r19 Z19 h19 => ?_)
      obtain ⟨e19, ⟨rfl, h19⟩ | ⟨rfl, h19⟩⟩ := h19
      ·
        refine j_Z e19 ?_
        refine j_if_ne (tgt := 27) (a := ((1 : Nat) : Int)) C (nI_toInt (by omega)) dX4_read_22 (by decide) (fun c22 => ?_) (fun c22 => absurd c22 (by omega))
        refine j_aload_n C 1 dX4_read_27 rfl rfl ?_
        refine j_iload_n C 0 dX4_read_28 rfl rfl ?_
        refine j_callI C hR (kX4_deliverFrom hD hG (Z := (zu (zpf Z (np) (fun i _ => ncC Z p0 i) [7]) (11 + 4 * c) (7) (ncC Z p0 c - nxs (rtC Z p0) (shC Z) np))) (c := c) (rc := rc c) (po := po c) (nu := nu c (po c)) (md := md) (ac := ac) (by omega) ((zu_o (by omega)).trans ((zpf_f (by decide)).trans (hrcc))) (by omega) ((zu_o (by omega)).trans ((zpf_f (by decide)).trans (hpoc))) (by omega) rfl rfl rfl ((zu_o (by omega)).trans ((zpf_o (by omega)).trans (hnuc))) (by omega) rfl rfl ((zu_o (by omega)).trans ((zpf_o (by omega)).trans (hmd))) (by omega) rfl rfl rfl rfl rfl rfl rfl rfl rfl rfl ((zu_o (by omega)).trans ((zpf_o (by omega)).trans (hac))) (by omega)) [] zmX4_deliverFrom zk_X4_100 zK4 (zb_X hG) (zs_X hG) (by decide) rfl rfl (Nat.le_of_ble_eq_true rfl) dX4_read_29 (fun r29 Z29 h29 => ?_)
        refine j_iret C R dX4_read_32 ?_
        exact Or.inr (Or.inr ⟨by omega, c, hb, h29⟩)
      ·
        refine j_Z e19 ?_
        exact absurd h19 (by omega)
  ·
    refine j_Z e2 ?_
    refine j_if_ne (tgt := 11) (a := ((0 : Nat) : Int)) C (nI_toInt (by omega)) dX4_read_5 (by decide) (fun c5 => absurd c5 (by omega)) (fun c5 => ?_)
    refine j_bipush C (-11) dX4_read_8 (by decide) ?_
    refine j_iret C R dX4_read_10 ?_
    exact Or.inl ⟨by omega, rfl, rfl⟩
set_option maxRecDepth 100000 in
set_option maxHeartbeats 4000000 in
theorem kX4_lose {l : Launch} {D : va_G} {Y : YT} {b0 : Nat} {G : GT} (hD : GD b0 G) (hG : Gok 113 G) {Z : ZT} {md : Nat} (hmd : Z 7 2 = nI md) (hmd9 : md < 2 ^ 19) (p0 p1 : Int32) : CI l D Y b0 G yX4_lose cX4_lose 3 (some .int) 1 [.ref (G.2.1 (0)), .int (p0), .int (p1)] Z (fun r Z' => ((p0.toInt < 1 ∨ 50 < p0.toInt) ∧ r = (-12) ∧ Z' = Z) ∨ ∃ a : Nat, a < 51 ∧ p0 = nI a ∧ 1 ≤ p0.toInt ∧ (((p1.toInt = 0 ∧ (Z 8 ((md + a) % 64)).toInt ≠ 0) ∧ r = nI 0 ∧ Z' = Z) ∨ ((p1.toInt = 0 ∧ (Z 8 ((md + a) % 64)).toInt = 0) ∧ r = nI 1 ∧ Z' = (zu (zu Z (8) ((md + a) % 64) (nI 1)) (7) (5) (Z 7 5 + nI 1))) ∨ ((p1.toInt ≠ 0 ∧ (Z 9 ((md + a) % 64)).toInt ≠ 0) ∧ r = nI 0 ∧ Z' = Z) ∨ ((p1.toInt ≠ 0 ∧ (Z 9 ((md + a) % 64)).toInt = 0) ∧ r = nI 1 ∧ Z' = (zu (zu Z (9) ((md + a) % 64) (nI 1)) (7) (5) (Z 7 5 + nI 1))))) := by
  refine ci_start (lv0 := [(0, .ref (G.2.1 (0))), (1, .int (p0)), (2, .int (p1))]) hD rfl rfl (Nat.le_of_ble_eq_true rfl) rfl ?_
  intro E C R hR hD hN
  refine j_iload_n C 1 dX4_lose_0 rfl rfl ?_
  refine j_iconst C (nI 1) dX4_lose_1 (by decide) ?_
  refine j_icmp_lt (tgt := 11) (a := (p0).toInt) (b := ((1 : Nat) : Int)) C rfl (nI_toInt (by omega)) dX4_lose_2 (by decide) (fun c2 => ?_) (fun c2 => ?_)
  ·
    refine j_bipush C (-12) dX4_lose_11 (by decide) ?_
    refine j_iret C R dX4_lose_13 ?_
    exact Or.inl ⟨by omega, rfl, rfl⟩
  ·
    refine j_iload_n C 1 dX4_lose_5 rfl rfl ?_
    refine j_bipush C (nI 50) dX4_lose_6 (by decide) ?_
    refine j_icmp_le (tgt := 14) (a := (p0).toInt) (b := ((50 : Nat) : Int)) C rfl (nI_toInt (by omega)) dX4_lose_8 (by decide) (fun c8 => ?_) (fun c8 => ?_)
    ·
      obtain ⟨a, ha, rfl⟩ := zi_nat (x := p0) (n := 51) (by omega) (by omega)
      refine j_aload_n C 0 dX4_lose_14 rfl rfl ?_
      refine j_getR C zK4 (zb_X hG) (zs_X hG) (f := 3) (by decide) rfl zk_X4_31 rfl (zf_X_3 hG) dX4_lose_15 ?_
      refine j_iload_n C 1 dX4_lose_18 rfl rfl ?_
      refine j_iload_n C 2 dX4_lose_19 rfl rfl ?_
      refine j_callIN C hR (kX0_tell hD hG (md := md) (a := a) hmd (by omega) rfl rfl rfl rfl rfl (p1 := p1) (p1I := (p1).toInt) rfl) [] zmX0_tell zk_X4_103 zK0 (zb_Del hG) (zs_Del hG) (by decide) rfl rfl (Nat.le_of_ble_eq_true rfl) dX4_lose_20 (fun r20 Z20 h20 => ?_)
      rcases h20 with ⟨q1, ⟨q2, rfl, e20⟩ | ⟨q2, rfl, e20⟩⟩ | ⟨q1, ⟨q2, rfl, e20⟩ | ⟨q2, rfl, e20⟩⟩
      ·
        refine j_Z (Z' := Z) e20 ?_
        refine j_if_eq (tgt := 30) (a := ((0 : Nat) : Int)) C (nI_toInt (by omega)) dX4_lose_23 (by decide) (fun c23 => ?_) (fun c23 => absurd c23 (by omega))
        refine j_iconst C (nI 0) dX4_lose_30 (by decide) ?_
        refine j_iret C R dX4_lose_31 ?_
        first | exact Or.inr ⟨a, ha, rfl, by omega, (Or.inl ⟨by exact ⟨q1, q2⟩, rfl, rfl⟩)⟩ | exact Or.inr ⟨a, ha, rfl, by omega, (Or.inr (Or.inl ⟨by exact ⟨q1, q2⟩, rfl, rfl⟩))⟩ | exact Or.inr ⟨a, ha, rfl, by omega, (Or.inr (Or.inr (Or.inl ⟨by exact ⟨q1, q2⟩, rfl, rfl⟩)))⟩ | exact Or.inr ⟨a, ha, rfl, by omega, (Or.inr (Or.inr (Or.inr (⟨by exact ⟨q1, q2⟩, rfl, rfl⟩))))⟩
      ·
        refine j_Z (Z' := (zu (zu Z (8) ((md + a) % 64) (nI 1)) (7) (5) (Z 7 5 + nI 1))) e20 ?_
        refine j_if_eq (tgt := 30) (a := ((1 : Nat) : Int)) C (nI_toInt (by omega)) dX4_lose_23 (by decide) (fun c23 => absurd c23 (by omega)) (fun c23 => ?_)
        refine j_iconst C (nI 1) dX4_lose_26 (by decide) ?_
        refine j_goto (tgt := 31) C dX4_lose_27 (by decide) ?_
        refine j_iret C R dX4_lose_31 ?_
        first | exact Or.inr ⟨a, ha, rfl, by omega, (Or.inl ⟨by exact ⟨q1, q2⟩, rfl, rfl⟩)⟩ | exact Or.inr ⟨a, ha, rfl, by omega, (Or.inr (Or.inl ⟨by exact ⟨q1, q2⟩, rfl, rfl⟩))⟩ | exact Or.inr ⟨a, ha, rfl, by omega, (Or.inr (Or.inr (Or.inl ⟨by exact ⟨q1, q2⟩, rfl, rfl⟩)))⟩ | exact Or.inr ⟨a, ha, rfl, by omega, (Or.inr (Or.inr (Or.inr (⟨by exact ⟨q1, q2⟩, rfl, rfl⟩))))⟩
      ·
        refine j_Z (Z' := Z) e20 ?_
        refine j_if_eq (tgt := 30) (a := ((0 : Nat) : Int)) C (nI_toInt (by omega)) dX4_lose_23 (by decide) (fun c23 => ?_) (fun c23 => absurd c23 (by omega))
        refine j_iconst C (nI 0) dX4_lose_30 (by decide) ?_
        refine j_iret C R dX4_lose_31 ?_
        first | exact Or.inr ⟨a, ha, rfl, by omega, (Or.inl ⟨by exact ⟨q1, q2⟩, rfl, rfl⟩)⟩ | exact Or.inr ⟨a, ha, rfl, by omega, (Or.inr (Or.inl ⟨by exact ⟨q1, q2⟩, rfl, rfl⟩))⟩ | exact Or.inr ⟨a, ha, rfl, by omega, (Or.inr (Or.inr (Or.inl ⟨by exact ⟨q1, q2⟩, rfl, rfl⟩)))⟩ | exact Or.inr ⟨a, ha, rfl, by omega, (Or.inr (Or.inr (Or.inr (⟨by exact ⟨q1, q2⟩, rfl, rfl⟩))))⟩
      ·
        refine j_Z (Z' := (zu (zu Z (9) ((md + a) % 64) (nI 1)) (7) (5) (Z 7 5 + nI 1))) e20 ?_
        refine j_if_eq (tgt := 30) (a := ((1 : Nat) : Int)) C (nI_toInt (by omega)) dX4_lose_23 (by decide) (fun c23 => absurd c23 (by omega)) (fun c23 => ?_)
        refine j_iconst C (nI 1) dX4_lose_26 (by decide) ?_
        refine j_goto (tgt := 31) C dX4_lose_27 (by decide) ?_
        refine j_iret C R dX4_lose_31 ?_
        first | exact Or.inr ⟨a, ha, rfl, by omega, (Or.inl ⟨by exact ⟨q1, q2⟩, rfl, rfl⟩)⟩ | exact Or.inr ⟨a, ha, rfl, by omega, (Or.inr (Or.inl ⟨by exact ⟨q1, q2⟩, rfl, rfl⟩))⟩ | exact Or.inr ⟨a, ha, rfl, by omega, (Or.inr (Or.inr (Or.inl ⟨by exact ⟨q1, q2⟩, rfl, rfl⟩)))⟩ | exact Or.inr ⟨a, ha, rfl, by omega, (Or.inr (Or.inr (Or.inr (⟨by exact ⟨q1, q2⟩, rfl, rfl⟩))))⟩
    ·
      refine j_bipush C (-12) dX4_lose_11 (by decide) ?_
      refine j_iret C R dX4_lose_13 ?_
      exact Or.inl ⟨by omega, rfl, rfl⟩
set_option maxRecDepth 100000 in
set_option maxHeartbeats 4000000 in
theorem kX4_mark {l : Launch} {D : va_G} {Y : YT} {b0 : Nat} {G : GT} (hD : GD b0 G) (hG : Gok 113 G) {Z : ZT} {np : Nat} (hnp : Z 0 5 = nI np) (hnp12 : np ≤ 12) {nm : Nat} (hnm : Z 0 6 = nI nm) (hnm6 : nm ≤ 6) (hz : ∀ b, b < 256 → Z 4 b = 0 ∨ Z 4 b = 1) : CI l D Y b0 G yX4_mark cX4_mark 1 (some .int) 4 [.ref (G.2.1 (0))] Z (fun r Z' => ((6 ≤ nm) ∧ r = (-14) ∧ Z' = Z) ∨ ((nm < 6) ∧ r = nI nm ∧ Z' = (zu (zu (zu (zcpy (zcpy (zcpy (zkp (zu Z (59 + 9 * nm) (5) (nI np)) nm np) (4) (65 + 9 * nm) (256)) (5) (66 + 9 * nm) (100)) (6) (67 + 9 * nm) (100)) (64 + 9 * nm) (3) (Z 3 3)) (64 + 9 * nm) (4) (Z 3 4)) (0) (6) (nI (nm + 1))))) := by
  refine ci_start (lv0 := [(0, .ref (G.2.1 (0)))]) hD rfl rfl (Nat.le_of_ble_eq_true rfl) rfl ?_
  intro E C R hR hD hN
  refine j_aload_n C 0 dX4_mark_0 rfl rfl ?_
  refine j_getI C zK4 (zb_X hG) (zs_X hG) (f := 6) (by decide) rfl zk_X4_107 rfl (nI nm) hnm dX4_mark_1 ?_
  refine j_bipush C (nI 6) dX4_mark_4 (by decide) ?_
  refine j_icmp_lt (tgt := 12) (a := ((nm : Nat) : Int)) (b := ((6 : Nat) : Int)) C (nI_toInt (by omega)) (nI_toInt (by omega)) dX4_mark_6 (by decide) (fun c6 => ?_) (fun c6 => ?_)
  ·
    refine j_aload_n C 0 dX4_mark_12 rfl rfl ?_
    refine j_getR C zK4 (zb_X hG) (zs_X hG) (f := 1) (by decide) rfl zk_X4_17 rfl (zf_X_1 hG) dX4_mark_13 ?_
    refine j_aload_n C 0 dX4_mark_16 rfl rfl ?_
    refine j_getI C zK4 (zb_X hG) (zs_X hG) (f := 6) (by decide) rfl zk_X4_107 rfl (nI nm) hnm dX4_mark_17 ?_
    refine j_aldM C (zb_Mks hG) (zs_Mks hG) (zl_Mks hG) rfl (by omega) (by decide) (zf_Mks hG (by omega)) dX4_mark_20 ?_
    refine j_aload_n C 0 dX4_mark_21 rfl rfl ?_
    refine j_getR C zK4 (zb_X hG) (zs_X hG) (f := 0) (by decide) rfl zk_X4_11 rfl (zf_X_0 hG) dX4_mark_22 ?_
    refine j_aload_n C 0 dX4_mark_25 rfl rfl ?_
    refine j_getI C zK4 (zb_X hG) (zs_X hG) (f := 5) (by decide) rfl zk_X4_44 rfl (nI np) hnp dX4_mark_26 ?_
    refine j_aload_n C 0 dX4_mark_29 rfl rfl ?_
    refine j_getR C zK4 (zb_X hG) (zs_X hG) (f := 2) (by decide) rfl zk_X4_24 rfl (zf_X_2 hG) dX4_mark_30 ?_
    refine j_callVN C hR (kX2_keep hD hG (m := nm) (np := np) (by omega) (by omega) hz) [] zmX2_keep zk_X4_110 zK2 (zb_Mark hG (by omega)) (zs_Mark hG (by omega)) (by decide) rfl rfl (Nat.le_of_ble_eq_true rfl) dX4_mark_33 (fun Z33 h33 => ?_)
    refine j_Z (Z' := (zu (zu (zcpy (zcpy (zcpy (zkp (zu Z (59 + 9 * nm) (5) (nI np)) nm np) (4) (65 + 9 * nm) (256)) (5) (66 + 9 * nm) (100)) (6) (67 + 9 * nm) (100)) (64 + 9 * nm) (3) (Z 3 3)) (64 + 9 * nm) (4) (Z 3 4))) h33 ?_
    refine j_aload_n C 0 dX4_mark_36 rfl rfl ?_
    refine j_dup C dX4_mark_37 rfl ?_
    refine j_getI C zK4 (zb_X hG) (zs_X hG) (f := 6) (by decide) rfl zk_X4_107 rfl (nI nm) ((zu_o (by omega)).trans ((zu_o (by omega)).trans ((zcpy_o (by omega)).trans ((zcpy_o (by omega)).trans ((zcpy_o (by omega)).trans ((zkp_o (by omega)).trans ((zu_o (by omega)).trans (hnm)))))))) dX4_mark_38 ?_
    refine j_iconst C (nI 1) dX4_mark_41 (by decide) ?_
    refine j_iadd C (nI (nm + 1)) dX4_mark_42 (nI_add nm 1) ?_
    refine j_putI C hD zK4 (zb_X hG) (zs_X hG) (f := 6) (by decide) rfl zk_X4_107 rfl rfl rfl rfl dX4_mark_43 ?_
    refine j_aload_n C 0 dX4_mark_46 rfl rfl ?_
    refine j_getI C zK4 (zb_X hG) (zs_X hG) (f := 6) (by decide) rfl zk_X4_107 rfl (nI (nm + 1)) zu_s dX4_mark_47 ?_
    refine j_iconst C (nI 1) dX4_mark_50 (by decide) ?_
    refine j_isub C (nI nm) dX4_mark_51 (pk_sub (by omega)) ?_
    refine j_iret C R dX4_mark_52 ?_
    first | exact Or.inl ⟨by omega, rfl, rfl⟩ | exact Or.inr (⟨by omega, rfl, rfl⟩)
  ·
    refine j_bipush C (-14) dX4_mark_9 (by decide) ?_
    refine j_iret C R dX4_mark_11 ?_
    first | exact Or.inl ⟨by omega, rfl, rfl⟩ | exact Or.inr (⟨by omega, rfl, rfl⟩)
set_option maxRecDepth 100000 in
set_option maxHeartbeats 4000000 in
theorem kX4_split {l : Launch} {D : va_G} {Y : YT} {b0 : Nat} {G : GT} (hD : GD b0 G) (hG : Gok 113 G) {Z : ZT} {np : Nat} (hnp : Z 0 5 = nI np) (hnp12 : np ≤ 12) {rc : Nat → Nat} (hrc : ∀ i, i < np → Z (11 + 4 * i) 3 = nI (rc i) ∧ rc i ≤ 40) (hsn : ∀ i, i < np → ∀ j, j < 40 → Z (14 + 4 * i) j = 0 ∨ Z (14 + 4 * i) j = 1) (hen : ∀ i, i < np → Z (11 + 4 * i) 4 = 0 ∨ Z (11 + 4 * i) 4 = 1) (p0 p1 : Int32) : CI l D Y b0 G yX4_split cX4_split 5 (some .int) 3 [.ref (G.2.1 (0)), .int (p0), .int (p1)] Z (fun r Z' => ((p0.toInt < 0 ∨ (np : Int) ≤ p0.toInt) ∧ r = (-11) ∧ Z' = Z) ∨ ∃ p : Nat, p < np ∧ p0 = nI p ∧ (((p1.toInt < 0 ∨ (rc p : Int) ≤ p1.toInt) ∧ r = (-11) ∧ Z' = Z) ∨ ((0 ≤ p1.toInt ∧ p1.toInt < (rc p : Int) ∧ (p1.toInt = 0 ∨ p1.toInt < (Z (11 + 4 * p) 5).toInt)) ∧ r = (-13) ∧ Z' = Z) ∨ ((0 ≤ p1.toInt ∧ p1.toInt < (rc p : Int) ∧ p1.toInt ≠ 0 ∧ (Z (11 + 4 * p) 5).toInt ≤ p1.toInt ∧ 12 ≤ np) ∧ r = (-14) ∧ Z' = Z) ∨ (∃ q : Nat, q < rc p ∧ p1 = nI q ∧ (p1.toInt ≠ 0 ∧ (Z (11 + 4 * p) 5).toInt ≤ p1.toInt ∧ np < 12) ∧ r = nI np ∧ Z' = (zu (zu (zu (zmv (zu (zu (zu (zu (zu (zu (zu (zu (zu Z (11 + 4 * np) (3) (nI 0)) (11 + 4 * np) (4) (nI 0)) (11 + 4 * np) (8) (Z (11 + 4 * p) 8)) (11 + 4 * np) (10) (nI p)) (11 + 4 * np) (9) (-1)) (11 + 4 * np) (5) (nI 0)) (11 + 4 * np) (6) (-1)) (11 + 4 * np) (7) (nI 0)) (0) (5) (nI (np + 1))) p np q (rc p - q)) (11 + 4 * np) (4) (Z (11 + 4 * p) 4)) (11 + 4 * p) (3) (nI q)) (11 + 4 * p) (4) (nI 1))))) := by
  refine ci_start (lv0 := [(0, .ref (G.2.1 (0))), (1, .int (p0)), (2, .int (p1))]) hD rfl rfl (Nat.le_of_ble_eq_true rfl) rfl ?_
  intro E C R hR hD hN
  refine j_aload_n C 0 dX4_split_0 rfl rfl ?_
  refine j_iload_n C 1 dX4_split_1 rfl rfl ?_
  refine j_callI C hR (kX4_isPart hD hG (np := nI np) (npI := ((np : Nat) : Int)) hnp (nI_toInt (by omega)) (p0 := p0) (b := (p0).toInt) rfl) [] zmX4_isPart zk_X4_52 zK4 (zb_X hG) (zs_X hG) (by decide) rfl rfl (Nat.le_of_ble_eq_true rfl) dX4_split_2 (fun r2 Z2 h2 => ?_)
  obtain ⟨e2, ⟨rfl, h2⟩ | ⟨rfl, h2⟩⟩ := h2
  ·
    refine j_Z e2 ?_
    refine j_if_eq (tgt := 21) (a := ((1 : Nat) : Int)) C (nI_toInt (by omega)) dX4_split_5 (by decide) (fun c5 => absurd c5 (by omega)) (fun c5 => ?_)
    obtain ⟨p, hp, rfl⟩ := zi_nat (x := p0) (n := np) (by omega) (by omega)
    obtain ⟨hrcp, hrc40⟩ := hrc p hp
    refine j_aload_n C 0 dX4_split_8 rfl rfl ?_
    refine j_getR C zK4 (zb_X hG) (zs_X hG) (f := 0) (by decide) rfl zk_X4_11 rfl (zf_X_0 hG) dX4_split_9 ?_
    refine j_iload_n C 1 dX4_split_12 rfl rfl ?_
    refine j_aldP C (zb_Pts hG) (zs_Pts hG) (zl_Pts hG) rfl (by omega) (by decide) (zf_Pts hG (by omega)) dX4_split_13 ?_
    refine j_iload_n C 2 dX4_split_14 rfl rfl ?_
    refine j_callIN C hR (kX3_hasRow hD hG (i := p)  (by omega) (rc := nI (rc p)) (rcI := ((rc p : Nat) : Int)) hrcp (nI_toInt (by omega)) (p0 := p1) (b := (p1).toInt) rfl) [] zmX3_hasRow zk_X4_73 zK3 (zb_Part hG (by omega)) (zs_Part hG (by omega)) (by decide) rfl rfl (Nat.le_of_ble_eq_true rfl) dX4_split_15 (fun r15 Z15 h15 => ?_)
    obtain ⟨e15, ⟨rfl, h15⟩ | ⟨rfl, h15⟩⟩ := h15
    ·
      refine j_Z e15 ?_
      refine j_if_ne (tgt := 24) (a := ((1 : Nat) : Int)) C (nI_toInt (by omega)) dX4_split_18 (by decide) (fun c18 => ?_) (fun c18 => absurd c18 (by omega))
      refine j_aload_n C 0 dX4_split_24 rfl rfl ?_
      refine j_getR C zK4 (zb_X hG) (zs_X hG) (f := 0) (by decide) rfl zk_X4_11 rfl (zf_X_0 hG) dX4_split_25 ?_
      refine j_iload_n C 1 dX4_split_28 rfl rfl ?_
      refine j_aldP C (zb_Pts hG) (zs_Pts hG) (zl_Pts hG) rfl (by omega) (by decide) (zf_Pts hG (by omega)) dX4_split_29 ?_
      refine j_astore_n (lv' := [(3, .ref (G.2.1 (11 + 4 * p))), (0, .ref (G.2.1 (0))), (1, .int (nI p)), (2, .int (p1))]) C dX4_split_30 rfl (by rw [hN]; decide) rfl ?_
      refine j_iload_n C 3 dX4_split_31 rfl rfl ?_
      refine j_if_eq (tgt := 43) (a := (p1).toInt) C rfl dX4_split_32 (by decide) (fun c32 => ?_) (fun c32 => ?_)
      ·
        refine j_bipush C (-13) dX4_split_43 (by decide) ?_
        refine j_iret C R dX4_split_45 ?_
        exact Or.inr ⟨p, hp, rfl, Or.inr (Or.inl ⟨by omega, rfl, rfl⟩)⟩
      ·
        refine j_iload_n C 3 dX4_split_35 rfl rfl ?_
        refine j_aload_n C 0 dX4_split_36 rfl rfl ?_
        refine j_getIN C zK3 (zb_Part hG (by omega)) (zs_Part hG (by omega)) (f := 5) (by decide) rfl zk_X4_76 rfl (Z (11 + 4 * p) (5)) rfl dX4_split_37 ?_
        refine j_icmp_ge (tgt := 46) (a := (p1).toInt) (b := (Z (11 + 4 * p) (5)).toInt) C rfl rfl dX4_split_40 (by decide) (fun c40 => ?_) (fun c40 => ?_)
        ·
          refine j_aload_n C 1 dX4_split_46 rfl rfl ?_
          refine j_getI C zK4 (zb_X hG) (zs_X hG) (f := 5) (by decide) rfl zk_X4_44 rfl (nI np) hnp dX4_split_47 ?_
          refine j_bipush C (nI 12) dX4_split_50 (by decide) ?_
          refine j_icmp_lt (tgt := 58) (a := ((np : Nat) : Int)) (b := ((12 : Nat) : Int)) C (nI_toInt (by omega)) (nI_toInt (by omega)) dX4_split_52 (by decide) (fun c52 => ?_) (fun c52 => ?_)
          ·
            obtain ⟨q, hq, rfl⟩ := zi_nat (x := p1) (n := (rc p)) (by omega) (by omega)
            refine j_aload_n C 1 dX4_split_58 rfl rfl ?_
            refine j_aload_n C 0 dX4_split_59 rfl rfl ?_
            refine j_getIN C zK3 (zb_Part hG (by omega)) (zs_Part hG (by omega)) (f := 8) (by decide) rfl zk_X4_79 rfl (Z (11 + 4 * p) (8)) rfl dX4_split_60 ?_
            refine j_iload_n C 2 dX4_split_63 rfl rfl ?_
            refine j_callI C hR (kX4_addPart hD hG (np := np) hnp (by omega) (Z (11 + 4 * p) (8)) (nI p)) [] zmX4_addPart zk_X4_48 zK4 (zb_X hG) (zs_X hG) (by decide) rfl rfl (Nat.le_of_ble_eq_true rfl) dX4_split_64 (fun r64 Z64 h64 => ?_)
            obtain ⟨h64, rfl⟩ := h64
            refine j_Z (Z' := (zu (zu (zu (zu (zu (zu (zu (zu (zu Z (11 + 4 * np) (3) (nI 0)) (11 + 4 * np) (4) (nI 0)) (11 + 4 * np) (8) (Z (11 + 4 * p) (8))) (11 + 4 * np) (10) (nI p)) (11 + 4 * np) (9) (-1)) (11 + 4 * np) (5) (nI 0)) (11 + 4 * np) (6) (-1)) (11 + 4 * np) (7) (nI 0)) (0) (5) (nI (np + 1)))) h64 ?_
            refine j_istore (lv' := [(4, .int (nI np)), (3, .ref (G.2.1 (11 + 4 * p))), (0, .ref (G.2.1 (0))), (1, .int (nI p)), (2, .int (nI q))]) C dX4_split_67 (by rw [hN]; decide) rfl ?_
            refine j_aload_n C 1 dX4_split_69 rfl rfl ?_
            refine j_iload_n C 4 dX4_split_70 rfl rfl ?_
            refine j_aload_n C 2 dX4_split_71 rfl rfl ?_
            refine j_getR C zK4 (zb_X hG) (zs_X hG) (f := 0) (by decide) rfl zk_X4_11 rfl (zf_X_0 hG) dX4_split_72 ?_
            refine j_iload C 0 dX4_split_75 rfl ?_
            refine j_aldP C (zb_Pts hG) (zs_Pts hG) (zl_Pts hG) rfl (by omega) (by decide) (zf_Pts hG (by omega)) dX4_split_77 ?_
            refine j_callVN C hR (kX3_moveRowsFrom hD hG (i := p) (i2 := np) (by omega) (by omega) (by omega) (rc := rc p) (p := q) ((zu_o (by omega)).trans ((zu_o (by omega)).trans ((zu_o (by omega)).trans ((zu_o (by omega)).trans ((zu_o (by omega)).trans ((zu_o (by omega)).trans ((zu_o (by omega)).trans ((zu_o (by omega)).trans ((zu_o (by omega)).trans (hrcp)))))))))) (by omega) (by omega) ((zu_o (by omega)).trans ((zu_o (by omega)).trans ((zu_o (by omega)).trans ((zu_o (by omega)).trans ((zu_o (by omega)).trans ((zu_o (by omega)).trans ((zu_o (by omega)).trans ((zu_o (by omega)).trans (zu_s))))))))) (fun j hj => by rw [zu_o (by omega), zu_o (by omega), zu_o (by omega), zu_o (by omega), zu_o (by omega), zu_o (by omega), zu_o (by omega), zu_o (by omega), zu_o (by omega)]; exact hsn p hp j hj) (en := Z (11 + 4 * p) 4) ((zu_o (by omega)).trans ((zu_o (by omega)).trans ((zu_o (by omega)).trans ((zu_o (by omega)).trans ((zu_o (by omega)).trans ((zu_o (by omega)).trans ((zu_o (by omega)).trans ((zu_o (by omega)).trans ((zu_o (by omega))))))))))) (hen p hp)) [] zmX3_moveRowsFrom zk_X4_82 zK3 (zb_Part hG (by omega)) (zs_Part hG (by omega)) (by decide) rfl rfl (Nat.le_of_ble_eq_true rfl) dX4_split_78 (fun Z78 h78 => ?_)
            refine j_Z (Z' := (zu (zu (zu (zmv (zu (zu (zu (zu (zu (zu (zu (zu (zu Z (11 + 4 * np) (3) (nI 0)) (11 + 4 * np) (4) (nI 0)) (11 + 4 * np) (8) (Z (11 + 4 * p) 8)) (11 + 4 * np) (10) (nI p)) (11 + 4 * np) (9) (-1)) (11 + 4 * np) (5) (nI 0)) (11 + 4 * np) (6) (-1)) (11 + 4 * np) (7) (nI 0)) (0) (5) (nI (np + 1))) p np q (rc p - q)) (11 + 4 * np) (4) (Z (11 + 4 * p) 4)) (11 + 4 * p) (3) (nI q)) (11 + 4 * p) (4) (nI 1))) h78 ?_
            refine j_iload C 0 dX4_split_81 rfl ?_
            refine j_iret C R dX4_split_83 ?_
            exact Or.inr ⟨p, hp, rfl, Or.inr (Or.inr (Or.inr ⟨q, hq, rfl, by omega, rfl, rfl⟩))⟩
          ·
            refine j_bipush C (-14) dX4_split_55 (by decide) ?_
            refine j_iret C R dX4_split_57 ?_
            exact Or.inr ⟨p, hp, rfl, Or.inr (Or.inr (Or.inl ⟨by omega, rfl, rfl⟩))⟩
        ·
          refine j_bipush C (-13) dX4_split_43 (by decide) ?_
          refine j_iret C R dX4_split_45 ?_
          exact Or.inr ⟨p, hp, rfl, Or.inr (Or.inl ⟨by omega, rfl, rfl⟩)⟩
    ·
      refine j_Z e15 ?_
      refine j_if_ne (tgt := 24) (a := ((0 : Nat) : Int)) C (nI_toInt (by omega)) dX4_split_18 (by decide) (fun c18 => absurd c18 (by omega)) (fun c18 => ?_)
      refine j_bipush C (-11) dX4_split_21 (by decide) ?_
      refine j_iret C R dX4_split_23 ?_
      exact Or.inr ⟨p, hp, rfl, Or.inl ⟨by omega, rfl, rfl⟩⟩
  ·
    refine j_Z e2 ?_
    refine j_if_eq (tgt := 21) (a := ((0 : Nat) : Int)) C (nI_toInt (by omega)) dX4_split_5 (by decide) (fun c5 => ?_) (fun c5 => absurd c5 (by omega))
    refine j_bipush C (-11) dX4_split_21 (by decide) ?_
    refine j_iret C R dX4_split_23 ?_
    exact Or.inl ⟨by omega, rfl, rfl⟩
def rsC (Z : ZT) (m kp : Nat) (ntI : Int) (i b : Nat) : Int32 := if b = 5 then (if i < kp then Z (60 + 9 * m) i else nI 0) else if b = 6 then (if i < kp then Z (61 + 9 * m) i else -1) else if b = 7 then (if i < kp then Z (62 + 9 * m) i else nI 0) else (if i < kp ∧ (Z (63 + 9 * m) i).toInt < ntI then Z (63 + 9 * m) i else -1)
def mvC (Z : ZT) (m kp : Nat) (ntI : Int) (i : Nat) : Bool := decide ((rsC Z m kp ntI i 5).toInt ≠ (Z (11 + 4 * i) 5).toInt)
theorem rs_s {Z Zk : ZT} {m kp k : Nat} {ntI : Int} {a5 a6 a7 a9 : Int32} (hk : Zk = zpf Z k (rsC Z m kp ntI) [5, 6, 7, 9]) (h5 : a5 = rsC Z m kp ntI k 5) (h6 : a6 = rsC Z m kp ntI k 6) (h7 : a7 = rsC Z m kp ntI k 7) (h9 : a9 = rsC Z m kp ntI k 9) : zu (zu (zu (zu Zk (11 + 4 * k) 5 a5) (11 + 4 * k) 6 a6) (11 + 4 * k) 7 a7) (11 + 4 * k) 9 a9 = zpf Z (k + 1) (rsC Z m kp ntI) [5, 6, 7, 9] := by
  subst hk
  refine zpf_s (fun a b ha => ?_) (fun b hb => ?_) (fun b hb => ?_)
  · rw [zu_o (Or.inl ha), zu_o (Or.inl ha), zu_o (Or.inl ha), zu_o (Or.inl ha)]
  · simp only [List.mem_cons, List.mem_nil_iff, or_false] at hb
    rcases hb with rfl | rfl | rfl | rfl
    · rw [zu_o (by omega), zu_o (by omega), zu_o (by omega), zu_s, h5]
    · rw [zu_o (by omega), zu_o (by omega), zu_s, h6]
    · rw [zu_o (by omega), zu_s, h7]
    · rw [zu_s, h9]
  · simp only [List.mem_cons, List.mem_nil_iff, or_false, not_or] at hb
    rw [zu_o (by omega), zu_o (by omega), zu_o (by omega), zu_o (by omega), zpf_o (by omega)]
set_option maxRecDepth 100000 in
set_option maxHeartbeats 4000000 in
theorem kX4_restore {l : Launch} {D : va_G} {Y : YT} {b0 : Nat} {G : GT} (hD : GD b0 G) (hG : Gok 113 G) {Z : ZT} {np : Nat} (hnp : Z 0 5 = nI np) (hnp12 : np ≤ 12) {nm : Nat} (hnm : Z 0 6 = nI nm) (hnm6 : nm ≤ 6) {nt : Int32} {ntI : Int} (hnt : Z 0 7 = nt) (hntI : nt.toInt = ntI) (hkps : ∀ m, m < nm → ∃ kp : Nat, Z (59 + 9 * m) 5 = nI kp ∧ kp ≤ 12) (hmz : ∀ m, m < nm → ∀ b, b < 256 → Z (65 + 9 * m) b = 0 ∨ Z (65 + 9 * m) b = 1) (p0 : Int32) : CI l D Y b0 G yX4_restore cX4_restore 6 (some .int) 3 [.ref (G.2.1 (0)), .int (p0)] Z (fun r Z' => ((p0.toInt < 0 ∨ (nm : Int) ≤ p0.toInt) ∧ r = (-11) ∧ Z' = Z) ∨ ∃ m : Nat, m < nm ∧ p0 = nI m ∧ ∃ kp : Nat, Z (59 + 9 * m) 5 = nI kp ∧ r = nI (zcn (mvC Z m kp ntI) np) ∧ Z' = (zu (zu (zcpy (zcpy (zcpy (zpf Z np (rsC Z m kp ntI) [5, 6, 7, 9]) (65 + 9 * m) (4) (256)) (66 + 9 * m) (5) (100)) (67 + 9 * m) (6) (100)) (3) (3) (Z (64 + 9 * m) 3)) (3) (4) (Z (64 + 9 * m) 4))) := by
  refine ci_start (lv0 := [(0, .ref (G.2.1 (0))), (1, .int (p0))]) hD rfl rfl (Nat.le_of_ble_eq_true rfl) rfl ?_
  intro E C R hR hD hN
  have L27 : ∀ (n : Nat) (m kp : Nat) (hm : m < nm) (hpm : p0 = nI m) (hkp : Z (59 + 9 * m) 5 = nI kp) (hkp12 : kp ≤ 12) (k : Nat), np + 1 ≤ k + n → k ≤ np → J E 0 0 G 27 [(4, .int (nI k)), (3, .int (nI (zcn (mvC Z m kp ntI) k))), (0, .ref (G.2.1 (0))), (1, .int (nI m)), (2, .ref (G.2.1 (59 + 9 * m)))] [] (zpf Z (k) (rsC Z m kp ntI) [5, 6, 7, 9]) := by
    intro n
    induction n with
    | zero => intro m kp hm hpm hkp hkp12 k hn hk; exact absurd hn (by omega)
    | succ n ih =>
      intro m kp hm hpm hkp hkp12 k hn hk
      have z00 : (nI 0).toInt = 0 := rfl
      refine j_iload C 0 dX4_restore_27 rfl ?_
      refine j_aload_n C 2 dX4_restore_29 rfl rfl ?_
      refine j_getI C zK4 (zb_X hG) (zs_X hG) (f := 5) (by decide) rfl zk_X4_44 rfl (nI np) ((zpf_o (by omega)).trans (hnp)) dX4_restore_30 ?_
      refine j_icmp_ge (tgt := 89) (a := ((k : Nat) : Int)) (b := ((np : Nat) : Int)) C (nI_toInt (by omega)) (nI_toInt (by omega)) dX4_restore_33 (by decide) (fun c33 => ?_) (fun c33 => ?_)
      ·
        have e9 : k = np := by omega
        refine j_Z (Z' := (zpf Z np (rsC Z m kp ntI) [5, 6, 7, 9])) (by rw [e9]) ?_
        refine j_lv (lv' := [(4, .int (nI np)), (3, .int (nI (zcn (mvC Z m kp ntI) np))), (0, .ref (G.2.1 (0))), (1, .int (nI m)), (2, .ref (G.2.1 (59 + 9 * m)))]) (by rw [e9]) ?_
        refine j_aload_n C 2 dX4_restore_89 rfl rfl ?_
        refine j_getR C zK4 (zb_X hG) (zs_X hG) (f := 2) (by decide) rfl zk_X4_24 rfl (zf_X_2 hG) dX4_restore_90 ?_
        refine j_aload_n C 4 dX4_restore_93 rfl rfl ?_
        refine j_getRN C zK2 (zb_Mark hG (by omega)) (zs_Mark hG (by omega)) (f := 4) (by decide) rfl zk_X4_121 rfl (zf_Mark_4 hG (by omega)) dX4_restore_94 ?_
        refine j_callVN C hR (kX1_copyFromX hD hG (j := m) (by omega) (gc := Z (64 + 9 * m) 3) (ac := Z (64 + 9 * m) 4) (zpf_o (by omega)) (zpf_o (by omega)) (fun b hb => by rw [zpf_o (by omega)]; exact hmz m hm b hb)) [] zmX1_copyFrom zk_X4_122 zK1 (zb_Fin hG) (zs_Fin hG) (by decide) rfl rfl (Nat.le_of_ble_eq_true rfl) dX4_restore_97 (fun Z97 h97 => ?_)
        refine j_Z (Z' := (zu (zu (zcpy (zcpy (zcpy (zpf Z np (rsC Z m kp ntI) [5, 6, 7, 9]) (65 + 9 * m) (4) (256)) (66 + 9 * m) (5) (100)) (67 + 9 * m) (6) (100)) (3) (3) (Z (64 + 9 * m) 3)) (3) (4) (Z (64 + 9 * m) 4))) h97 ?_
        refine j_iload_n C 1 dX4_restore_100 rfl rfl ?_
        refine j_iret C R dX4_restore_101 ?_
        exact Or.inr ⟨m, hm, hpm, kp, hkp, rfl, rfl⟩
      ·
        refine j_aload_n C 2 dX4_restore_36 rfl rfl ?_
        refine j_getR C zK4 (zb_X hG) (zs_X hG) (f := 0) (by decide) rfl zk_X4_11 rfl (zf_X_0 hG) dX4_restore_37 ?_
        refine j_iload C 0 dX4_restore_40 rfl ?_
        refine j_aldP C (zb_Pts hG) (zs_Pts hG) (zl_Pts hG) rfl (by omega) (by decide) (zf_Pts hG (by omega)) dX4_restore_42 ?_
        refine j_getIN C zK3 (zb_Part hG (by omega)) (zs_Part hG (by omega)) (f := 5) (by decide) rfl zk_X4_76 rfl (Z (11 + 4 * k) (5)) (zpf_o (by omega)) dX4_restore_43 ?_
        refine j_istore (lv' := [(5, .int (Z (11 + 4 * k) (5))), (4, .int (nI k)), (3, .int (nI (zcn (mvC Z m kp ntI) k))), (0, .ref (G.2.1 (0))), (1, .int (nI m)), (2, .ref (G.2.1 (59 + 9 * m)))]) C dX4_restore_46 (by rw [hN]; decide) rfl ?_
        refine j_aload_n C 5 dX4_restore_48 rfl rfl ?_
        refine j_iload C 1 dX4_restore_49 rfl ?_
        refine j_aload_n C 3 dX4_restore_51 rfl rfl ?_
        refine j_getR C zK4 (zb_X hG) (zs_X hG) (f := 0) (by decide) rfl zk_X4_11 rfl (zf_X_0 hG) dX4_restore_52 ?_
        refine j_iload C 1 dX4_restore_55 rfl ?_
        refine j_aldP C (zb_Pts hG) (zs_Pts hG) (zl_Pts hG) rfl (by omega) (by decide) (zf_Pts hG (by omega)) dX4_restore_57 ?_
        refine j_aload_n C 3 dX4_restore_58 rfl rfl ?_
        refine j_getI C zK4 (zb_X hG) (zs_X hG) (f := 7) (by decide) rfl zk_X4_114 rfl (nt) ((zpf_o (by omega)).trans (hnt)) dX4_restore_59 ?_
        refine j_callVN C hR (kX2_bringBack hD hG (m := m) (i := k) (kp := kp) (by omega) (by omega) ((zpf_o (by omega)).trans (hkp)) (by omega) (po := Z (60 + 9 * m) k) (wa := Z (61 + 9 * m) k) (cr := Z (62 + 9 * m) k) (re := Z (63 + 9 * m) k) (reI := (Z (63 + 9 * m) k).toInt) (zpf_o (by omega)) (zpf_o (by omega)) (zpf_o (by omega)) (zpf_o (by omega)) rfl (nt := nt) (ntI := ntI) hntI) [] zmX2_bringBack zk_X4_117 zK2 (zb_Mark hG (by omega)) (zs_Mark hG (by omega)) (by decide) rfl rfl (Nat.le_of_ble_eq_true rfl) dX4_restore_62 (fun Z62 h62 => ?_)
        rcases h62 with ⟨q1, e62⟩ | ⟨q1, q2, e62⟩ | ⟨q1, q2, e62⟩
        ·
          refine j_Z (Z' := (zu (zu (zu (zu (zpf Z (k) (rsC Z m kp ntI) [5, 6, 7, 9]) (11 + 4 * k) (5) (nI 0)) (11 + 4 * k) (6) (-1)) (11 + 4 * k) (7) (nI 0)) (11 + 4 * k) (9) (-1))) e62 ?_
          have r5 : nI 0 = rsC Z m kp ntI k 5 := by simp [rsC, show ¬ k < kp by omega]
          have r6 : -1 = rsC Z m kp ntI k 6 := by simp [rsC, show ¬ k < kp by omega]
          have r7 : nI 0 = rsC Z m kp ntI k 7 := by simp [rsC, show ¬ k < kp by omega]
          have r9 : -1 = rsC Z m kp ntI k 9 := by simp [rsC, show ¬ k < kp by omega]
          refine j_aload_n C 3 dX4_restore_65 rfl rfl ?_
          refine j_getR C zK4 (zb_X hG) (zs_X hG) (f := 0) (by decide) rfl zk_X4_11 rfl (zf_X_0 hG) dX4_restore_66 ?_
          refine j_iload C 1 dX4_restore_69 rfl ?_
          refine j_aldP C (zb_Pts hG) (zs_Pts hG) (zl_Pts hG) rfl (by omega) (by decide) (zf_Pts hG (by omega)) dX4_restore_71 ?_
          refine j_getIN C zK3 (zb_Part hG (by omega)) (zs_Part hG (by omega)) (f := 5) (by decide) rfl zk_X4_76 rfl (nI 0) ((zu_o (by omega)).trans ((zu_o (by omega)).trans ((zu_o (by omega)).trans (zu_s)))) dX4_restore_72 ?_
          refine j_iload C 0 dX4_restore_75 rfl ?_
          refine j_icmp_eq (tgt := 83) (a := ((0 : Nat) : Int)) (b := (Z (11 + 4 * k) (5)).toInt) C (nI_toInt (by omega)) rfl dX4_restore_77 (by decide) (fun c77 => ?_) (fun c77 => ?_)
          ·
            refine j_iinc (v := nI (k + 1)) (lv' := [(4, .int (nI (k + 1))), (5, .int (Z (11 + 4 * k) (5))), (3, .int (nI (zcn (mvC Z m kp ntI) k))), (0, .ref (G.2.1 (0))), (1, .int (nI m)), (2, .ref (G.2.1 (59 + 9 * m)))]) C 1 dX4_restore_83 rfl (nI_add k 1) (by rw [hN]; decide) rfl ?_
            refine j_goto (tgt := 27) C dX4_restore_86 (by decide) ?_
            refine j_sub (lv' := [(4, .int (nI (k + 1))), (3, .int (nI (zcn (mvC Z m kp ntI) k))), (0, .ref (G.2.1 (0))), (1, .int (nI m)), (2, .ref (G.2.1 (59 + 9 * m)))]) [0, 2, 3, 4, 5] rfl ?_
            refine j_lv (lv' := [(4, .int (nI (k + 1))), (3, .int (nI (zcn (mvC Z m kp ntI) (k + 1)))), (0, .ref (G.2.1 (0))), (1, .int (nI m)), (2, .ref (G.2.1 (59 + 9 * m)))]) (by rw [zcn_f (show mvC Z m kp ntI k = false from decide_eq_false (by rw [← r5]; omega))]) ?_
            refine j_Z (Z' := (zpf Z (k + 1) (rsC Z m kp ntI) [5, 6, 7, 9])) (rs_s rfl r5 r6 r7 r9) ?_
            exact ih m kp hm hpm hkp hkp12 (k + 1) (by omega) (by omega)
          ·
            refine j_iinc (v := nI (zcn (mvC Z m kp ntI) k + 1)) (lv' := [(3, .int (nI (zcn (mvC Z m kp ntI) k + 1))), (5, .int (Z (11 + 4 * k) (5))), (4, .int (nI k)), (0, .ref (G.2.1 (0))), (1, .int (nI m)), (2, .ref (G.2.1 (59 + 9 * m)))]) C 2 dX4_restore_80 rfl (nI_add (zcn (mvC Z m kp ntI) k) 1) (by rw [hN]; decide) rfl ?_
            refine j_iinc (v := nI (k + 1)) (lv' := [(4, .int (nI (k + 1))), (3, .int (nI (zcn (mvC Z m kp ntI) k + 1))), (5, .int (Z (11 + 4 * k) (5))), (0, .ref (G.2.1 (0))), (1, .int (nI m)), (2, .ref (G.2.1 (59 + 9 * m)))]) C 2 dX4_restore_83 rfl (nI_add k 1) (by rw [hN]; decide) rfl ?_
            refine j_goto (tgt := 27) C dX4_restore_86 (by decide) ?_
            refine j_sub (lv' := [(4, .int (nI (k + 1))), (3, .int (nI (zcn (mvC Z m kp ntI) k + 1))), (0, .ref (G.2.1 (0))), (1, .int (nI m)), (2, .ref (G.2.1 (59 + 9 * m)))]) [0, 1, 3, 4, 5] rfl ?_
            refine j_lv (lv' := [(4, .int (nI (k + 1))), (3, .int (nI (zcn (mvC Z m kp ntI) (k + 1)))), (0, .ref (G.2.1 (0))), (1, .int (nI m)), (2, .ref (G.2.1 (59 + 9 * m)))]) (by rw [zcn_t (show mvC Z m kp ntI k = true from decide_eq_true (by rw [← r5]; omega))]) ?_
            refine j_Z (Z' := (zpf Z (k + 1) (rsC Z m kp ntI) [5, 6, 7, 9])) (rs_s rfl r5 r6 r7 r9) ?_
            exact ih m kp hm hpm hkp hkp12 (k + 1) (by omega) (by omega)
        ·
          refine j_Z (Z' := (zu (zu (zu (zu (zpf Z (k) (rsC Z m kp ntI) [5, 6, 7, 9]) (11 + 4 * k) (5) (Z (60 + 9 * m) k)) (11 + 4 * k) (6) (Z (61 + 9 * m) k)) (11 + 4 * k) (7) (Z (62 + 9 * m) k)) (11 + 4 * k) (9) (Z (63 + 9 * m) k))) e62 ?_
          have r5 : Z (60 + 9 * m) k = rsC Z m kp ntI k 5 := by simp [rsC, q1, q2]
          have r6 : Z (61 + 9 * m) k = rsC Z m kp ntI k 6 := by simp [rsC, q1, q2]
          have r7 : Z (62 + 9 * m) k = rsC Z m kp ntI k 7 := by simp [rsC, q1, q2]
          have r9 : Z (63 + 9 * m) k = rsC Z m kp ntI k 9 := by simp [rsC, q1, q2]
          refine j_aload_n C 3 dX4_restore_65 rfl rfl ?_
          refine j_getR C zK4 (zb_X hG) (zs_X hG) (f := 0) (by decide) rfl zk_X4_11 rfl (zf_X_0 hG) dX4_restore_66 ?_
          refine j_iload C 1 dX4_restore_69 rfl ?_
          refine j_aldP C (zb_Pts hG) (zs_Pts hG) (zl_Pts hG) rfl (by omega) (by decide) (zf_Pts hG (by omega)) dX4_restore_71 ?_
          refine j_getIN C zK3 (zb_Part hG (by omega)) (zs_Part hG (by omega)) (f := 5) (by decide) rfl zk_X4_76 rfl (Z (60 + 9 * m) k) ((zu_o (by omega)).trans ((zu_o (by omega)).trans ((zu_o (by omega)).trans (zu_s)))) dX4_restore_72 ?_
          refine j_iload C 0 dX4_restore_75 rfl ?_
          refine j_icmp_eq (tgt := 83) (a := (Z (60 + 9 * m) k).toInt) (b := (Z (11 + 4 * k) (5)).toInt) C rfl rfl dX4_restore_77 (by decide) (fun c77 => ?_) (fun c77 => ?_)
          ·
            refine j_iinc (v := nI (k + 1)) (lv' := [(4, .int (nI (k + 1))), (5, .int (Z (11 + 4 * k) (5))), (3, .int (nI (zcn (mvC Z m kp ntI) k))), (0, .ref (G.2.1 (0))), (1, .int (nI m)), (2, .ref (G.2.1 (59 + 9 * m)))]) C 1 dX4_restore_83 rfl (nI_add k 1) (by rw [hN]; decide) rfl ?_
            refine j_goto (tgt := 27) C dX4_restore_86 (by decide) ?_
            refine j_sub (lv' := [(4, .int (nI (k + 1))), (3, .int (nI (zcn (mvC Z m kp ntI) k))), (0, .ref (G.2.1 (0))), (1, .int (nI m)), (2, .ref (G.2.1 (59 + 9 * m)))]) [0, 2, 3, 4, 5] rfl ?_
            refine j_lv (lv' := [(4, .int (nI (k + 1))), (3, .int (nI (zcn (mvC Z m kp ntI) (k + 1)))), (0, .ref (G.2.1 (0))), (1, .int (nI m)), (2, .ref (G.2.1 (59 + 9 * m)))]) (by rw [zcn_f (show mvC Z m kp ntI k = false from decide_eq_false (by rw [← r5]; omega))]) ?_
            refine j_Z (Z' := (zpf Z (k + 1) (rsC Z m kp ntI) [5, 6, 7, 9])) (rs_s rfl r5 r6 r7 r9) ?_
            exact ih m kp hm hpm hkp hkp12 (k + 1) (by omega) (by omega)
          ·
            refine j_iinc (v := nI (zcn (mvC Z m kp ntI) k + 1)) (lv' := [(3, .int (nI (zcn (mvC Z m kp ntI) k + 1))), (5, .int (Z (11 + 4 * k) (5))), (4, .int (nI k)), (0, .ref (G.2.1 (0))), (1, .int (nI m)), (2, .ref (G.2.1 (59 + 9 * m)))]) C 2 dX4_restore_80 rfl (nI_add (zcn (mvC Z m kp ntI) k) 1) (by rw [hN]; decide) rfl ?_
            refine j_iinc (v := nI (k + 1)) (lv' := [(4, .int (nI (k + 1))), (3, .int (nI (zcn (mvC Z m kp ntI) k + 1))), (5, .int (Z (11 + 4 * k) (5))), (0, .ref (G.2.1 (0))), (1, .int (nI m)), (2, .ref (G.2.1 (59 + 9 * m)))]) C 2 dX4_restore_83 rfl (nI_add k 1) (by rw [hN]; decide) rfl ?_
            refine j_goto (tgt := 27) C dX4_restore_86 (by decide) ?_
            refine j_sub (lv' := [(4, .int (nI (k + 1))), (3, .int (nI (zcn (mvC Z m kp ntI) k + 1))), (0, .ref (G.2.1 (0))), (1, .int (nI m)), (2, .ref (G.2.1 (59 + 9 * m)))]) [0, 1, 3, 4, 5] rfl ?_
            refine j_lv (lv' := [(4, .int (nI (k + 1))), (3, .int (nI (zcn (mvC Z m kp ntI) (k + 1)))), (0, .ref (G.2.1 (0))), (1, .int (nI m)), (2, .ref (G.2.1 (59 + 9 * m)))]) (by rw [zcn_t (show mvC Z m kp ntI k = true from decide_eq_true (by rw [← r5]; omega))]) ?_
            refine j_Z (Z' := (zpf Z (k + 1) (rsC Z m kp ntI) [5, 6, 7, 9])) (rs_s rfl r5 r6 r7 r9) ?_
            exact ih m kp hm hpm hkp hkp12 (k + 1) (by omega) (by omega)
        ·
          refine j_Z (Z' := (zu (zu (zu (zu (zpf Z (k) (rsC Z m kp ntI) [5, 6, 7, 9]) (11 + 4 * k) (5) (Z (60 + 9 * m) k)) (11 + 4 * k) (6) (Z (61 + 9 * m) k)) (11 + 4 * k) (7) (Z (62 + 9 * m) k)) (11 + 4 * k) (9) (-1))) e62 ?_
          have r5 : Z (60 + 9 * m) k = rsC Z m kp ntI k 5 := by simp [rsC, q1, show ¬ (Z (63 + 9 * m) k).toInt < ntI by omega]
          have r6 : Z (61 + 9 * m) k = rsC Z m kp ntI k 6 := by simp [rsC, q1, show ¬ (Z (63 + 9 * m) k).toInt < ntI by omega]
          have r7 : Z (62 + 9 * m) k = rsC Z m kp ntI k 7 := by simp [rsC, q1, show ¬ (Z (63 + 9 * m) k).toInt < ntI by omega]
          have r9 : -1 = rsC Z m kp ntI k 9 := by simp [rsC, q1, show ¬ (Z (63 + 9 * m) k).toInt < ntI by omega]
          refine j_aload_n C 3 dX4_restore_65 rfl rfl ?_
          refine j_getR C zK4 (zb_X hG) (zs_X hG) (f := 0) (by decide) rfl zk_X4_11 rfl (zf_X_0 hG) dX4_restore_66 ?_
          refine j_iload C 1 dX4_restore_69 rfl ?_
          refine j_aldP C (zb_Pts hG) (zs_Pts hG) (zl_Pts hG) rfl (by omega) (by decide) (zf_Pts hG (by omega)) dX4_restore_71 ?_
          refine j_getIN C zK3 (zb_Part hG (by omega)) (zs_Part hG (by omega)) (f := 5) (by decide) rfl zk_X4_76 rfl (Z (60 + 9 * m) k) ((zu_o (by omega)).trans ((zu_o (by omega)).trans ((zu_o (by omega)).trans (zu_s)))) dX4_restore_72 ?_
          refine j_iload C 0 dX4_restore_75 rfl ?_
          refine j_icmp_eq (tgt := 83) (a := (Z (60 + 9 * m) k).toInt) (b := (Z (11 + 4 * k) (5)).toInt) C rfl rfl dX4_restore_77 (by decide) (fun c77 => ?_) (fun c77 => ?_)
          ·
            refine j_iinc (v := nI (k + 1)) (lv' := [(4, .int (nI (k + 1))), (5, .int (Z (11 + 4 * k) (5))), (3, .int (nI (zcn (mvC Z m kp ntI) k))), (0, .ref (G.2.1 (0))), (1, .int (nI m)), (2, .ref (G.2.1 (59 + 9 * m)))]) C 1 dX4_restore_83 rfl (nI_add k 1) (by rw [hN]; decide) rfl ?_
            refine j_goto (tgt := 27) C dX4_restore_86 (by decide) ?_
            refine j_sub (lv' := [(4, .int (nI (k + 1))), (3, .int (nI (zcn (mvC Z m kp ntI) k))), (0, .ref (G.2.1 (0))), (1, .int (nI m)), (2, .ref (G.2.1 (59 + 9 * m)))]) [0, 2, 3, 4, 5] rfl ?_
            refine j_lv (lv' := [(4, .int (nI (k + 1))), (3, .int (nI (zcn (mvC Z m kp ntI) (k + 1)))), (0, .ref (G.2.1 (0))), (1, .int (nI m)), (2, .ref (G.2.1 (59 + 9 * m)))]) (by rw [zcn_f (show mvC Z m kp ntI k = false from decide_eq_false (by rw [← r5]; omega))]) ?_
            refine j_Z (Z' := (zpf Z (k + 1) (rsC Z m kp ntI) [5, 6, 7, 9])) (rs_s rfl r5 r6 r7 r9) ?_
            exact ih m kp hm hpm hkp hkp12 (k + 1) (by omega) (by omega)
          ·
            refine j_iinc (v := nI (zcn (mvC Z m kp ntI) k + 1)) (lv' := [(3, .int (nI (zcn (mvC Z m kp ntI) k + 1))), (5, .int (Z (11 + 4 * k) (5))), (4, .int (nI k)), (0, .ref (G.2.1 (0))), (1, .int (nI m)), (2, .ref (G.2.1 (59 + 9 * m)))]) C 2 dX4_restore_80 rfl (nI_add (zcn (mvC Z m kp ntI) k) 1) (by rw [hN]; decide) rfl ?_
            refine j_iinc (v := nI (k + 1)) (lv' := [(4, .int (nI (k + 1))), (3, .int (nI (zcn (mvC Z m kp ntI) k + 1))), (5, .int (Z (11 + 4 * k) (5))), (0, .ref (G.2.1 (0))), (1, .int (nI m)), (2, .ref (G.2.1 (59 + 9 * m)))]) C 2 dX4_restore_83 rfl (nI_add k 1) (by rw [hN]; decide) rfl ?_
            refine j_goto (tgt := 27) C dX4_restore_86 (by decide) ?_
            refine j_sub (lv' := [(4, .int (nI (k + 1))), (3, .int (nI (zcn (mvC Z m kp ntI) k + 1))), (0, .ref (G.2.1 (0))), (1, .int (nI m)), (2, .ref (G.2.1 (59 + 9 * m)))]) [0, 1, 3, 4, 5] rfl ?_
            refine j_lv (lv' := [(4, .int (nI (k + 1))), (3, .int (nI (zcn (mvC Z m kp ntI) (k + 1)))), (0, .ref (G.2.1 (0))), (1, .int (nI m)), (2, .ref (G.2.1 (59 + 9 * m)))]) (by rw [zcn_t (show mvC Z m kp ntI k = true from decide_eq_true (by rw [← r5]; omega))]) ?_
            refine j_Z (Z' := (zpf Z (k + 1) (rsC Z m kp ntI) [5, 6, 7, 9])) (rs_s rfl r5 r6 r7 r9) ?_
            exact ih m kp hm hpm hkp hkp12 (k + 1) (by omega) (by omega)
  refine j_iload_n C 1 dX4_restore_0 rfl rfl ?_
  refine j_if_lt (tgt := 12) (a := (p0).toInt) C rfl dX4_restore_1 (by decide) (fun c1 => ?_) (fun c1 => ?_)
  ·
    refine j_bipush C (-11) dX4_restore_12 (by decide) ?_
    refine j_iret C R dX4_restore_14 ?_
    exact Or.inl ⟨by omega, rfl, rfl⟩
  ·
    refine j_iload_n C 1 dX4_restore_4 rfl rfl ?_
    refine j_aload_n C 0 dX4_restore_5 rfl rfl ?_
    refine j_getI C zK4 (zb_X hG) (zs_X hG) (f := 6) (by decide) rfl zk_X4_107 rfl (nI nm) hnm dX4_restore_6 ?_
    refine j_icmp_lt (tgt := 15) (a := (p0).toInt) (b := ((nm : Nat) : Int)) C rfl (nI_toInt (by omega)) dX4_restore_9 (by decide) (fun c9 => ?_) (fun c9 => ?_)
    ·
      obtain ⟨m, hm, rfl⟩ := zi_nat (x := p0) (n := nm) (by omega) (by omega)
      obtain ⟨kp, hkp, hkp12⟩ := hkps m hm
      refine j_aload_n C 0 dX4_restore_15 rfl rfl ?_
      refine j_getR C zK4 (zb_X hG) (zs_X hG) (f := 1) (by decide) rfl zk_X4_17 rfl (zf_X_1 hG) dX4_restore_16 ?_
      refine j_iload_n C 1 dX4_restore_19 rfl rfl ?_
      refine j_aldM C (zb_Mks hG) (zs_Mks hG) (zl_Mks hG) rfl (by omega) (by decide) (zf_Mks hG (by omega)) dX4_restore_20 ?_
      refine j_astore_n (lv' := [(2, .ref (G.2.1 (59 + 9 * m))), (0, .ref (G.2.1 (0))), (1, .int (nI m))]) C dX4_restore_21 rfl (by rw [hN]; decide) rfl ?_
      refine j_iconst C (nI 0) dX4_restore_22 (by decide) ?_
      refine j_istore_n (lv' := [(3, .int (nI 0)), (2, .ref (G.2.1 (59 + 9 * m))), (0, .ref (G.2.1 (0))), (1, .int (nI m))]) C dX4_restore_23 rfl (by rw [hN]; decide) rfl ?_
      refine j_iconst C (nI 0) dX4_restore_24 (by decide) ?_
      refine j_istore (lv' := [(4, .int (nI 0)), (3, .int (nI 0)), (2, .ref (G.2.1 (59 + 9 * m))), (0, .ref (G.2.1 (0))), (1, .int (nI m))]) C dX4_restore_25 (by rw [hN]; decide) rfl ?_
      refine j_sub (lv' := [(4, .int (nI 0)), (3, .int (nI 0)), (0, .ref (G.2.1 (0))), (1, .int (nI m)), (2, .ref (G.2.1 (59 + 9 * m)))]) [0, 1, 3, 4, 2] rfl ?_
      refine j_Z (Z' := (zpf Z (0) (rsC Z m kp ntI) [5, 6, 7, 9])) (zpf_0).symm ?_
      exact L27 (np + 1) m kp hm rfl hkp hkp12 0 (by omega) (by omega)
    ·
      refine j_bipush C (-11) dX4_restore_12 (by decide) ?_
      refine j_iret C R dX4_restore_14 ?_
      exact Or.inl ⟨by omega, rfl, rfl⟩
def stC (Z : ZT) (t : Int32) (rc : Nat → Nat) (i b : Nat) : Int32 := if b = 5 then nI (fpk (Z (13 + 4 * i)) t (rc i)) else if b = 6 then -1 else nI 0
def srC (Z : ZT) (t : Int32) (rc : Nat → Nat) (i : Nat) : Bool := decide (fpk (Z (13 + 4 * i)) t (rc i) < rc i)
theorem st_s {Z Z0 Zk : ZT} {t : Int32} {rc : Nat → Nat} {k : Nat} {a5 : Int32} (hk : Zk = zpf Z k (stC Z0 t rc) [5, 6, 7]) (h5 : a5 = stC Z0 t rc k 5) : zu (zu (zu Zk (11 + 4 * k) 5 a5) (11 + 4 * k) 6 (-1)) (11 + 4 * k) 7 (nI 0) = zpf Z (k + 1) (stC Z0 t rc) [5, 6, 7] := by
  subst hk
  refine zpf_s (fun a b ha => ?_) (fun b hb => ?_) (fun b hb => ?_)
  · rw [zu_o (Or.inl ha), zu_o (Or.inl ha), zu_o (Or.inl ha)]
  · simp only [List.mem_cons, List.mem_nil_iff, or_false] at hb
    rcases hb with rfl | rfl | rfl
    · rw [zu_o (by omega), zu_o (by omega), zu_s, h5]
    · rw [zu_o (by omega), zu_s]; rfl
    · rw [zu_s]; rfl
  · simp only [List.mem_cons, List.mem_nil_iff, or_false, not_or] at hb
    rw [zu_o (by omega), zu_o (by omega), zu_o (by omega), zpf_o (by omega)]
def scC (Z : ZT) (q : Nat) (i b : Nat) : Int32 := if dnC Z i = true then -1 else nI (zcn (fun j => !dnC Z j) i % q)
theorem sc_s {Z Zk : ZT} {F : Nat → Nat → Int32} {k f : Nat} {a9 : Int32} (hk : Zk = zpf Z k F [f]) (h9 : a9 = F k f) : zu Zk (11 + 4 * k) f a9 = zpf Z (k + 1) F [f] := by
  subst hk
  refine zpf_s (fun a b ha => ?_) (fun b hb => ?_) (fun b hb => ?_)
  · rw [zu_o (Or.inl ha)]
  · rw [List.mem_singleton.mp hb, zu_s, h9]
  · rw [zu_o (Or.inr (fun q => hb (by rw [q]; exact List.mem_singleton.mpr rfl))), zpf_o (by omega)]
set_option maxRecDepth 100000 in
set_option maxHeartbeats 4000000 in
theorem kX4_start {l : Launch} {D : va_G} {Y : YT} {b0 : Nat} {G : GT} (hD : GD b0 G) (hG : Gok 113 G) {Z : ZT} {np : Nat} (hnp : Z 0 5 = nI np) (hnp12 : np ≤ 12) {rc : Nat → Nat} (hrc : ∀ i, i < np → Z (11 + 4 * i) 3 = nI (rc i) ∧ rc i ≤ 40) (p0 : Int32) : CI l D Y b0 G yX4_start cX4_start 4 (some .int) 3 [.ref (G.2.1 (0)), .int (p0)] Z (fun r Z' => ((p0.toInt < 0 ∨ 100000 < p0.toInt) ∧ r = (-12) ∧ Z' = Z) ∨ ((0 ≤ p0.toInt ∧ p0.toInt ≤ 100000) ∧ r = nI (zcn (srC Z p0 rc) np) ∧ Z' = (zpf (zu (zu (zfill Z (4) (256) (nI 0)) (3) (3) (nI 0)) (3) (4) (nI 0)) (np) (stC Z p0 rc) [5, 6, 7]))) := by
  refine ci_start (lv0 := [(0, .ref (G.2.1 (0))), (1, .int (p0))]) hD rfl rfl (Nat.le_of_ble_eq_true rfl) rfl ?_
  intro E C R hR hD hN
  have L21 : ∀ (n : Nat) (hp0 : 0 ≤ p0.toInt ∧ p0.toInt ≤ 100000) (k : Nat), np + 1 ≤ k + n → k ≤ np → J E 0 0 G 21 [(3, .int (nI k)), (2, .int (nI (zcn (srC Z p0 rc) k))), (0, .ref (G.2.1 (0))), (1, .int (p0))] [] (zpf (zu (zu (zfill Z (4) (256) (nI 0)) (3) (3) (nI 0)) (3) (4) (nI 0)) (k) (stC Z p0 rc) [5, 6, 7]) := by
    intro n
    induction n with
    | zero => intro hp0 k hn hk; exact absurd hn (by omega)
    | succ n ih =>
      intro hp0 k hn hk
      refine j_iload_n C 0 dX4_start_21 rfl rfl ?_
      refine j_aload_n C 2 dX4_start_22 rfl rfl ?_
      refine j_getI C zK4 (zb_X hG) (zs_X hG) (f := 5) (by decide) rfl zk_X4_44 rfl (nI np) ((zpf_o (by omega)).trans ((zu_o (by omega)).trans ((zu_o (by omega)).trans ((zfill_o (by omega)).trans (hnp))))) dX4_start_23 ?_
      refine j_icmp_ge (tgt := 71) (a := ((k : Nat) : Int)) (b := ((np : Nat) : Int)) C (nI_toInt (by omega)) (nI_toInt (by omega)) dX4_start_26 (by decide) (fun c26 => ?_) (fun c26 => ?_)
      ·
        have e9 : k = np := by omega
        subst e9
        refine j_iload_n C 1 dX4_start_71 rfl rfl ?_
        refine j_iret C R dX4_start_72 ?_
        exact Or.inr ⟨by omega, rfl, rfl⟩
      ·
        have hrc9 := (hrc k (by omega)).2
        refine j_aload_n C 2 dX4_start_29 rfl rfl ?_
        refine j_getR C zK4 (zb_X hG) (zs_X hG) (f := 0) (by decide) rfl zk_X4_11 rfl (zf_X_0 hG) dX4_start_30 ?_
        refine j_iload_n C 0 dX4_start_33 rfl rfl ?_
        refine j_aldP C (zb_Pts hG) (zs_Pts hG) (zl_Pts hG) rfl (by omega) (by decide) (zf_Pts hG (by omega)) dX4_start_34 ?_
        refine j_aload_n C 2 dX4_start_35 rfl rfl ?_
        refine j_getR C zK4 (zb_X hG) (zs_X hG) (f := 0) (by decide) rfl zk_X4_11 rfl (zf_X_0 hG) dX4_start_36 ?_
        refine j_iload_n C 0 dX4_start_39 rfl rfl ?_
        refine j_aldP C (zb_Pts hG) (zs_Pts hG) (zl_Pts hG) rfl (by omega) (by decide) (zf_Pts hG (by omega)) dX4_start_40 ?_
        refine j_iload_n C 3 dX4_start_41 rfl rfl ?_
        refine j_callIN C hR (kX3_firstPlaceFrom hD hG (i := k) (by omega) (rc := rc k) ((zpf_o (by omega)).trans ((zu_o (by omega)).trans ((zu_o (by omega)).trans ((zfill_o (by omega)).trans ((hrc k (by omega)).1))))) (by omega) (p0)) [.ref (G.2.1 (11 + 4 * k))] zmX3_firstPlaceFrom zk_X4_129 zK3 (zb_Part hG (by omega)) (zs_Part hG (by omega)) (by decide) rfl rfl (Nat.le_of_ble_eq_true rfl) dX4_start_42 (fun r42 Z42 h42 => ?_)
        obtain ⟨e42, rfl⟩ := h42
        refine j_Z (Z' := (zpf (zu (zu (zfill Z (4) (256) (nI 0)) (3) (3) (nI 0)) (3) (4) (nI 0)) (k) (stC Z p0 rc) [5, 6, 7])) e42 ?_
        refine j_top (congrArg nI (show _ = fpk (Z (13 + 4 * k)) p0 (rc k) from fpk_congr (fun j _ => by rw [zpf_o (by omega), zu_o (by omega), zu_o (by omega), zfill_o (by omega)]))) ?_
        have hfp := (fpk_spec (Z (13 + 4 * k)) p0 (rc k)).1
        refine j_iconst C (-1) dX4_start_45 (by decide) ?_
        refine j_iconst C (nI 0) dX4_start_46 (by decide) ?_
        refine j_callVN C hR (kX3_stand hD hG (i := k)  (by omega) (nI (fpk (Z (13 + 4 * k)) p0 (rc k))) (-1) (nI 0)) [] zmX3_stand zk_X4_132 zK3 (zb_Part hG (by omega)) (zs_Part hG (by omega)) (by decide) rfl rfl (Nat.le_of_ble_eq_true rfl) dX4_start_47 (fun Z47 h47 => ?_)
        refine j_Z (Z' := (zu (zu (zu (zpf (zu (zu (zfill Z (4) (256) (nI 0)) (3) (3) (nI 0)) (3) (4) (nI 0)) (k) (stC Z p0 rc) [5, 6, 7]) (11 + 4 * k) (5) (nI (fpk (Z (13 + 4 * k)) p0 (rc k)))) (11 + 4 * k) (6) (-1)) (11 + 4 * k) (7) (nI 0))) h47 ?_
        refine j_aload_n C 2 dX4_start_50 rfl rfl ?_
        refine j_getR C zK4 (zb_X hG) (zs_X hG) (f := 0) (by decide) rfl zk_X4_11 rfl (zf_X_0 hG) dX4_start_51 ?_
        refine j_iload_n C 0 dX4_start_54 rfl rfl ?_
        refine j_aldP C (zb_Pts hG) (zs_Pts hG) (zl_Pts hG) rfl (by omega) (by decide) (zf_Pts hG (by omega)) dX4_start_55 ?_
        refine j_callIN C hR (kX3_isReady hD hG (i := k)  (by omega) (rc := nI (rc k)) (rcI := ((rc k : Nat) : Int)) ((zu_o (by omega)).trans ((zu_o (by omega)).trans ((zu_o (by omega)).trans ((zpf_o (by omega)).trans ((zu_o (by omega)).trans ((zu_o (by omega)).trans ((zfill_o (by omega)).trans ((hrc k (by omega)).1)))))))) (nI_toInt (by omega)) (po := nI (fpk (Z (13 + 4 * k)) p0 (rc k))) (poI := ((fpk (Z (13 + 4 * k)) p0 (rc k) : Nat) : Int)) ((zu_o (by omega)).trans ((zu_o (by omega)).trans (zu_s))) (nI_toInt (by omega))) [] zmX3_isReady zk_X4_136 zK3 (zb_Part hG (by omega)) (zs_Part hG (by omega)) (by decide) rfl rfl (Nat.le_of_ble_eq_true rfl) dX4_start_56 (fun r56 Z56 h56 => ?_)
        obtain ⟨e56, ⟨rfl, h56⟩ | ⟨rfl, h56⟩⟩ := h56
        ·
          refine j_Z e56 ?_
          have hsr : srC Z p0 rc k = true := decide_eq_true (by omega)
          refine j_if_eq (tgt := 65) (a := ((1 : Nat) : Int)) C (nI_toInt (by omega)) dX4_start_59 (by decide) (fun c59 => absurd c59 (by omega)) (fun c59 => ?_)
          refine j_iinc (v := nI (zcn (srC Z p0 rc) k + 1)) (lv' := [(2, .int (nI (zcn (srC Z p0 rc) k + 1))), (3, .int (nI k)), (0, .ref (G.2.1 (0))), (1, .int (p0))]) C 1 dX4_start_62 rfl (nI_add (zcn (srC Z p0 rc) k) 1) (by rw [hN]; decide) rfl ?_
          refine j_iinc (v := nI (k + 1)) (lv' := [(3, .int (nI (k + 1))), (2, .int (nI (zcn (srC Z p0 rc) k + 1))), (0, .ref (G.2.1 (0))), (1, .int (p0))]) C 1 dX4_start_65 rfl (nI_add k 1) (by rw [hN]; decide) rfl ?_
          refine j_goto (tgt := 21) C dX4_start_68 (by decide) ?_
          refine j_lv (lv' := [(3, .int (nI (k + 1))), (2, .int (nI (zcn (srC Z p0 rc) (k + 1)))), (0, .ref (G.2.1 (0))), (1, .int (p0))]) (by first | rw [zcn_t hsr] | rw [zcn_f hsr]) ?_
          refine j_Z (Z' := (zpf (zu (zu (zfill Z (4) (256) (nI 0)) (3) (3) (nI 0)) (3) (4) (nI 0)) (k + 1) (stC Z p0 rc) [5, 6, 7])) (st_s rfl rfl) ?_
          exact ih hp0 (k + 1) (by omega) (by omega)
        ·
          refine j_Z e56 ?_
          have hsr : srC Z p0 rc k = false := decide_eq_false (by omega)
          refine j_if_eq (tgt := 65) (a := ((0 : Nat) : Int)) C (nI_toInt (by omega)) dX4_start_59 (by decide) (fun c59 => ?_) (fun c59 => absurd c59 (by omega))
          refine j_iinc (v := nI (k + 1)) (lv' := [(3, .int (nI (k + 1))), (2, .int (nI (zcn (srC Z p0 rc) k))), (0, .ref (G.2.1 (0))), (1, .int (p0))]) C 0 dX4_start_65 rfl (nI_add k 1) (by rw [hN]; decide) rfl ?_
          refine j_goto (tgt := 21) C dX4_start_68 (by decide) ?_
          refine j_lv (lv' := [(3, .int (nI (k + 1))), (2, .int (nI (zcn (srC Z p0 rc) (k + 1)))), (0, .ref (G.2.1 (0))), (1, .int (p0))]) (by first | rw [zcn_t hsr] | rw [zcn_f hsr]) ?_
          refine j_Z (Z' := (zpf (zu (zu (zfill Z (4) (256) (nI 0)) (3) (3) (nI 0)) (3) (4) (nI 0)) (k + 1) (stC Z p0 rc) [5, 6, 7])) (st_s rfl rfl) ?_
          exact ih hp0 (k + 1) (by omega) (by omega)
  refine j_iload_n C 1 dX4_start_0 rfl rfl ?_
  refine j_callS C hR (kX4_isTime hD hG (p0 := p0) (b := (p0).toInt) rfl) [] zmX4_isTime rfl zk_X4_59 (by decide) rfl rfl (Nat.le_of_ble_eq_true rfl) dX4_start_1 (fun r1 Z1 h1 => ?_)
  obtain ⟨e1, ⟨rfl, h1⟩ | ⟨rfl, h1⟩⟩ := h1
  ·
    refine j_Z e1 ?_
    refine j_if_ne (tgt := 10) (a := ((1 : Nat) : Int)) C (nI_toInt (by omega)) dX4_start_4 (by decide) (fun c4 => ?_) (fun c4 => absurd c4 (by omega))
    refine j_aload_n C 0 dX4_start_10 rfl rfl ?_
    refine j_getR C zK4 (zb_X hG) (zs_X hG) (f := 2) (by decide) rfl zk_X4_24 rfl (zf_X_2 hG) dX4_start_11 ?_
    refine j_callVN C hR (kX1_forget hD hG) [] zmX1_forget zk_X4_126 zK1 (zb_Fin hG) (zs_Fin hG) (by decide) rfl rfl (Nat.le_of_ble_eq_true rfl) dX4_start_14 (fun Z14 h14 => ?_)
    refine j_Z (Z' := (zu (zu (zfill Z (4) (256) (nI 0)) (3) (3) (nI 0)) (3) (4) (nI 0))) h14 ?_
    refine j_iconst C (nI 0) dX4_start_17 (by decide) ?_
    refine j_istore_n (lv' := [(2, .int (nI 0)), (0, .ref (G.2.1 (0))), (1, .int (p0))]) C dX4_start_18 rfl (by rw [hN]; decide) rfl ?_
    refine j_iconst C (nI 0) dX4_start_19 (by decide) ?_
    refine j_istore_n (lv' := [(3, .int (nI 0)), (2, .int (nI 0)), (0, .ref (G.2.1 (0))), (1, .int (p0))]) C dX4_start_20 rfl (by rw [hN]; decide) rfl ?_
    refine j_Z (Z' := (zpf (zu (zu (zfill Z (4) (256) (nI 0)) (3) (3) (nI 0)) (3) (4) (nI 0)) (0) (stC Z p0 rc) [5, 6, 7])) (zpf_0).symm ?_
    exact L21 (np + 1) (by omega) 0 (by omega) (by omega)
  ·
    refine j_Z e1 ?_
    refine j_if_ne (tgt := 10) (a := ((0 : Nat) : Int)) C (nI_toInt (by omega)) dX4_start_4 (by decide) (fun c4 => absurd c4 (by omega)) (fun c4 => ?_)
    refine j_bipush C (-12) dX4_start_7 (by decide) ?_
    refine j_iret C R dX4_start_9 ?_
    exact Or.inl ⟨by omega, rfl, rfl⟩
theorem zmod_1 {a q : Nat} (hq : 0 < q) (h : q ≤ a % q + 1) : (a + 1) % q = 0 := by
  have h1 : a % q < q := Nat.mod_lt _ (by omega)
  have h2 : a % q = q - 1 := by omega
  rw [Nat.add_mod, h2]
  by_cases h3 : q = 1
  · subst h3; simp
  · rw [Nat.mod_eq_of_lt (show 1 < q by omega), show q - 1 + 1 = q by omega, Nat.mod_self]
theorem zmod_2 {a q : Nat} (h : a % q + 1 < q) : (a + 1) % q = a % q + 1 := by
  rw [Nat.add_mod, Nat.mod_eq_of_lt (show 1 < q by omega), Nat.mod_eq_of_lt h]
set_option maxRecDepth 100000 in
set_option maxHeartbeats 4000000 in
theorem kX4_scale {l : Launch} {D : va_G} {Y : YT} {b0 : Nat} {G : GT} (hD : GD b0 G) (hG : Gok 113 G) {Z : ZT} {np : Nat} (hnp : Z 0 5 = nI np) (hnp12 : np ≤ 12) (hpo : ∀ i, i < np → 0 ≤ (Z (11 + 4 * i) 5).toInt) (p0 : Int32) : CI l D Y b0 G yX4_scale cX4_scale 5 (some .int) 3 [.ref (G.2.1 (0)), .int (p0)] Z (fun r Z' => ((p0.toInt < 1 ∨ 6 < p0.toInt) ∧ r = (-12) ∧ Z' = Z) ∨ ∃ q : Nat, q < 7 ∧ 1 ≤ q ∧ p0 = nI q ∧ r = nI (zcn (fun j => !dnC Z j) np) ∧ Z' = (zpf (zu Z (0) (7) (nI q)) (np) (scC Z q) [9])) := by
  refine ci_start (lv0 := [(0, .ref (G.2.1 (0))), (1, .int (p0))]) hD rfl rfl (Nat.le_of_ble_eq_true rfl) rfl ?_
  intro E C R hR hD hN
  have L26 : ∀ (n : Nat) (q : Nat) (hq : q < 7) (hq1 : 1 ≤ q) (hpq : p0 = nI q) (k : Nat), np + 1 ≤ k + n → k ≤ np → J E 0 0 G 26 [(4, .int (nI k)), (2, .int (nI (zcn (fun j => !dnC Z j) k))), (3, .int (nI (zcn (fun j => !dnC Z j) k % q))), (0, .ref (G.2.1 (0))), (1, .int (nI q))] [] (zpf (zu Z (0) (7) (nI q)) (k) (scC Z q) [9]) := by
    intro n
    induction n with
    | zero => intro q hq hq1 hpq k hn hk; exact absurd hn (by omega)
    | succ n ih =>
      intro q hq hq1 hpq k hn hk
      have hmq : zcn (fun j => !dnC Z j) k % q < q := Nat.mod_lt _ (by omega)
      refine j_iload C 0 dX4_scale_26 rfl ?_
      refine j_aload_n C 3 dX4_scale_28 rfl rfl ?_
      refine j_getI C zK4 (zb_X hG) (zs_X hG) (f := 5) (by decide) rfl zk_X4_44 rfl (nI np) ((zpf_o (by omega)).trans ((zu_o (by omega)).trans (hnp))) dX4_scale_29 ?_
      refine j_icmp_ge (tgt := 97) (a := ((k : Nat) : Int)) (b := ((np : Nat) : Int)) C (nI_toInt (by omega)) (nI_toInt (by omega)) dX4_scale_32 (by decide) (fun c32 => ?_) (fun c32 => ?_)
      ·
        have e9 : k = np := by omega
        subst e9
        refine j_iload_n C 1 dX4_scale_97 rfl rfl ?_
        refine j_iret C R dX4_scale_98 ?_
        exact Or.inr ⟨q, hq, hq1, hpq, rfl, rfl⟩
      ·
        refine j_aload_n C 3 dX4_scale_35 rfl rfl ?_
        refine j_getR C zK4 (zb_X hG) (zs_X hG) (f := 0) (by decide) rfl zk_X4_11 rfl (zf_X_0 hG) dX4_scale_36 ?_
        refine j_iload C 0 dX4_scale_39 rfl ?_
        refine j_aldP C (zb_Pts hG) (zs_Pts hG) (zl_Pts hG) rfl (by omega) (by decide) (zf_Pts hG (by omega)) dX4_scale_41 ?_
        refine j_callIN C hR (kX3_isDone hD hG (i := k)  (by omega) (rc := Z (11 + 4 * k) (3)) (rcI := (Z (11 + 4 * k) (3)).toInt) ((zpf_o (by omega)).trans ((zu_o (by omega)))) rfl (po := Z (11 + 4 * k) (5)) (poI := (Z (11 + 4 * k) (5)).toInt) ((zpf_o (by omega)).trans ((zu_o (by omega)))) rfl (en := Z (11 + 4 * k) (4)) (enI := (Z (11 + 4 * k) (4)).toInt) ((zpf_o (by omega)).trans ((zu_o (by omega)))) rfl) [] zmX3_isDone zk_X4_89 zK3 (zb_Part hG (by omega)) (zs_Part hG (by omega)) (by decide) rfl rfl (Nat.le_of_ble_eq_true rfl) dX4_scale_42 (fun r42 Z42 h42 => ?_)
        obtain ⟨e42, ⟨rfl, h42⟩ | ⟨rfl, h42⟩⟩ := h42
        ·
          refine j_Z e42 ?_
          have hdn : dnC Z k = true := decide_eq_true (by have := hpo k (by omega); omega)
          have hnd : (fun j => !dnC Z j) k = false := by simp [hdn]
          have hle := zcn_le (fun j => !dnC Z j) k
          refine j_if_eq (tgt := 62) (a := ((1 : Nat) : Int)) C (nI_toInt (by omega)) dX4_scale_45 (by decide) (fun c45 => absurd c45 (by omega)) (fun c45 => ?_)
          refine j_aload_n C 3 dX4_scale_48 rfl rfl ?_
          refine j_getR C zK4 (zb_X hG) (zs_X hG) (f := 0) (by decide) rfl zk_X4_11 rfl (zf_X_0 hG) dX4_scale_49 ?_
          refine j_iload C 0 dX4_scale_52 rfl ?_
          refine j_aldP C (zb_Pts hG) (zs_Pts hG) (zl_Pts hG) rfl (by omega) (by decide) (zf_Pts hG (by omega)) dX4_scale_54 ?_
          refine j_iconst C (-1) dX4_scale_55 (by decide) ?_
          refine j_putIN C hD zK3 (zb_Part hG (by omega)) (zs_Part hG (by omega)) (f := 9) (by decide) rfl zk_X4_93 rfl rfl rfl rfl dX4_scale_56 ?_
          refine j_goto (tgt := 91) C dX4_scale_59 (by decide) ?_
          refine j_iinc (v := nI (k + 1)) (lv' := [(4, .int (nI (k + 1))), (2, .int (nI (zcn (fun j => !dnC Z j) k))), (3, .int (nI (zcn (fun j => !dnC Z j) k % q))), (0, .ref (G.2.1 (0))), (1, .int (nI q))]) C 0 dX4_scale_91 rfl (nI_add k 1) (by rw [hN]; decide) rfl ?_
          refine j_goto (tgt := 26) C dX4_scale_94 (by decide) ?_
          refine j_lv (lv' := [(4, .int (nI (k + 1))), (2, .int (nI (zcn (fun j => !dnC Z j) (k + 1)))), (3, .int (nI (zcn (fun j => !dnC Z j) (k + 1) % q))), (0, .ref (G.2.1 (0))), (1, .int (nI q))]) (by rw [zcn_f hnd]) ?_
          refine j_Z (Z' := (zpf (zu Z (0) (7) (nI q)) (k + 1) (scC Z q) [9])) (sc_s rfl (by simp [scC, hdn])) ?_
          exact ih q hq hq1 hpq (k + 1) (by omega) (by omega)
        ·
          refine j_Z e42 ?_
          have hdn : dnC Z k = false := decide_eq_false (by have := hpo k (by omega); omega)
          have hnd : (fun j => !dnC Z j) k = true := by simp [hdn]
          have hle := zcn_le (fun j => !dnC Z j) k
          refine j_if_eq (tgt := 62) (a := ((0 : Nat) : Int)) C (nI_toInt (by omega)) dX4_scale_45 (by decide) (fun c45 => ?_) (fun c45 => absurd c45 (by omega))
          refine j_aload_n C 3 dX4_scale_62 rfl rfl ?_
          refine j_getR C zK4 (zb_X hG) (zs_X hG) (f := 0) (by decide) rfl zk_X4_11 rfl (zf_X_0 hG) dX4_scale_63 ?_
          refine j_iload C 0 dX4_scale_66 rfl ?_
          refine j_aldP C (zb_Pts hG) (zs_Pts hG) (zl_Pts hG) rfl (by omega) (by decide) (zf_Pts hG (by omega)) dX4_scale_68 ?_
          refine j_iload_n C 2 dX4_scale_69 rfl rfl ?_
          refine j_putIN C hD zK3 (zb_Part hG (by omega)) (zs_Part hG (by omega)) (f := 9) (by decide) rfl zk_X4_93 rfl rfl rfl rfl dX4_scale_70 ?_
          refine j_iload_n C 2 dX4_scale_73 rfl rfl ?_
          refine j_iconst C (nI 1) dX4_scale_74 (by decide) ?_
          refine j_iadd C (nI (zcn (fun j => !dnC Z j) k % q + 1)) dX4_scale_75 (nI_add (zcn (fun j => !dnC Z j) k % q) 1) ?_
          refine j_iload_n C 4 dX4_scale_76 rfl rfl ?_
          refine j_icmp_ge (tgt := 86) (a := ((zcn (fun j => !dnC Z j) k % q + 1 : Nat) : Int)) (b := ((q : Nat) : Int)) C (nI_toInt (by omega)) (nI_toInt (by omega)) dX4_scale_77 (by decide) (fun c77 => ?_) (fun c77 => ?_)
          ·
            refine j_iconst C (nI 0) dX4_scale_86 (by decide) ?_
            refine j_istore_n (lv' := [(3, .int (nI 0)), (4, .int (nI k)), (2, .int (nI (zcn (fun j => !dnC Z j) k))), (0, .ref (G.2.1 (0))), (1, .int (nI q))]) C dX4_scale_87 rfl (by rw [hN]; decide) rfl ?_
            refine j_iinc (v := nI (zcn (fun j => !dnC Z j) k + 1)) (lv' := [(2, .int (nI (zcn (fun j => !dnC Z j) k + 1))), (3, .int (nI 0)), (4, .int (nI k)), (0, .ref (G.2.1 (0))), (1, .int (nI q))]) C 2 dX4_scale_88 rfl (nI_add (zcn (fun j => !dnC Z j) k) 1) (by rw [hN]; decide) rfl ?_
            refine j_iinc (v := nI (k + 1)) (lv' := [(4, .int (nI (k + 1))), (2, .int (nI (zcn (fun j => !dnC Z j) k + 1))), (3, .int (nI 0)), (0, .ref (G.2.1 (0))), (1, .int (nI q))]) C 2 dX4_scale_91 rfl (nI_add k 1) (by rw [hN]; decide) rfl ?_
            refine j_goto (tgt := 26) C dX4_scale_94 (by decide) ?_
            refine j_lv (lv' := [(4, .int (nI (k + 1))), (2, .int (nI (zcn (fun j => !dnC Z j) (k + 1)))), (3, .int (nI (zcn (fun j => !dnC Z j) (k + 1) % q))), (0, .ref (G.2.1 (0))), (1, .int (nI q))]) (by rw [zcn_t hnd, zmod_1 (by omega) (by omega)]) ?_
            refine j_Z (Z' := (zpf (zu Z (0) (7) (nI q)) (k + 1) (scC Z q) [9])) (sc_s rfl (by simp [scC, hdn])) ?_
            exact ih q hq hq1 hpq (k + 1) (by omega) (by omega)
          ·
            refine j_iload_n C 2 dX4_scale_80 rfl rfl ?_
            refine j_iconst C (nI 1) dX4_scale_81 (by decide) ?_
            refine j_iadd C (nI (zcn (fun j => !dnC Z j) k % q + 1)) dX4_scale_82 (nI_add (zcn (fun j => !dnC Z j) k % q) 1) ?_
            refine j_goto (tgt := 87) C dX4_scale_83 (by decide) ?_
            refine j_istore_n (lv' := [(3, .int (nI (zcn (fun j => !dnC Z j) k % q + 1))), (4, .int (nI k)), (2, .int (nI (zcn (fun j => !dnC Z j) k))), (0, .ref (G.2.1 (0))), (1, .int (nI q))]) C dX4_scale_87 rfl (by rw [hN]; decide) rfl ?_
            refine j_iinc (v := nI (zcn (fun j => !dnC Z j) k + 1)) (lv' := [(2, .int (nI (zcn (fun j => !dnC Z j) k + 1))), (3, .int (nI (zcn (fun j => !dnC Z j) k % q + 1))), (4, .int (nI k)), (0, .ref (G.2.1 (0))), (1, .int (nI q))]) C 2 dX4_scale_88 rfl (nI_add (zcn (fun j => !dnC Z j) k) 1) (by rw [hN]; decide) rfl ?_
            refine j_iinc (v := nI (k + 1)) (lv' := [(4, .int (nI (k + 1))), (2, .int (nI (zcn (fun j => !dnC Z j) k + 1))), (3, .int (nI (zcn (fun j => !dnC Z j) k % q + 1))), (0, .ref (G.2.1 (0))), (1, .int (nI q))]) C 2 dX4_scale_91 rfl (nI_add k 1) (by rw [hN]; decide) rfl ?_
            refine j_goto (tgt := 26) C dX4_scale_94 (by decide) ?_
            refine j_lv (lv' := [(4, .int (nI (k + 1))), (2, .int (nI (zcn (fun j => !dnC Z j) (k + 1)))), (3, .int (nI (zcn (fun j => !dnC Z j) (k + 1) % q))), (0, .ref (G.2.1 (0))), (1, .int (nI q))]) (by rw [zcn_t hnd, zmod_2 (by omega)]) ?_
            refine j_Z (Z' := (zpf (zu Z (0) (7) (nI q)) (k + 1) (scC Z q) [9])) (sc_s rfl (by simp [scC, hdn])) ?_
            exact ih q hq hq1 hpq (k + 1) (by omega) (by omega)
  refine j_iload_n C 1 dX4_scale_0 rfl rfl ?_
  refine j_iconst C (nI 1) dX4_scale_1 (by decide) ?_
  refine j_icmp_lt (tgt := 11) (a := (p0).toInt) (b := ((1 : Nat) : Int)) C rfl (nI_toInt (by omega)) dX4_scale_2 (by decide) (fun c2 => ?_) (fun c2 => ?_)
  ·
    refine j_bipush C (-12) dX4_scale_11 (by decide) ?_
    refine j_iret C R dX4_scale_13 ?_
    exact Or.inl ⟨by omega, rfl, rfl⟩
  ·
    refine j_iload_n C 1 dX4_scale_5 rfl rfl ?_
    refine j_bipush C (nI 6) dX4_scale_6 (by decide) ?_
    refine j_icmp_le (tgt := 14) (a := (p0).toInt) (b := ((6 : Nat) : Int)) C rfl (nI_toInt (by omega)) dX4_scale_8 (by decide) (fun c8 => ?_) (fun c8 => ?_)
    ·
      obtain ⟨q, hq, rfl⟩ := zi_nat (x := p0) (n := 7) (by omega) (by omega)
      have hq1 : 1 ≤ q := by rw [nI_toInt (by omega)] at c2; omega
      refine j_aload_n C 0 dX4_scale_14 rfl rfl ?_
      refine j_iload_n C 1 dX4_scale_15 rfl rfl ?_
      refine j_putI C hD zK4 (zb_X hG) (zs_X hG) (f := 7) (by decide) rfl zk_X4_114 rfl rfl rfl rfl dX4_scale_16 ?_
      refine j_iconst C (nI 0) dX4_scale_19 (by decide) ?_
      refine j_istore_n (lv' := [(2, .int (nI 0)), (0, .ref (G.2.1 (0))), (1, .int (nI q))]) C dX4_scale_20 rfl (by rw [hN]; decide) rfl ?_
      refine j_iconst C (nI 0) dX4_scale_21 (by decide) ?_
      refine j_istore_n (lv' := [(3, .int (nI 0)), (2, .int (nI 0)), (0, .ref (G.2.1 (0))), (1, .int (nI q))]) C dX4_scale_22 rfl (by rw [hN]; decide) rfl ?_
      refine j_iconst C (nI 0) dX4_scale_23 (by decide) ?_
      refine j_istore (lv' := [(4, .int (nI 0)), (3, .int (nI 0)), (2, .int (nI 0)), (0, .ref (G.2.1 (0))), (1, .int (nI q))]) C dX4_scale_24 (by rw [hN]; decide) rfl ?_
      refine j_sub (lv' := [(4, .int (nI 0)), (2, .int (nI 0)), (3, .int (nI 0)), (0, .ref (G.2.1 (0))), (1, .int (nI q))]) [0, 2, 1, 3, 4] rfl ?_
      refine j_lv (lv' := [(4, .int (nI 0)), (2, .int (nI (zcn (fun j => !dnC Z j) 0))), (3, .int (nI (zcn (fun j => !dnC Z j) 0 % q))), (0, .ref (G.2.1 (0))), (1, .int (nI q))]) (by rw [show zcn (fun j => !dnC Z j) 0 = 0 from rfl, Nat.zero_mod]) ?_
      refine j_Z (Z' := (zpf (zu Z (0) (7) (nI q)) (0) (scC Z q) [9])) (zpf_0).symm ?_
      exact L26 (np + 1) q hq hq1 rfl 0 (by omega) (by omega)
    ·
      refine j_bipush C (-12) dX4_scale_11 (by decide) ?_
      refine j_iret C R dX4_scale_13 ?_
      exact Or.inl ⟨by omega, rfl, rfl⟩
set_option maxRecDepth 100000 in
set_option maxHeartbeats 4000000 in
theorem kX4_told {l : Launch} {D : va_G} {Y : YT} {b0 : Nat} {G : GT} (hD : GD b0 G) (hG : Gok 113 G) {Z : ZT} {np : Nat} (hnp : Z 0 5 = nI np) (hnp12 : np ≤ 12) (hpo : ∀ i, i < np → 0 ≤ (Z (11 + 4 * i) 5).toInt) (p0 p1 : Int32) : CI l D Y b0 G yX4_told cX4_told 4 (some .int) 3 [.ref (G.2.1 (0)), .int (p0), .int (p1)] Z (fun r Z' => ((p0.toInt < 0 ∨ (np : Int) ≤ p0.toInt) ∧ r = (-11) ∧ Z' = Z) ∨ ∃ p : Nat, p < np ∧ p0 = nI p ∧ (((p1 = nI 0) ∧ r = Z (11 + 4 * p) 5 ∧ Z' = Z) ∨ ((p1 = nI 1) ∧ r = Z (11 + 4 * p) 6 ∧ Z' = Z) ∨ ((p1 = nI 2) ∧ r = Z (11 + 4 * p) 7 ∧ Z' = Z) ∨ ((p1 = nI 3) ∧ r = Z (11 + 4 * p) 8 ∧ Z' = Z) ∨ ((p1 = nI 4) ∧ r = Z (11 + 4 * p) 9 ∧ Z' = Z) ∨ ((p1 = nI 5) ∧ r = Z (11 + 4 * p) 3 ∧ Z' = Z) ∨ ((p1 = nI 6) ∧ r = (if (Z (11 + 4 * p) 4).toInt = 0 then nI 0 else nI 1) ∧ Z' = Z) ∨ ((p1 = nI 7) ∧ r = (if rdC Z p = true then nI 1 else nI 0) ∧ Z' = Z) ∨ ((p1 = nI 8) ∧ r = (if dnC Z p = true then nI 1 else nI 0) ∧ Z' = Z) ∨ ((p1 = nI 9) ∧ r = Z (11 + 4 * p) 10 ∧ Z' = Z) ∨ ((p1.toInt < 0 ∨ 9 < p1.toInt) ∧ r = (-2000000012) ∧ Z' = Z))) := by
  refine ci_start (lv0 := [(0, .ref (G.2.1 (0))), (1, .int (p0)), (2, .int (p1))]) hD rfl rfl (Nat.le_of_ble_eq_true rfl) rfl ?_
  intro E C R hR hD hN
  refine j_aload_n C 0 dX4_told_0 rfl rfl ?_
  refine j_iload_n C 1 dX4_told_1 rfl rfl ?_
  refine j_callI C hR (kX4_isPart hD hG (np := nI np) (npI := ((np : Nat) : Int)) hnp (nI_toInt (by omega)) (p0 := p0) (b := (p0).toInt) rfl) [] zmX4_isPart zk_X4_52 zK4 (zb_X hG) (zs_X hG) (by decide) rfl rfl (Nat.le_of_ble_eq_true rfl) dX4_told_2 (fun r2 Z2 h2 => ?_)
  obtain ⟨e2, ⟨rfl, h2⟩ | ⟨rfl, h2⟩⟩ := h2
  ·
    refine j_Z e2 ?_
    refine j_if_ne (tgt := 11) (a := ((1 : Nat) : Int)) C (nI_toInt (by omega)) dX4_told_5 (by decide) (fun c5 => ?_) (fun c5 => absurd c5 (by omega))
    obtain ⟨p, hp, rfl⟩ := zi_nat (x := p0) (n := np) (by omega) (by omega)
    refine j_aload_n C 0 dX4_told_11 rfl rfl ?_
    refine j_getR C zK4 (zb_X hG) (zs_X hG) (f := 0) (by decide) rfl zk_X4_11 rfl (zf_X_0 hG) dX4_told_12 ?_
    refine j_iload_n C 1 dX4_told_15 rfl rfl ?_
    refine j_aldP C (zb_Pts hG) (zs_Pts hG) (zl_Pts hG) rfl (by omega) (by decide) (zf_Pts hG (by omega)) dX4_told_16 ?_
    refine j_astore_n (lv' := [(3, .ref (G.2.1 (11 + 4 * p))), (0, .ref (G.2.1 (0))), (1, .int (nI p)), (2, .int (p1))]) C dX4_told_17 rfl (by rw [hN]; decide) rfl ?_
    refine j_iload_n C 3 dX4_told_18 rfl rfl ?_
    rcases zt10 (p1) with e19 | e19 | e19 | e19 | e19 | e19 | e19 | e19 | e19 | e19 | c19
    ·
      refine j_top e19 ?_
      refine j_tableIn (tgt := 72) C dX4_told_19 (by decide) (by decide) rfl (by decide) ?_
      refine j_aload_n C 0 dX4_told_72 rfl rfl ?_
      refine j_getIN C zK3 (zb_Part hG (by omega)) (zs_Part hG (by omega)) (f := 5) (by decide) rfl zk_X4_76 rfl (Z (11 + 4 * p) (5)) rfl dX4_told_73 ?_
      refine j_iret C R dX4_told_76 ?_
      exact Or.inr ⟨p, hp, rfl, Or.inl ⟨e19, rfl, rfl⟩⟩
    ·
      refine j_top e19 ?_
      refine j_tableIn (tgt := 77) C dX4_told_19 (by decide) (by decide) rfl (by decide) ?_
      refine j_aload_n C 0 dX4_told_77 rfl rfl ?_
      refine j_getIN C zK3 (zb_Part hG (by omega)) (zs_Part hG (by omega)) (f := 6) (by decide) rfl zk_X4_139 rfl (Z (11 + 4 * p) (6)) rfl dX4_told_78 ?_
      refine j_iret C R dX4_told_81 ?_
      exact Or.inr ⟨p, hp, rfl, Or.inr (Or.inl ⟨e19, rfl, rfl⟩)⟩
    ·
      refine j_top e19 ?_
      refine j_tableIn (tgt := 82) C dX4_told_19 (by decide) (by decide) rfl (by decide) ?_
      refine j_aload_n C 0 dX4_told_82 rfl rfl ?_
      refine j_getIN C zK3 (zb_Part hG (by omega)) (zs_Part hG (by omega)) (f := 7) (by decide) rfl zk_X4_142 rfl (Z (11 + 4 * p) (7)) rfl dX4_told_83 ?_
      refine j_iret C R dX4_told_86 ?_
      exact Or.inr ⟨p, hp, rfl, Or.inr (Or.inr (Or.inl ⟨e19, rfl, rfl⟩))⟩
    ·
      refine j_top e19 ?_
      refine j_tableIn (tgt := 87) C dX4_told_19 (by decide) (by decide) rfl (by decide) ?_
      refine j_aload_n C 0 dX4_told_87 rfl rfl ?_
      refine j_getIN C zK3 (zb_Part hG (by omega)) (zs_Part hG (by omega)) (f := 8) (by decide) rfl zk_X4_79 rfl (Z (11 + 4 * p) (8)) rfl dX4_told_88 ?_
      refine j_iret C R dX4_told_91 ?_
      exact Or.inr ⟨p, hp, rfl, Or.inr (Or.inr (Or.inr (Or.inl ⟨e19, rfl, rfl⟩)))⟩
    ·
      refine j_top e19 ?_
      refine j_tableIn (tgt := 92) C dX4_told_19 (by decide) (by decide) rfl (by decide) ?_
      refine j_aload_n C 0 dX4_told_92 rfl rfl ?_
      refine j_getIN C zK3 (zb_Part hG (by omega)) (zs_Part hG (by omega)) (f := 9) (by decide) rfl zk_X4_93 rfl (Z (11 + 4 * p) (9)) rfl dX4_told_93 ?_
      refine j_iret C R dX4_told_96 ?_
      exact Or.inr ⟨p, hp, rfl, Or.inr (Or.inr (Or.inr (Or.inr (Or.inl ⟨e19, rfl, rfl⟩))))⟩
    ·
      refine j_top e19 ?_
      refine j_tableIn (tgt := 97) C dX4_told_19 (by decide) (by decide) rfl (by decide) ?_
      refine j_aload_n C 0 dX4_told_97 rfl rfl ?_
      refine j_getIN C zK3 (zb_Part hG (by omega)) (zs_Part hG (by omega)) (f := 3) (by decide) rfl zk_X4_66 rfl (Z (11 + 4 * p) (3)) rfl dX4_told_98 ?_
      refine j_iret C R dX4_told_101 ?_
      exact Or.inr ⟨p, hp, rfl, Or.inr (Or.inr (Or.inr (Or.inr (Or.inr (Or.inl ⟨e19, rfl, rfl⟩)))))⟩
    ·
      refine j_top e19 ?_
      refine j_tableIn (tgt := 102) C dX4_told_19 (by decide) (by decide) rfl (by decide) ?_
      refine j_aload_n C 0 dX4_told_102 rfl rfl ?_
      refine j_getIN C zK3 (zb_Part hG (by omega)) (zs_Part hG (by omega)) (f := 4) (by decide) rfl zk_X4_62 rfl (Z (11 + 4 * p) (4)) rfl dX4_told_103 ?_
      refine j_if_eq (tgt := 113) (a := (Z (11 + 4 * p) (4)).toInt) C rfl dX4_told_106 (by decide) (fun c106 => ?_) (fun c106 => ?_)
      ·
        refine j_iconst C (nI 0) dX4_told_113 (by decide) ?_
        refine j_iret C R dX4_told_114 ?_
        exact Or.inr ⟨p, hp, rfl, Or.inr (Or.inr (Or.inr (Or.inr (Or.inr (Or.inr (Or.inl ⟨e19, by simp [c106], rfl⟩))))))⟩
      ·
        refine j_iconst C (nI 1) dX4_told_109 (by decide) ?_
        refine j_goto (tgt := 114) C dX4_told_110 (by decide) ?_
        refine j_iret C R dX4_told_114 ?_
        exact Or.inr ⟨p, hp, rfl, Or.inr (Or.inr (Or.inr (Or.inr (Or.inr (Or.inr (Or.inl ⟨e19, by simp [c106], rfl⟩))))))⟩
    ·
      refine j_top e19 ?_
      refine j_tableIn (tgt := 115) C dX4_told_19 (by decide) (by decide) rfl (by decide) ?_
      refine j_aload_n C 0 dX4_told_115 rfl rfl ?_
      refine j_callIN C hR (kX3_isReady hD hG (i := p)  (by omega) (rc := Z (11 + 4 * p) (3)) (rcI := (Z (11 + 4 * p) (3)).toInt) rfl rfl (po := Z (11 + 4 * p) (5)) (poI := (Z (11 + 4 * p) (5)).toInt) rfl rfl) [] zmX3_isReady zk_X4_136 zK3 (zb_Part hG (by omega)) (zs_Part hG (by omega)) (by decide) rfl rfl (Nat.le_of_ble_eq_true rfl) dX4_told_116 (fun r116 Z116 h116 => ?_)
      obtain ⟨e116, ⟨rfl, h116⟩ | ⟨rfl, h116⟩⟩ := h116
      ·
        refine j_Z e116 ?_
        have hdn : rdC Z p = true := decide_eq_true (by have := hpo p hp; omega)
        refine j_if_eq (tgt := 126) (a := ((1 : Nat) : Int)) C (nI_toInt (by omega)) dX4_told_119 (by decide) (fun c119 => absurd c119 (by omega)) (fun c119 => ?_)
        refine j_iconst C (nI 1) dX4_told_122 (by decide) ?_
        refine j_goto (tgt := 127) C dX4_told_123 (by decide) ?_
        refine j_iret C R dX4_told_127 ?_
        exact Or.inr ⟨p, hp, rfl, Or.inr (Or.inr (Or.inr (Or.inr (Or.inr (Or.inr (Or.inr (Or.inl ⟨e19, by simp [hdn], rfl⟩)))))))⟩
      ·
        refine j_Z e116 ?_
        have hdn : rdC Z p = false := decide_eq_false (by have := hpo p hp; omega)
        refine j_if_eq (tgt := 126) (a := ((0 : Nat) : Int)) C (nI_toInt (by omega)) dX4_told_119 (by decide) (fun c119 => ?_) (fun c119 => absurd c119 (by omega))
        refine j_iconst C (nI 0) dX4_told_126 (by decide) ?_
        refine j_iret C R dX4_told_127 ?_
        exact Or.inr ⟨p, hp, rfl, Or.inr (Or.inr (Or.inr (Or.inr (Or.inr (Or.inr (Or.inr (Or.inl ⟨e19, by simp [hdn], rfl⟩)))))))⟩
    ·
      refine j_top e19 ?_
      refine j_tableIn (tgt := 128) C dX4_told_19 (by decide) (by decide) rfl (by decide) ?_
      refine j_aload_n C 0 dX4_told_128 rfl rfl ?_
      refine j_callIN C hR (kX3_isDone hD hG (i := p)  (by omega) (rc := Z (11 + 4 * p) (3)) (rcI := (Z (11 + 4 * p) (3)).toInt) rfl rfl (po := Z (11 + 4 * p) (5)) (poI := (Z (11 + 4 * p) (5)).toInt) rfl rfl (en := Z (11 + 4 * p) (4)) (enI := (Z (11 + 4 * p) (4)).toInt) rfl rfl) [] zmX3_isDone zk_X4_89 zK3 (zb_Part hG (by omega)) (zs_Part hG (by omega)) (by decide) rfl rfl (Nat.le_of_ble_eq_true rfl) dX4_told_129 (fun r129 Z129 h129 => ?_)
      obtain ⟨e129, ⟨rfl, h129⟩ | ⟨rfl, h129⟩⟩ := h129
      ·
        refine j_Z e129 ?_
        have hdn : dnC Z p = true := decide_eq_true (by have := hpo p hp; omega)
        refine j_if_eq (tgt := 139) (a := ((1 : Nat) : Int)) C (nI_toInt (by omega)) dX4_told_132 (by decide) (fun c132 => absurd c132 (by omega)) (fun c132 => ?_)
        refine j_iconst C (nI 1) dX4_told_135 (by decide) ?_
        refine j_goto (tgt := 140) C dX4_told_136 (by decide) ?_
        refine j_iret C R dX4_told_140 ?_
        exact Or.inr ⟨p, hp, rfl, Or.inr (Or.inr (Or.inr (Or.inr (Or.inr (Or.inr (Or.inr (Or.inr (Or.inl ⟨e19, by simp [hdn], rfl⟩))))))))⟩
      ·
        refine j_Z e129 ?_
        have hdn : dnC Z p = false := decide_eq_false (by have := hpo p hp; omega)
        refine j_if_eq (tgt := 139) (a := ((0 : Nat) : Int)) C (nI_toInt (by omega)) dX4_told_132 (by decide) (fun c132 => ?_) (fun c132 => absurd c132 (by omega))
        refine j_iconst C (nI 0) dX4_told_139 (by decide) ?_
        refine j_iret C R dX4_told_140 ?_
        exact Or.inr ⟨p, hp, rfl, Or.inr (Or.inr (Or.inr (Or.inr (Or.inr (Or.inr (Or.inr (Or.inr (Or.inl ⟨e19, by simp [hdn], rfl⟩))))))))⟩
    ·
      refine j_top e19 ?_
      refine j_tableIn (tgt := 141) C dX4_told_19 (by decide) (by decide) rfl (by decide) ?_
      refine j_aload_n C 0 dX4_told_141 rfl rfl ?_
      refine j_getIN C zK3 (zb_Part hG (by omega)) (zs_Part hG (by omega)) (f := 10) (by decide) rfl zk_X4_145 rfl (Z (11 + 4 * p) (10)) rfl dX4_told_142 ?_
      refine j_iret C R dX4_told_145 ?_
      exact Or.inr ⟨p, hp, rfl, Or.inr (Or.inr (Or.inr (Or.inr (Or.inr (Or.inr (Or.inr (Or.inr (Or.inr (Or.inl ⟨e19, rfl, rfl⟩)))))))))⟩
    ·
      refine j_tableOut (tgt := 146) C dX4_told_19 c19 (by decide) ?_
      refine j_ldc C (-2000000012) zk_X4_148 dX4_told_146 ?_
      refine j_iret C R dX4_told_148 ?_
      exact Or.inr ⟨p, hp, rfl, Or.inr (Or.inr (Or.inr (Or.inr (Or.inr (Or.inr (Or.inr (Or.inr (Or.inr (Or.inr ⟨c19, rfl, rfl⟩)))))))))⟩
  ·
    refine j_Z e2 ?_
    refine j_if_ne (tgt := 11) (a := ((0 : Nat) : Int)) C (nI_toInt (by omega)) dX4_told_5 (by decide) (fun c5 => absurd c5 (by omega)) (fun c5 => ?_)
    refine j_bipush C (-11) dX4_told_8 (by decide) ?_
    refine j_iret C R dX4_told_10 ?_
    exact Or.inl ⟨by omega, rfl, rfl⟩
set_option maxRecDepth 100000 in
set_option maxHeartbeats 4000000 in
theorem kX4_count {l : Launch} {D : va_G} {Y : YT} {b0 : Nat} {G : GT} (hD : GD b0 G) (hG : Gok 113 G) {Z : ZT} {np : Nat} (hnp : Z 0 5 = nI np) (hnp12 : np ≤ 12) (hpo : ∀ i, i < np → 0 ≤ (Z (11 + 4 * i) 5).toInt) (p0 : Int32) : CI l D Y b0 G yX4_count cX4_count 2 (some .int) 4 [.ref (G.2.1 (0)), .int (p0)] Z (fun r Z' => ((p0 = nI 0) ∧ r = nI np ∧ Z' = Z) ∨ ((p0 = nI 1) ∧ r = Z 0 7 ∧ Z' = Z) ∨ ((p0 = nI 2) ∧ r = Z 0 6 ∧ Z' = Z) ∨ ((p0 = nI 3) ∧ r = Z 7 2 ∧ Z' = Z) ∨ ((p0 = nI 4) ∧ r = Z 3 3 ∧ Z' = Z) ∨ ((p0 = nI 5) ∧ r = Z 3 4 ∧ Z' = Z) ∨ ((p0 = nI 6) ∧ r = nI (zcn (dnC Z) np) ∧ Z' = Z) ∨ ((p0 = nI 7) ∧ r = Z 7 3 ∧ Z' = Z) ∨ ((p0 = nI 8) ∧ r = Z 7 4 ∧ Z' = Z) ∨ ((p0 = nI 9) ∧ r = Z 7 5 ∧ Z' = Z) ∨ ((p0.toInt < 0 ∨ 9 < p0.toInt) ∧ r = (-12) ∧ Z' = Z)) := by
  refine ci_start (lv0 := [(0, .ref (G.2.1 (0))), (1, .int (p0))]) hD rfl rfl (Nat.le_of_ble_eq_true rfl) rfl ?_
  intro E C R hR hD hN
  refine j_iload_n C 1 dX4_count_0 rfl rfl ?_
  rcases zt10 (p0) with e1 | e1 | e1 | e1 | e1 | e1 | e1 | e1 | e1 | e1 | c1
  ·
    refine j_top e1 ?_
    refine j_tableIn (tgt := 56) C dX4_count_1 (by decide) (by decide) rfl (by decide) ?_
    refine j_aload_n C 0 dX4_count_56 rfl rfl ?_
    refine j_getI C zK4 (zb_X hG) (zs_X hG) (f := 5) (by decide) rfl zk_X4_44 rfl (nI np) hnp dX4_count_57 ?_
    refine j_iret C R dX4_count_60 ?_
    exact Or.inl ⟨e1, rfl, rfl⟩
  ·
    refine j_top e1 ?_
    refine j_tableIn (tgt := 61) C dX4_count_1 (by decide) (by decide) rfl (by decide) ?_
    refine j_aload_n C 0 dX4_count_61 rfl rfl ?_
    refine j_getI C zK4 (zb_X hG) (zs_X hG) (f := 7) (by decide) rfl zk_X4_114 rfl (Z 0 7) rfl dX4_count_62 ?_
    refine j_iret C R dX4_count_65 ?_
    exact Or.inr (Or.inl ⟨e1, rfl, rfl⟩)
  ·
    refine j_top e1 ?_
    refine j_tableIn (tgt := 66) C dX4_count_1 (by decide) (by decide) rfl (by decide) ?_
    refine j_aload_n C 0 dX4_count_66 rfl rfl ?_
    refine j_getI C zK4 (zb_X hG) (zs_X hG) (f := 6) (by decide) rfl zk_X4_107 rfl (Z 0 6) rfl dX4_count_67 ?_
    refine j_iret C R dX4_count_70 ?_
    exact Or.inr (Or.inr (Or.inl ⟨e1, rfl, rfl⟩))
  ·
    refine j_top e1 ?_
    refine j_tableIn (tgt := 71) C dX4_count_1 (by decide) (by decide) rfl (by decide) ?_
    refine j_aload_n C 0 dX4_count_71 rfl rfl ?_
    refine j_getR C zK4 (zb_X hG) (zs_X hG) (f := 3) (by decide) rfl zk_X4_31 rfl (zf_X_3 hG) dX4_count_72 ?_
    refine j_getIN C zK0 (zb_Del hG) (zs_Del hG) (f := 2) (by decide) rfl zk_X4_190 rfl (Z 7 2) rfl dX4_count_75 ?_
    refine j_iret C R dX4_count_78 ?_
    exact Or.inr (Or.inr (Or.inr (Or.inl ⟨e1, rfl, rfl⟩)))
  ·
    refine j_top e1 ?_
    refine j_tableIn (tgt := 79) C dX4_count_1 (by decide) (by decide) rfl (by decide) ?_
    refine j_aload_n C 0 dX4_count_79 rfl rfl ?_
    refine j_getR C zK4 (zb_X hG) (zs_X hG) (f := 2) (by decide) rfl zk_X4_24 rfl (zf_X_2 hG) dX4_count_80 ?_
    refine j_getIN C zK1 (zb_Fin hG) (zs_Fin hG) (f := 3) (by decide) rfl zk_X4_193 rfl (Z 3 3) rfl dX4_count_83 ?_
    refine j_iret C R dX4_count_86 ?_
    exact Or.inr (Or.inr (Or.inr (Or.inr (Or.inl ⟨e1, rfl, rfl⟩))))
  ·
    refine j_top e1 ?_
    refine j_tableIn (tgt := 87) C dX4_count_1 (by decide) (by decide) rfl (by decide) ?_
    refine j_aload_n C 0 dX4_count_87 rfl rfl ?_
    refine j_getR C zK4 (zb_X hG) (zs_X hG) (f := 2) (by decide) rfl zk_X4_24 rfl (zf_X_2 hG) dX4_count_88 ?_
    refine j_getIN C zK1 (zb_Fin hG) (zs_Fin hG) (f := 4) (by decide) rfl zk_X4_168 rfl (Z 3 4) rfl dX4_count_91 ?_
    refine j_iret C R dX4_count_94 ?_
    exact Or.inr (Or.inr (Or.inr (Or.inr (Or.inr (Or.inl ⟨e1, rfl, rfl⟩)))))
  ·
    refine j_top e1 ?_
    refine j_tableIn (tgt := 95) C dX4_count_1 (by decide) (by decide) rfl (by decide) ?_
    refine j_aload_n C 0 dX4_count_95 rfl rfl ?_
    refine j_callI C hR (kX4_countDone hD hG (np := np) hnp (by omega) hpo) [] zmX4_countDone zk_X4_196 zK4 (zb_X hG) (zs_X hG) (by decide) rfl rfl (Nat.le_of_ble_eq_true rfl) dX4_count_96 (fun r96 Z96 h96 => ?_)
    obtain ⟨h96, rfl⟩ := h96
    refine j_Z (Z' := Z) h96 ?_
    refine j_iret C R dX4_count_99 ?_
    exact Or.inr (Or.inr (Or.inr (Or.inr (Or.inr (Or.inr (Or.inl ⟨e1, rfl, rfl⟩))))))
  ·
    refine j_top e1 ?_
    refine j_tableIn (tgt := 100) C dX4_count_1 (by decide) (by decide) rfl (by decide) ?_
    refine j_aload_n C 0 dX4_count_100 rfl rfl ?_
    refine j_getR C zK4 (zb_X hG) (zs_X hG) (f := 3) (by decide) rfl zk_X4_31 rfl (zf_X_3 hG) dX4_count_101 ?_
    refine j_getIN C zK0 (zb_Del hG) (zs_Del hG) (f := 3) (by decide) rfl zk_X4_200 rfl (Z 7 3) rfl dX4_count_104 ?_
    refine j_iret C R dX4_count_107 ?_
    exact Or.inr (Or.inr (Or.inr (Or.inr (Or.inr (Or.inr (Or.inr (Or.inl ⟨e1, rfl, rfl⟩)))))))
  ·
    refine j_top e1 ?_
    refine j_tableIn (tgt := 108) C dX4_count_1 (by decide) (by decide) rfl (by decide) ?_
    refine j_aload_n C 0 dX4_count_108 rfl rfl ?_
    refine j_getR C zK4 (zb_X hG) (zs_X hG) (f := 3) (by decide) rfl zk_X4_31 rfl (zf_X_3 hG) dX4_count_109 ?_
    refine j_getIN C zK0 (zb_Del hG) (zs_Del hG) (f := 4) (by decide) rfl zk_X4_203 rfl (Z 7 4) rfl dX4_count_112 ?_
    refine j_iret C R dX4_count_115 ?_
    exact Or.inr (Or.inr (Or.inr (Or.inr (Or.inr (Or.inr (Or.inr (Or.inr (Or.inl ⟨e1, rfl, rfl⟩))))))))
  ·
    refine j_top e1 ?_
    refine j_tableIn (tgt := 116) C dX4_count_1 (by decide) (by decide) rfl (by decide) ?_
    refine j_aload_n C 0 dX4_count_116 rfl rfl ?_
    refine j_getR C zK4 (zb_X hG) (zs_X hG) (f := 3) (by decide) rfl zk_X4_31 rfl (zf_X_3 hG) dX4_count_117 ?_
    refine j_getIN C zK0 (zb_Del hG) (zs_Del hG) (f := 5) (by decide) rfl zk_X4_206 rfl (Z 7 5) rfl dX4_count_120 ?_
    refine j_iret C R dX4_count_123 ?_
    exact Or.inr (Or.inr (Or.inr (Or.inr (Or.inr (Or.inr (Or.inr (Or.inr (Or.inr (Or.inl ⟨e1, rfl, rfl⟩)))))))))
  ·
    refine j_tableOut (tgt := 124) C dX4_count_1 c1 (by decide) ?_
    refine j_bipush C (-12) dX4_count_124 (by decide) ?_
    refine j_iret C R dX4_count_126 ?_
    exact Or.inr (Or.inr (Or.inr (Or.inr (Or.inr (Or.inr (Or.inr (Or.inr (Or.inr (Or.inr ⟨c1, rfl, rfl⟩)))))))))
def wlf (dn : Nat → Bool) (wa : Nat → Int32) : Nat → Int32
  | 0 => nI 200000
  | n + 1 => if dn n = false ∧ (wa n).toInt < (wlf dn wa n).toInt then wa n else wlf dn wa n
def wgf (wa : Nat → Int32) : Nat → Int32
  | 0 => -1
  | n + 1 => if wgf wa n < wa n then wa n else wgf wa n
theorem wlf_congr {dn dn' : Nat → Bool} {wa wa' : Nat → Int32} : ∀ {n : Nat}, (∀ i, i < n → dn i = dn' i) → (∀ i, i < n → wa i = wa' i) → wlf dn wa n = wlf dn' wa' n := by
  intro n
  induction n with
  | zero => intro _ _; rfl
  | succ n ih => intro h1 h2; simp only [wlf, h1 n (by omega), h2 n (by omega), ih (fun i hi => h1 i (by omega)) (fun i hi => h2 i (by omega))]
theorem wgf_congr {wa wa' : Nat → Int32} : ∀ {n : Nat}, (∀ i, i < n → wa i = wa' i) → wgf wa n = wgf wa' n := by
  intro n
  induction n with
  | zero => intro _; rfl
  | succ n ih => intro h2; simp only [wgf, h2 n (by omega), ih (fun i hi => h2 i (by omega))]
abbrev waC (Z : ZT) (i : Nat) : Int32 := Z (11 + 4 * i) 6
theorem nI_2e5 : (nI 200000).toInt = 200000 := rfl
set_option maxRecDepth 100000 in
set_option maxHeartbeats 4000000 in
theorem kX4_water {l : Launch} {D : va_G} {Y : YT} {b0 : Nat} {G : GT} (hD : GD b0 G) (hG : Gok 113 G) {Z : ZT} {np : Nat} (hnp : Z 0 5 = nI np) (hnp12 : np ≤ 12) (hpo : ∀ i, i < np → 0 ≤ (Z (11 + 4 * i) 5).toInt) (hwa : ∀ i, i < np → (Z (11 + 4 * i) 6).toInt ≤ 100000) : CI l D Y b0 G yX4_water cX4_water 6 (some .int) 3 [.ref (G.2.1 (0))] Z (fun r Z' => Z' = Z ∧ r = (if (wlf (dnC Z) (waC Z) np).toInt < 200000 then wlf (dnC Z) (waC Z) np else wgf (waC Z) np)) := by
  refine ci_start (lv0 := [(0, .ref (G.2.1 (0)))]) hD rfl rfl (Nat.le_of_ble_eq_true rfl) rfl ?_
  intro E C R hR hD hN
  have L9 : ∀ (n : Nat) (k a : Nat) (l : Int32), np + 1 ≤ k + n → k ≤ np → ((a = 1 ∧ wlf (dnC Z) (waC Z) k = nI 200000) ∨ (a = 0 ∧ l = wlf (dnC Z) (waC Z) k ∧ (wlf (dnC Z) (waC Z) k).toInt ≤ 100000)) → J E 0 0 G 9 [(4, .int (nI k)), (3, .int (nI a)), (1, .int (l)), (2, .int (wgf (waC Z) k)), (0, .ref (G.2.1 (0)))] [] Z := by
    intro n
    induction n with
    | zero => intro k a l hn hk hh; exact absurd hn (by omega)
    | succ n ih =>
      intro k a l hn hk hh
      rcases hh with ⟨rfl, ha⟩ | ⟨rfl, ha, hl⟩
      ·
        refine j_iload C 0 dX4_water_9 rfl ?_
        refine j_aload_n C 4 dX4_water_11 rfl rfl ?_
        refine j_getI C zK4 (zb_X hG) (zs_X hG) (f := 5) (by decide) rfl zk_X4_44 rfl (nI np) hnp dX4_water_12 ?_
        refine j_icmp_ge (tgt := 74) (a := ((k : Nat) : Int)) (b := ((np : Nat) : Int)) C (nI_toInt (by omega)) (nI_toInt (by omega)) dX4_water_15 (by decide) (fun c15 => ?_) (fun c15 => ?_)
        ·
          have e9 : k = np := by omega
          subst e9
          refine j_iload_n C 1 dX4_water_74 rfl rfl ?_
          refine j_if_eq (tgt := 82) (a := ((1 : Nat) : Int)) C (nI_toInt (by omega)) dX4_water_75 (by decide) (fun c75 => absurd c75 (by omega)) (fun c75 => ?_)
          refine j_iload_n C 3 dX4_water_78 rfl rfl ?_
          refine j_goto (tgt := 83) C dX4_water_79 (by decide) ?_
          refine j_iret C R dX4_water_83 ?_
          exact ⟨rfl, by rw [ha, nI_2e5]; rfl⟩
        ·
          refine j_aload_n C 4 dX4_water_18 rfl rfl ?_
          refine j_getR C zK4 (zb_X hG) (zs_X hG) (f := 0) (by decide) rfl zk_X4_11 rfl (zf_X_0 hG) dX4_water_19 ?_
          refine j_iload C 0 dX4_water_22 rfl ?_
          refine j_aldP C (zb_Pts hG) (zs_Pts hG) (zl_Pts hG) rfl (by omega) (by decide) (zf_Pts hG (by omega)) dX4_water_24 ?_
          refine j_getIN C zK3 (zb_Part hG (by omega)) (zs_Part hG (by omega)) (f := 6) (by decide) rfl zk_X4_139 rfl (Z (11 + 4 * k) (6)) rfl dX4_water_25 ?_
          refine j_istore (lv' := [(5, .int (Z (11 + 4 * k) (6))), (4, .int (nI k)), (3, .int (nI 1)), (1, .int (l)), (2, .int (wgf (waC Z) k)), (0, .ref (G.2.1 (0)))]) C dX4_water_28 (by rw [hN]; decide) rfl ?_
          refine j_iload_n C 4 dX4_water_30 rfl rfl ?_
          refine j_iload C 0 dX4_water_31 rfl ?_
          refine j_max C (hR) (if wgf (waC Z) k < Z (11 + 4 * k) (6) then Z (11 + 4 * k) (6) else wgf (waC Z) k) zk_X4_182 dX4_water_33 (Nat.le_of_ble_eq_true rfl) rfl rfl rfl ?_
          refine j_istore_n (lv' := [(2, .int (if wgf (waC Z) k < Z (11 + 4 * k) (6) then Z (11 + 4 * k) (6) else wgf (waC Z) k)), (5, .int (Z (11 + 4 * k) (6))), (4, .int (nI k)), (3, .int (nI 1)), (1, .int (l)), (0, .ref (G.2.1 (0)))]) C dX4_water_36 rfl (by rw [hN]; decide) rfl ?_
          refine j_aload_n C 5 dX4_water_37 rfl rfl ?_
          refine j_getR C zK4 (zb_X hG) (zs_X hG) (f := 0) (by decide) rfl zk_X4_11 rfl (zf_X_0 hG) dX4_water_38 ?_
          refine j_iload C 2 dX4_water_41 rfl ?_
          refine j_aldP C (zb_Pts hG) (zs_Pts hG) (zl_Pts hG) rfl (by omega) (by decide) (zf_Pts hG (by omega)) dX4_water_43 ?_
          refine j_callIN C hR (kX3_isDone hD hG (i := k)  (by omega) (rc := Z (11 + 4 * k) (3)) (rcI := (Z (11 + 4 * k) (3)).toInt) rfl rfl (po := Z (11 + 4 * k) (5)) (poI := (Z (11 + 4 * k) (5)).toInt) rfl rfl (en := Z (11 + 4 * k) (4)) (enI := (Z (11 + 4 * k) (4)).toInt) rfl rfl) [] zmX3_isDone zk_X4_89 zK3 (zb_Part hG (by omega)) (zs_Part hG (by omega)) (by decide) rfl rfl (Nat.le_of_ble_eq_true rfl) dX4_water_44 (fun r44 Z44 h44 => ?_)
          obtain ⟨e44, ⟨rfl, h44⟩ | ⟨rfl, h44⟩⟩ := h44
          ·
            refine j_Z e44 ?_
            have hdn : dnC Z k = true := decide_eq_true (by have := hpo k (by omega); omega)
            refine j_if_ne (tgt := 68) (a := ((1 : Nat) : Int)) C (nI_toInt (by omega)) dX4_water_47 (by decide) (fun c47 => ?_) (fun c47 => absurd c47 (by omega))
            refine j_iinc (v := nI (k + 1)) (lv' := [(4, .int (nI (k + 1))), (2, .int (if wgf (waC Z) k < Z (11 + 4 * k) (6) then Z (11 + 4 * k) (6) else wgf (waC Z) k)), (5, .int (Z (11 + 4 * k) (6))), (3, .int (nI 1)), (1, .int (l)), (0, .ref (G.2.1 (0)))]) C 2 dX4_water_68 rfl (nI_add k 1) (by rw [hN]; decide) rfl ?_
            refine j_goto (tgt := 9) C dX4_water_71 (by decide) ?_
            refine j_sub (lv' := [(4, .int (nI (k + 1))), (3, .int (nI 1)), (1, .int (l)), (2, .int (if wgf (waC Z) k < Z (11 + 4 * k) (6) then Z (11 + 4 * k) (6) else wgf (waC Z) k)), (0, .ref (G.2.1 (0)))]) [0, 3, 4, 1, 5] rfl ?_
            exact ih (k + 1) 1 l (by omega) (by omega) (Or.inl ⟨rfl, by simp [wlf, hdn, ha]⟩)
          ·
            refine j_Z e44 ?_
            have hdn : dnC Z k = false := decide_eq_false (by have := hpo k (by omega); omega)
            refine j_if_ne (tgt := 68) (a := ((0 : Nat) : Int)) C (nI_toInt (by omega)) dX4_water_47 (by decide) (fun c47 => absurd c47 (by omega)) (fun c47 => ?_)
            refine j_iload_n C 3 dX4_water_50 rfl rfl ?_
            refine j_if_eq (tgt := 59) (a := ((1 : Nat) : Int)) C (nI_toInt (by omega)) dX4_water_51 (by decide) (fun c51 => absurd c51 (by omega)) (fun c51 => ?_)
            refine j_iload C 1 dX4_water_54 rfl ?_
            refine j_goto (tgt := 65) C dX4_water_56 (by decide) ?_
            refine j_istore_n (lv' := [(1, .int (Z (11 + 4 * k) (6))), (2, .int (if wgf (waC Z) k < Z (11 + 4 * k) (6) then Z (11 + 4 * k) (6) else wgf (waC Z) k)), (5, .int (Z (11 + 4 * k) (6))), (4, .int (nI k)), (3, .int (nI 1)), (0, .ref (G.2.1 (0)))]) C dX4_water_65 rfl (by rw [hN]; decide) rfl ?_
            have hl2 : Z (11 + 4 * k) 6 = wlf (dnC Z) (waC Z) (k + 1) := by
              have q1 : (waC Z k).toInt < (wlf (dnC Z) (waC Z) k).toInt := by show (Z (11 + 4 * k) 6).toInt < _; rw [ha, nI_2e5]; have := hwa k (by omega); omega
              simp only [wlf, hdn, q1, and_self, if_true]
            have hl3 : (wlf (dnC Z) (waC Z) (k + 1)).toInt ≤ 100000 := by rw [← hl2]; exact hwa k (by omega)
            refine j_iconst C (nI 0) dX4_water_66 (by decide) ?_
            refine j_istore_n (lv' := [(3, .int (nI 0)), (1, .int (Z (11 + 4 * k) (6))), (2, .int (if wgf (waC Z) k < Z (11 + 4 * k) (6) then Z (11 + 4 * k) (6) else wgf (waC Z) k)), (5, .int (Z (11 + 4 * k) (6))), (4, .int (nI k)), (0, .ref (G.2.1 (0)))]) C dX4_water_67 rfl (by rw [hN]; decide) rfl ?_
            refine j_iinc (v := nI (k + 1)) (lv' := [(4, .int (nI (k + 1))), (3, .int (nI 0)), (1, .int (Z (11 + 4 * k) (6))), (2, .int (if wgf (waC Z) k < Z (11 + 4 * k) (6) then Z (11 + 4 * k) (6) else wgf (waC Z) k)), (5, .int (Z (11 + 4 * k) (6))), (0, .ref (G.2.1 (0)))]) C 4 dX4_water_68 rfl (nI_add k 1) (by rw [hN]; decide) rfl ?_
            refine j_goto (tgt := 9) C dX4_water_71 (by decide) ?_
            refine j_sub (lv' := [(4, .int (nI (k + 1))), (3, .int (nI 0)), (1, .int (Z (11 + 4 * k) (6))), (2, .int (if wgf (waC Z) k < Z (11 + 4 * k) (6) then Z (11 + 4 * k) (6) else wgf (waC Z) k)), (0, .ref (G.2.1 (0)))]) [0, 1, 2, 3, 5] rfl ?_
            exact ih (k + 1) 0 (Z (11 + 4 * k) 6) (by omega) (by omega) (Or.inr ⟨rfl, hl2, hl3⟩)
      ·
        refine j_iload C 0 dX4_water_9 rfl ?_
        refine j_aload_n C 4 dX4_water_11 rfl rfl ?_
        refine j_getI C zK4 (zb_X hG) (zs_X hG) (f := 5) (by decide) rfl zk_X4_44 rfl (nI np) hnp dX4_water_12 ?_
        refine j_icmp_ge (tgt := 74) (a := ((k : Nat) : Int)) (b := ((np : Nat) : Int)) C (nI_toInt (by omega)) (nI_toInt (by omega)) dX4_water_15 (by decide) (fun c15 => ?_) (fun c15 => ?_)
        ·
          have e9 : k = np := by omega
          subst e9
          refine j_iload_n C 1 dX4_water_74 rfl rfl ?_
          refine j_if_eq (tgt := 82) (a := ((0 : Nat) : Int)) C (nI_toInt (by omega)) dX4_water_75 (by decide) (fun c75 => ?_) (fun c75 => absurd c75 (by omega))
          refine j_iload_n C 2 dX4_water_82 rfl rfl ?_
          refine j_iret C R dX4_water_83 ?_
          exact ⟨rfl, by rw [if_pos (by omega)]; exact ha⟩
        ·
          refine j_aload_n C 4 dX4_water_18 rfl rfl ?_
          refine j_getR C zK4 (zb_X hG) (zs_X hG) (f := 0) (by decide) rfl zk_X4_11 rfl (zf_X_0 hG) dX4_water_19 ?_
          refine j_iload C 0 dX4_water_22 rfl ?_
          refine j_aldP C (zb_Pts hG) (zs_Pts hG) (zl_Pts hG) rfl (by omega) (by decide) (zf_Pts hG (by omega)) dX4_water_24 ?_
          refine j_getIN C zK3 (zb_Part hG (by omega)) (zs_Part hG (by omega)) (f := 6) (by decide) rfl zk_X4_139 rfl (Z (11 + 4 * k) (6)) rfl dX4_water_25 ?_
          refine j_istore (lv' := [(5, .int (Z (11 + 4 * k) (6))), (4, .int (nI k)), (3, .int (nI 0)), (1, .int (l)), (2, .int (wgf (waC Z) k)), (0, .ref (G.2.1 (0)))]) C dX4_water_28 (by rw [hN]; decide) rfl ?_
          refine j_iload_n C 4 dX4_water_30 rfl rfl ?_
          refine j_iload C 0 dX4_water_31 rfl ?_
          refine j_max C (hR) (if wgf (waC Z) k < Z (11 + 4 * k) (6) then Z (11 + 4 * k) (6) else wgf (waC Z) k) zk_X4_182 dX4_water_33 (Nat.le_of_ble_eq_true rfl) rfl rfl rfl ?_
          refine j_istore_n (lv' := [(2, .int (if wgf (waC Z) k < Z (11 + 4 * k) (6) then Z (11 + 4 * k) (6) else wgf (waC Z) k)), (5, .int (Z (11 + 4 * k) (6))), (4, .int (nI k)), (3, .int (nI 0)), (1, .int (l)), (0, .ref (G.2.1 (0)))]) C dX4_water_36 rfl (by rw [hN]; decide) rfl ?_
          refine j_aload_n C 5 dX4_water_37 rfl rfl ?_
          refine j_getR C zK4 (zb_X hG) (zs_X hG) (f := 0) (by decide) rfl zk_X4_11 rfl (zf_X_0 hG) dX4_water_38 ?_
          refine j_iload C 2 dX4_water_41 rfl ?_
          refine j_aldP C (zb_Pts hG) (zs_Pts hG) (zl_Pts hG) rfl (by omega) (by decide) (zf_Pts hG (by omega)) dX4_water_43 ?_
          refine j_callIN C hR (kX3_isDone hD hG (i := k)  (by omega) (rc := Z (11 + 4 * k) (3)) (rcI := (Z (11 + 4 * k) (3)).toInt) rfl rfl (po := Z (11 + 4 * k) (5)) (poI := (Z (11 + 4 * k) (5)).toInt) rfl rfl (en := Z (11 + 4 * k) (4)) (enI := (Z (11 + 4 * k) (4)).toInt) rfl rfl) [] zmX3_isDone zk_X4_89 zK3 (zb_Part hG (by omega)) (zs_Part hG (by omega)) (by decide) rfl rfl (Nat.le_of_ble_eq_true rfl) dX4_water_44 (fun r44 Z44 h44 => ?_)
          obtain ⟨e44, ⟨rfl, h44⟩ | ⟨rfl, h44⟩⟩ := h44
          ·
            refine j_Z e44 ?_
            have hdn : dnC Z k = true := decide_eq_true (by have := hpo k (by omega); omega)
            refine j_if_ne (tgt := 68) (a := ((1 : Nat) : Int)) C (nI_toInt (by omega)) dX4_water_47 (by decide) (fun c47 => ?_) (fun c47 => absurd c47 (by omega))
            refine j_iinc (v := nI (k + 1)) (lv' := [(4, .int (nI (k + 1))), (2, .int (if wgf (waC Z) k < Z (11 + 4 * k) (6) then Z (11 + 4 * k) (6) else wgf (waC Z) k)), (5, .int (Z (11 + 4 * k) (6))), (3, .int (nI 0)), (1, .int (l)), (0, .ref (G.2.1 (0)))]) C 2 dX4_water_68 rfl (nI_add k 1) (by rw [hN]; decide) rfl ?_
            refine j_goto (tgt := 9) C dX4_water_71 (by decide) ?_
            refine j_sub (lv' := [(4, .int (nI (k + 1))), (3, .int (nI 0)), (1, .int (l)), (2, .int (if wgf (waC Z) k < Z (11 + 4 * k) (6) then Z (11 + 4 * k) (6) else wgf (waC Z) k)), (0, .ref (G.2.1 (0)))]) [0, 3, 4, 1, 5] rfl ?_
            exact ih (k + 1) 0 l (by omega) (by omega) (Or.inr ⟨rfl, by simp [wlf, hdn, ha], by simp only [wlf, hdn]; exact hl⟩)
          ·
            refine j_Z e44 ?_
            have hdn : dnC Z k = false := decide_eq_false (by have := hpo k (by omega); omega)
            refine j_if_ne (tgt := 68) (a := ((0 : Nat) : Int)) C (nI_toInt (by omega)) dX4_water_47 (by decide) (fun c47 => absurd c47 (by omega)) (fun c47 => ?_)
            refine j_iload_n C 3 dX4_water_50 rfl rfl ?_
            refine j_if_eq (tgt := 59) (a := ((0 : Nat) : Int)) C (nI_toInt (by omega)) dX4_water_51 (by decide) (fun c51 => ?_) (fun c51 => absurd c51 (by omega))
            refine j_iload_n C 4 dX4_water_59 rfl rfl ?_
            refine j_iload C 1 dX4_water_60 rfl ?_
            refine j_min C (hR) (if Z (11 + 4 * k) (6) < l then Z (11 + 4 * k) (6) else l) zk_X4_187 dX4_water_62 (Nat.le_of_ble_eq_true rfl) rfl rfl rfl ?_
            refine j_istore_n (lv' := [(1, .int (if Z (11 + 4 * k) (6) < l then Z (11 + 4 * k) (6) else l)), (2, .int (if wgf (waC Z) k < Z (11 + 4 * k) (6) then Z (11 + 4 * k) (6) else wgf (waC Z) k)), (5, .int (Z (11 + 4 * k) (6))), (4, .int (nI k)), (3, .int (nI 0)), (0, .ref (G.2.1 (0)))]) C dX4_water_65 rfl (by rw [hN]; decide) rfl ?_
            have hl2 : (if Z (11 + 4 * k) 6 < l then Z (11 + 4 * k) 6 else l) = wlf (dnC Z) (waC Z) (k + 1) := by
              rw [ha]
              by_cases q1 : (waC Z k).toInt < (wlf (dnC Z) (waC Z) k).toInt
              · rw [if_pos (Int32.lt_iff_toInt_lt.mpr q1)]; simp only [wlf, hdn, q1, and_self, if_true]
              · rw [if_neg (fun q => q1 (Int32.lt_iff_toInt_lt.mp q))]; simp only [wlf, q1, and_false, if_false]
            have hl3 : (wlf (dnC Z) (waC Z) (k + 1)).toInt ≤ 100000 := by
              rw [← hl2]
              split
              · exact hwa k (by omega)
              · rw [ha]; exact hl
            refine j_iconst C (nI 0) dX4_water_66 (by decide) ?_
            refine j_istore_n (lv' := [(3, .int (nI 0)), (1, .int (if Z (11 + 4 * k) (6) < l then Z (11 + 4 * k) (6) else l)), (2, .int (if wgf (waC Z) k < Z (11 + 4 * k) (6) then Z (11 + 4 * k) (6) else wgf (waC Z) k)), (5, .int (Z (11 + 4 * k) (6))), (4, .int (nI k)), (0, .ref (G.2.1 (0)))]) C dX4_water_67 rfl (by rw [hN]; decide) rfl ?_
            refine j_iinc (v := nI (k + 1)) (lv' := [(4, .int (nI (k + 1))), (3, .int (nI 0)), (1, .int (if Z (11 + 4 * k) (6) < l then Z (11 + 4 * k) (6) else l)), (2, .int (if wgf (waC Z) k < Z (11 + 4 * k) (6) then Z (11 + 4 * k) (6) else wgf (waC Z) k)), (5, .int (Z (11 + 4 * k) (6))), (0, .ref (G.2.1 (0)))]) C 4 dX4_water_68 rfl (nI_add k 1) (by rw [hN]; decide) rfl ?_
            refine j_goto (tgt := 9) C dX4_water_71 (by decide) ?_
            refine j_sub (lv' := [(4, .int (nI (k + 1))), (3, .int (nI 0)), (1, .int (if Z (11 + 4 * k) (6) < l then Z (11 + 4 * k) (6) else l)), (2, .int (if wgf (waC Z) k < Z (11 + 4 * k) (6) then Z (11 + 4 * k) (6) else wgf (waC Z) k)), (0, .ref (G.2.1 (0)))]) [0, 1, 2, 3, 5] rfl ?_
            exact ih (k + 1) 0 (if Z (11 + 4 * k) 6 < l then Z (11 + 4 * k) 6 else l) (by omega) (by omega) (Or.inr ⟨rfl, hl2, hl3⟩)
  refine j_iconst C (-1) dX4_water_0 (by decide) ?_
  refine j_istore_n (lv' := [(1, .int (-1)), (0, .ref (G.2.1 (0)))]) C dX4_water_1 rfl (by rw [hN]; decide) rfl ?_
  refine j_iconst C (-1) dX4_water_2 (by decide) ?_
  refine j_istore_n (lv' := [(2, .int (-1)), (1, .int (-1)), (0, .ref (G.2.1 (0)))]) C dX4_water_3 rfl (by rw [hN]; decide) rfl ?_
  refine j_iconst C (nI 1) dX4_water_4 (by decide) ?_
  refine j_istore_n (lv' := [(3, .int (nI 1)), (2, .int (-1)), (1, .int (-1)), (0, .ref (G.2.1 (0)))]) C dX4_water_5 rfl (by rw [hN]; decide) rfl ?_
  refine j_iconst C (nI 0) dX4_water_6 (by decide) ?_
  refine j_istore (lv' := [(4, .int (nI 0)), (3, .int (nI 1)), (2, .int (-1)), (1, .int (-1)), (0, .ref (G.2.1 (0)))]) C dX4_water_7 (by rw [hN]; decide) rfl ?_
  refine j_sub (lv' := [(4, .int (nI 0)), (3, .int (nI 1)), (1, .int (-1)), (2, .int (-1)), (0, .ref (G.2.1 (0)))]) [0, 1, 3, 2, 4] rfl ?_
  refine j_lv (lv' := [(4, .int (nI 0)), (3, .int (nI 1)), (1, .int (-1)), (2, .int (wgf (waC Z) 0)), (0, .ref (G.2.1 (0)))]) rfl ?_
  exact L9 (np + 1) 0 1 (-1) (by omega) (by omega) (Or.inl ⟨rfl, rfl⟩)
end
