section
-- ===== PART A: goes FIRST, ahead of the names: the tables' words, and 'selects' of the private methods out of them =====
/-- a private method of a class that the tables say can be made, by its rows of tables_1 -/
def lw_okq (q : MethodName × Nat) : Prop := (q.1.cls ≠ "java/lang/invoke/MethodHandle" ∧ q.1.cls ≠ "java/lang/invoke/VarHandle") ∧ Cond.instantiable q.1.cls q.2 ∈ tables_1 ∧ Cond.privateMethod q.1 ∈ tables_1 ∧ Cond.instanceMethod q.1 ∈ tables_1
theorem lw_p0 : lw_okq (⟨"Proofpress", "paperNeededBy", "(LProofpress$Order;)I"⟩, 11) := ⟨⟨by decide +kernel, by decide +kernel⟩, List.mem_of_getElem? (i := 24) (by decide +kernel), List.mem_of_getElem? (i := 131) (by decide +kernel), List.mem_of_getElem? (i := 132) (by decide +kernel)⟩
theorem lw_p1 : lw_okq (⟨"Proofpress", "stateOn", "(LProofpress$Order;I)C"⟩, 11) := ⟨⟨by decide +kernel, by decide +kernel⟩, List.mem_of_getElem? (i := 24) (by decide +kernel), List.mem_of_getElem? (i := 135) (by decide +kernel), List.mem_of_getElem? (i := 136) (by decide +kernel)⟩
theorem lw_p2 : lw_okq (⟨"java/lang/Throwable", "fillInStackTrace", "(I)Ljava/lang/Throwable;"⟩, 6) := ⟨⟨by decide +kernel, by decide +kernel⟩, List.mem_of_getElem? (i := 219) (by decide +kernel), List.mem_of_getElem? (i := 217) (by decide +kernel), List.mem_of_getElem? (i := 218) (by decide +kernel)⟩
theorem lw_p3 : lw_okq (⟨"Proofpress", "documentOf", "(I)LProofpress$Document;"⟩, 11) := ⟨⟨by decide +kernel, by decide +kernel⟩, List.mem_of_getElem? (i := 24) (by decide +kernel), List.mem_of_getElem? (i := 331) (by decide +kernel), List.mem_of_getElem? (i := 332) (by decide +kernel)⟩
theorem lw_p4 : lw_okq (⟨"Proofpress", "requireNotBarred", "(LProofpress$Document;IZ)V"⟩, 11) := ⟨⟨by decide +kernel, by decide +kernel⟩, List.mem_of_getElem? (i := 24) (by decide +kernel), List.mem_of_getElem? (i := 389) (by decide +kernel), List.mem_of_getElem? (i := 390) (by decide +kernel)⟩
theorem lw_p5 : lw_okq (⟨"Proofpress", "barOf", "(LProofpress$Document;IZ)C"⟩, 11) := ⟨⟨by decide +kernel, by decide +kernel⟩, List.mem_of_getElem? (i := 24) (by decide +kernel), List.mem_of_getElem? (i := 393) (by decide +kernel), List.mem_of_getElem? (i := 394) (by decide +kernel)⟩
theorem lw_p6 : lw_okq (⟨"Proofpress", "isFrozen", "(LProofpress$Document;IZ)Z"⟩, 11) := ⟨⟨by decide +kernel, by decide +kernel⟩, List.mem_of_getElem? (i := 24) (by decide +kernel), List.mem_of_getElem? (i := 397) (by decide +kernel), List.mem_of_getElem? (i := 398) (by decide +kernel)⟩
theorem lw_p7 : lw_okq (⟨"Proofpress", "moveSpansForInsertion", "(LProofpress$Document;I)V"⟩, 11) := ⟨⟨by decide +kernel, by decide +kernel⟩, List.mem_of_getElem? (i := 24) (by decide +kernel), List.mem_of_getElem? (i := 433) (by decide +kernel), List.mem_of_getElem? (i := 434) (by decide +kernel)⟩
theorem lw_p8 : lw_okq (⟨"Proofpress$Log", "add", "(IIII)V"⟩, 5) := ⟨⟨by decide +kernel, by decide +kernel⟩, List.mem_of_getElem? (i := 38) (by decide +kernel), List.mem_of_getElem? (i := 445) (by decide +kernel), List.mem_of_getElem? (i := 446) (by decide +kernel)⟩
theorem lw_p9 : lw_okq (⟨"Proofpress", "moveSpansForDeletion", "(LProofpress$Document;I)V"⟩, 11) := ⟨⟨by decide +kernel, by decide +kernel⟩, List.mem_of_getElem? (i := 24) (by decide +kernel), List.mem_of_getElem? (i := 461) (by decide +kernel), List.mem_of_getElem? (i := 462) (by decide +kernel)⟩
theorem lw_p10 : lw_okq (⟨"Proofpress", "openCommentOf", "(I)LProofpress$Comment;"⟩, 11) := ⟨⟨by decide +kernel, by decide +kernel⟩, List.mem_of_getElem? (i := 24) (by decide +kernel), List.mem_of_getElem? (i := 543) (by decide +kernel), List.mem_of_getElem? (i := 544) (by decide +kernel)⟩
theorem lw_p11 : lw_okq (⟨"Proofpress", "commentOf", "(I)LProofpress$Comment;"⟩, 11) := ⟨⟨by decide +kernel, by decide +kernel⟩, List.mem_of_getElem? (i := 24) (by decide +kernel), List.mem_of_getElem? (i := 547) (by decide +kernel), List.mem_of_getElem? (i := 548) (by decide +kernel)⟩
theorem lw_p12 : lw_okq (⟨"Proofpress", "openCommentsOn", "(LProofpress$Document;)I"⟩, 11) := ⟨⟨by decide +kernel, by decide +kernel⟩, List.mem_of_getElem? (i := 24) (by decide +kernel), List.mem_of_getElem? (i := 553) (by decide +kernel), List.mem_of_getElem? (i := 554) (by decide +kernel)⟩
theorem lw_p13 : lw_okq (⟨"Proofpress", "proofedDocumentOf", "(I)LProofpress$Document;"⟩, 11) := ⟨⟨by decide +kernel, by decide +kernel⟩, List.mem_of_getElem? (i := 24) (by decide +kernel), List.mem_of_getElem? (i := 610) (by decide +kernel), List.mem_of_getElem? (i := 611) (by decide +kernel)⟩
theorem lw_p14 : lw_okq (⟨"Proofpress$Log", "lastSignature", "(I)I"⟩, 5) := ⟨⟨by decide +kernel, by decide +kernel⟩, List.mem_of_getElem? (i := 38) (by decide +kernel), List.mem_of_getElem? (i := 662) (by decide +kernel), List.mem_of_getElem? (i := 663) (by decide +kernel)⟩
theorem lw_p15 : lw_okq (⟨"Proofpress$Log", "charactersBefore", "(II)I"⟩, 5) := ⟨⟨by decide +kernel, by decide +kernel⟩, List.mem_of_getElem? (i := 38) (by decide +kernel), List.mem_of_getElem? (i := 666) (by decide +kernel), List.mem_of_getElem? (i := 667) (by decide +kernel)⟩
def lw_privs_1 : List (MethodName × Nat) := [(⟨"Proofpress", "paperNeededBy", "(LProofpress$Order;)I"⟩, 11), (⟨"Proofpress", "stateOn", "(LProofpress$Order;I)C"⟩, 11), (⟨"java/lang/Throwable", "fillInStackTrace", "(I)Ljava/lang/Throwable;"⟩, 6), (⟨"Proofpress", "documentOf", "(I)LProofpress$Document;"⟩, 11), (⟨"Proofpress", "requireNotBarred", "(LProofpress$Document;IZ)V"⟩, 11), (⟨"Proofpress", "barOf", "(LProofpress$Document;IZ)C"⟩, 11), (⟨"Proofpress", "isFrozen", "(LProofpress$Document;IZ)Z"⟩, 11), (⟨"Proofpress", "moveSpansForInsertion", "(LProofpress$Document;I)V"⟩, 11), (⟨"Proofpress$Log", "add", "(IIII)V"⟩, 5), (⟨"Proofpress", "moveSpansForDeletion", "(LProofpress$Document;I)V"⟩, 11), (⟨"Proofpress", "openCommentOf", "(I)LProofpress$Comment;"⟩, 11), (⟨"Proofpress", "commentOf", "(I)LProofpress$Comment;"⟩, 11), (⟨"Proofpress", "openCommentsOn", "(LProofpress$Document;)I"⟩, 11), (⟨"Proofpress", "proofedDocumentOf", "(I)LProofpress$Document;"⟩, 11), (⟨"Proofpress$Log", "lastSignature", "(I)I"⟩, 5), (⟨"Proofpress$Log", "charactersBefore", "(II)I"⟩, 5)]
theorem lw_r1 : ∀ q ∈ lw_privs_1, lw_okq q := List.forall_mem_cons.mpr ⟨lw_p0, List.forall_mem_cons.mpr ⟨lw_p1, List.forall_mem_cons.mpr ⟨lw_p2, List.forall_mem_cons.mpr ⟨lw_p3, List.forall_mem_cons.mpr ⟨lw_p4, List.forall_mem_cons.mpr ⟨lw_p5, List.forall_mem_cons.mpr ⟨lw_p6, List.forall_mem_cons.mpr ⟨lw_p7, List.forall_mem_cons.mpr ⟨lw_p8, List.forall_mem_cons.mpr ⟨lw_p9, List.forall_mem_cons.mpr ⟨lw_p10, List.forall_mem_cons.mpr ⟨lw_p11, List.forall_mem_cons.mpr ⟨lw_p12, List.forall_mem_cons.mpr ⟨lw_p13, List.forall_mem_cons.mpr ⟨lw_p14, List.forall_mem_cons.mpr ⟨lw_p15, fun _ h => absurd h List.not_mem_nil⟩⟩⟩⟩⟩⟩⟩⟩⟩⟩⟩⟩⟩⟩⟩⟩
theorem lw_p16 : lw_okq (⟨"Proofpress$Log", "codeBefore", "(III)I"⟩, 5) := ⟨⟨by decide +kernel, by decide +kernel⟩, List.mem_of_getElem? (i := 38) (by decide +kernel), List.mem_of_getElem? (i := 672) (by decide +kernel), List.mem_of_getElem? (i := 673) (by decide +kernel)⟩
theorem lw_p17 : lw_okq (⟨"Proofpress", "orderOf", "(I)LProofpress$Order;"⟩, 11) := ⟨⟨by decide +kernel, by decide +kernel⟩, List.mem_of_getElem? (i := 24) (by decide +kernel), List.mem_of_getElem? (i := 768) (by decide +kernel), List.mem_of_getElem? (i := 769) (by decide +kernel)⟩
theorem lw_p18 : lw_okq (⟨"Proofpress", "isFinished", "(LProofpress$Order;)Z"⟩, 11) := ⟨⟨by decide +kernel, by decide +kernel⟩, List.mem_of_getElem? (i := 24) (by decide +kernel), List.mem_of_getElem? (i := 787) (by decide +kernel), List.mem_of_getElem? (i := 788) (by decide +kernel)⟩
theorem lw_p19 : lw_okq (⟨"Proofpress", "goodSheetsOf", "(LProofpress$Order;)I"⟩, 11) := ⟨⟨by decide +kernel, by decide +kernel⟩, List.mem_of_getElem? (i := 24) (by decide +kernel), List.mem_of_getElem? (i := 791) (by decide +kernel), List.mem_of_getElem? (i := 792) (by decide +kernel)⟩
theorem lw_p20 : lw_okq (⟨"Proofpress", "platedRecordOf", "(II)LProofpress$SheetRecord;"⟩, 11) := ⟨⟨by decide +kernel, by decide +kernel⟩, List.mem_of_getElem? (i := 24) (by decide +kernel), List.mem_of_getElem? (i := 879) (by decide +kernel), List.mem_of_getElem? (i := 880) (by decide +kernel)⟩
theorem lw_p21 : lw_okq (⟨"ProofpressModel", "isDocument", "(I)Z"⟩, 32) := ⟨⟨by decide +kernel, by decide +kernel⟩, List.mem_of_getElem? (i := 946) (by decide +kernel), List.mem_of_getElem? (i := 1062) (by decide +kernel), List.mem_of_getElem? (i := 1063) (by decide +kernel)⟩
theorem lw_p22 : lw_okq (⟨"ProofpressModel", "barOf", "(IIZ)C"⟩, 32) := ⟨⟨by decide +kernel, by decide +kernel⟩, List.mem_of_getElem? (i := 946) (by decide +kernel), List.mem_of_getElem? (i := 1069) (by decide +kernel), List.mem_of_getElem? (i := 1070) (by decide +kernel)⟩
theorem lw_p23 : lw_okq (⟨"ProofpressModel", "moves", "(III)V"⟩, 32) := ⟨⟨by decide +kernel, by decide +kernel⟩, List.mem_of_getElem? (i := 946) (by decide +kernel), List.mem_of_getElem? (i := 1080) (by decide +kernel), List.mem_of_getElem? (i := 1081) (by decide +kernel)⟩
theorem lw_p24 : lw_okq (⟨"ProofpressModel", "asks", "(I)Z"⟩, 32) := ⟨⟨by decide +kernel, by decide +kernel⟩, List.mem_of_getElem? (i := 946) (by decide +kernel), List.mem_of_getElem? (i := 1101) (by decide +kernel), List.mem_of_getElem? (i := 1102) (by decide +kernel)⟩
theorem lw_p25 : lw_okq (⟨"ProofpressModel", "isComment", "(I)Z"⟩, 32) := ⟨⟨by decide +kernel, by decide +kernel⟩, List.mem_of_getElem? (i := 946) (by decide +kernel), List.mem_of_getElem? (i := 1121) (by decide +kernel), List.mem_of_getElem? (i := 1122) (by decide +kernel)⟩
theorem lw_p26 : lw_okq (⟨"ProofpressModel", "openOn", "(I)I"⟩, 32) := ⟨⟨by decide +kernel, by decide +kernel⟩, List.mem_of_getElem? (i := 946) (by decide +kernel), List.mem_of_getElem? (i := 1125) (by decide +kernel), List.mem_of_getElem? (i := 1126) (by decide +kernel)⟩
theorem lw_p27 : lw_okq (⟨"ProofpressModel", "sheetsOf", "(I)I"⟩, 32) := ⟨⟨by decide +kernel, by decide +kernel⟩, List.mem_of_getElem? (i := 946) (by decide +kernel), List.mem_of_getElem? (i := 1145) (by decide +kernel), List.mem_of_getElem? (i := 1146) (by decide +kernel)⟩
theorem lw_p28 : lw_okq (⟨"ProofpressModel", "asksProof", "(I)Z"⟩, 32) := ⟨⟨by decide +kernel, by decide +kernel⟩, List.mem_of_getElem? (i := 946) (by decide +kernel), List.mem_of_getElem? (i := 1153) (by decide +kernel), List.mem_of_getElem? (i := 1154) (by decide +kernel)⟩
theorem lw_p29 : lw_okq (⟨"ProofpressModel", "pageAt", "(III)I"⟩, 32) := ⟨⟨by decide +kernel, by decide +kernel⟩, List.mem_of_getElem? (i := 946) (by decide +kernel), List.mem_of_getElem? (i := 1166) (by decide +kernel), List.mem_of_getElem? (i := 1167) (by decide +kernel)⟩
theorem lw_p30 : lw_okq (⟨"ProofpressModel", "codeOn", "(III)I"⟩, 32) := ⟨⟨by decide +kernel, by decide +kernel⟩, List.mem_of_getElem? (i := 946) (by decide +kernel), List.mem_of_getElem? (i := 1175) (by decide +kernel), List.mem_of_getElem? (i := 1176) (by decide +kernel)⟩
theorem lw_p31 : lw_okq (⟨"ProofpressModel", "free", "()I"⟩, 32) := ⟨⟨by decide +kernel, by decide +kernel⟩, List.mem_of_getElem? (i := 946) (by decide +kernel), List.mem_of_getElem? (i := 1204) (by decide +kernel), List.mem_of_getElem? (i := 1205) (by decide +kernel)⟩
def lw_privs_2 : List (MethodName × Nat) := [(⟨"Proofpress$Log", "codeBefore", "(III)I"⟩, 5), (⟨"Proofpress", "orderOf", "(I)LProofpress$Order;"⟩, 11), (⟨"Proofpress", "isFinished", "(LProofpress$Order;)Z"⟩, 11), (⟨"Proofpress", "goodSheetsOf", "(LProofpress$Order;)I"⟩, 11), (⟨"Proofpress", "platedRecordOf", "(II)LProofpress$SheetRecord;"⟩, 11), (⟨"ProofpressModel", "isDocument", "(I)Z"⟩, 32), (⟨"ProofpressModel", "barOf", "(IIZ)C"⟩, 32), (⟨"ProofpressModel", "moves", "(III)V"⟩, 32), (⟨"ProofpressModel", "asks", "(I)Z"⟩, 32), (⟨"ProofpressModel", "isComment", "(I)Z"⟩, 32), (⟨"ProofpressModel", "openOn", "(I)I"⟩, 32), (⟨"ProofpressModel", "sheetsOf", "(I)I"⟩, 32), (⟨"ProofpressModel", "asksProof", "(I)Z"⟩, 32), (⟨"ProofpressModel", "pageAt", "(III)I"⟩, 32), (⟨"ProofpressModel", "codeOn", "(III)I"⟩, 32), (⟨"ProofpressModel", "free", "()I"⟩, 32)]
theorem lw_r2 : ∀ q ∈ lw_privs_2, lw_okq q := List.forall_mem_cons.mpr ⟨lw_p16, List.forall_mem_cons.mpr ⟨lw_p17, List.forall_mem_cons.mpr ⟨lw_p18, List.forall_mem_cons.mpr ⟨lw_p19, List.forall_mem_cons.mpr ⟨lw_p20, List.forall_mem_cons.mpr ⟨lw_p21, List.forall_mem_cons.mpr ⟨lw_p22, List.forall_mem_cons.mpr ⟨lw_p23, List.forall_mem_cons.mpr ⟨lw_p24, List.forall_mem_cons.mpr ⟨lw_p25, List.forall_mem_cons.mpr ⟨lw_p26, List.forall_mem_cons.mpr ⟨lw_p27, List.forall_mem_cons.mpr ⟨lw_p28, List.forall_mem_cons.mpr ⟨lw_p29, List.forall_mem_cons.mpr ⟨lw_p30, List.forall_mem_cons.mpr ⟨lw_p31, fun _ h => absurd h List.not_mem_nil⟩⟩⟩⟩⟩⟩⟩⟩⟩⟩⟩⟩⟩⟩⟩⟩
theorem lw_p32 : lw_okq (⟨"ProofpressModel", "needed", "(I)I"⟩, 32) := ⟨⟨by decide +kernel, by decide +kernel⟩, List.mem_of_getElem? (i := 946) (by decide +kernel), List.mem_of_getElem? (i := 1208) (by decide +kernel), List.mem_of_getElem? (i := 1209) (by decide +kernel)⟩
theorem lw_p33 : lw_okq (⟨"ProofpressModel", "count", "(IC)I"⟩, 32) := ⟨⟨by decide +kernel, by decide +kernel⟩, List.mem_of_getElem? (i := 946) (by decide +kernel), List.mem_of_getElem? (i := 1212) (by decide +kernel), List.mem_of_getElem? (i := 1213) (by decide +kernel)⟩
theorem lw_p34 : lw_okq (⟨"ProofpressModel", "sheetsIn", "(I)I"⟩, 32) := ⟨⟨by decide +kernel, by decide +kernel⟩, List.mem_of_getElem? (i := 946) (by decide +kernel), List.mem_of_getElem? (i := 1216) (by decide +kernel), List.mem_of_getElem? (i := 1217) (by decide +kernel)⟩
theorem lw_p35 : lw_okq (⟨"ProofpressModel", "stateNow", "(II)C"⟩, 32) := ⟨⟨by decide +kernel, by decide +kernel⟩, List.mem_of_getElem? (i := 946) (by decide +kernel), List.mem_of_getElem? (i := 1220) (by decide +kernel), List.mem_of_getElem? (i := 1221) (by decide +kernel)⟩
theorem lw_p36 : lw_okq (⟨"ProofpressModel", "asksOrder", "(I)Z"⟩, 32) := ⟨⟨by decide +kernel, by decide +kernel⟩, List.mem_of_getElem? (i := 946) (by decide +kernel), List.mem_of_getElem? (i := 1228) (by decide +kernel), List.mem_of_getElem? (i := 1229) (by decide +kernel)⟩
theorem lw_p37 : lw_okq (⟨"ProofpressModel", "isOrder", "(I)Z"⟩, 32) := ⟨⟨by decide +kernel, by decide +kernel⟩, List.mem_of_getElem? (i := 946) (by decide +kernel), List.mem_of_getElem? (i := 1232) (by decide +kernel), List.mem_of_getElem? (i := 1233) (by decide +kernel)⟩
theorem lw_p38 : lw_okq (⟨"ProofpressModel", "asksSheet", "(II)Z"⟩, 32) := ⟨⟨by decide +kernel, by decide +kernel⟩, List.mem_of_getElem? (i := 946) (by decide +kernel), List.mem_of_getElem? (i := 1244) (by decide +kernel), List.mem_of_getElem? (i := 1245) (by decide +kernel)⟩
theorem lw_p39 : lw_okq (⟨"ProofpressModel", "isAll", "(I)Z"⟩, 32) := ⟨⟨by decide +kernel, by decide +kernel⟩, List.mem_of_getElem? (i := 946) (by decide +kernel), List.mem_of_getElem? (i := 1252) (by decide +kernel), List.mem_of_getElem? (i := 1253) (by decide +kernel)⟩
theorem lw_p40 : lw_okq (⟨"ProofpressModel", "made", "(II[I)I"⟩, 32) := ⟨⟨by decide +kernel, by decide +kernel⟩, List.mem_of_getElem? (i := 946) (by decide +kernel), List.mem_of_getElem? (i := 1272) (by decide +kernel), List.mem_of_getElem? (i := 1273) (by decide +kernel)⟩
theorem lw_p41 : lw_okq (⟨"ProofpressModel", "hours", "()I"⟩, 32) := ⟨⟨by decide +kernel, by decide +kernel⟩, List.mem_of_getElem? (i := 946) (by decide +kernel), List.mem_of_getElem? (i := 1285) (by decide +kernel), List.mem_of_getElem? (i := 1286) (by decide +kernel)⟩
def lw_privs_3 : List (MethodName × Nat) := [(⟨"ProofpressModel", "needed", "(I)I"⟩, 32), (⟨"ProofpressModel", "count", "(IC)I"⟩, 32), (⟨"ProofpressModel", "sheetsIn", "(I)I"⟩, 32), (⟨"ProofpressModel", "stateNow", "(II)C"⟩, 32), (⟨"ProofpressModel", "asksOrder", "(I)Z"⟩, 32), (⟨"ProofpressModel", "isOrder", "(I)Z"⟩, 32), (⟨"ProofpressModel", "asksSheet", "(II)Z"⟩, 32), (⟨"ProofpressModel", "isAll", "(I)Z"⟩, 32), (⟨"ProofpressModel", "made", "(II[I)I"⟩, 32), (⟨"ProofpressModel", "hours", "()I"⟩, 32)]
theorem lw_r3 : ∀ q ∈ lw_privs_3, lw_okq q := List.forall_mem_cons.mpr ⟨lw_p32, List.forall_mem_cons.mpr ⟨lw_p33, List.forall_mem_cons.mpr ⟨lw_p34, List.forall_mem_cons.mpr ⟨lw_p35, List.forall_mem_cons.mpr ⟨lw_p36, List.forall_mem_cons.mpr ⟨lw_p37, List.forall_mem_cons.mpr ⟨lw_p38, List.forall_mem_cons.mpr ⟨lw_p39, List.forall_mem_cons.mpr ⟨lw_p40, List.forall_mem_cons.mpr ⟨lw_p41, fun _ h => absurd h List.not_mem_nil⟩⟩⟩⟩⟩⟩⟩⟩⟩⟩
def lw_privs : List (MethodName × Nat) := lw_privs_1 ++ (lw_privs_2 ++ (lw_privs_3))
def lw_tbl : List Cond := k2_sels lw_privs ++ tables_1
theorem lw_privs_ok : ∀ q ∈ lw_privs, lw_okq q := by
  show ∀ q ∈ lw_privs_1 ++ (lw_privs_2 ++ (lw_privs_3)), lw_okq q
  exact List.forall_mem_append.mpr ⟨lw_r1, List.forall_mem_append.mpr ⟨lw_r2, lw_r3⟩⟩
/-- the streams that the claim lets the run draw from -/
abbrev lw_cs : List Choice := [Jvm.Choice.named "NaN.bits"]
theorem lw_bits : nanBits ∈ lw_cs := by first | decide | exact List.mem_cons_self | simp [lw_cs, nanBits]
-- ===== end of PART A; then your names; then what follows =====
end
section
/-! ===== BEGIN words of one list among another's, by their places ===== -/
theorem goodIn_r {big : List Cond} (ws : List Cond) (ps : List Nat) (hp : ws = ps.filterMap (fun i => big[i]?)) (h : ws.all goodWord = true) : GoodIn big ws := by
  intro w hw
  have h1 := List.all_eq_true.mp h w hw
  rw [hp] at hw
  obtain ⟨i, -, hi⟩ := List.mem_filterMap.mp hw
  have hm : w ∈ big := by first | exact List.mem_of_getElem? hi | exact List.getElem?_mem hi
  exact ⟨hm, good_of_word h1⟩
theorem goodIn_app {big a b : List Cond} (ha : GoodIn big a) (hb : GoodIn big b) : GoodIn big (a ++ b) := fun w h => (List.mem_append.mp h).elim (ha w) (hb w)
theorem goodIn_ca {big a b : List Cond} {c : Cond} (ha : GoodIn big (c :: a)) (hb : GoodIn big b) : GoodIn big (c :: (a ++ b)) := fun w h => (List.mem_cons.mp h).elim (fun e => ha w (List.mem_cons.mpr (Or.inl e))) (fun h => (List.mem_append.mp h).elim (fun h => ha w (List.mem_cons.mpr (Or.inr h))) (hb w))
theorem goodIn_sub {big ws : List Cond} (hm : ∀ w ∈ ws, w ∈ big) (h : ws.all goodWord = true) : GoodIn big ws := fun w hw => ⟨hm w hw, good_of_word (List.all_eq_true.mp h w hw)⟩
/-! ===== END ===== -/

/-! ===== BEGIN exceptions that leave a method, and their catching by the caller (launches without stack traces) ===== -/
section VXA
/-! The laws vx_back, vx_callV, vx_callS, vx_callSW, vx_throw0, vx_throwS follow proofs of the library, with one case more: JvmDerived/Free/Laws.lean (Back.of_free), Shelf42/LK1.lean (callV, callS), Shelf/KitTraced.lean (throwNew0V, throwNewS). -/
/-- where a method has thrown q: the class by its name, the cell, what was written, the world -/
def vx_T (XC : String → State → State → Prop) (st : State) (q : Addr) (t : State) (mc ms : Nat) (free : Addr → Prop) : Prop :=
  ∃ (E : String) (ce : Cell) (L : List Loc), XC E st t ∧ t.heap[q]? = some ce ∧ ce.vm = .none ∧ st.vm.findClass E = some ce.cls ∧ st.WarmedH t.vm ∧ st.sameButNew ({ t with vm := st.vm } : State) L mc ms ∧ ∀ z ∈ L, free z.base
def vx_Q (Qc : Array Value → State → Outcome → State → Prop) (XC : String → State → State → Prop) (mc ms : Nat) (free : Addr → Prop) : Array Value → State → Outcome → State → Prop := fun a st o t =>
  (Qc a st o t ∧ ∃ L, FrameEnd st o t L mc ms ∧ ∀ q ∈ L, free q.base) ∨ ∃ q, o = .threw q ∧ vx_T XC st q t mc ms free
/-- a callee that returns or throws -/
def vx_Met (l : Launch) (y : MethodName) (ws : List Cond) (rm : Room) (Pc : Array Value → State → Prop) (Qc : Array Value → State → Outcome → State → Prop) (XC : String → State → State → Prop) (mc ms : Nat) (free : Addr → Prop) : Prop :=
  MetFree l y (headSpec ws rm) Pc (fun _ _ _ _ _ => True) (vx_Q Qc XC mc ms free)
def vx_Post (XC : String → State → State → Prop) (mc ms : Nat) (free : Addr → Prop) : Pt → Array Value → Addr → Pt → Prop := fun A a q B =>
  ∃ (g : JFrame) (mk : MethodId) (t : State) (L : List Loc) (E : String) (ce : Cell), B.U.heap = t.heap ∧ B.U.vm = t.vm ∧ XC E (A.U.calling g mk a) t ∧ t.heap[q]? = some ce ∧ ce.vm = .none ∧ A.U.vm.findClass E = some ce.cls ∧ B.locs = A.locs ++ L ∧ (∀ z ∈ L, free z.base) ∧ B.cells = A.cells + mc ∧ B.slots = A.slots + ms
def vx_Back (l : Launch) (R : Room) (p : Program) (e : Env) (below : List Frame) (s : State) (sargs : Array Value) (y : MethodName) (len W9 : Nat)
    (Pre : Pt → Array Value → Prop) (Post : Pt → Array Value → Option Value → Pt → Prop) (PostX : Pt → Array Value → Addr → Pt → Prop) : Prop :=
  ∀ (m : MethodId) (meth : Method) (c : Code) (A : Pt) (g : JFrame) (ig : Instr) (mk : MethodId) (a : Array Value),
    Stand p l e R s m sargs below meth c A.U A.locs A.cells A.slots → g.method = m → g.locals.size = c.maxLocals → decode c.code g.pc = .ok (ig, len) →
    2 * g.monitorRoom + (g.stack.map fun v => v.category).sum ≤ W9 → A.U.methodNamed? y = some mk → Pre A a →
    (∃ (v : Option Value) (B : Pt), Stand p l e R s m sargs below meth c B.U B.locs B.cells B.slots ∧ Post A a v B ∧
      Steps p.tables e below (doInvoke e (A.U.setTop g) [] mk a).1 (B.U.setTop { g with pc := g.pc + len, stack := v.toList ++ g.stack })) ∨
    (∃ (q : Addr) (B : Pt), Stand p l e R s m sargs below meth c B.U B.locs B.cells B.slots ∧ PostX A a q B ∧
      Steps p.tables e below (doInvoke e (A.U.setTop g) [] mk a).1 ((B.U.setTop g).pushFrame (.throwing q)))
section Payer
variable {l : Launch} {R : Room} {p : Program} {e : Env} {below : List Frame} {s : State} {sargs : Array Value} {y : MethodName} {len W9 : Nat}
theorem vx_back {ws : List Cond} {rm : Room} {Pc : Array Value → State → Prop} {Qc : Array Value → State → Outcome → State → Prop} {XC : String → State → State → Prop} {mc ms : Nat} {free : Addr → Prop} {bytes : ByteArray} {maxL : Nat} {ret : Option FieldType}
    (hM : vx_Met l y ws rm Pc Qc XC mc ms free) (hblind : FrameBlind Pc) (hrc : rm.cells = mc) (hrs : rm.slots = ms)
    (hframes : rm.frames + 1 ≤ R.frames) (hlocals : W9 + (maxL + 11) + rm.locals ≤ R.locals)
    (hws : ∀ w ∈ ws, ∀ a' U, s.WarmedH U.vm → w.before a' U = true) (hcode : Cond.code y bytes maxL ret ∈ ws) (hinit : ∀ a' U, s.WarmedH U.vm → (Cond.initialized y.cls).before a' U = true) :
    vx_Back l R p e below s sargs y len W9 (PreOf R mc ms Pc) (PostOf Qc mc ms free) (vx_Post XC mc ms free) := by
  intro m meth c A g ig mk a X hg hsize hdg hW hn hp
  have h1 : (headSpec ws rm).pre.before a A.U = true := atoms_intro fun w hw => hws w hw _ _ X.warmed
  have h2 : (Cond.code y bytes maxL ret).before a A.U = true := hws _ hcode _ _ X.warmed
  have h3 : (Cond.initialized y.cls).before a A.U = true := hinit _ _ X.warmed
  have h4 : A.cells + (headSpec ws rm).room.cells ≤ R.cells := by rw [show (headSpec ws rm).room.cells = mc from hrc]; exact hp.1
  have h5 : A.slots + (headSpec ws rm).room.slots ≤ R.slots := by rw [show (headSpec ws rm).room.slots = ms from hrs]; exact hp.2.1
  have hPc : Pc a (A.U.calling g mk a) := hblind _ _ _ _ hp.2.2
  obtain ⟨U, Ls, c0, s0⟩ := A
  dsimp only [Pt.U, Pt.locs, Pt.cells, Pt.slots] at h1 h2 h3 h4 h5 X hn hPc ⊢
  obtain ⟨methY, cY, hmY, hcY, -, hlY, -, -, -, -⟩ := Cond.code_spec hn h2
  obtain ⟨kY, hkY, -⟩ := className_of_methodNamed hn
  have hinitY : kY.init = .initialized := Cond.initialized_spec (findClass_of_methodNamed hn) hkY h3
  have h : At U g.method c below := by rw [hg]; exact X.here
  have hlocals9 : W9 + (maxL + 11) + (headSpec ws rm).room.locals ≤ R.locals := hlocals
  have happ : (headSpec ws rm).appliesLoose y e.platform (U.calling g mk a) = true :=
    Spec.appliesLoose_calling (g := g) h hdg hn hkY hinitY
      (X.room_calling (g := g) (R' := (headSpec ws rm).room) hsize hmY hcY hframes (by rw [hlY]; omega) h4 h5) h1
  obtain ⟨mid, hmid⟩ := h.above
  have hfr : (U.setTop g).frames = (.java g :: mid) ++ below := by rw [State.frames_setTop' g h.top, hmid]; rfl
  obtain ⟨o, s₂, hsteps, -, hend, hq⟩ := Steps.callFree hM p X.admits X.cas X.clock (acts := []) hfr happ hPc trivial
  have hq' : vx_Q Qc XC mc ms free a (U.calling g mk a) o s₂ := hq
  rw [State.frames_setTop' g h.top] at hend
  obtain ⟨g₀, hg0⟩ := Option.isSome_iff_exists.mp h.top
  obtain ⟨r, hr⟩ := State.topJava?_eq_some.mp hg0
  have hr' : (({ U with heap := s₂.heap, slotsUsed := s₂.slotsUsed } : State).setVm s₂.vm).frames = .java g₀ :: r := hr
  rcases hq' with ⟨hqc, L, hfe, hL⟩ | ⟨q, rfl, E, ce, L, hx, hce, hcv, hcl, hW₂, hsm, hL⟩
  · obtain ⟨⟨v, rfl⟩, hW₂, e2, q2, q3, q4, q5, q6⟩ := id hfe
    have e3 : s₂ = ({ (U.calling g mk a).setFrames s₂.frames with heap := s₂.heap, slotsUsed := s₂.slotsUsed } : State).setVm s₂.vm := by
      have : s₂ = ({ s₂ with vm := (U.calling g mk a).vm } : State).setVm s₂.vm := rfl
      rw [e2] at this
      exact this
    obtain ⟨c₂, i₂, len₂, hc₂, hd₂, hf₂⟩ := hend
    have hW' : U.WarmedH s₂.vm := hW₂
    have hcc : c₂ = c := by
      have h1 : s₂.code? g.method = U.code? g.method := by
        rw [State.code?_eq, State.code?_eq, hW'.alike.method?]
      exact Option.some.inj (hc₂.symm.trans (h1.trans h.code))
    subst hcc
    have hlen : len₂ = len := by rw [hdg] at hd₂; cases hd₂; rfl
    subst hlen
    have hs₂ : s₂ = (({ U with heap := s₂.heap, slotsUsed := s₂.slotsUsed } : State).setVm s₂.vm).setTop { g with pc := g.pc + len₂, stack := v.toList ++ g.stack } := by
      refine e3.trans ?_
      rw [hf₂, State.calling_eq h.top, State.setFrames_setFrames, State.setTop_of_frames _ hr', hr]
      rfl
    have hsame : U.sameButNew ({ U with heap := s₂.heap, slotsUsed := s₂.slotsUsed } : State) L mc ms := by
      refine ⟨?_, q2, q3, q4, q5, q6⟩
      obtain ⟨t, ht, -⟩ := State.frames_cons hr
      show ({ U with heap := s₂.heap, slotsUsed := s₂.slotsUsed } : State) = { U.setFrames U.frames with heap := s₂.heap, slotsUsed := s₂.slotsUsed }
      rw [State.setFrames_self ht]
    subst hg
    refine Or.inl ⟨v, ⟨(({ U with heap := s₂.heap, slotsUsed := s₂.slotsUsed } : State).setVm s₂.vm), Ls ++ L, c0 + mc, s0 + ms⟩,
      ⟨X.admits, X.cas, X.clock, X.frames, X.room, X.hears, X.method, X.code, (X.here.setHeapUsed s₂.heap s₂.slotsUsed).setVm hW'.alike, X.tail, State.WarmedH.trans X.warmed hW', X.limits, X.bytes, X.same.trans (hsame.setVm s.vm)⟩,
      ⟨g, mk, s₂, L, rfl, rfl, hqc, rfl, hL, rfl, rfl⟩, ?_⟩
    show Steps p.tables e below _ ((({ U with heap := s₂.heap, slotsUsed := s₂.slotsUsed } : State).setVm s₂.vm).setTop { g with pc := g.pc + len₂, stack := v.toList ++ g.stack })
    rw [← hs₂]
    exact hsteps
  · obtain ⟨e2, q2, q3, q4, q5, q6⟩ := id hsm
    have e3 : s₂ = ({ (U.calling g mk a).setFrames s₂.frames with heap := s₂.heap, slotsUsed := s₂.slotsUsed } : State).setVm s₂.vm := by
      have : s₂ = ({ s₂ with vm := (U.calling g mk a).vm } : State).setVm s₂.vm := rfl
      rw [e2] at this
      exact this
    have hf₂ : s₂.frames = .throwing q :: .java g :: U.frames.tail := hend
    have hW' : U.WarmedH s₂.vm := hW₂
    have hs₂ : s₂ = ((({ U with heap := s₂.heap, slotsUsed := s₂.slotsUsed } : State).setVm s₂.vm).setTop g).pushFrame (.throwing q) := by
      refine e3.trans ?_
      rw [hf₂, State.calling_eq h.top, State.setFrames_setFrames, State.pushFrame, State.frames_setTop _ hr', State.setTop_of_frames _ hr', State.setFrames_setFrames, hr]
      rfl
    have hsame : U.sameButNew ({ U with heap := s₂.heap, slotsUsed := s₂.slotsUsed } : State) L mc ms := by
      refine ⟨?_, q2, q3, q4, q5, q6⟩
      obtain ⟨t, ht, -⟩ := State.frames_cons hr
      show ({ U with heap := s₂.heap, slotsUsed := s₂.slotsUsed } : State) = { U.setFrames U.frames with heap := s₂.heap, slotsUsed := s₂.slotsUsed }
      rw [State.setFrames_self ht]
    subst hg
    refine Or.inr ⟨q, ⟨(({ U with heap := s₂.heap, slotsUsed := s₂.slotsUsed } : State).setVm s₂.vm), Ls ++ L, c0 + mc, s0 + ms⟩,
      ⟨X.admits, X.cas, X.clock, X.frames, X.room, X.hears, X.method, X.code, (X.here.setHeapUsed s₂.heap s₂.slotsUsed).setVm hW'.alike, X.tail, State.WarmedH.trans X.warmed hW', X.limits, X.bytes, X.same.trans (hsame.setVm s.vm)⟩,
      ⟨g, mk, s₂, L, E, ce, rfl, rfl, hx, hce, hcv, hcl, rfl, hL, rfl, rfl⟩, ?_⟩
    show Steps p.tables e below _ (((({ U with heap := s₂.heap, slotsUsed := s₂.slotsUsed } : State).setVm s₂.vm).setTop g).pushFrame (.throwing q))
    rw [← hs₂]
    exact hsteps
end Payer
section Calls
variable {p : Program} {l : Launch} {e : Env} {R : Room} {s : State} {m : MethodId} {args : Array Value} {below : List Frame} {meth : Method} {c : Code} {T : State} {locs : List Loc} {cells slots : Nat}
theorem vx_callV (X : Stand p l e R s m args below meth c T locs cells slots) (hexec : p.tables.exec = Jvm.exec) {own C : String} {index : Nat} {y : MethodName} {bytes : ByteArray} {maxL : Nat} {ret : Option FieldType}
    (hown : s.vm.findClass own = some m.cls) (hlink : (Cond.methodLink own index y).before args s = true) (hinst : (Cond.instanceMethod y).before args s = true) (hsel : (Cond.selects C y y).before args s = true)
    (hcode : (Cond.code y bytes maxL ret).before args s = true) (hy : y.cls ≠ "java/lang/invoke/MethodHandle" ∧ y.cls ≠ "java/lang/invoke/VarHandle")
    {W9 : Nat} {Pre : Pt → Array Value → Prop} {Post : Pt → Array Value → Option Value → Pt → Prop} {PostX : Pt → Array Value → Addr → Pt → Prop} (hK : vx_Back l R p e below s args y 3 W9 Pre Post PostX)
    {b : Addr} {cellB : Cell} (hcell : T.heap[b]? = some cellB) (hobj : cellB.vm.isStatics = false) (hcls : s.vm.findClass C = some cellB.cls)
    {g : JFrame} (hg : g.method = m) (hsize : g.locals.size = c.maxLocals) {argsL rest : List Value} (hlen : ∀ sig, parseMethodDescriptor y.desc = some sig → argsL.length = sig.parameters.length)
    (hstack : g.stack = argsL.reverse ++ .ref b :: rest) (hW : 2 * g.monitorRoom + (rest.map fun v => v.category).sum ≤ W9) (hdg : decode c.code g.pc = .ok (.invokevirtual index, 3))
    (hpre : ∀ vm₁, s.WarmedH vm₁ → Pre ⟨T.setVm vm₁, locs, cells, slots⟩ (Value.ref b :: argsL).toArray) :
    (∃ (v : Option Value) (vm₁ : Vm) (B : Pt), s.WarmedH vm₁ ∧ Stand p l e R s m args below meth c B.U B.locs B.cells B.slots ∧ Post ⟨T.setVm vm₁, locs, cells, slots⟩ (Value.ref b :: argsL).toArray v B ∧
      ∀ target, Steps p.tables e below (B.U.setTop { g with pc := g.pc + 3, stack := v.toList ++ rest }) target → Steps p.tables e below (T.setTop g) target) ∨
    (∃ (q : Addr) (vm₁ : Vm) (B : Pt), s.WarmedH vm₁ ∧ Stand p l e R s m args below meth c B.U B.locs B.cells B.slots ∧ PostX ⟨T.setVm vm₁, locs, cells, slots⟩ (Value.ref b :: argsL).toArray q B ∧
      Steps p.tables e below (T.setTop g) ((B.U.setTop { g with stack := rest }).pushFrame (.throwing q))) := by
  obtain ⟨mk, methM, hnamed, hmethM, hstM, habM⟩ := Cond.instanceMethod_spec hinst
  obtain ⟨methM', cM, hmethM', -, -, -, -, -, -, hsigM⟩ := Cond.code_spec hnamed hcode
  cases hmethM.symm.trans hmethM'
  obtain ⟨c2, r2, m2, q1, q2, q3, q4, kP, hkP, hkPi⟩ := Cond.selects_spec hsel
  cases hcls.symm.trans q1
  cases (State.methodFound?_of_named hnamed hy).symm.trans q2
  cases hnamed.symm.trans q3
  have hselP : selectMethod e.platform s.vm cellB.cls mk = .method mk := by rw [Launch.admits_selectMethod X.admits]; exact q4
  obtain ⟨vm₁, X₁, hstep₁⟩ := X.invokevirtual hexec hown hlink hnamed hmethM hstM hkP hkPi hy (a := b) (cell := cellB) hcell
    (fun z h => by rw [h] at hobj; cases hobj) hselP hmethM habM hkP hkPi (g := g) hg (argsL := argsL) (rest := rest) (hlen _ hsigM) hstack hdg
  rcases hK m meth c ⟨T.setVm vm₁, locs, cells, slots⟩ { g with stack := rest } (.invokevirtual index) mk (Value.ref b :: argsL).toArray X₁ hg hsize hdg hW (X₁.named hnamed) (hpre vm₁ X₁.warmed) with ⟨v, B, X', hpost, hsteps⟩ | ⟨q, B, X', hpost, hsteps⟩
  · exact Or.inl ⟨v, vm₁, B, X₁.warmed, X', hpost, fun target h => hstep₁ _ fun acts => by rw [doInvoke_state]; exact hsteps.trans h⟩
  · exact Or.inr ⟨q, vm₁, B, X₁.warmed, X', hpost, hstep₁ _ fun acts => by rw [doInvoke_state]; exact hsteps⟩
theorem vx_callS (X : Stand p l e R s m args below meth c T locs cells slots) (hexec : p.tables.exec = Jvm.exec) {own : String} {index : Nat} {y : MethodName} {bytes : ByteArray} {maxL : Nat} {ret : Option FieldType}
    (hown : s.vm.findClass own = some m.cls) (hlink : (Cond.methodLink own index y).before args s = true) (hstat : (Cond.static y).before args s = true) (hinit : (Cond.initialized y.cls).before args s = true)
    (hcode : (Cond.code y bytes maxL ret).before args s = true) (hy : y.cls ≠ "java/lang/invoke/MethodHandle" ∧ y.cls ≠ "java/lang/invoke/VarHandle")
    {W9 : Nat} {Pre : Pt → Array Value → Prop} {Post : Pt → Array Value → Option Value → Pt → Prop} {PostX : Pt → Array Value → Addr → Pt → Prop} (hK : vx_Back l R p e below s args y 3 W9 Pre Post PostX)
    {g : JFrame} (hg : g.method = m) (hsize : g.locals.size = c.maxLocals) {argsL rest : List Value} (hlen : ∀ sig, parseMethodDescriptor y.desc = some sig → argsL.length = sig.parameters.length)
    (hstack : g.stack = argsL.reverse ++ rest) (hW : 2 * g.monitorRoom + (rest.map fun v => v.category).sum ≤ W9) (hdg : decode c.code g.pc = .ok (.invokestatic index, 3))
    (hpre : ∀ vm₁, s.WarmedH vm₁ → Pre ⟨T.setVm vm₁, locs, cells, slots⟩ argsL.toArray) :
    (∃ (v : Option Value) (vm₁ : Vm) (B : Pt), s.WarmedH vm₁ ∧ Stand p l e R s m args below meth c B.U B.locs B.cells B.slots ∧ Post ⟨T.setVm vm₁, locs, cells, slots⟩ argsL.toArray v B ∧
      ∀ target, Steps p.tables e below (B.U.setTop { g with pc := g.pc + 3, stack := v.toList ++ rest }) target → Steps p.tables e below (T.setTop g) target) ∨
    (∃ (q : Addr) (vm₁ : Vm) (B : Pt), s.WarmedH vm₁ ∧ Stand p l e R s m args below meth c B.U B.locs B.cells B.slots ∧ PostX ⟨T.setVm vm₁, locs, cells, slots⟩ argsL.toArray q B ∧
      Steps p.tables e below (T.setTop g) ((B.U.setTop { g with stack := rest }).pushFrame (.throwing q))) := by
  obtain ⟨mk, hnamed⟩ := Cond.code_named hcode
  obtain ⟨methM, cM, hmethM, -, -, -, -, -, -, hsigM⟩ := Cond.code_spec hnamed hcode
  have hstatic : methM.isStatic = true := Cond.static_spec hnamed hmethM hstat
  obtain ⟨kP, hkP, -⟩ := className_of_methodNamed hnamed
  have hinitP : kP.init = .initialized := Cond.initialized_spec (findClass_of_methodNamed hnamed) hkP hinit
  obtain ⟨vm₁, X₁, hstep₁⟩ := X.invokestatic hexec hown hlink hnamed hmethM hstatic hkP hinitP hy (g := g) hg (argsL := argsL) (rest := rest) (hlen _ hsigM) hstack hdg
  rcases hK m meth c ⟨T.setVm vm₁, locs, cells, slots⟩ { g with stack := rest } (.invokestatic index) mk argsL.toArray X₁ hg hsize hdg hW (X₁.named hnamed) (hpre vm₁ X₁.warmed) with ⟨v, B, X', hpost, hsteps⟩ | ⟨q, B, X', hpost, hsteps⟩
  · exact Or.inl ⟨v, vm₁, B, X₁.warmed, X', hpost, fun target h => hstep₁ _ fun acts => by rw [doInvoke_state]; exact hsteps.trans h⟩
  · exact Or.inr ⟨q, vm₁, B, X₁.warmed, X', hpost, hstep₁ _ fun acts => by rw [doInvoke_state]; exact hsteps⟩
end Calls
theorem vx_cls {s : State} {T : State} {vm₁ : Vm} {E : String} {k : ClassId} (hW : s.WarmedH vm₁) (h : (T.setVm vm₁).vm.findClass E = some k) : s.vm.findClass E = some k := by
  have h1 : vm₁.findClass E = some k := h
  rw [hW.alike.findClass] at h1
  exact h1
/-- the method's frame g, with q thrown over it -/
def vx_W (p : Program) (l : Launch) (e : Env) (R : Room) (s : State) (m : MethodId) (args : Array Value) (below : List Frame) (meth : Method) (c : Code) (H : Heap) (locs : List Loc) (cells slots : Nat) (Q : State → Prop) (g : JFrame) (q : Addr) : Prop :=
  ∀ T : State, T.heap = H → Stand p l e R s m args below meth c T locs cells slots → ∃ t, Steps p.tables e below ((T.setTop g).pushFrame (.throwing q)) t ∧ Q t
def vx_Run (p : Program) (l : Launch) (e : Env) (R : Room) (s : State) (m : MethodId) (args : Array Value) (below : List Frame) (meth : Method) (c : Code) (H : Heap) (locs : List Loc) (cells slots mc ms : Nat) (g : JFrame) (rest : List Value) (Qa : State → Outcome → State → Prop) (XC : String → State → State → Prop) (free : Addr → Prop) : Prop :=
  ∀ T : State, T.heap = H → Stand p l e R s m args below meth c T locs cells slots →
    (∃ (v : Option Value) (st₀ t T' : State) (L : List Loc), st₀.heap = H ∧ Stand p l e R s m args below meth c T' (locs ++ L) (cells + mc) (slots + ms) ∧ (∀ q ∈ L, free q.base) ∧ T'.heap = t.heap ∧ T'.vm = t.vm ∧ Qa st₀ (.returned v) t ∧
      Goes p e below T g T' { g with pc := g.pc + 3, stack := v.toList ++ rest }) ∨
    (∃ (q : Addr) (st₀ t T' : State) (L : List Loc) (E : String) (ce : Cell), st₀.heap = H ∧ Stand p l e R s m args below meth c T' (locs ++ L) (cells + mc) (slots + ms) ∧ (∀ z ∈ L, free z.base) ∧ T'.heap = t.heap ∧ T'.vm = t.vm ∧ XC E st₀ t ∧ t.heap[q]? = some ce ∧ ce.vm = .none ∧ s.vm.findClass E = some ce.cls ∧
      Steps p.tables e below (T.setTop g) ((T'.setTop { g with stack := rest }).pushFrame (.throwing q)))
def vx_X {S : Type} (px : S → Prop) (B : String → S → State → Prop) (A : Nat → Prop) : String → State → State → Prop := fun E st t => ∃ u : S, px u ∧ B E u t ∧ va_F A st t
section Runs
variable {p : Program} {l : Launch} {e : Env} {R : Room} {s : State} {m : MethodId} {args : Array Value} {below : List Frame} {meth : Method} {c : Code} {H : Heap} {locs : List Loc} {cells slots : Nat}
variable {y : MethodName} {bytes cc : ByteArray} {maxL nL mc ms n index : Nat} {ret : Option FieldType} {ws : List Cond} {rm : Room} {Pc : Array Value → State → Prop} {Qc : Array Value → State → Outcome → State → Prop} {XC : String → State → State → Prop} {free : Addr → Prop} {Ts : List Cond} {own C : String} {b : Addr} {As rest : List Value} {g : JFrame}
theorem vx_callBack (cb : CallB R s args own index y bytes maxL ret ws rm mc ms n) (hM : vx_Met l y ws rm Pc Qc XC mc ms free) (hbl : FrameBlind Pc) : vx_Back l R p e below s args y 3 8 (PreOf R mc ms Pc) (PostOf Qc mc ms free) (vx_Post XC mc ms free) := by
  obtain ⟨hrc, hrs, hfr, hlo, hws, hcw, -, hini, -⟩ := cb
  exact vx_back (bytes := bytes) (maxL := maxL) (ret := ret) hM hbl hrc hrs hfr hlo hws hcw (fun a' U hW => word_at hW (Or.inl (by first | rfl | simp [Cond.onTables, Cond.keeps, Cond.steady])) hini)
theorem vx_runV (S : CallFix p m c cc nL s args Ts own) (hM : vx_Met l y ws rm Pc Qc XC mc ms free) (cw : CallW R s args own C index y bytes maxL ret ws rm mc ms n) (hp : PreV s H C b Pc As)
    (hg : g.method = m) (hn : As.length = n) (hsize : g.locals.size = nL) (hstack : g.stack = As.reverse ++ .ref b :: rest) (hW : 2 * g.monitorRoom + (rest.map fun v => v.category).sum ≤ 8) (hdg : decode cc g.pc = .ok (.invokevirtual index, 3)) (hf : cells + mc ≤ R.cells ∧ slots + ms ≤ R.slots) :
    vx_Run p l e R s m args below meth c H locs cells slots mc ms g rest (Qc (Value.ref b :: As).toArray) XC free := by
  have hK : vx_Back l R p e below s args y 3 8 (PreOf R mc ms Pc) (PostOf Qc mc ms free) (vx_Post XC mc ms free) := vx_callBack cw.1 hM hp.1
  obtain ⟨⟨-, -, -, -, -, -, hcode, -, hy, hlen, hl⟩, hin, hse⟩ := cw
  obtain ⟨hx, hb, hml, ho, -⟩ := S
  obtain ⟨-, ⟨cellB, hcB, hoB, hclB⟩, hPc⟩ := hp
  intro T hT X
  rcases vx_callV X hx (C := C) (bytes := bytes) (maxL := maxL) (ret := ret) ho hl hin hse hcode hy hK (by rw [hT]; exact hcB) hoB hclB hg (hsize.trans hml.symm) (argsL := As) (rest := rest) (fun sig h => hn.trans (hlen sig h)) hstack hW (by rw [hb]; exact hdg)
    (fun vm₁ hW₁ => ⟨hf.1, hf.2, hPc (T.setVm vm₁) hT hW₁⟩) with ⟨v, vm₁, ⟨U', l2, c2, s2⟩, hW₁, X', ⟨g', mk, t, L, e1, e2, hq, h1, hL, h2, h3⟩, st⟩ | ⟨q, vm₁, ⟨U', l2, c2, s2⟩, hW₁, X', ⟨g', mk, t, L, E, ce, e1, e2, hq, hce, hcv, hcl, h1, hL, h2, h3⟩, st⟩
  · dsimp only [Pt.U, Pt.locs, Pt.cells, Pt.slots] at X' e1 e2 h1 h2 h3 st
    subst h1; subst h2; subst h3
    exact Or.inl ⟨v, (T.setVm vm₁).calling g' mk (Value.ref b :: As).toArray, t, U', L, hT, X', hL, e1, e2, hq, st⟩
  · dsimp only [Pt.U, Pt.locs, Pt.cells, Pt.slots] at X' e1 e2 h1 h2 h3 st hcl
    subst h1; subst h2; subst h3
    exact Or.inr ⟨q, (T.setVm vm₁).calling g' mk (Value.ref b :: As).toArray, t, U', L, E, ce, hT, X', hL, e1, e2, hq, hce, hcv, vx_cls hW₁ hcl, st⟩
theorem vx_runS (S : CallFix p m c cc nL s args Ts own) (hM : vx_Met l y ws rm Pc Qc XC mc ms free) (cw : CallB R s args own index y bytes maxL ret ws rm mc ms n ∧ (Cond.static y).before args s = true) (hp : PreS s H Pc As)
    (hg : g.method = m) (hn : As.length = n) (hsize : g.locals.size = nL) (hstack : g.stack = As.reverse ++ rest) (hW : 2 * g.monitorRoom + (rest.map fun v => v.category).sum ≤ 8) (hdg : decode cc g.pc = .ok (.invokestatic index, 3)) (hf : cells + mc ≤ R.cells ∧ slots + ms ≤ R.slots) :
    vx_Run p l e R s m args below meth c H locs cells slots mc ms g rest (Qc As.toArray) XC free := by
  have hK : vx_Back l R p e below s args y 3 8 (PreOf R mc ms Pc) (PostOf Qc mc ms free) (vx_Post XC mc ms free) := vx_callBack cw.1 hM hp.1
  obtain ⟨⟨-, -, -, -, -, -, hcode, hini, hy, hlen, hl⟩, hstt⟩ := cw
  obtain ⟨hx, hb, hml, ho, -⟩ := S
  intro T hT X
  rcases vx_callS X hx (bytes := bytes) (maxL := maxL) (ret := ret) ho hl hstt hini hcode hy hK hg (hsize.trans hml.symm) (argsL := As) (rest := rest) (fun sig h => hn.trans (hlen sig h)) hstack hW (by rw [hb]; exact hdg)
    (fun vm₁ hW₁ => ⟨hf.1, hf.2, hp.2 (T.setVm vm₁) hT hW₁⟩) with ⟨v, vm₁, ⟨U', l2, c2, s2⟩, hW₁, X', ⟨g', mk, t, L, e1, e2, hq, h1, hL, h2, h3⟩, st⟩ | ⟨q, vm₁, ⟨U', l2, c2, s2⟩, hW₁, X', ⟨g', mk, t, L, E, ce, e1, e2, hq, hce, hcv, hcl, h1, hL, h2, h3⟩, st⟩
  · dsimp only [Pt.U, Pt.locs, Pt.cells, Pt.slots] at X' e1 e2 h1 h2 h3 st
    subst h1; subst h2; subst h3
    exact Or.inl ⟨v, (T.setVm vm₁).calling g' mk As.toArray, t, U', L, hT, X', hL, e1, e2, hq, st⟩
  · dsimp only [Pt.U, Pt.locs, Pt.cells, Pt.slots] at X' e1 e2 h1 h2 h3 st hcl
    subst h1; subst h2; subst h3
    exact Or.inr ⟨q, (T.setVm vm₁).calling g' mk As.toArray, t, U', L, E, ce, hT, X', hL, e1, e2, hq, hce, hcv, vx_cls hW₁ hcl, st⟩
end Runs
section Rows
variable {p : Program} {l : Launch} {e : Env} {R : Room} {s : State} {m : MethodId} {args : Array Value} {below : List Frame} {meth : Method} {c : Code} {H : Heap} {locs : List Loc} {cells slots : Nat} {Q : State → Prop}
variable {mc ms : Nat} {free : Addr → Prop} {A0 A1 : Nat → Prop} {H0 : Heap} {a : Array Value} {pc : Nat} {ls : Array Slot} {st0 rest : List Value}
theorem vx_keep {st₀ t T' : State} {L : List Loc} (h0 : st₀.heap = H) (e1 : T'.heap = t.heap) (hS : va_S A0 H0 H locs) (hA : ∀ q, q < H.size → A1 q → A0 q) (hf : ∀ q, free q → A0 q) (hL : ∀ q ∈ L, free q.base) (hF : va_F A1 st₀ t) :
    H.size ≤ T'.heap.size ∧ (∀ q : Nat, q < H.size → ¬ A1 q → T'.heap[q]? = H[q]?) ∧ va_S A0 H0 T'.heap (locs ++ L) := by
  obtain ⟨hz, hk⟩ := hF
  rw [h0] at hz hk
  exact ⟨by rw [e1]; exact hz, fun q h1 h2 => by rw [e1]; exact hk q h1 h2,
    ⟨Nat.le_trans hS.1 (by rw [e1]; exact hz), fun q h1 h2 => by rw [e1, hk q (Nat.lt_of_lt_of_le h1 hS.1) (fun z => h2 (hA q (Nat.lt_of_lt_of_le h1 hS.1) z))]; exact hS.2.1 q h1 h2, fun q hq => by
      rcases List.mem_append.mp hq with h | h
      · exact hS.2.2 q h
      · exact hf _ (hL q h)⟩⟩
theorem vx_calli {S SX : Type} {post : Int32 → S → Prop} {px : SX → Prop} {B : S → State → Prop} {BX : String → SX → State → Prop} {AX : Nat → Prop} (hr : vx_Run p l e R s m args below meth c H locs cells slots mc ms (F0 m pc ls st0) rest (va_Qi post B A1 a) (vx_X px BX AX) free) (hS : va_S A0 H0 H locs) (hA : ∀ q, q < H.size → A1 q → A0 q) (hf : ∀ q, free q → A0 q) (hAX : ∀ q, q < H.size → AX q → A0 q)
    (kx : ∀ (E : String) (ce : Cell) (q9 : Addr) (u : SX) (t : State) (H1 : Heap) (locs1 : List Loc), t.heap = H1 → s.vm.Alike t.vm → px u → BX E u t → H.size ≤ H1.size → (∀ q : Nat, q < H.size → ¬ AX q → H1[q]? = H[q]?) → va_S A0 H0 H1 locs1 → H1[q9]? = some ce → ce.vm = .none → s.vm.findClass E = some ce.cls → vx_W p l e R s m args below meth c H1 locs1 (cells + mc) (slots + ms) Q (F0 m pc ls rest) q9)
    (kk : ∀ (r : Int32) (u : S) (t : State) (H1 : Heap) (locs1 : List Loc), t.heap = H1 → s.vm.Alike t.vm → post r u → B u t → H.size ≤ H1.size → (∀ q : Nat, q < H.size → ¬ A1 q → H1[q]? = H[q]?) → va_S A0 H0 H1 locs1 → W p l e R s m args below meth c H1 locs1 (cells + mc) (slots + ms) Q (F0 m (pc + 3) ls (.int r :: rest))) : W p l e R s m args below meth c H locs cells slots Q (F0 m pc ls st0) := by
  intro T hT X
  rcases hr T hT X with ⟨v, st₀, t, T', L, h0, X', hL, e1, e2, ⟨⟨r, u, hv, hp, hb⟩, hF⟩, st⟩ | ⟨q, st₀, t, T', L, E, ce, h0, X', hL, e1, e2, ⟨u, hp, hb, hF⟩, hce, hcv, hcl, st⟩
  · cases hv
    obtain ⟨k1, k2, k3⟩ := vx_keep h0 e1 hS hA hf hL hF
    obtain ⟨t2, a1, b1⟩ := kk r u t T'.heap (locs ++ L) e1.symm (by rw [← e2]; exact X'.warmed.alike) hp hb k1 k2 k3 T' rfl X'
    exact ⟨t2, st t2 a1, b1⟩
  · obtain ⟨k1, k2, k3⟩ := vx_keep h0 e1 hS hAX hf hL hF
    obtain ⟨t2, a1, b1⟩ := kx E ce q u t T'.heap (locs ++ L) e1.symm (by rw [← e2]; exact X'.warmed.alike) hp hb k1 k2 k3 (by rw [e1]; exact hce) hcv hcl T' rfl X'
    exact ⟨t2, st.trans a1, b1⟩
theorem vx_calll {S SX : Type} {post : Int64 → S → Prop} {px : SX → Prop} {B : S → State → Prop} {BX : String → SX → State → Prop} {AX : Nat → Prop} (hr : vx_Run p l e R s m args below meth c H locs cells slots mc ms (F0 m pc ls st0) rest (va_Ql post B A1 a) (vx_X px BX AX) free) (hS : va_S A0 H0 H locs) (hA : ∀ q, q < H.size → A1 q → A0 q) (hf : ∀ q, free q → A0 q) (hAX : ∀ q, q < H.size → AX q → A0 q)
    (kx : ∀ (E : String) (ce : Cell) (q9 : Addr) (u : SX) (t : State) (H1 : Heap) (locs1 : List Loc), t.heap = H1 → s.vm.Alike t.vm → px u → BX E u t → H.size ≤ H1.size → (∀ q : Nat, q < H.size → ¬ AX q → H1[q]? = H[q]?) → va_S A0 H0 H1 locs1 → H1[q9]? = some ce → ce.vm = .none → s.vm.findClass E = some ce.cls → vx_W p l e R s m args below meth c H1 locs1 (cells + mc) (slots + ms) Q (F0 m pc ls rest) q9)
    (kk : ∀ (r : Int64) (u : S) (t : State) (H1 : Heap) (locs1 : List Loc), t.heap = H1 → s.vm.Alike t.vm → post r u → B u t → H.size ≤ H1.size → (∀ q : Nat, q < H.size → ¬ A1 q → H1[q]? = H[q]?) → va_S A0 H0 H1 locs1 → W p l e R s m args below meth c H1 locs1 (cells + mc) (slots + ms) Q (F0 m (pc + 3) ls (.long r :: rest))) : W p l e R s m args below meth c H locs cells slots Q (F0 m pc ls st0) := by
  intro T hT X
  rcases hr T hT X with ⟨v, st₀, t, T', L, h0, X', hL, e1, e2, ⟨⟨r, u, hv, hp, hb⟩, hF⟩, st⟩ | ⟨q, st₀, t, T', L, E, ce, h0, X', hL, e1, e2, ⟨u, hp, hb, hF⟩, hce, hcv, hcl, st⟩
  · cases hv
    obtain ⟨k1, k2, k3⟩ := vx_keep h0 e1 hS hA hf hL hF
    obtain ⟨t2, a1, b1⟩ := kk r u t T'.heap (locs ++ L) e1.symm (by rw [← e2]; exact X'.warmed.alike) hp hb k1 k2 k3 T' rfl X'
    exact ⟨t2, st t2 a1, b1⟩
  · obtain ⟨k1, k2, k3⟩ := vx_keep h0 e1 hS hAX hf hL hF
    obtain ⟨t2, a1, b1⟩ := kx E ce q u t T'.heap (locs ++ L) e1.symm (by rw [← e2]; exact X'.warmed.alike) hp hb k1 k2 k3 (by rw [e1]; exact hce) hcv hcl T' rfl X'
    exact ⟨t2, st.trans a1, b1⟩
theorem vx_callf {S SX : Type} {post : UInt32 → S → Prop} {px : SX → Prop} {B : S → State → Prop} {BX : String → SX → State → Prop} {AX : Nat → Prop} (hr : vx_Run p l e R s m args below meth c H locs cells slots mc ms (F0 m pc ls st0) rest (va_Qf post B A1 a) (vx_X px BX AX) free) (hS : va_S A0 H0 H locs) (hA : ∀ q, q < H.size → A1 q → A0 q) (hf : ∀ q, free q → A0 q) (hAX : ∀ q, q < H.size → AX q → A0 q)
    (kx : ∀ (E : String) (ce : Cell) (q9 : Addr) (u : SX) (t : State) (H1 : Heap) (locs1 : List Loc), t.heap = H1 → s.vm.Alike t.vm → px u → BX E u t → H.size ≤ H1.size → (∀ q : Nat, q < H.size → ¬ AX q → H1[q]? = H[q]?) → va_S A0 H0 H1 locs1 → H1[q9]? = some ce → ce.vm = .none → s.vm.findClass E = some ce.cls → vx_W p l e R s m args below meth c H1 locs1 (cells + mc) (slots + ms) Q (F0 m pc ls rest) q9)
    (kk : ∀ (r : UInt32) (u : S) (t : State) (H1 : Heap) (locs1 : List Loc), t.heap = H1 → s.vm.Alike t.vm → post r u → B u t → H.size ≤ H1.size → (∀ q : Nat, q < H.size → ¬ A1 q → H1[q]? = H[q]?) → va_S A0 H0 H1 locs1 → W p l e R s m args below meth c H1 locs1 (cells + mc) (slots + ms) Q (F0 m (pc + 3) ls (.float r :: rest))) : W p l e R s m args below meth c H locs cells slots Q (F0 m pc ls st0) := by
  intro T hT X
  rcases hr T hT X with ⟨v, st₀, t, T', L, h0, X', hL, e1, e2, ⟨⟨r, u, hv, hp, hb⟩, hF⟩, st⟩ | ⟨q, st₀, t, T', L, E, ce, h0, X', hL, e1, e2, ⟨u, hp, hb, hF⟩, hce, hcv, hcl, st⟩
  · cases hv
    obtain ⟨k1, k2, k3⟩ := vx_keep h0 e1 hS hA hf hL hF
    obtain ⟨t2, a1, b1⟩ := kk r u t T'.heap (locs ++ L) e1.symm (by rw [← e2]; exact X'.warmed.alike) hp hb k1 k2 k3 T' rfl X'
    exact ⟨t2, st t2 a1, b1⟩
  · obtain ⟨k1, k2, k3⟩ := vx_keep h0 e1 hS hAX hf hL hF
    obtain ⟨t2, a1, b1⟩ := kx E ce q u t T'.heap (locs ++ L) e1.symm (by rw [← e2]; exact X'.warmed.alike) hp hb k1 k2 k3 (by rw [e1]; exact hce) hcv hcl T' rfl X'
    exact ⟨t2, st.trans a1, b1⟩
theorem vx_calld {S SX : Type} {post : UInt64 → S → Prop} {px : SX → Prop} {B : S → State → Prop} {BX : String → SX → State → Prop} {AX : Nat → Prop} (hr : vx_Run p l e R s m args below meth c H locs cells slots mc ms (F0 m pc ls st0) rest (va_Qd post B A1 a) (vx_X px BX AX) free) (hS : va_S A0 H0 H locs) (hA : ∀ q, q < H.size → A1 q → A0 q) (hf : ∀ q, free q → A0 q) (hAX : ∀ q, q < H.size → AX q → A0 q)
    (kx : ∀ (E : String) (ce : Cell) (q9 : Addr) (u : SX) (t : State) (H1 : Heap) (locs1 : List Loc), t.heap = H1 → s.vm.Alike t.vm → px u → BX E u t → H.size ≤ H1.size → (∀ q : Nat, q < H.size → ¬ AX q → H1[q]? = H[q]?) → va_S A0 H0 H1 locs1 → H1[q9]? = some ce → ce.vm = .none → s.vm.findClass E = some ce.cls → vx_W p l e R s m args below meth c H1 locs1 (cells + mc) (slots + ms) Q (F0 m pc ls rest) q9)
    (kk : ∀ (r : UInt64) (u : S) (t : State) (H1 : Heap) (locs1 : List Loc), t.heap = H1 → s.vm.Alike t.vm → post r u → B u t → H.size ≤ H1.size → (∀ q : Nat, q < H.size → ¬ A1 q → H1[q]? = H[q]?) → va_S A0 H0 H1 locs1 → W p l e R s m args below meth c H1 locs1 (cells + mc) (slots + ms) Q (F0 m (pc + 3) ls (.double r :: rest))) : W p l e R s m args below meth c H locs cells slots Q (F0 m pc ls st0) := by
  intro T hT X
  rcases hr T hT X with ⟨v, st₀, t, T', L, h0, X', hL, e1, e2, ⟨⟨r, u, hv, hp, hb⟩, hF⟩, st⟩ | ⟨q, st₀, t, T', L, E, ce, h0, X', hL, e1, e2, ⟨u, hp, hb, hF⟩, hce, hcv, hcl, st⟩
  · cases hv
    obtain ⟨k1, k2, k3⟩ := vx_keep h0 e1 hS hA hf hL hF
    obtain ⟨t2, a1, b1⟩ := kk r u t T'.heap (locs ++ L) e1.symm (by rw [← e2]; exact X'.warmed.alike) hp hb k1 k2 k3 T' rfl X'
    exact ⟨t2, st t2 a1, b1⟩
  · obtain ⟨k1, k2, k3⟩ := vx_keep h0 e1 hS hAX hf hL hF
    obtain ⟨t2, a1, b1⟩ := kx E ce q u t T'.heap (locs ++ L) e1.symm (by rw [← e2]; exact X'.warmed.alike) hp hb k1 k2 k3 (by rw [e1]; exact hce) hcv hcl T' rfl X'
    exact ⟨t2, st.trans a1, b1⟩
theorem vx_callv {S SX : Type} {post : S → Prop} {px : SX → Prop} {B : S → State → Prop} {BX : String → SX → State → Prop} {AX : Nat → Prop} (hr : vx_Run p l e R s m args below meth c H locs cells slots mc ms (F0 m pc ls st0) rest (va_Qv post B A1 a) (vx_X px BX AX) free) (hS : va_S A0 H0 H locs) (hA : ∀ q, q < H.size → A1 q → A0 q) (hf : ∀ q, free q → A0 q) (hAX : ∀ q, q < H.size → AX q → A0 q)
    (kx : ∀ (E : String) (ce : Cell) (q9 : Addr) (u : SX) (t : State) (H1 : Heap) (locs1 : List Loc), t.heap = H1 → s.vm.Alike t.vm → px u → BX E u t → H.size ≤ H1.size → (∀ q : Nat, q < H.size → ¬ AX q → H1[q]? = H[q]?) → va_S A0 H0 H1 locs1 → H1[q9]? = some ce → ce.vm = .none → s.vm.findClass E = some ce.cls → vx_W p l e R s m args below meth c H1 locs1 (cells + mc) (slots + ms) Q (F0 m pc ls rest) q9)
    (kk : ∀ (u : S) (t : State) (H1 : Heap) (locs1 : List Loc), t.heap = H1 → s.vm.Alike t.vm → post u → B u t → H.size ≤ H1.size → (∀ q : Nat, q < H.size → ¬ A1 q → H1[q]? = H[q]?) → va_S A0 H0 H1 locs1 → W p l e R s m args below meth c H1 locs1 (cells + mc) (slots + ms) Q (F0 m (pc + 3) ls (rest))) : W p l e R s m args below meth c H locs cells slots Q (F0 m pc ls st0) := by
  intro T hT X
  rcases hr T hT X with ⟨v, st₀, t, T', L, h0, X', hL, e1, e2, ⟨⟨u, hv, hp, hb⟩, hF⟩, st⟩ | ⟨q, st₀, t, T', L, E, ce, h0, X', hL, e1, e2, ⟨u, hp, hb, hF⟩, hce, hcv, hcl, st⟩
  · cases hv
    obtain ⟨k1, k2, k3⟩ := vx_keep h0 e1 hS hA hf hL hF
    obtain ⟨t2, a1, b1⟩ := kk u t T'.heap (locs ++ L) e1.symm (by rw [← e2]; exact X'.warmed.alike) hp hb k1 k2 k3 T' rfl X'
    exact ⟨t2, st t2 a1, b1⟩
  · obtain ⟨k1, k2, k3⟩ := vx_keep h0 e1 hS hAX hf hL hF
    obtain ⟨t2, a1, b1⟩ := kx E ce q u t T'.heap (locs ++ L) e1.symm (by rw [← e2]; exact X'.warmed.alike) hp hb k1 k2 k3 (by rw [e1]; exact hce) hcv hcl T' rfl X'
    exact ⟨t2, st.trans a1, b1⟩
/-- caught by the row x of this method's table; the rows ahead don't take it -/
theorem vx_catch {own name : String} {E : String} {ce : Cell} {q : Addr} (hown : s.vm.findClass own = some m.cls) (pre : List ExceptionTableEntry) (x : ExceptionTableEntry) (suf : List ExceptionTableEntry) (hsplit : c.exceptionTable.toList = pre ++ x :: suf)
    (hpass : ∀ z ∈ pre, covers z pc = false ∨ (z.catchType ≠ 0 ∧ ∃ nm : String, (Cond.classLink own z.catchType nm).before args s = true ∧ va_Nc E nm s)) (hx : covers x pc = true) (h0 : x.catchType ≠ 0)
    (hlink : (Cond.classLink own x.catchType name).before args s = true) (hcast : (Cond.castable E name).before args s = true) (hcell : H[q]? = some ce) (hv : ce.vm = .none) (hcl : s.vm.findClass E = some ce.cls)
    (kk : W p l e R s m args below meth c H locs cells slots Q (F0 m x.handlerPc ls [.ref q])) : vx_W p l e R s m args below meth c H locs cells slots Q (F0 m pc ls rest) q := by
  intro T hT X
  have hpl : e.platform.magicAccessors = ({} : Platform).magicAccessors := by rw [X.admits.platform]
  obtain ⟨c3, c4, hc3, hc4, hasg⟩ := Cond.castable_spec hcast
  cases Option.some.inj (hc3.symm.trans hcl)
  obtain ⟨c5, hc5, hcl5⟩ := Cond.classLink_spec hown hlink e.platform hpl
  cases Option.some.inj (hc4.symm.trans hc5)
  obtain ⟨vm', X', st⟩ := X.thenCaughtThrough q (g := F0 m pc ls rest) rfl (Steps.refl _) (by rw [hT]; exact hcell) (by rw [hv]; rfl) (by obtain ⟨k9, h9, -⟩ := Vm.findClass_spec hcl; exact ⟨k9, h9⟩) pre x suf hsplit
    (fun z hz => by
      rcases hpass z hz with h | ⟨hz0, nm, hl1, hn1⟩
      · exact Or.inl h
      · obtain ⟨c6, hc6, hcl6⟩ := Cond.classLink_spec hown hl1 e.platform hpl
        obtain ⟨a8, b8, h1, h2, h3⟩ := hn1
        cases Option.some.inj (h1.symm.trans hcl)
        cases Option.some.inj (h2.symm.trans hc6)
        exact Or.inr ⟨hz0, _, hcl6, h3⟩) hx (Or.inr ⟨h0, c4, hcl5, hasg⟩)
  obtain ⟨t, a1, b1⟩ := kk (T.setVm vm') hT X'
  exact ⟨t, st.trans a1, b1⟩
end Rows
section Ends
variable {p : Program} {l : Launch} {e : Env} {R : Room} {s : State} {m : MethodId} {args : Array Value} {below : List Frame} {meth : Method} {c : Code} {H : Heap} {locs : List Loc} {cells slots : Nat} {Q : State → Prop}
variable {mc ms : Nat} {free : Addr → Prop} {A0 A1 : Nat → Prop} {H0 : Heap} {a : Array Value} {ls : Array Slot} {st0 rest : List Value}
variable {Qc : Array Value → State → Outcome → State → Prop} {XC : String → State → State → Prop}
/-- what a body that may throw owes at its end -/
def vx_MQ (below : List Frame) (Qc : Array Value → State → Outcome → State → Prop) (XC : String → State → State → Prop) (a : Array Value) (s : State) (mc ms : Nat) (free : Addr → Prop) : State → Prop := fun t =>
  ∃ o, t.status = .running ∧ Ended t below o ∧ vx_Q Qc XC mc ms free a s o t
theorem vx_ret {g : JFrame} {mc ms : Nat} (k : W p l e R s m args below meth c H locs cells slots (MQ below Qc args s mc ms free) g) : W p l e R s m args below meth c H locs cells slots (vx_MQ below Qc XC args s mc ms free) g := by
  intro T hT X
  obtain ⟨t, a1, o, b1, b2, b3, b4⟩ := k T hT X
  exact ⟨t, a1, o, b1, b2, Or.inl ⟨b3, b4⟩⟩
/-- not caught here: it goes on to the caller -/
theorem vx_widen {g : JFrame} {q : Addr} {k n : Nat} (h1 : cells ≤ k) (h2 : slots ≤ n) (kk : vx_W p l e R s m args below meth c H locs k n Q g q) : vx_W p l e R s m args below meth c H locs cells slots Q g q := fun T hT X => kk T hT (stand_widen X h1 h2)
theorem vx_out {pc : Nat} {E : String} {ce : Cell} {q : Addr} {mc ms : Nat} (hout : ∀ x ∈ c.exceptionTable.toList, covers x pc = false) (hlocks : meth.locks = false) (hcell : H[q]? = some ce) (hv : ce.vm = .none) (hcl : s.vm.findClass E = some ce.cls)
    (hx : ∀ t : State, t.heap = H → s.vm.Alike t.vm → XC E s t) (hf : ∀ z ∈ locs, free z.base) (hc : cells ≤ mc) (hs : slots ≤ ms) :
    vx_W p l e R s m args below meth c H locs cells slots (vx_MQ below Qc XC args s mc ms free) (F0 m pc ls rest) q := by
  intro T hT X
  obtain ⟨st1, hrun, hend, hW, hsm⟩ := X.leaveThrown q (g := F0 m pc ls rest) rfl rfl rfl hout hlocks
  have hcell9 : (T.setFrames (.throwing q :: below)).heap[q]? = some ce := by
    show T.heap[q]? = some ce
    rw [hT]; exact hcell
  exact ⟨_, st1, .threw q, hrun, hend, Or.inr ⟨q, rfl, E, ce, locs, hx _ hT hW.alike, hcell9, hv, hcl, hW, hsm.mono hc hs, hf⟩⟩
theorem vx_frame {U : State} {k n : Nat} (h : s.sameButNew ({ U with vm := s.vm } : State) locs k n) : s.heap.size ≤ U.heap.size ∧ ∀ q : Nat, q < s.heap.size → (∀ z ∈ locs, z.base ≠ q) → U.heap[q]? = s.heap[q]? := by
  obtain ⟨-, h2, -, -, -, h6⟩ := h
  refine ⟨h2, fun q hq hz => ?_⟩
  obtain ⟨c9, e1, e2, e3, e4⟩ := h6 q _ (Array.getElem?_eq_getElem hq)
  have hs : c9.slots = (s.heap[q]).slots := Array.ext_getElem? fun i => e4 i fun hm => hz _ hm rfl
  have h9 : c9 = s.heap[q] := by
    rw [hs] at e2
    exact e2
  have e5 : U.heap[q]? = some c9 := e1
  rw [e5, h9, Array.getElem?_eq_getElem hq]
/-- the words of a throw but the four that speak of the heap -/
def vx_no (w : Cond) : Bool := decide (w ≠ .isRef (.static Bundle.tN "UNASSIGNED_STACK" Bundle.steD)) && decide (w ≠ .isRef (.static Bundle.tN "SUPPRESSED_SENTINEL" Bundle.listD)) && decide (w ≠ .laysStatic Bundle.tN "UNASSIGNED_STACK" Bundle.steD) && decide (w ≠ .laysStatic Bundle.tN "SUPPRESSED_SENTINEL" Bundle.listD)
def vx_at0 (own : String) (ic : Nat) (X : String) (names : List String) : List Cond := (Bundle.ownAtoms0 own ic X names).filter vx_no
def vx_atS (own : String) (ic : Nat) (X : String) (names : List String) : List Cond := (Bundle.ownAtoms own ic X names).filter vx_no
/-- a word that the tables alone decide, or a good one -/
def vx_ot (w : Cond) : Bool := w.onTables || goodWord w
theorem vx_ot_at {args a' : Array Value} {s U : State} {w : Cond} (hW : s.WarmedH U.vm) (hvm : s.vm = U.vm) (hg : vx_ot w = true) (h : w.before args s = true) : w.before a' U = true := by
  simp only [vx_ot, Bool.or_eq_true] at hg
  rcases hg with hg | hg
  · exact va_tabs hg hvm h
  · exact word_at hW (good_of_word hg) h
/-- a list's words: the good ones out of the method's own list, the others by premises of their own -/
theorem vx_hat {args : Array Value} {s : State} {L B : List Cond} (h1 : ∀ w ∈ L.filter goodWord, w.before args s = true) (h2 : ∀ w ∈ L.filter (fun w => !goodWord w), w ∈ B) (h3 : ∀ w ∈ B, w.before args s = true) : ∀ w ∈ L, w.before args s = true := by
  intro w hw
  by_cases g : goodWord w = true
  · exact h1 w (List.mem_filter.mpr ⟨hw, g⟩)
  · refine h3 w (h2 w (List.mem_filter.mpr ⟨hw, ?_⟩))
    show (!goodWord w) = true
    cases hgw : goodWord w
    · rfl
    · exact absurd hgw g
theorem vx_c {args : Array Value} {s : State} {w : Cond} {B : List Cond} (h : w.before args s = true) (t : ∀ w ∈ B, w.before args s = true) : ∀ w' ∈ w :: B, w'.before args s = true := fun w' h' => (List.mem_cons.mp h').elim (fun e => by rw [e]; exact h) (t w')
theorem vx_n {args : Array Value} {s : State} : ∀ w ∈ ([] : List Cond), w.before args s = true := fun _ h => nomatch h
theorem vx_own {args : Array Value} {s : State} {L : List Cond} (h1 : ∀ w ∈ L.filter vx_no, w.before args s = true)
    (hU : (Cond.isRef (.static Bundle.tN "UNASSIGNED_STACK" Bundle.steD)).before args s = true) (hN : (Cond.isRef (.static Bundle.tN "SUPPRESSED_SENTINEL" Bundle.listD)).before args s = true)
    (lU : (Cond.laysStatic Bundle.tN "UNASSIGNED_STACK" Bundle.steD).before args s = true) (lN : (Cond.laysStatic Bundle.tN "SUPPRESSED_SENTINEL" Bundle.listD).before args s = true) : ∀ w ∈ L, w.before args s = true := by
  intro w hw
  by_cases e1 : w = .isRef (.static Bundle.tN "UNASSIGNED_STACK" Bundle.steD)
  · rw [e1]; exact hU
  · by_cases e2 : w = .isRef (.static Bundle.tN "SUPPRESSED_SENTINEL" Bundle.listD)
    · rw [e2]; exact hN
    · by_cases e3 : w = .laysStatic Bundle.tN "UNASSIGNED_STACK" Bundle.steD
      · rw [e3]; exact lU
      · by_cases e4 : w = .laysStatic Bundle.tN "SUPPRESSED_SENTINEL" Bundle.listD
        · rw [e4]; exact lN
        · exact h1 w (List.mem_filter.mpr ⟨hw, by unfold vx_no; rw [decide_eq_true e1, decide_eq_true e2, decide_eq_true e3, decide_eq_true e4]; rfl⟩)
/-- where a static field lies, its class's statics cell in H -/
def vx_L (C n d : String) (A : Nat → Prop) (U : State) (H : Heap) : Prop := ∃ (c : ClassId) (k : Class) (i : Nat) (f : Field) (a : Nat) (cell : Cell), U.vm.findClass C = some c ∧ U.fieldFound? C n d = some (c, k, i, f) ∧ f.isStatic = true ∧ k.statics = some a ∧ H[a]? = some cell ∧ cell.vm.isStatics = true ∧ cell.cls = c ∧ f.slot < cell.slots.size ∧ k.staticTypes[f.slot]? = some f.type ∧ ¬ A a
theorem vx_L.moved {C n d : String} {A : Nat → Prop} {u U : State} {H : Heap} (hvm : u.vm.Alike U.vm) (h : vx_L C n d A u H) : vx_L C n d A U H := by
  obtain ⟨c, k, i, f, a, cell, h1, h2, h3, h4, h5, h6, h7, h8, h9, h10⟩ := h
  obtain ⟨k', hi', he⟩ := State.fieldFound?_setVm hvm h2
  exact ⟨c, k', i, f, a, cell, by rw [hvm.findClass]; exact h1, hi', h3, by rw [he]; exact h4, h5, h6, h7, h8, by rw [he]; exact h9, h10⟩
theorem vx_L.kept {C n d : String} {A : Nat → Prop} {U : State} {H H1 : Heap} (h : vx_L C n d A U H) (hq : ∀ a : Nat, a < H.size → ¬ A a → H1[a]? = H[a]?) : vx_L C n d A U H1 := by
  obtain ⟨c, k, i, f, a, cell, h1, h2, h3, h4, h5, h6, h7, h8, h9, h10⟩ := h
  exact ⟨c, k, i, f, a, cell, h1, h2, h3, h4, by rw [hq a (Array.getElem?_eq_some_iff.mp h5).1 h10]; exact h5, h6, h7, h8, h9, h10⟩
theorem vx_L.narrow {C n d : String} {A B : Nat → Prop} {U : State} {H : Heap} (h : vx_L C n d A U H) (hAB : ∀ q, B q → A q) : vx_L C n d B U H := by
  obtain ⟨c, k, i, f, a, cell, h1, h2, h3, h4, h5, h6, h7, h8, h9, h10⟩ := h
  exact ⟨c, k, i, f, a, cell, h1, h2, h3, h4, h5, h6, h7, h8, h9, fun z => h10 (hAB _ z)⟩
theorem vx_L.word {C n d : String} {A : Nat → Prop} {s : State} {args : Array Value} (h : vx_L C n d A s s.heap) : (Cond.laysStatic C n d).before args s = true := by
  obtain ⟨c, k, i, f, a, cell, h1, h2, h3, h4, h5, h6, h7, h8, h9, -⟩ := h
  show (Cond.laysStatic C n d).holds args s none s [] = true
  exact Cond.laysStatic_of h1 h2 h3 h4 h5 h6 h7 h8 h9
/-- .. and what it holds: null or some reference -/
def vx_Zq (C n d : String) (A : Nat → Prop) (U : State) (H : Heap) : Prop := va_Zq C n d A U H ∧ vx_L C n d A U H
theorem vx_Zq.moved {C n d : String} {A : Nat → Prop} {u U : State} {H : Heap} (hvm : u.vm.Alike U.vm) (h : vx_Zq C n d A u H) : vx_Zq C n d A U H := ⟨va_Zq.moved hvm h.1, vx_L.moved hvm h.2⟩
theorem vx_Zq.kept {C n d : String} {A : Nat → Prop} {U : State} {H H1 : Heap} (h : vx_Zq C n d A U H) (hq : ∀ a : Nat, a < H.size → ¬ A a → H1[a]? = H[a]?) : vx_Zq C n d A U H1 := ⟨va_Zq.kept h.1 hq, vx_L.kept h.2 hq⟩
theorem vx_Zq.narrow {C n d : String} {A B : Nat → Prop} {U : State} {H : Heap} (h : vx_Zq C n d A U H) (hAB : ∀ q, B q → A q) : vx_Zq C n d B U H := ⟨va_Zq.narrow h.1 hAB, vx_L.narrow h.2 hAB⟩
theorem vx_Zqof {args : Array Value} {s : State} {C n d : String} {A : Nat → Prop} (hl : (Cond.laysStatic C n d).before args s = true) (hini : (Cond.initialized C).before args s = true) (h : (Cond.isRef (.static C n d)).before args s = true) (hA : ∀ a : Nat, a < s.heap.size → ¬ A a) : vx_Zq C n d A s s.heap := by
  refine ⟨va_Zqof hl hini h hA, ?_⟩
  obtain ⟨c, k, i, f, a, cell, h1, h2, h3, h4, h5, h6, h7, h8, h9⟩ := Cond.laysStatic_spec hl
  exact ⟨c, k, i, f, a, cell, h1, h2, h3, h4, h5, h6, h7, h8, h9, hA a (Array.getElem?_eq_some_iff.mp h5).1⟩
theorem vx_isRef {C n d : String} {v : Value} {A : Nat → Prop} {s : State} {args : Array Value} (h : va_Z C n d v A s s.heap) (hv : v.isRef = true) : (Cond.isRef (.static C n d)).before args s = true := by
  obtain ⟨cf, kf, fi, f, a, cell, h1, h2, h3, h4, h5, h6, h7, -⟩ := h
  have he : (Term.static C n d).eval args s none [] s = some v := by
    simp [Term.eval, State.fieldNamed?, h1, h2, h4, h5, h6, h7]
  simp only [Cond.before, Cond.holds, Cond.value, he]
  cases v <;> simp_all [Value.isRef]
theorem vx_isRefq {C n d : String} {A : Nat → Prop} {s : State} {args : Array Value} (h : va_Zq C n d A s s.heap) : (Cond.isRef (.static C n d)).before args s = true := by
  rcases h with h | ⟨t, h⟩
  · exact vx_isRef h rfl
  · exact vx_isRef h rfl
/-- the same frame, seen from here: as if the method were called anew in this heap -/
theorem vx_rebase {T : State} (X : Stand p l e R s m args below meth c T locs cells slots) {R' : Room} (hf : R'.frames ≤ R.frames) (hl : R'.locals ≤ R.locals) (hc : cells + R'.cells ≤ R.cells) (hs : slots + R'.slots ≤ R.slots) :
    Stand p l e R' ((T.setVm s.vm).setFrames (.invoking m args :: below)) m args below meth c T [] 0 0 := by
  have htop : (T.setVm s.vm).topJava?.isSome := X.here.top
  have hF : ((T.setVm s.vm).setFrames (.invoking m args :: below)).frames = .invoking m args :: below := State.frames_setFrames _ (State.cur_lt_of_top htop)
  obtain ⟨g₀, hg0⟩ := Option.isSome_iff_exists.mp htop
  obtain ⟨r, hr⟩ := State.topJava?_eq_some.mp hg0
  have hl9 : e.platform.stackLimits (T.setVm s.vm).me = e.platform.stackLimits s.me := X.limits
  have hb9 : (T.setVm s.vm).me.stackBytes = s.me.stackBytes := X.bytes
  refine ⟨X.admits, X.cas, X.clock, hF, ?_, X.hears, X.method, X.code, X.here, X.tail, X.warmed, ?_, ?_, ?_⟩
  · have h := X.room
    have hU : ((T.setVm s.vm).setFrames (.invoking m args :: below)).localsInUse = s.localsInUse := by
      rw [State.localsInUse_invoking hF (meth := meth) (c := c) X.method X.code, State.localsInUse_invoking X.frames X.method X.code]
    simp only [State.hasRoom, Bool.and_eq_true, decide_eq_true_eq] at h ⊢
    obtain ⟨⟨⟨⟨h1, h2, h3, h4, h5, h6⟩, h7⟩, h8⟩, h9⟩ := h
    rw [X.frames, List.length_cons] at h2 h3
    have q1 := X.heapSize
    have q2 := X.used
    simp only [hF, hU, List.length_cons, State.stackLimits_setFrames, State.stackBytes_setFrames, hl9, hb9]
    refine ⟨⟨⟨⟨by omega, by omega, by omega, by omega, by omega, h6⟩, ?_⟩, ?_⟩, X.book⟩
    · show T.heap.size + R'.cells ≤ e.platform.maxCells
      omega
    · show T.slotsUsed + R'.slots ≤ e.platform.maxSlots
      omega
  · rw [State.stackLimits_setFrames]; rfl
  · rw [State.stackBytes_setFrames]; rfl
  · refine ⟨?_, Nat.le_refl _, Nat.le_refl _, ?_, ?_, fun a c9 h9 => ⟨c9, h9, rfl, rfl, fun _ _ => rfl⟩⟩
    · obtain ⟨t, ht, -⟩ := State.frames_cons hr
      show T.setVm s.vm = { ((T.setVm s.vm).setFrames (.invoking m args :: below)).setFrames (T.setVm s.vm).frames with heap := T.heap, slotsUsed := T.slotsUsed }
      rw [State.setFrames_setFrames, State.setFrames_self ht]
      rfl
    · show T.slotsUsed = T.slotsUsed + ((T.heap.toList.drop T.heap.size).map (·.slots.size)).sum
      rw [List.drop_eq_nil_of_le (Nat.le_of_eq Array.length_toList)]
      rfl
    · show ((T.heap.toList.drop T.heap.size).map (·.slots.size)).sum ≤ 0
      rw [List.drop_eq_nil_of_le (Nat.le_of_eq Array.length_toList)]
      exact Nat.le_refl _
/-- 'throw new E()': new; dup; invokespecial; athrow -/
theorem vx_throw0 {cc : ByteArray} {pc : Nat} (hexec : p.tables.exec = Jvm.exec) (hb : c.code = cc) (hl : l.stackTraces = false) {own cls : String} {names : List String} {ik ic mc ms : Nat} {A : Nat → Prop}
    (hown : s.vm.findClass own = some m.cls) (hcls : Bundle.fit cls = true) (hnames : ∀ n ∈ names, Bundle.fit n = true)
    (hk : (Cond.classLink own ik cls).before args s = true) (hini : (Cond.initialized cls).before args s = true) (hat : ∀ w ∈ vx_at0 own ic cls names, w.before args s = true)
    (hgood : ∀ w ∈ Cond.classLink own ik cls :: Cond.initialized cls :: vx_at0 own ic cls names, vx_ot w = true)
    (hU : vx_Zq Bundle.tN "UNASSIGNED_STACK" Bundle.steD A s s.heap) (hN : vx_Zq Bundle.tN "SUPPRESSED_SENTINEL" Bundle.listD A s s.heap) (hS : va_S A s.heap H locs) (hsize : ls.size = c.maxLocals)
    (d0 : decode cc pc = .ok (.new ik, 3)) (d3 : decode cc (pc + 3) = .ok (.dup, 1)) (d4 : decode cc (pc + 4) = .ok (.invokespecial ic, 3)) (d7 : decode cc (pc + 7) = .ok (.athrow, 1))
    (hout : ∀ x ∈ c.exceptionTable.toList, covers x (pc + 7) = false)
    (hRframes : names.length + 3 < R.frames) (hRlocals : (rest.map fun v => v.category).sum + (13 * (names.length + 1) + 42) ≤ R.locals) (hRcells : cells + 1 ≤ R.cells) (hRslots : slots + 6 ≤ R.slots) (hlocks : meth.locks = false)
    (hx : ∀ t : State, s.vm.Alike t.vm → H.size ≤ t.heap.size → (∀ q : Nat, q < H.size → t.heap[q]? = H[q]?) → XC cls s t)
    (hf : ∀ z ∈ locs, free z.base) (hc : cells + 1 ≤ mc) (hs : slots + 6 ≤ ms) :
    W p l e R s m args below meth c H locs cells slots (vx_MQ below Qc XC args s mc ms free) (F0 m pc ls rest) := by
  intro T hT X
  have htr : e.platform.stackTraces = false := (show e.platform.stackTraces = l.stackTraces by rw [X.admits.platform]).trans hl
  have Y := vx_rebase X (R' := { frames := R.frames, locals := R.locals, cells := 1, slots := 6 }) (Nat.le_refl _) (Nat.le_refl _) hRcells hRslots
  obtain ⟨s', hA⟩ : ∃ z, z = (T.setVm s.vm).setFrames (.invoking m args :: below) := ⟨_, rfl⟩
  rw [← hA] at Y
  have hvm : s'.vm = s.vm := by rw [hA]; rfl
  have hhp : s'.heap = H := by rw [hA]; exact hT
  have hW0 : s.WarmedH s'.vm := by rw [hvm]; exact State.WarmedH.refl s
  have hat' : ∀ w ∈ vx_at0 own ic cls names, w.before args s' = true := fun w hw => vx_ot_at hW0 hvm.symm (hgood w (List.mem_cons_of_mem _ (List.mem_cons_of_mem _ hw))) (hat w hw)
  have hk' : (Cond.classLink own ik cls).before args s' = true := vx_ot_at hW0 hvm.symm (hgood _ List.mem_cons_self) hk
  have hini' : (Cond.initialized cls).before args s' = true := vx_ot_at hW0 hvm.symm (hgood _ (List.mem_cons_of_mem _ List.mem_cons_self)) hini
  have hU' : vx_Zq Bundle.tN "UNASSIGNED_STACK" Bundle.steD A s' s'.heap := by rw [hhp]; exact vx_Zq.moved hW0.alike (hU.kept hS.2.1)
  have hN' : vx_Zq Bundle.tN "SUPPRESSED_SENTINEL" Bundle.listD A s' s'.heap := by rw [hhp]; exact vx_Zq.moved hW0.alike (hN.kept hS.2.1)
  have h : ∀ w ∈ Bundle.ownAtoms0 own ic cls names, w.before args s' = true := vx_own hat' (vx_isRefq hU'.1) (vx_isRefq hN'.1) hU'.2.word hN'.2.word
  have hown' : s'.vm.findClass own = some m.cls := by rw [hvm]; exact hown
  have hins : (Cond.instantiable cls 6).before args s' = true := h _ (by simp [Bundle.ownAtoms0])
  obtain ⟨vm₁, cX, kX, hfX, hkX, -, -, X₁, st1⟩ := Y.newCold hexec (own := own) (C := cls) (index := ik) (n := 6) hown' hk' hins hini'
    (g := F0 m pc ls rest) rfl (by rw [hb]; exact d0) (Nat.le_refl _) (Nat.le_refl _)
  generalize hT1 : (T.setVm vm₁).pushCell { cls := cX, slots := kX.instanceTypes.map defaultValue, vm := .none } = T1 at X₁ st1
  have hcat : (Value.ref T.heap.size).category = 1 := rfl
  have hcellA : T1.heap[T.heap.size]? = some (freshCell cX kX) := by rw [← hT1]; exact State.heap_pushCell_size _ _
  have d3' : decode c.code (pc + 3) = .ok (.dup, 1) := by rw [hb]; exact d3
  obtain ⟨U, hsteps, hrun, hend, hW, hsame, ce, hce, hO⟩ := X₁.ctorThrow0 hexec htr (own := own) (cls := cls) (names := names) (ic := ic) hown' hcls hnames h (fun x hx => nomatch hx) hfX hkX hcellA (by rw [hhp, hT]; exact Nat.le_refl _)
    (g := { method := m, pc := pc + 4, locals := ls, stack := .ref T.heap.size :: .ref T.heap.size :: rest, locked := none }) rfl hsize rfl rfl (rest := rest) rfl
    (by rw [hb]; exact d4) (by rw [hb]; exact d7) hout hRframes (by simp only [List.map_cons, List.sum_cons, hcat]; omega) hlocks
  obtain ⟨f1, f2⟩ := vx_frame hsame
  rw [hhp] at f1 f2
  have hWs : s.WarmedH U.vm := State.WarmedH.trans hW0 hW
  have hcl : s.vm.findClass cls = some ce.cls := by
    have h9 := hO.cls
    rw [hvm] at h9
    exact h9
  have hall : s.sameButNew ({ U with vm := s.vm } : State) locs mc ms := by
    subst hA
    obtain ⟨e1, e2⟩ := hsame
    rw [State.setFrames_setFrames] at e1
    have h2 : (T.setVm s.vm).sameButNew ({ U with vm := s.vm } : State) [] (0 + 1) (0 + 6) := ⟨e1, e2⟩
    have h3 := X.same.trans h2
    rw [List.append_nil] at h3
    exact h3.mono hc hs
  refine ⟨U, ?_, .threw T.heap.size, hrun, hend, Or.inr ⟨T.heap.size, rfl, cls, ce, locs, hx U hWs.alike f1 (fun q hq => f2 q hq (fun z hz => nomatch hz)), hce, hO.vm, hcl, hWs, hall, hf⟩⟩
  refine st1 _ ?_
  show Steps p.tables e below (T1.setTop { method := m, pc := pc + 3, locals := ls, stack := .ref T.heap.size :: rest, locked := none }) _
  jvm_step X₁.here [X₁.here.top, hexec, d3', Value.category]
  exact hsteps
/-- 'throw new E("text")': new; dup; ldc; invokespecial; athrow -/
theorem vx_throwS {cc : ByteArray} {pc : Nat} (hexec : p.tables.exec = Jvm.exec) (hb : c.code = cc) (hl : l.stackTraces = false) {own cls text : String} {names : List String} {ik is ic mc ms sa : Nat} {A : Nat → Prop}
    (hown : s.vm.findClass own = some m.cls) (hcls : Bundle.fit cls = true) (hnames : ∀ n ∈ names, Bundle.fit n = true)
    (hk : (Cond.classLink own ik cls).before args s = true) (hini : (Cond.initialized cls).before args s = true) (hstr : vk_R own is text sa s) (hat : ∀ w ∈ vx_atS own ic cls names, w.before args s = true)
    (hgood : ∀ w ∈ Cond.classLink own ik cls :: Cond.initialized cls :: vx_atS own ic cls names, vx_ot w = true)
    (hU : vx_Zq Bundle.tN "UNASSIGNED_STACK" Bundle.steD A s s.heap) (hN : vx_Zq Bundle.tN "SUPPRESSED_SENTINEL" Bundle.listD A s s.heap) (hS : va_S A s.heap H locs) (hsize : ls.size = c.maxLocals)
    (d0 : decode cc pc = .ok (.new ik, 3)) (d3 : decode cc (pc + 3) = .ok (.dup, 1)) (d4 : decode cc (pc + 4) = .ok (.ldc is, 2)) (d6 : decode cc (pc + 6) = .ok (.invokespecial ic, 3)) (d9 : decode cc (pc + 9) = .ok (.athrow, 1))
    (hout : ∀ x ∈ c.exceptionTable.toList, covers x (pc + 9) = false)
    (hRframes : names.length + 3 < R.frames) (hRlocals : (rest.map fun v => v.category).sum + (13 * (names.length + 1) + 43) ≤ R.locals) (hRcells : cells + 1 ≤ R.cells) (hRslots : slots + 6 ≤ R.slots) (hlocks : meth.locks = false)
    (hx : ∀ t : State, s.vm.Alike t.vm → H.size ≤ t.heap.size → (∀ q : Nat, q < H.size → t.heap[q]? = H[q]?) → XC cls s t)
    (hf : ∀ z ∈ locs, free z.base) (hc : cells + 1 ≤ mc) (hs : slots + 6 ≤ ms) :
    W p l e R s m args below meth c H locs cells slots (vx_MQ below Qc XC args s mc ms free) (F0 m pc ls rest) := by
  intro T hT X
  have htr : e.platform.stackTraces = false := (show e.platform.stackTraces = l.stackTraces by rw [X.admits.platform]).trans hl
  have Y := vx_rebase X (R' := { frames := R.frames, locals := R.locals, cells := 1, slots := 6 }) (Nat.le_refl _) (Nat.le_refl _) hRcells hRslots
  obtain ⟨s', hA⟩ : ∃ z, z = (T.setVm s.vm).setFrames (.invoking m args :: below) := ⟨_, rfl⟩
  rw [← hA] at Y
  have hvm : s'.vm = s.vm := by rw [hA]; rfl
  have hhp : s'.heap = H := by rw [hA]; exact hT
  have hW0 : s.WarmedH s'.vm := by rw [hvm]; exact State.WarmedH.refl s
  have hat' : ∀ w ∈ vx_atS own ic cls names, w.before args s' = true := fun w hw => vx_ot_at hW0 hvm.symm (hgood w (List.mem_cons_of_mem _ (List.mem_cons_of_mem _ hw))) (hat w hw)
  have hk' : (Cond.classLink own ik cls).before args s' = true := vx_ot_at hW0 hvm.symm (hgood _ List.mem_cons_self) hk
  have hini' : (Cond.initialized cls).before args s' = true := vx_ot_at hW0 hvm.symm (hgood _ (List.mem_cons_of_mem _ List.mem_cons_self)) hini
  have hU' : vx_Zq Bundle.tN "UNASSIGNED_STACK" Bundle.steD A s' s'.heap := by rw [hhp]; exact vx_Zq.moved hW0.alike (hU.kept hS.2.1)
  have hN' : vx_Zq Bundle.tN "SUPPRESSED_SENTINEL" Bundle.listD A s' s'.heap := by rw [hhp]; exact vx_Zq.moved hW0.alike (hN.kept hS.2.1)
  have h : ∀ w ∈ Bundle.ownAtoms own ic cls names, w.before args s' = true := vx_own hat' (vx_isRefq hU'.1) (vx_isRefq hN'.1) hU'.2.word hN'.2.word
  have hown' : s'.vm.findClass own = some m.cls := by rw [hvm]; exact hown
  have hins : (Cond.instantiable cls 6).before args s' = true := h _ (by simp [Bundle.ownAtoms])
  obtain ⟨vm₁, cX, kX, hfX, hkX, -, -, X₁, st1⟩ := Y.newCold hexec (own := own) (C := cls) (index := ik) (n := 6) hown' hk' hins hini'
    (g := F0 m pc ls rest) rfl (by rw [hb]; exact d0) (Nat.le_refl _) (Nat.le_refl _)
  generalize hT1 : (T.setVm vm₁).pushCell { cls := cX, slots := kX.instanceTypes.map defaultValue, vm := .none } = T1 at X₁ st1
  have hcat : (Value.ref T.heap.size).category = 1 := rfl
  have hcellA : T1.heap[T.heap.size]? = some (freshCell cX kX) := by rw [← hT1]; exact State.heap_pushCell_size _ _
  have d3' : decode c.code (pc + 3) = .ok (.dup, 1) := by rw [hb]; exact d3
  have d4' : decode c.code (pc + 4) = .ok (.ldc is, 2) := by rw [hb]; exact d4
  have hstr' : vk_R own is text sa s' := vk_R.warm hW0 hstr
  obtain ⟨U, hsteps, hrun, hend, hW, hsame, ce, hce, hO⟩ := X₁.ctorThrowS hexec htr (own := own) (cls := cls) (names := names) (ic := ic) hown' hcls hnames h (fun x hx => nomatch hx) hfX hkX hcellA (by rw [hhp, hT]; exact Nat.le_refl _) (msg := .ref sa) rfl
    (g := { method := m, pc := pc + 6, locals := ls, stack := .ref sa :: .ref T.heap.size :: .ref T.heap.size :: rest, locked := none }) rfl hsize rfl rfl (rest := rest) rfl
    (by rw [hb]; exact d6) (by rw [hb]; exact d9) hout hRframes (by simp only [List.map_cons, List.sum_cons, hcat]; omega) hlocks
  obtain ⟨f1, f2⟩ := vx_frame hsame
  rw [hhp] at f1 f2
  have hWs : s.WarmedH U.vm := State.WarmedH.trans hW0 hW
  have hcl : s.vm.findClass cls = some ce.cls := by
    have h9 := hO.cls
    rw [hvm] at h9
    exact h9
  have hall : s.sameButNew ({ U with vm := s.vm } : State) locs mc ms := by
    subst hA
    obtain ⟨e1, e2⟩ := hsame
    rw [State.setFrames_setFrames] at e1
    have h2 : (T.setVm s.vm).sameButNew ({ U with vm := s.vm } : State) [] (0 + 1) (0 + 6) := ⟨e1, e2⟩
    have h3 := X.same.trans h2
    rw [List.append_nil] at h3
    exact h3.mono hc hs
  refine ⟨U, ?_, .threw T.heap.size, hrun, hend, Or.inr ⟨T.heap.size, rfl, cls, ce, locs, hx U hWs.alike f1 (fun q hq => f2 q hq (fun z hz => nomatch hz)), hce, hO.vm, hcl, hWs, hall, hf⟩⟩
  refine st1 _ ?_
  show Steps p.tables e below (T1.setTop { method := m, pc := pc + 3, locals := ls, stack := .ref T.heap.size :: rest, locked := none }) _
  jvm_step X₁.here [X₁.here.top, hexec, d3', Value.category]
  exact X₁.ldcString hexec (own := own) (text := text) (index := is) (a := sa) hown' hstr'.1 hstr'.2
    (g := { method := m, pc := pc + 4, locals := ls, stack := .ref T.heap.size :: .ref T.heap.size :: rest, locked := none }) rfl d4' _ hsteps
/-- 'throw new E("text")', the text by a wide index -/
theorem vx_throwSW {cc : ByteArray} {pc : Nat} (hexec : p.tables.exec = Jvm.exec) (hb : c.code = cc) (hl : l.stackTraces = false) {own cls text : String} {names : List String} {ik is ic mc ms sa : Nat} {A : Nat → Prop}
    (hown : s.vm.findClass own = some m.cls) (hcls : Bundle.fit cls = true) (hnames : ∀ n ∈ names, Bundle.fit n = true)
    (hk : (Cond.classLink own ik cls).before args s = true) (hini : (Cond.initialized cls).before args s = true) (hstr : vk_R own is text sa s) (hat : ∀ w ∈ vx_atS own ic cls names, w.before args s = true)
    (hgood : ∀ w ∈ Cond.classLink own ik cls :: Cond.initialized cls :: vx_atS own ic cls names, vx_ot w = true)
    (hU : vx_Zq Bundle.tN "UNASSIGNED_STACK" Bundle.steD A s s.heap) (hN : vx_Zq Bundle.tN "SUPPRESSED_SENTINEL" Bundle.listD A s s.heap) (hS : va_S A s.heap H locs) (hsize : ls.size = c.maxLocals)
    (d0 : decode cc pc = .ok (.new ik, 3)) (d3 : decode cc (pc + 3) = .ok (.dup, 1)) (d4 : decode cc (pc + 4) = .ok (.ldc_w is, 3)) (d7 : decode cc (pc + 7) = .ok (.invokespecial ic, 3)) (d10 : decode cc (pc + 10) = .ok (.athrow, 1))
    (hout : ∀ x ∈ c.exceptionTable.toList, covers x (pc + 10) = false)
    (hRframes : names.length + 3 < R.frames) (hRlocals : (rest.map fun v => v.category).sum + (13 * (names.length + 1) + 43) ≤ R.locals) (hRcells : cells + 1 ≤ R.cells) (hRslots : slots + 6 ≤ R.slots) (hlocks : meth.locks = false)
    (hx : ∀ t : State, s.vm.Alike t.vm → H.size ≤ t.heap.size → (∀ q : Nat, q < H.size → t.heap[q]? = H[q]?) → XC cls s t)
    (hf : ∀ z ∈ locs, free z.base) (hc : cells + 1 ≤ mc) (hs : slots + 6 ≤ ms) :
    W p l e R s m args below meth c H locs cells slots (vx_MQ below Qc XC args s mc ms free) (F0 m pc ls rest) := by
  intro T hT X
  have htr : e.platform.stackTraces = false := (show e.platform.stackTraces = l.stackTraces by rw [X.admits.platform]).trans hl
  have Y := vx_rebase X (R' := { frames := R.frames, locals := R.locals, cells := 1, slots := 6 }) (Nat.le_refl _) (Nat.le_refl _) hRcells hRslots
  obtain ⟨s', hA⟩ : ∃ z, z = (T.setVm s.vm).setFrames (.invoking m args :: below) := ⟨_, rfl⟩
  rw [← hA] at Y
  have hvm : s'.vm = s.vm := by rw [hA]; rfl
  have hhp : s'.heap = H := by rw [hA]; exact hT
  have hW0 : s.WarmedH s'.vm := by rw [hvm]; exact State.WarmedH.refl s
  have hat' : ∀ w ∈ vx_atS own ic cls names, w.before args s' = true := fun w hw => vx_ot_at hW0 hvm.symm (hgood w (List.mem_cons_of_mem _ (List.mem_cons_of_mem _ hw))) (hat w hw)
  have hk' : (Cond.classLink own ik cls).before args s' = true := vx_ot_at hW0 hvm.symm (hgood _ List.mem_cons_self) hk
  have hini' : (Cond.initialized cls).before args s' = true := vx_ot_at hW0 hvm.symm (hgood _ (List.mem_cons_of_mem _ List.mem_cons_self)) hini
  have hU' : vx_Zq Bundle.tN "UNASSIGNED_STACK" Bundle.steD A s' s'.heap := by rw [hhp]; exact vx_Zq.moved hW0.alike (hU.kept hS.2.1)
  have hN' : vx_Zq Bundle.tN "SUPPRESSED_SENTINEL" Bundle.listD A s' s'.heap := by rw [hhp]; exact vx_Zq.moved hW0.alike (hN.kept hS.2.1)
  have h : ∀ w ∈ Bundle.ownAtoms own ic cls names, w.before args s' = true := vx_own hat' (vx_isRefq hU'.1) (vx_isRefq hN'.1) hU'.2.word hN'.2.word
  have hown' : s'.vm.findClass own = some m.cls := by rw [hvm]; exact hown
  have hins : (Cond.instantiable cls 6).before args s' = true := h _ (by simp [Bundle.ownAtoms])
  obtain ⟨vm₁, cX, kX, hfX, hkX, -, -, X₁, st1⟩ := Y.newCold hexec (own := own) (C := cls) (index := ik) (n := 6) hown' hk' hins hini'
    (g := F0 m pc ls rest) rfl (by rw [hb]; exact d0) (Nat.le_refl _) (Nat.le_refl _)
  generalize hT1 : (T.setVm vm₁).pushCell { cls := cX, slots := kX.instanceTypes.map defaultValue, vm := .none } = T1 at X₁ st1
  have hcat : (Value.ref T.heap.size).category = 1 := rfl
  have hcellA : T1.heap[T.heap.size]? = some (freshCell cX kX) := by rw [← hT1]; exact State.heap_pushCell_size _ _
  have d3' : decode c.code (pc + 3) = .ok (.dup, 1) := by rw [hb]; exact d3
  have d4' : decode c.code (pc + 4) = .ok (.ldc_w is, 3) := by rw [hb]; exact d4
  have hstr' : vk_R own is text sa s' := vk_R.warm hW0 hstr
  obtain ⟨U, hsteps, hrun, hend, hW, hsame, ce, hce, hO⟩ := X₁.ctorThrowS hexec htr (own := own) (cls := cls) (names := names) (ic := ic) hown' hcls hnames h (fun x hx => nomatch hx) hfX hkX hcellA (by rw [hhp, hT]; exact Nat.le_refl _) (msg := .ref sa) rfl
    (g := { method := m, pc := pc + 7, locals := ls, stack := .ref sa :: .ref T.heap.size :: .ref T.heap.size :: rest, locked := none }) rfl hsize rfl rfl (rest := rest) rfl
    (by rw [hb]; exact d7) (by rw [hb]; exact d10) hout hRframes (by simp only [List.map_cons, List.sum_cons, hcat]; omega) hlocks
  obtain ⟨f1, f2⟩ := vx_frame hsame
  rw [hhp] at f1 f2
  have hWs : s.WarmedH U.vm := State.WarmedH.trans hW0 hW
  have hcl : s.vm.findClass cls = some ce.cls := by
    have h9 := hO.cls
    rw [hvm] at h9
    exact h9
  have hall : s.sameButNew ({ U with vm := s.vm } : State) locs mc ms := by
    subst hA
    obtain ⟨e1, e2⟩ := hsame
    rw [State.setFrames_setFrames] at e1
    have h2 : (T.setVm s.vm).sameButNew ({ U with vm := s.vm } : State) [] (0 + 1) (0 + 6) := ⟨e1, e2⟩
    have h3 := X.same.trans h2
    rw [List.append_nil] at h3
    exact h3.mono hc hs
  refine ⟨U, ?_, .threw T.heap.size, hrun, hend, Or.inr ⟨T.heap.size, rfl, cls, ce, locs, hx U hWs.alike f1 (fun q hq => f2 q hq (fun z hz => nomatch hz)), hce, hO.vm, hcl, hWs, hall, hf⟩⟩
  refine st1 _ ?_
  show Steps p.tables e below (T1.setTop { method := m, pc := pc + 3, locals := ls, stack := .ref T.heap.size :: rest, locked := none }) _
  jvm_step X₁.here [X₁.here.top, hexec, d3', Value.category]
  exact X₁.ldcStringW hexec (own := own) (text := text) (index := is) (a := sa) hown' hstr'.1 hstr'.2
    (g := { method := m, pc := pc + 4, locals := ls, stack := .ref T.heap.size :: .ref T.heap.size :: rest, locked := none }) rfl d4' _ hsteps
end Ends
section Bodies
variable {l : Launch}
theorem vx_ofW {y : MethodName} {ws ws' : List Cond} {rm : Room} {Pc : Array Value → State → Prop} {Qc : Array Value → State → Outcome → State → Prop} {XC : String → State → State → Prop} {mc ms : Nat} {free : Addr → Prop} {cc : ByteArray} {maxL : Nat} {ret : Option FieldType}
    (hy : plainName y.cls = true) (hw : ws = Cond.code y cc maxL ret :: ws')
    (body : ∀ p e s m args below meth c s₁, BodyLoose p l y (headSpec ws rm) cc maxL ret e s m args below meth c s₁ → c.maxLocals = maxL → (∀ x ∈ c.exceptionTable.toList, False) → Pc args s →
      W p l e (headSpec ws rm).room s m args below meth c s.heap [] 0 0 (vx_MQ below Qc XC args s mc ms free) (entryFrame m args maxL)) : vx_Met l y ws rm Pc Qc XC mc ms free := by
  refine MetFree.of_bodyS (code := cc) (maxLocals := maxL) (ret := ret) hy ?_ ?_
  · intro args s m h hn
    obtain ⟨meth, c, h1, h2, h3, h4, h5, h6, -, -⟩ := Cond.code_spec hn (atoms_spec (ws := ws) h _ (by rw [hw]; exact List.mem_cons_self))
    exact ⟨meth, c, h1, h2, h3, h4, h5, h6⟩
  · intro p e s m args below meth c s₁ B hml hP _
    have hh0 : s₁.heap = s.heap := by rw [B.state]; rfl
    have ht : ∀ x ∈ c.exceptionTable.toList, False := by
      obtain ⟨meth9, c9, h1, h2, -, -, -, -, h7, -⟩ := Cond.code_spec B.named (atoms_spec (ws := ws) B.pre _ (by rw [hw]; exact List.mem_cons_self))
      cases Option.some.inj (h1.symm.trans B.method)
      cases Option.some.inj (h2.symm.trans (Stand.of_body B).code)
      intro x hx
      rw [Array.isEmpty_iff.mp h7] at hx
      cases hx
    obtain ⟨t, a1, o, b1, b2, b3⟩ := body p e s m args below meth c s₁ B hml ht hP s₁ hh0 (Stand.of_body B)
    exact ⟨t, o, a1, b1, b2, b3⟩
/-- the table of a body with handlers -/
theorem vx_table {p : Program} {x y : MethodName} {S : Spec} {cc bytes : ByteArray} {maxL maxL' : Nat} {ret ret' : Option FieldType} {e : Env} {s s₁ : State} {m : MethodId} {args : Array Value} {below : List Frame} {meth : Method} {c : Code} {hh : List (Nat × Nat × Nat × Nat)}
    (B : BodyLoose p l y S cc maxL ret e s m args below meth c s₁) (h : (Cond.codeWith y bytes maxL' ret' hh).before args s = true) : c.exceptionTable.toList = tableOf hh := by
  obtain ⟨m9, meth9, c9, hn9, h1, h2, -, -, h6, -⟩ := Cond.codeWith_spec h
  cases Option.some.inj (hn9.symm.trans B.named)
  cases Option.some.inj (h1.symm.trans B.method)
  cases Option.some.inj (h2.symm.trans (Stand.of_body B).code)
  rw [← h6, table_eq]
end Bodies
end VXA
/-! ===== END ===== -/
/-! ===== BEGIN a static call of a method with an exception table ===== -/
section VXS
variable {p : Program} {l : Launch} {e : Env} {R : Room} {s : State} {m : MethodId} {args : Array Value} {below : List Frame} {meth : Method} {c : Code} {T : State} {H : Heap} {locs : List Loc} {cells slots : Nat}
abbrev vx_CSW (R : Room) (s : State) (args : Array Value) (own : String) (index : Nat) (y : MethodName) (bytes : ByteArray) (maxL : Nat) (ret : Option FieldType) (hh : List (Nat × Nat × Nat × Nat)) (ws : List Cond) (rm : Room) (mc ms n : Nat) : Prop :=
  (rm.cells = mc ∧ rm.slots = ms ∧ rm.frames + 1 ≤ R.frames ∧ 8 + (maxL + 11) + rm.locals ≤ R.locals ∧ (∀ w ∈ ws, ∀ (a' : Array Value) (U : State), s.WarmedH U.vm → w.before a' U = true) ∧ Cond.codeWith y bytes maxL ret hh ∈ ws) ∧
  (Cond.codeWith y bytes maxL ret hh).before args s = true ∧ (Cond.initialized y.cls).before args s = true ∧ (y.cls ≠ "java/lang/invoke/MethodHandle" ∧ y.cls ≠ "java/lang/invoke/VarHandle") ∧
  (∀ sig, parseMethodDescriptor y.desc = some sig → n = sig.parameters.length) ∧ (Cond.methodLink own index y).before args s = true ∧ (Cond.static y).before args s = true
theorem vx_cwSW {own : String} {index maxL mc ms : Nat} {y : MethodName} {bytes : ByteArray} {ret : Option FieldType} {hh : List (Nat × Nat × Nat × Nat)} {Ts ws ws' : List Cond} {rm : Room} (n : Nat) (ht : ∀ w ∈ Ts, w.before args s = true) (hT : GoodIn Ts (va_wsS own index y ws)) (hw : ws = Cond.codeWith y bytes maxL ret hh :: ws') (hrc : rm.cells = mc) (hrs : rm.slots = ms)
    (hd : y.cls ≠ "java/lang/invoke/MethodHandle" ∧ y.cls ≠ "java/lang/invoke/VarHandle" ∧ (parseMethodDescriptor y.desc).map (fun d => d.parameters.length) = some n) (hR : rm.frames + 1 ≤ R.frames ∧ 8 + (maxL + 11) + rm.locals ≤ R.locals) :
    vx_CSW R s args own index y bytes maxL ret hh ws rm mc ms n := by
  have ok : ∀ w ∈ va_wsS own index y ws, w.before args s = true := fun w h => ht w (hT w h).1
  have hG : GoodIn Ts ws := fun w h => hT w (by unfold va_wsS; exact List.mem_append_right _ h)
  have hc : Cond.codeWith y bytes maxL ret hh ∈ ws := by rw [hw]; exact List.mem_cons_self
  refine ⟨⟨hrc, hrs, hR.1, hR.2, pay_in ht hG, hc⟩, ht _ (hG _ hc).1, ok _ (by simp [va_wsS]), ⟨hd.1, hd.2.1⟩, fun sig h => ?_, ok _ (by simp [va_wsS]), ok _ (by simp [va_wsS])⟩
  have h2 := hd.2.2
  rw [h] at h2
  exact (Option.some.inj h2).symm
theorem vx_callSW (X : Stand p l e R s m args below meth c T locs cells slots) (hexec : p.tables.exec = Jvm.exec) {own : String} {index : Nat} {y : MethodName} {bytes : ByteArray} {maxL : Nat} {ret : Option FieldType} {hh : List (Nat × Nat × Nat × Nat)}
    (hown : s.vm.findClass own = some m.cls) (hlink : (Cond.methodLink own index y).before args s = true) (hstat : (Cond.static y).before args s = true) (hinit : (Cond.initialized y.cls).before args s = true)
    (hcode : (Cond.codeWith y bytes maxL ret hh).before args s = true) (hy : y.cls ≠ "java/lang/invoke/MethodHandle" ∧ y.cls ≠ "java/lang/invoke/VarHandle")
    {W9 : Nat} {Pre : Pt → Array Value → Prop} {Post : Pt → Array Value → Option Value → Pt → Prop} (hK : Back l R p e below s args y 3 W9 Pre Post)
    {g : JFrame} (hg : g.method = m) (hsize : g.locals.size = c.maxLocals) {argsL rest : List Value} (hlen : ∀ sig, parseMethodDescriptor y.desc = some sig → argsL.length = sig.parameters.length)
    (hstack : g.stack = argsL.reverse ++ rest) (hW : 2 * g.monitorRoom + (rest.map fun v => v.category).sum ≤ W9) (hdg : decode c.code g.pc = .ok (.invokestatic index, 3))
    (hpre : ∀ vm₁, s.WarmedH vm₁ → Pre ⟨T.setVm vm₁, locs, cells, slots⟩ argsL.toArray) :
    ∃ (v : Option Value) (vm₁ : Vm) (B : Pt), s.WarmedH vm₁ ∧ Stand p l e R s m args below meth c B.U B.locs B.cells B.slots ∧ Post ⟨T.setVm vm₁, locs, cells, slots⟩ argsL.toArray v B ∧
      ∀ target, Steps p.tables e below (B.U.setTop { g with pc := g.pc + 3, stack := v.toList ++ rest }) target → Steps p.tables e below (T.setTop g) target := by
  obtain ⟨mk, methM, cM, hnamed, hmethM, -, -, -, -, -, -, hsigM⟩ := Cond.codeWith_spec hcode
  have hstatic : methM.isStatic = true := Cond.static_spec hnamed hmethM hstat
  obtain ⟨kP, hkP, -⟩ := className_of_methodNamed hnamed
  have hinitP : kP.init = .initialized := Cond.initialized_spec (findClass_of_methodNamed hnamed) hkP hinit
  obtain ⟨vm₁, X₁, hstep₁⟩ := X.invokestatic hexec hown hlink hnamed hmethM hstatic hkP hinitP hy (g := g) hg (argsL := argsL) (rest := rest) (hlen _ hsigM) hstack hdg
  obtain ⟨v, B, X', hpost, hsteps⟩ := hK m meth c ⟨T.setVm vm₁, locs, cells, slots⟩ { g with stack := rest } (.invokestatic index) mk argsL.toArray X₁ hg hsize hdg hW (X₁.named hnamed) (hpre vm₁ X₁.warmed)
  exact ⟨v, vm₁, B, X₁.warmed, X', hpost, fun target h => hstep₁ _ fun acts => by rw [doInvoke_state]; exact hsteps.trans h⟩
theorem vx_runSW {y : MethodName} {bytes cc : ByteArray} {maxL nL mc ms n index : Nat} {ret : Option FieldType} {hh : List (Nat × Nat × Nat × Nat)} {ws : List Cond} {rm : Room} {Pc : Array Value → State → Prop} {Qc : Array Value → State → Outcome → State → Prop} {free : Addr → Prop} {Ts : List Cond} {own : String} {As rest : List Value} {g : JFrame}
    (S : CallFix p m c cc nL s args Ts own) (hM : Met l y ws rm Pc Qc mc ms free) (cw : vx_CSW R s args own index y bytes maxL ret hh ws rm mc ms n) (hp : PreS s H Pc As)
    (hg : g.method = m) (hn : As.length = n) (hsize : g.locals.size = nL) (hstack : g.stack = As.reverse ++ rest) (hW : 2 * g.monitorRoom + (rest.map fun v => v.category).sum ≤ 8) (hdg : decode cc g.pc = .ok (.invokestatic index, 3)) (hf : cells + mc ≤ R.cells ∧ slots + ms ≤ R.slots) :
    va_Run p l e R s m args below meth c H locs cells slots mc ms g rest (Qc As.toArray) (free) := by
  obtain ⟨⟨hrc, hrs, hfr, hlo, hws, hcw⟩, hcode, hini, hy, hlen, hl, hstt⟩ := cw
  have hK : Back l R p e below s args y 3 8 (PreOf R mc ms Pc) (PostOf Qc mc ms free) := va_backW (hh := hh) (bytes := bytes) (maxL := maxL) (ret := ret) hM hp.1 hrc hrs hfr hlo hws hcw (fun a' U hW => word_at hW (Or.inl (by first | rfl | simp [Cond.onTables, Cond.keeps, Cond.steady])) hini)
  obtain ⟨hx, hb, hml, ho, -⟩ := S
  intro T hT X
  obtain ⟨v, vm₁, ⟨U', l2, c2, s2⟩, hW₁, X', ⟨g', mk, t, L, e1, e2, hq, h1, hL, h2, h3⟩, st⟩ := vx_callSW X hx (hh := hh) (bytes := bytes) (maxL := maxL) (ret := ret) ho hl hstt hini hcode hy hK hg (hsize.trans hml.symm) (argsL := As) (rest := rest) (fun sig h => hn.trans (hlen sig h)) hstack hW (by rw [hb]; exact hdg)
    (fun vm₁ hW₁ => ⟨hf.1, hf.2, hp.2 (T.setVm vm₁) hT hW₁⟩)
  dsimp only [Pt.U, Pt.locs, Pt.cells, Pt.slots] at X' e1 e2 h1 h2 h3 st
  subst h1; subst h2; subst h3
  exact ⟨v, (T.setVm vm₁).calling g' mk As.toArray, t, U', L, hT, X', hL, e1, e2, hq, st⟩
/-- not caught here, past rows that name other classes: it goes on to the caller -/
theorem vx_outP {p : Program} {l : Launch} {e : Env} {R : Room} {s : State} {m : MethodId} {args : Array Value} {below : List Frame} {meth : Method} {c : Code} {H : Heap} {locs : List Loc} {cells slots : Nat} {free : Addr → Prop} {ls : Array Slot} {rest : List Value} {Qc : Array Value → State → Outcome → State → Prop} {XC : String → State → State → Prop}
    {pc : Nat} {own E : String} {ce : Cell} {q : Addr} {mc ms : Nat} (hown : s.vm.findClass own = some m.cls) (hlocks : meth.locks = false)
    (hpass : ∀ z ∈ c.exceptionTable.toList, covers z pc = false ∨ (z.catchType ≠ 0 ∧ ∃ nm : String, (Cond.classLink own z.catchType nm).before args s = true ∧ va_Nc E nm s)) (hcell : H[q]? = some ce) (hv : ce.vm = .none) (hcl : s.vm.findClass E = some ce.cls)
    (hx : ∀ t : State, t.heap = H → s.vm.Alike t.vm → XC E s t) (hf : ∀ z ∈ locs, free z.base) (hc : cells ≤ mc) (hs : slots ≤ ms) :
    vx_W p l e R s m args below meth c H locs cells slots (vx_MQ below Qc XC args s mc ms free) (F0 m pc ls rest) q := by
  intro T hT X
  have hpl : e.platform.magicAccessors = ({} : Platform).magicAccessors := by rw [X.admits.platform]
  obtain ⟨vm', hW', X', st⟩ := X.outThrough hlocks q (g := F0 m pc ls rest) rfl rfl rfl (cell := ce) (by rw [hT]; exact hcell) (by rw [hv]; rfl)
    (by obtain ⟨k9, h9, -⟩ := Vm.findClass_spec hcl; exact ⟨k9, h9⟩) (fun z hz => by
      rcases hpass z hz with h | ⟨hz0, nm, hl1, hn1⟩
      · exact Or.inl h
      · obtain ⟨c6, hc6, hcl6⟩ := Cond.classLink_spec hown hl1 e.platform hpl
        obtain ⟨a8, b8, h1, h2, h3⟩ := hn1
        cases Option.some.inj (h1.symm.trans hcl)
        cases Option.some.inj (h2.symm.trans hc6)
        exact Or.inr ⟨hz0, _, hcl6, h3⟩)
  obtain ⟨g₀, hfr⟩ := X'.frames_eq
  have hcell9 : ((T.setVm vm').setFrames (.throwing q :: below)).heap[q]? = some ce := by
    show T.heap[q]? = some ce
    rw [hT]; exact hcell
  have hend : Ended ((T.setVm vm').setFrames (.throwing q :: below)) below (.threw q) := State.frames_setFrames _ (State.cur_lt_of_frames hfr)
  refine ⟨(T.setVm vm').setFrames (.throwing q :: below), ?_, .threw q, X'.here.running, hend, Or.inr ⟨q, rfl, E, ce, locs, hx _ hT (X'.ends _).1.alike, hcell9, hv, hcl, (X'.ends _).1, (X'.ends _).2.mono hc hs, hf⟩⟩
  rw [X.pushThrowing_eq]
  exact st
/-- a thing of a world lies in the heap -/
theorem vx_lt {D : va_G} {cl : List vw_C} {ws : va_W} {H1 : Heap} (h : va_P D cl ws H1) {k : Nat} {q : Nat × va_E} (hk : ws[k]? = some q) : q.1 < H1.size := (h k q hk).lt
end VXS
/-! ===== END ===== -/
/-! ===== BEGIN methods with a table of their own: called by a name, returning or throwing ===== -/
section VXH
/-! vx_backW, vx_callVX, vx_callSX, vx_callVW, vx_runVW, vx_runVX, vx_runSX, vx_ofWH follow the same proofs as their sisters above (Free/Laws.lean, Shelf42/LK1.lean); vx_outP calls Shelf42/NT130.lean (outThrough). -/
section
variable {l : Launch} {R : Room} {p : Program} {e : Env} {below : List Frame} {s : State} {sargs : Array Value} {y : MethodName} {len W9 : Nat}
theorem vx_backW {ws : List Cond} {rm : Room} {Pc : Array Value → State → Prop} {Qc : Array Value → State → Outcome → State → Prop} {XC : String → State → State → Prop} {mc ms : Nat} {free : Addr → Prop} {bytes : ByteArray} {maxL : Nat} {ret : Option FieldType} {hh : List (Nat × Nat × Nat × Nat)}
    (hM : vx_Met l y ws rm Pc Qc XC mc ms free) (hblind : FrameBlind Pc) (hrc : rm.cells = mc) (hrs : rm.slots = ms)
    (hframes : rm.frames + 1 ≤ R.frames) (hlocals : W9 + (maxL + 11) + rm.locals ≤ R.locals)
    (hws : ∀ w ∈ ws, ∀ a' U, s.WarmedH U.vm → w.before a' U = true) (hcode : Cond.codeWith y bytes maxL ret hh ∈ ws) (hinit : ∀ a' U, s.WarmedH U.vm → (Cond.initialized y.cls).before a' U = true) :
    vx_Back l R p e below s sargs y len W9 (PreOf R mc ms Pc) (PostOf Qc mc ms free) (vx_Post XC mc ms free) := by
  intro m meth c A g ig mk a X hg hsize hdg hW hn hp
  have h1 : (headSpec ws rm).pre.before a A.U = true := atoms_intro fun w hw => hws w hw _ _ X.warmed
  have h2 : (Cond.codeWith y bytes maxL ret hh).before a A.U = true := hws _ hcode _ _ X.warmed
  have h3 : (Cond.initialized y.cls).before a A.U = true := hinit _ _ X.warmed
  have h4 : A.cells + (headSpec ws rm).room.cells ≤ R.cells := by rw [show (headSpec ws rm).room.cells = mc from hrc]; exact hp.1
  have h5 : A.slots + (headSpec ws rm).room.slots ≤ R.slots := by rw [show (headSpec ws rm).room.slots = ms from hrs]; exact hp.2.1
  have hPc : Pc a (A.U.calling g mk a) := hblind _ _ _ _ hp.2.2
  obtain ⟨U, Ls, c0, s0⟩ := A
  dsimp only [Pt.U, Pt.locs, Pt.cells, Pt.slots] at h1 h2 h3 h4 h5 X hn hPc ⊢
  obtain ⟨m9, methY, cY, hn9, hmY, hcY, -, hlY, -⟩ := Cond.codeWith_spec h2
  cases Option.some.inj (hn9.symm.trans hn)
  obtain ⟨kY, hkY, -⟩ := className_of_methodNamed hn
  have hinitY : kY.init = .initialized := Cond.initialized_spec (findClass_of_methodNamed hn) hkY h3
  have h : At U g.method c below := by rw [hg]; exact X.here
  have hlocals9 : W9 + (maxL + 11) + (headSpec ws rm).room.locals ≤ R.locals := hlocals
  have happ : (headSpec ws rm).appliesLoose y e.platform (U.calling g mk a) = true :=
    Spec.appliesLoose_calling (g := g) h hdg hn hkY hinitY
      (X.room_calling (g := g) (R' := (headSpec ws rm).room) hsize hmY hcY hframes (by rw [hlY]; omega) h4 h5) h1
  obtain ⟨mid, hmid⟩ := h.above
  have hfr : (U.setTop g).frames = (.java g :: mid) ++ below := by rw [State.frames_setTop' g h.top, hmid]; rfl
  obtain ⟨o, s₂, hsteps, -, hend, hq⟩ := Steps.callFree hM p X.admits X.cas X.clock (acts := []) hfr happ hPc trivial
  have hq' : vx_Q Qc XC mc ms free a (U.calling g mk a) o s₂ := hq
  rw [State.frames_setTop' g h.top] at hend
  obtain ⟨g₀, hg0⟩ := Option.isSome_iff_exists.mp h.top
  obtain ⟨r, hr⟩ := State.topJava?_eq_some.mp hg0
  have hr' : (({ U with heap := s₂.heap, slotsUsed := s₂.slotsUsed } : State).setVm s₂.vm).frames = .java g₀ :: r := hr
  rcases hq' with ⟨hqc, L, hfe, hL⟩ | ⟨q, rfl, E, ce, L, hx, hce, hcv, hcl, hW₂, hsm, hL⟩
  · obtain ⟨⟨v, rfl⟩, hW₂, e2, q2, q3, q4, q5, q6⟩ := id hfe
    have e3 : s₂ = ({ (U.calling g mk a).setFrames s₂.frames with heap := s₂.heap, slotsUsed := s₂.slotsUsed } : State).setVm s₂.vm := by
      have : s₂ = ({ s₂ with vm := (U.calling g mk a).vm } : State).setVm s₂.vm := rfl
      rw [e2] at this
      exact this
    obtain ⟨c₂, i₂, len₂, hc₂, hd₂, hf₂⟩ := hend
    have hW' : U.WarmedH s₂.vm := hW₂
    have hcc : c₂ = c := by
      have h1 : s₂.code? g.method = U.code? g.method := by
        rw [State.code?_eq, State.code?_eq, hW'.alike.method?]
      exact Option.some.inj (hc₂.symm.trans (h1.trans h.code))
    subst hcc
    have hlen : len₂ = len := by rw [hdg] at hd₂; cases hd₂; rfl
    subst hlen
    have hs₂ : s₂ = (({ U with heap := s₂.heap, slotsUsed := s₂.slotsUsed } : State).setVm s₂.vm).setTop { g with pc := g.pc + len₂, stack := v.toList ++ g.stack } := by
      refine e3.trans ?_
      rw [hf₂, State.calling_eq h.top, State.setFrames_setFrames, State.setTop_of_frames _ hr', hr]
      rfl
    have hsame : U.sameButNew ({ U with heap := s₂.heap, slotsUsed := s₂.slotsUsed } : State) L mc ms := by
      refine ⟨?_, q2, q3, q4, q5, q6⟩
      obtain ⟨t, ht, -⟩ := State.frames_cons hr
      show ({ U with heap := s₂.heap, slotsUsed := s₂.slotsUsed } : State) = { U.setFrames U.frames with heap := s₂.heap, slotsUsed := s₂.slotsUsed }
      rw [State.setFrames_self ht]
    subst hg
    refine Or.inl ⟨v, ⟨(({ U with heap := s₂.heap, slotsUsed := s₂.slotsUsed } : State).setVm s₂.vm), Ls ++ L, c0 + mc, s0 + ms⟩,
      ⟨X.admits, X.cas, X.clock, X.frames, X.room, X.hears, X.method, X.code, (X.here.setHeapUsed s₂.heap s₂.slotsUsed).setVm hW'.alike, X.tail, State.WarmedH.trans X.warmed hW', X.limits, X.bytes, X.same.trans (hsame.setVm s.vm)⟩,
      ⟨g, mk, s₂, L, rfl, rfl, hqc, rfl, hL, rfl, rfl⟩, ?_⟩
    show Steps p.tables e below _ ((({ U with heap := s₂.heap, slotsUsed := s₂.slotsUsed } : State).setVm s₂.vm).setTop { g with pc := g.pc + len₂, stack := v.toList ++ g.stack })
    rw [← hs₂]
    exact hsteps
  · obtain ⟨e2, q2, q3, q4, q5, q6⟩ := id hsm
    have e3 : s₂ = ({ (U.calling g mk a).setFrames s₂.frames with heap := s₂.heap, slotsUsed := s₂.slotsUsed } : State).setVm s₂.vm := by
      have : s₂ = ({ s₂ with vm := (U.calling g mk a).vm } : State).setVm s₂.vm := rfl
      rw [e2] at this
      exact this
    have hf₂ : s₂.frames = .throwing q :: .java g :: U.frames.tail := hend
    have hW' : U.WarmedH s₂.vm := hW₂
    have hs₂ : s₂ = ((({ U with heap := s₂.heap, slotsUsed := s₂.slotsUsed } : State).setVm s₂.vm).setTop g).pushFrame (.throwing q) := by
      refine e3.trans ?_
      rw [hf₂, State.calling_eq h.top, State.setFrames_setFrames, State.pushFrame, State.frames_setTop _ hr', State.setTop_of_frames _ hr', State.setFrames_setFrames, hr]
      rfl
    have hsame : U.sameButNew ({ U with heap := s₂.heap, slotsUsed := s₂.slotsUsed } : State) L mc ms := by
      refine ⟨?_, q2, q3, q4, q5, q6⟩
      obtain ⟨t, ht, -⟩ := State.frames_cons hr
      show ({ U with heap := s₂.heap, slotsUsed := s₂.slotsUsed } : State) = { U.setFrames U.frames with heap := s₂.heap, slotsUsed := s₂.slotsUsed }
      rw [State.setFrames_self ht]
    subst hg
    refine Or.inr ⟨q, ⟨(({ U with heap := s₂.heap, slotsUsed := s₂.slotsUsed } : State).setVm s₂.vm), Ls ++ L, c0 + mc, s0 + ms⟩,
      ⟨X.admits, X.cas, X.clock, X.frames, X.room, X.hears, X.method, X.code, (X.here.setHeapUsed s₂.heap s₂.slotsUsed).setVm hW'.alike, X.tail, State.WarmedH.trans X.warmed hW', X.limits, X.bytes, X.same.trans (hsame.setVm s.vm)⟩,
      ⟨g, mk, s₂, L, E, ce, rfl, rfl, hx, hce, hcv, hcl, rfl, hL, rfl, rfl⟩, ?_⟩
    show Steps p.tables e below _ (((({ U with heap := s₂.heap, slotsUsed := s₂.slotsUsed } : State).setVm s₂.vm).setTop g).pushFrame (.throwing q))
    rw [← hs₂]
    exact hsteps
end
variable {p : Program} {l : Launch} {e : Env} {R : Room} {s : State} {m : MethodId} {args : Array Value} {below : List Frame} {meth : Method} {c : Code} {T : State} {H : Heap} {locs : List Loc} {cells slots : Nat}
theorem vx_callVX (X : Stand p l e R s m args below meth c T locs cells slots) (hexec : p.tables.exec = Jvm.exec) {own C : String} {index : Nat} {y : MethodName} {bytes : ByteArray} {maxL : Nat} {ret : Option FieldType} {hh : List (Nat × Nat × Nat × Nat)}
    (hown : s.vm.findClass own = some m.cls) (hlink : (Cond.methodLink own index y).before args s = true) (hinst : (Cond.instanceMethod y).before args s = true) (hsel : (Cond.selects C y y).before args s = true)
    (hcode : (Cond.codeWith y bytes maxL ret hh).before args s = true) (hy : y.cls ≠ "java/lang/invoke/MethodHandle" ∧ y.cls ≠ "java/lang/invoke/VarHandle")
    {W9 : Nat} {Pre : Pt → Array Value → Prop} {Post : Pt → Array Value → Option Value → Pt → Prop} {PostX : Pt → Array Value → Addr → Pt → Prop} (hK : vx_Back l R p e below s args y 3 W9 Pre Post PostX)
    {b : Addr} {cellB : Cell} (hcell : T.heap[b]? = some cellB) (hobj : cellB.vm.isStatics = false) (hcls : s.vm.findClass C = some cellB.cls)
    {g : JFrame} (hg : g.method = m) (hsize : g.locals.size = c.maxLocals) {argsL rest : List Value} (hlen : ∀ sig, parseMethodDescriptor y.desc = some sig → argsL.length = sig.parameters.length)
    (hstack : g.stack = argsL.reverse ++ .ref b :: rest) (hW : 2 * g.monitorRoom + (rest.map fun v => v.category).sum ≤ W9) (hdg : decode c.code g.pc = .ok (.invokevirtual index, 3))
    (hpre : ∀ vm₁, s.WarmedH vm₁ → Pre ⟨T.setVm vm₁, locs, cells, slots⟩ (Value.ref b :: argsL).toArray) :
    (∃ (v : Option Value) (vm₁ : Vm) (B : Pt), s.WarmedH vm₁ ∧ Stand p l e R s m args below meth c B.U B.locs B.cells B.slots ∧ Post ⟨T.setVm vm₁, locs, cells, slots⟩ (Value.ref b :: argsL).toArray v B ∧
      ∀ target, Steps p.tables e below (B.U.setTop { g with pc := g.pc + 3, stack := v.toList ++ rest }) target → Steps p.tables e below (T.setTop g) target) ∨
    (∃ (q : Addr) (vm₁ : Vm) (B : Pt), s.WarmedH vm₁ ∧ Stand p l e R s m args below meth c B.U B.locs B.cells B.slots ∧ PostX ⟨T.setVm vm₁, locs, cells, slots⟩ (Value.ref b :: argsL).toArray q B ∧
      Steps p.tables e below (T.setTop g) ((B.U.setTop { g with stack := rest }).pushFrame (.throwing q))) := by
  obtain ⟨mk, methM, hnamed, hmethM, hstM, habM⟩ := Cond.instanceMethod_spec hinst
  obtain ⟨m8, methM', cM, hn8, hmethM', -, -, -, -, -, -, hsigM⟩ := Cond.codeWith_spec hcode
  cases Option.some.inj (hn8.symm.trans hnamed)
  cases hmethM.symm.trans hmethM'
  obtain ⟨c2, r2, m2, q1, q2, q3, q4, kP, hkP, hkPi⟩ := Cond.selects_spec hsel
  cases hcls.symm.trans q1
  cases (State.methodFound?_of_named hnamed hy).symm.trans q2
  cases hnamed.symm.trans q3
  have hselP : selectMethod e.platform s.vm cellB.cls mk = .method mk := by rw [Launch.admits_selectMethod X.admits]; exact q4
  obtain ⟨vm₁, X₁, hstep₁⟩ := X.invokevirtual hexec hown hlink hnamed hmethM hstM hkP hkPi hy (a := b) (cell := cellB) hcell
    (fun z h => by rw [h] at hobj; cases hobj) hselP hmethM habM hkP hkPi (g := g) hg (argsL := argsL) (rest := rest) (hlen _ hsigM) hstack hdg
  rcases hK m meth c ⟨T.setVm vm₁, locs, cells, slots⟩ { g with stack := rest } (.invokevirtual index) mk (Value.ref b :: argsL).toArray X₁ hg hsize hdg hW (X₁.named hnamed) (hpre vm₁ X₁.warmed) with ⟨v, B, X', hpost, hsteps⟩ | ⟨q, B, X', hpost, hsteps⟩
  · exact Or.inl ⟨v, vm₁, B, X₁.warmed, X', hpost, fun target h => hstep₁ _ fun acts => by rw [doInvoke_state]; exact hsteps.trans h⟩
  · exact Or.inr ⟨q, vm₁, B, X₁.warmed, X', hpost, hstep₁ _ fun acts => by rw [doInvoke_state]; exact hsteps⟩
theorem vx_callSX (X : Stand p l e R s m args below meth c T locs cells slots) (hexec : p.tables.exec = Jvm.exec) {own : String} {index : Nat} {y : MethodName} {bytes : ByteArray} {maxL : Nat} {ret : Option FieldType} {hh : List (Nat × Nat × Nat × Nat)}
    (hown : s.vm.findClass own = some m.cls) (hlink : (Cond.methodLink own index y).before args s = true) (hstat : (Cond.static y).before args s = true) (hinit : (Cond.initialized y.cls).before args s = true)
    (hcode : (Cond.codeWith y bytes maxL ret hh).before args s = true) (hy : y.cls ≠ "java/lang/invoke/MethodHandle" ∧ y.cls ≠ "java/lang/invoke/VarHandle")
    {W9 : Nat} {Pre : Pt → Array Value → Prop} {Post : Pt → Array Value → Option Value → Pt → Prop} {PostX : Pt → Array Value → Addr → Pt → Prop} (hK : vx_Back l R p e below s args y 3 W9 Pre Post PostX)
    {g : JFrame} (hg : g.method = m) (hsize : g.locals.size = c.maxLocals) {argsL rest : List Value} (hlen : ∀ sig, parseMethodDescriptor y.desc = some sig → argsL.length = sig.parameters.length)
    (hstack : g.stack = argsL.reverse ++ rest) (hW : 2 * g.monitorRoom + (rest.map fun v => v.category).sum ≤ W9) (hdg : decode c.code g.pc = .ok (.invokestatic index, 3))
    (hpre : ∀ vm₁, s.WarmedH vm₁ → Pre ⟨T.setVm vm₁, locs, cells, slots⟩ argsL.toArray) :
    (∃ (v : Option Value) (vm₁ : Vm) (B : Pt), s.WarmedH vm₁ ∧ Stand p l e R s m args below meth c B.U B.locs B.cells B.slots ∧ Post ⟨T.setVm vm₁, locs, cells, slots⟩ argsL.toArray v B ∧
      ∀ target, Steps p.tables e below (B.U.setTop { g with pc := g.pc + 3, stack := v.toList ++ rest }) target → Steps p.tables e below (T.setTop g) target) ∨
    (∃ (q : Addr) (vm₁ : Vm) (B : Pt), s.WarmedH vm₁ ∧ Stand p l e R s m args below meth c B.U B.locs B.cells B.slots ∧ PostX ⟨T.setVm vm₁, locs, cells, slots⟩ argsL.toArray q B ∧
      Steps p.tables e below (T.setTop g) ((B.U.setTop { g with stack := rest }).pushFrame (.throwing q))) := by
  obtain ⟨mk, methM, cM, hnamed, hmethM, -, -, -, -, -, -, hsigM⟩ := Cond.codeWith_spec hcode
  have hstatic : methM.isStatic = true := Cond.static_spec hnamed hmethM hstat
  obtain ⟨kP, hkP, -⟩ := className_of_methodNamed hnamed
  have hinitP : kP.init = .initialized := Cond.initialized_spec (findClass_of_methodNamed hnamed) hkP hinit
  obtain ⟨vm₁, X₁, hstep₁⟩ := X.invokestatic hexec hown hlink hnamed hmethM hstatic hkP hinitP hy (g := g) hg (argsL := argsL) (rest := rest) (hlen _ hsigM) hstack hdg
  rcases hK m meth c ⟨T.setVm vm₁, locs, cells, slots⟩ { g with stack := rest } (.invokestatic index) mk argsL.toArray X₁ hg hsize hdg hW (X₁.named hnamed) (hpre vm₁ X₁.warmed) with ⟨v, B, X', hpost, hsteps⟩ | ⟨q, B, X', hpost, hsteps⟩
  · exact Or.inl ⟨v, vm₁, B, X₁.warmed, X', hpost, fun target h => hstep₁ _ fun acts => by rw [doInvoke_state]; exact hsteps.trans h⟩
  · exact Or.inr ⟨q, vm₁, B, X₁.warmed, X', hpost, hstep₁ _ fun acts => by rw [doInvoke_state]; exact hsteps⟩
theorem vx_callVW (X : Stand p l e R s m args below meth c T locs cells slots) (hexec : p.tables.exec = Jvm.exec) {own C : String} {index : Nat} {y : MethodName} {bytes : ByteArray} {maxL : Nat} {ret : Option FieldType} {hh : List (Nat × Nat × Nat × Nat)}
    (hown : s.vm.findClass own = some m.cls) (hlink : (Cond.methodLink own index y).before args s = true) (hinst : (Cond.instanceMethod y).before args s = true) (hsel : (Cond.selects C y y).before args s = true)
    (hcode : (Cond.codeWith y bytes maxL ret hh).before args s = true) (hy : y.cls ≠ "java/lang/invoke/MethodHandle" ∧ y.cls ≠ "java/lang/invoke/VarHandle")
    {W9 : Nat} {Pre : Pt → Array Value → Prop} {Post : Pt → Array Value → Option Value → Pt → Prop} (hK : Back l R p e below s args y 3 W9 Pre Post)
    {b : Addr} {cellB : Cell} (hcell : T.heap[b]? = some cellB) (hobj : cellB.vm.isStatics = false) (hcls : s.vm.findClass C = some cellB.cls)
    {g : JFrame} (hg : g.method = m) (hsize : g.locals.size = c.maxLocals) {argsL rest : List Value} (hlen : ∀ sig, parseMethodDescriptor y.desc = some sig → argsL.length = sig.parameters.length)
    (hstack : g.stack = argsL.reverse ++ .ref b :: rest) (hW : 2 * g.monitorRoom + (rest.map fun v => v.category).sum ≤ W9) (hdg : decode c.code g.pc = .ok (.invokevirtual index, 3))
    (hpre : ∀ vm₁, s.WarmedH vm₁ → Pre ⟨T.setVm vm₁, locs, cells, slots⟩ (Value.ref b :: argsL).toArray) :
    ∃ (v : Option Value) (vm₁ : Vm) (B : Pt), s.WarmedH vm₁ ∧ Stand p l e R s m args below meth c B.U B.locs B.cells B.slots ∧ Post ⟨T.setVm vm₁, locs, cells, slots⟩ (Value.ref b :: argsL).toArray v B ∧
      ∀ target, Steps p.tables e below (B.U.setTop { g with pc := g.pc + 3, stack := v.toList ++ rest }) target → Steps p.tables e below (T.setTop g) target := by
  obtain ⟨mk, methM, hnamed, hmethM, hstM, habM⟩ := Cond.instanceMethod_spec hinst
  obtain ⟨m8, methM', cM, hn8, hmethM', -, -, -, -, -, -, hsigM⟩ := Cond.codeWith_spec hcode
  cases Option.some.inj (hn8.symm.trans hnamed)
  cases hmethM.symm.trans hmethM'
  obtain ⟨c2, r2, m2, q1, q2, q3, q4, kP, hkP, hkPi⟩ := Cond.selects_spec hsel
  cases hcls.symm.trans q1
  cases (State.methodFound?_of_named hnamed hy).symm.trans q2
  cases hnamed.symm.trans q3
  have hselP : selectMethod e.platform s.vm cellB.cls mk = .method mk := by rw [Launch.admits_selectMethod X.admits]; exact q4
  obtain ⟨vm₁, X₁, hstep₁⟩ := X.invokevirtual hexec hown hlink hnamed hmethM hstM hkP hkPi hy (a := b) (cell := cellB) hcell
    (fun z h => by rw [h] at hobj; cases hobj) hselP hmethM habM hkP hkPi (g := g) hg (argsL := argsL) (rest := rest) (hlen _ hsigM) hstack hdg
  obtain ⟨v, B, X', hpost, hsteps⟩ := hK m meth c ⟨T.setVm vm₁, locs, cells, slots⟩ { g with stack := rest } (.invokevirtual index) mk (Value.ref b :: argsL).toArray X₁ hg hsize hdg hW (X₁.named hnamed) (hpre vm₁ X₁.warmed)
  exact ⟨v, vm₁, B, X₁.warmed, X', hpost, fun target h => hstep₁ _ fun acts => by rw [doInvoke_state]; exact hsteps.trans h⟩
abbrev vx_CVW (R : Room) (s : State) (args : Array Value) (own C : String) (index : Nat) (y : MethodName) (bytes : ByteArray) (maxL : Nat) (ret : Option FieldType) (hh : List (Nat × Nat × Nat × Nat)) (ws : List Cond) (rm : Room) (mc ms n : Nat) : Prop :=
  (rm.cells = mc ∧ rm.slots = ms ∧ rm.frames + 1 ≤ R.frames ∧ 8 + (maxL + 11) + rm.locals ≤ R.locals ∧ (∀ w ∈ ws, ∀ (a' : Array Value) (U : State), s.WarmedH U.vm → w.before a' U = true) ∧ Cond.codeWith y bytes maxL ret hh ∈ ws) ∧
  (Cond.codeWith y bytes maxL ret hh).before args s = true ∧ (Cond.initialized y.cls).before args s = true ∧ (y.cls ≠ "java/lang/invoke/MethodHandle" ∧ y.cls ≠ "java/lang/invoke/VarHandle") ∧
  (∀ sig, parseMethodDescriptor y.desc = some sig → n = sig.parameters.length) ∧ (Cond.methodLink own index y).before args s = true ∧ (Cond.instanceMethod y).before args s = true ∧ (Cond.selects C y y).before args s = true
theorem vx_cwVW {own C : String} {index maxL mc ms : Nat} {y : MethodName} {bytes : ByteArray} {ret : Option FieldType} {hh : List (Nat × Nat × Nat × Nat)} {Ts ws ws' : List Cond} {rm : Room} (n : Nat) (ht : ∀ w ∈ Ts, w.before args s = true) (hT : GoodIn Ts (wsV own index C y ws)) (hw : ws = Cond.codeWith y bytes maxL ret hh :: ws') (hrc : rm.cells = mc) (hrs : rm.slots = ms)
    (hd : y.cls = C ∧ y.cls ≠ "java/lang/invoke/MethodHandle" ∧ y.cls ≠ "java/lang/invoke/VarHandle" ∧ (parseMethodDescriptor y.desc).map (fun d => d.parameters.length) = some n) (hR : rm.frames + 1 ≤ R.frames ∧ 8 + (maxL + 11) + rm.locals ≤ R.locals) :
    vx_CVW R s args own C index y bytes maxL ret hh ws rm mc ms n := by
  obtain ⟨hC, hd⟩ := hd
  subst hC
  have ok : ∀ w ∈ wsV own index y.cls y ws, w.before args s = true := fun w h => ht w (hT w h).1
  have hG : GoodIn Ts ws := fun w h => hT w (by unfold wsV; exact List.mem_append_right _ h)
  have hc : Cond.codeWith y bytes maxL ret hh ∈ ws := by rw [hw]; exact List.mem_cons_self
  refine ⟨⟨hrc, hrs, hR.1, hR.2, pay_in ht hG, hc⟩, ht _ (hG _ hc).1, ok _ (by simp [wsV]), ⟨hd.1, hd.2.1⟩, fun sig h => ?_, ok _ (by simp [wsV]), ok _ (by simp [wsV]), ok _ (by simp [wsV])⟩
  have h2 := hd.2.2
  rw [h] at h2
  exact (Option.some.inj h2).symm
theorem vx_runVW {y : MethodName} {bytes cc : ByteArray} {maxL nL mc ms n index : Nat} {ret : Option FieldType} {hh : List (Nat × Nat × Nat × Nat)} {ws : List Cond} {rm : Room} {Pc : Array Value → State → Prop} {Qc : Array Value → State → Outcome → State → Prop} {free : Addr → Prop} {Ts : List Cond} {own C : String} {b : Addr} {As rest : List Value} {g : JFrame}
    (S : CallFix p m c cc nL s args Ts own) (hM : Met l y ws rm Pc Qc mc ms free) (cw : vx_CVW R s args own C index y bytes maxL ret hh ws rm mc ms n) (hp : PreV s H C b Pc As)
    (hg : g.method = m) (hn : As.length = n) (hsize : g.locals.size = nL) (hstack : g.stack = As.reverse ++ .ref b :: rest) (hW : 2 * g.monitorRoom + (rest.map fun v => v.category).sum ≤ 8) (hdg : decode cc g.pc = .ok (.invokevirtual index, 3)) (hf : cells + mc ≤ R.cells ∧ slots + ms ≤ R.slots) :
    va_Run p l e R s m args below meth c H locs cells slots mc ms g rest (Qc (Value.ref b :: As).toArray) free := by
  obtain ⟨⟨hrc, hrs, hfr, hlo, hws, hcw⟩, hcode, hini, hy, hlen, hl, hin, hse⟩ := cw
  have hK : Back l R p e below s args y 3 8 (PreOf R mc ms Pc) (PostOf Qc mc ms free) := va_backW (hh := hh) (bytes := bytes) (maxL := maxL) (ret := ret) hM hp.1 hrc hrs hfr hlo hws hcw (fun a' U hW => word_at hW (Or.inl (by first | rfl | simp [Cond.onTables, Cond.keeps, Cond.steady])) hini)
  obtain ⟨hx, hb, hml, ho, -⟩ := S
  obtain ⟨-, ⟨cellB, hcB, hoB, hclB⟩, hPc⟩ := hp
  intro T hT X
  obtain ⟨v, vm₁, ⟨U', l2, c2, s2⟩, hW₁, X', ⟨g', mk, t, L, e1, e2, hq, h1, hL, h2, h3⟩, st⟩ := vx_callVW X hx (C := C) (hh := hh) (bytes := bytes) (maxL := maxL) (ret := ret) ho hl hin hse hcode hy hK (by rw [hT]; exact hcB) hoB hclB hg (hsize.trans hml.symm) (argsL := As) (rest := rest) (fun sig h => hn.trans (hlen sig h)) hstack hW (by rw [hb]; exact hdg)
    (fun vm₁ hW₁ => ⟨hf.1, hf.2, hPc (T.setVm vm₁) hT hW₁⟩)
  dsimp only [Pt.U, Pt.locs, Pt.cells, Pt.slots] at X' e1 e2 h1 h2 h3 st
  subst h1; subst h2; subst h3
  exact ⟨v, (T.setVm vm₁).calling g' mk (Value.ref b :: As).toArray, t, U', L, hT, X', hL, e1, e2, hq, st⟩
section
variable {y : MethodName} {bytes cc : ByteArray} {maxL nL mc ms n index : Nat} {ret : Option FieldType} {ws : List Cond} {rm : Room} {Pc : Array Value → State → Prop} {Qc : Array Value → State → Outcome → State → Prop} {XC : String → State → State → Prop} {free : Addr → Prop} {Ts : List Cond} {own C : String} {b : Addr} {As rest : List Value} {g : JFrame}
theorem vx_runVX {hh : List (Nat × Nat × Nat × Nat)} (S : CallFix p m c cc nL s args Ts own) (hM : vx_Met l y ws rm Pc Qc XC mc ms free) (cw : vx_CVW R s args own C index y bytes maxL ret hh ws rm mc ms n) (hp : PreV s H C b Pc As)
    (hg : g.method = m) (hn : As.length = n) (hsize : g.locals.size = nL) (hstack : g.stack = As.reverse ++ .ref b :: rest) (hW : 2 * g.monitorRoom + (rest.map fun v => v.category).sum ≤ 8) (hdg : decode cc g.pc = .ok (.invokevirtual index, 3)) (hf : cells + mc ≤ R.cells ∧ slots + ms ≤ R.slots) :
    vx_Run p l e R s m args below meth c H locs cells slots mc ms g rest (Qc (Value.ref b :: As).toArray) XC free := by
  obtain ⟨⟨hrc, hrs, hfr, hlo, hws, hcw⟩, hcode, hini, hy, hlen, hl, hin, hse⟩ := cw
  have hK : vx_Back l R p e below s args y 3 8 (PreOf R mc ms Pc) (PostOf Qc mc ms free) (vx_Post XC mc ms free) := vx_backW (hh := hh) (bytes := bytes) (maxL := maxL) (ret := ret) hM hp.1 hrc hrs hfr hlo hws hcw (fun a' U hW => word_at hW (Or.inl (by first | rfl | simp [Cond.onTables, Cond.keeps, Cond.steady])) hini)
  obtain ⟨hx, hb, hml, ho, -⟩ := S
  obtain ⟨-, ⟨cellB, hcB, hoB, hclB⟩, hPc⟩ := hp
  intro T hT X
  rcases vx_callVX X hx (C := C) (hh := hh) (bytes := bytes) (maxL := maxL) (ret := ret) ho hl hin hse hcode hy hK (by rw [hT]; exact hcB) hoB hclB hg (hsize.trans hml.symm) (argsL := As) (rest := rest) (fun sig h => hn.trans (hlen sig h)) hstack hW (by rw [hb]; exact hdg)
    (fun vm₁ hW₁ => ⟨hf.1, hf.2, hPc (T.setVm vm₁) hT hW₁⟩) with ⟨v, vm₁, ⟨U', l2, c2, s2⟩, hW₁, X', ⟨g', mk, t, L, e1, e2, hq, h1, hL, h2, h3⟩, st⟩ | ⟨q, vm₁, ⟨U', l2, c2, s2⟩, hW₁, X', ⟨g', mk, t, L, E, ce, e1, e2, hq, hce, hcv, hcl, h1, hL, h2, h3⟩, st⟩
  · dsimp only [Pt.U, Pt.locs, Pt.cells, Pt.slots] at X' e1 e2 h1 h2 h3 st
    subst h1; subst h2; subst h3
    exact Or.inl ⟨v, (T.setVm vm₁).calling g' mk (Value.ref b :: As).toArray, t, U', L, hT, X', hL, e1, e2, hq, st⟩
  · dsimp only [Pt.U, Pt.locs, Pt.cells, Pt.slots] at X' e1 e2 h1 h2 h3 st hcl
    subst h1; subst h2; subst h3
    exact Or.inr ⟨q, (T.setVm vm₁).calling g' mk (Value.ref b :: As).toArray, t, U', L, E, ce, hT, X', hL, e1, e2, hq, hce, hcv, vx_cls hW₁ hcl, st⟩
theorem vx_runSX {hh : List (Nat × Nat × Nat × Nat)} (S : CallFix p m c cc nL s args Ts own) (hM : vx_Met l y ws rm Pc Qc XC mc ms free) (cw : vx_CSW R s args own index y bytes maxL ret hh ws rm mc ms n) (hp : PreS s H Pc As)
    (hg : g.method = m) (hn : As.length = n) (hsize : g.locals.size = nL) (hstack : g.stack = As.reverse ++ rest) (hW : 2 * g.monitorRoom + (rest.map fun v => v.category).sum ≤ 8) (hdg : decode cc g.pc = .ok (.invokestatic index, 3)) (hf : cells + mc ≤ R.cells ∧ slots + ms ≤ R.slots) :
    vx_Run p l e R s m args below meth c H locs cells slots mc ms g rest (Qc As.toArray) XC free := by
  obtain ⟨⟨hrc, hrs, hfr, hlo, hws, hcw⟩, hcode, hini, hy, hlen, hl, hstt⟩ := cw
  have hK : vx_Back l R p e below s args y 3 8 (PreOf R mc ms Pc) (PostOf Qc mc ms free) (vx_Post XC mc ms free) := vx_backW (hh := hh) (bytes := bytes) (maxL := maxL) (ret := ret) hM hp.1 hrc hrs hfr hlo hws hcw (fun a' U hW => word_at hW (Or.inl (by first | rfl | simp [Cond.onTables, Cond.keeps, Cond.steady])) hini)
  obtain ⟨hx, hb, hml, ho, -⟩ := S
  intro T hT X
  rcases vx_callSX X hx (hh := hh) (bytes := bytes) (maxL := maxL) (ret := ret) ho hl hstt hini hcode hy hK hg (hsize.trans hml.symm) (argsL := As) (rest := rest) (fun sig h => hn.trans (hlen sig h)) hstack hW (by rw [hb]; exact hdg)
    (fun vm₁ hW₁ => ⟨hf.1, hf.2, hp.2 (T.setVm vm₁) hT hW₁⟩) with ⟨v, vm₁, ⟨U', l2, c2, s2⟩, hW₁, X', ⟨g', mk, t, L, e1, e2, hq, h1, hL, h2, h3⟩, st⟩ | ⟨q, vm₁, ⟨U', l2, c2, s2⟩, hW₁, X', ⟨g', mk, t, L, E, ce, e1, e2, hq, hce, hcv, hcl, h1, hL, h2, h3⟩, st⟩
  · dsimp only [Pt.U, Pt.locs, Pt.cells, Pt.slots] at X' e1 e2 h1 h2 h3 st
    subst h1; subst h2; subst h3
    exact Or.inl ⟨v, (T.setVm vm₁).calling g' mk As.toArray, t, U', L, hT, X', hL, e1, e2, hq, st⟩
  · dsimp only [Pt.U, Pt.locs, Pt.cells, Pt.slots] at X' e1 e2 h1 h2 h3 st hcl
    subst h1; subst h2; subst h3
    exact Or.inr ⟨q, (T.setVm vm₁).calling g' mk As.toArray, t, U', L, E, ce, hT, X', hL, e1, e2, hq, hce, hcv, vx_cls hW₁ hcl, st⟩
end
end VXH
theorem vx_ofWH {l : Launch} {y : MethodName} {ws ws' : List Cond} {rm : Room} {Pc : Array Value → State → Prop} {Qc : Array Value → State → Outcome → State → Prop} {XC : String → State → State → Prop} {mc ms : Nat} {free : Addr → Prop} {cc : ByteArray} {maxL : Nat} {ret : Option FieldType} {hh : List (Nat × Nat × Nat × Nat)}
    (hy : plainName y.cls = true) (hw : ws = Cond.codeWith y cc maxL ret hh :: ws')
    (body : ∀ p e s m args below meth c s₁, BodyLoose p l y (headSpec ws rm) cc maxL ret e s m args below meth c s₁ → c.maxLocals = maxL → Pc args s →
      W p l e (headSpec ws rm).room s m args below meth c s.heap [] 0 0 (vx_MQ below Qc XC args s mc ms free) (entryFrame m args maxL)) : vx_Met l y ws rm Pc Qc XC mc ms free := by
  refine MetFree.of_bodyS (code := cc) (maxLocals := maxL) (ret := ret) hy ?_ ?_
  · intro args s m h hn
    obtain ⟨m9, meth, c, hn9, h1, h2, h3, h4, -, h5, h6, -⟩ := Cond.codeWith_spec (atoms_spec (ws := ws) h _ (by rw [hw]; exact List.mem_cons_self))
    cases hn.symm.trans hn9
    exact ⟨meth, c, h1, h2, h3, h4, h5, h6⟩
  · intro p e s m args below meth c s₁ B hml hP _
    have hh0 : s₁.heap = s.heap := by rw [B.state]; rfl
    obtain ⟨t, a1, o, b1, b2, b3⟩ := body p e s m args below meth c s₁ B hml hP s₁ hh0 (Stand.of_body B)
    exact ⟨t, o, a1, b1, b2, b3⟩
/-! ===== END ===== -/

/-! ===== BEGIN what the machine throws by itself, no traces kept ===== -/
section VXM
set_option maxHeartbeats 1000000 in
/-- the machine throws cls with the message text, no traces kept: from its note over the frame g to 'throwing' over the same frame (follows the proofs of Stand.vmThrowsMessage, Shelf/KitTracedVmS.lean, and Stand.throwsMessageColdBareV, StandMessageColdV.lean, without the step out of the frame) -/
theorem vx_vmAt {p : Program} {l : Launch} {e : Env} {R : Room} {s : State} {m₀ : MethodId} {args : Array Value} {below : List Frame} {meth : Method} {c : Code} {W : State} {locs : List Loc} {cells slots : Nat}
    (X : Stand p l e R s m₀ args below meth c W locs cells slots) (hexec : p.tables.exec = Jvm.exec) (htr : e.platform.stackTraces = false) {cls : String} {names : List String} {text : String}
    (hcls : Bundle.fit cls = true) (hnames : ∀ n ∈ names, Bundle.fit n = true) (hsoe : (cls == "java/lang/StackOverflowError") = false) (hoom : (cls == "java/lang/OutOfMemoryError") = false)
    (h : ∀ a ∈ Bundle.messageArmAtoms cls names, a.before args s = true)
    (hlocs : ∀ x ∈ locs, ∀ cell, s.heap[x.base]? = some cell → cell.vm.isStatics = false)
    (htext : (text == notModelled) = false) (hlimit : ¬ (stringBytes (stringToUtf16 text)).size > e.platform.arrayLengthLimit) (hheap : ¬ (stringBytes (stringToUtf16 text)).size * componentBytes .byte > e.platform.maxHeapBytes)
    {g : JFrame} (hg : g.method = m₀) (hsize : g.locals.size = c.maxLocals)
    (hRframes : names.length + 4 < R.frames) (hRlocals : 2 * g.monitorRoom + (g.stack.map fun v => v.category).sum + 10240 ≤ R.locals) (hshort : 13 * names.length + 55 ≤ 10240)
    (hRcells : cells + 3 ≤ R.cells) (hRslots : slots + ((stringBytes (stringToUtf16 text)).size + 4 + 6) ≤ R.slots) (hlocks : meth.locks = false) :
    ∃ (S : State) (q : Addr) (ce : Cell), (∀ target, Steps p.tables e below ((S.setTop g).pushFrame (.throwing q)) target → Steps p.tables e below ((W.setTop g).pushFrame (.throwNew cls (some text) none)) target) ∧
      Stand p l e R s m₀ args below meth c S locs (cells + 3) (slots + ((stringBytes (stringToUtf16 text)).size + 4 + 6)) ∧ S.heap[q]? = some ce ∧ s.vm.findClass cls = some ce.cls ∧ ce.vm = .none := by
  have howns : e.platform.frameOwnsMonitors = true := by rw [X.admits.platform]
  have hfin : e.platform.finalization = false := by rw [X.admits.platform]
  have hpl : e.platform.magicAccessors = ({} : Platform).magicAccessors := by rw [X.admits.platform]
  have a : ∀ x, x ∈ Bundle.messageArmAtoms cls names → x.holds args s none s [] = true := fun x hx => h x hx
  obtain ⟨T, Z0, L, -, Y⟩ := ThrowableC.of_atoms (args := args) howns hfin hpl (fun x hx => h x (by simp [Bundle.messageArmAtoms, hx]))
  obtain ⟨Z, M, LZ, LM, hnZ⟩ := Init0T.ofS_atoms (args := args) hpl L Y (fun x hx => h x (by simp [Bundle.messageArmAtoms, hx]))
  obtain ⟨P1, Ps, hlen, L1, hL, hP1m, hlink1, hlink⟩ := Bundle.chainS (args := args) hpl hnZ names cls hcls hnames (fun x hx => h x (by simp [Bundle.messageArmAtoms, hx]))
  obtain ⟨Zs, LZs, hn4, hfitv, hfitc⟩ := StringT.of_atoms (args := args) (fun x hx => h x (by simp [Bundle.messageArmAtoms, hx]))
  have hfound : s.vm.findClass cls = some P1.m.cls := findClass_of_methodNamed hP1m
  obtain ⟨c1, kX, hc1, hk, hord, -, -, hn6⟩ := Cond.instantiable_spec (a (.instantiable cls 6) (by simp [Bundle.messageArmAtoms]))
  cases Option.some.inj (hc1.symm.trans hfound)
  have hinit := Cond.initialized_spec hfound hk (a (.initialized cls) (by simp [Bundle.messageArmAtoms]))
  have hctor : kX.findMethod "<init>" "(Ljava/lang/String;)V" = some P1.m.idx := findMethod_of_methodNamed hP1m hk
  have hsel0 : selectMethod e.platform s.vm P1.m.cls T.fill0 = .method T.fill0 := by
    obtain ⟨c2, r2, m2, q1, q2, q3, q4, -⟩ := Cond.selects_spec (a (.selects cls Bundle.tFill0 Bundle.tFill0) (by simp [Bundle.messageArmAtoms]))
    cases Option.some.inj (q1.symm.trans hfound)
    cases Option.some.inj (q2.symm.trans (State.methodFound?_of_named Y.fill0 (by decide)))
    cases Option.some.inj (q3.symm.trans Y.fill0)
    rw [Launch.admits_selectMethod X.admits]; exact q4
  have hselF : selectMethod e.platform s.vm P1.m.cls T.fill = .method T.fill := by
    obtain ⟨c2, r2, m2, q1, q2, q3, q4, -⟩ := Cond.selects_spec (a (.selects cls Bundle.tFill Bundle.tFill) (by simp [Bundle.messageArmAtoms]))
    cases Option.some.inj (q1.symm.trans hfound)
    cases Option.some.inj (q2.symm.trans (State.methodFound?_of_named Y.fill (by decide)))
    cases Option.some.inj (q3.symm.trans Y.fill)
    rw [Launch.admits_selectMethod X.admits]; exact q4
  obtain ⟨cellS0, hcS0, hiss⟩ := Y.statics
  obtain ⟨u0, hu0⟩ := Cond.staticRefV Y.unassigned L.unassignedStatic L.statics hcS0 hiss (a (.isRef (.static Bundle.tN "UNASSIGNED_STACK" Bundle.steD)) (by simp [Bundle.messageArmAtoms]))
  obtain ⟨sen, hsen⟩ := Cond.staticRefV Y.sentinel L.sentinelStatic L.statics hcS0 hiss (a (.isRef (.static Bundle.tN "SUPPRESSED_SENTINEL" Bundle.listD)) (by simp [Bundle.messageArmAtoms]))
  obtain ⟨ci198, i198, fB, hk198, hg198, ha198, hsB, -, hnB, htB, hffB⟩ := Cond.ownField (t := .object "java/lang/Object") Y.found L.cls (by decide +kernel) (a (.fieldLink Bundle.tN 198 Bundle.tN "backtrace" "Ljava/lang/Object;") (by simp [Bundle.messageArmAtoms])) (a (.lays Bundle.tN Bundle.tN "backtrace" "Ljava/lang/Object;") (by simp [Bundle.messageArmAtoms])) e.platform hpl
  obtain ⟨cellS, hcS', heS, -, hkeep⟩ := X.same.2.2.2.2.2 T.aS cellS0 hcS0
  have hcellS : W.heap[T.aS]? = some cellS := hcS'
  have hout' : ∀ i, (⟨T.aS, i⟩ : Loc) ∉ locs := fun i hmem => by
    have := hlocs _ hmem cellS0 hcS0
    rw [hiss] at this; cases this
  have hknownS : cellS.vm ≠ .unknown := by
    rw [heS]; intro hu
    rw [show cellS0.vm = .unknown from hu] at hiss
    cases hiss
  have hvU : cellS.slots[T.fUnassigned.slot]? = some u0.v := by rw [hkeep _ (hout' _)]; exact hu0
  have hvSen : cellS.slots[T.fSentinel.slot]? = some sen.v := by rw [hkeep _ (hout' _)]; exact hsen
  obtain ⟨iM, hffM⟩ := Y.msg
  obtain ⟨tyC, dC, hdC, hdnC⟩ := Cond.laysAt hfound hk Y.cause (a (.lays cls Bundle.tN "cause" "Ljava/lang/Throwable;") (by simp [Bundle.messageArmAtoms]))
  obtain ⟨tyS, dS, hdS, hdnS⟩ := Cond.laysAt hfound hk Y.stack (a (.lays cls Bundle.tN "stackTrace" Bundle.steD) (by simp [Bundle.messageArmAtoms]))
  obtain ⟨tyP, dP, hdP, hdnP⟩ := Cond.laysAt hfound hk Y.supp (a (.lays cls Bundle.tN "suppressedExceptions" Bundle.listD) (by simp [Bundle.messageArmAtoms]))
  obtain ⟨tyM, dM, hdM, hdnM⟩ := Cond.laysAt hfound hk hffM (a (.lays cls Bundle.tN "detailMessage" "Ljava/lang/String;") (by simp [Bundle.messageArmAtoms]))
  obtain ⟨tyB, dB, hdB, hdnB⟩ := Cond.laysAt hfound hk hffB (a (.lays cls Bundle.tN "backtrace" "Ljava/lang/Object;") (by simp [Bundle.messageArmAtoms]))
  have bC := Cond.laysApart hdB hdC hdnB hdnC (by rw [hnB, Y.causeName]; decide)
  have bS := Cond.laysApart hdB hdS hdnB hdnS (by rw [hnB, Y.stackName]; decide)
  have bP := Cond.laysApart hdB hdP hdnB hdnP (by rw [hnB, Y.suppName]; decide)
  have hbk : ((preparedCellV T.toThrowableT (freshCell P1.m.cls kX) (W.heap.size + 2) u0 sen).withEntry W.cur).slots[fB.slot]? = some .null := by
    have := fresh_default (c := P1.m.cls) tyB
    rw [htB] at this
    simpa [preparedCellV, Cell.setSlot, Cell.withEntry, Array.getElem?_setIfInBounds, bC, bS, bP, bC.symm, bS.symm, bP.symm, defaultValue] using this
  have tkC := Takes.of_laid (v := .ref (W.heap.size + 2)) hk hord tyC (by rw [Y.causeType]; rfl)
  have tkS := Takes.of_laid (v := u0.v) hk hord tyS (by rw [Y.stackType]; exact fits_refV_array _ u0)
  have tkP := Takes.of_laid (v := sen.v) hk hord tyP (by rw [Y.suppType]; exact fits_refV_object _ sen)
  have tkM := Takes.of_laid (v := .ref (W.heap.size + 1)) hk hord tyM (by rw [Y.msgType]; rfl)
  have hskip : SkipFacts T e.platform s (fun u => u) u0 ((preparedCellV T.toThrowableT (freshCell P1.m.cls kX) (W.heap.size + 2) u0 sen).withEntry W.cur) := ⟨{ ci198 := ci198, i198 := i198, fBack := fB }, ⟨hk198, hg198, ha198, hsB⟩, hbk, fun _ _ => rfl⟩
  have h0 : At W g.method c below := by rw [hg]; exact X.here
  obtain ⟨hbeyond, hfreeW⟩ := X.vmMayThrow hsize (.throwNew cls (some text) none) (fun f hf => by cases hf) rfl hRlocals
  have hfr' : W.frames.length + Ps.length + 4 < (e.platform.stackLimits W.me).1 := by have := X.framesAbove hRframes; omega
  have hwd' : (stackUse (.java g :: W.frames.tail)).2 + 13 * Ps.length + 55 ≤ (e.platform.stackLimits W.me).2 := by have := X.stackAbove hsize (K := 13 * Ps.length + 55) (by omega); omega
  have hslots : W.slotsUsed + (stringBytes (stringToUtf16 text)).size + Zs.kS.instanceTypes.size + kX.instanceTypes.size ≤ e.platform.maxSlots := by
    have := X.slotsAbove hRslots
    rw [hn4, hn6]
    omega
  obtain ⟨vm', hW', st⟩ := Steps.vmThrowsMessageColdByV p (s₀ := s) (S := W) (g := g) h0 hexec T L Z LZ M LM X.warmed (t := W.cur) rfl Zs LZs P1 L1 Ps hL hlink1 hlink hsoe hoom hfound hk hinit hord hctor
    (Launch.admits_hotImplicitExceptions X.admits) hbeyond hfreeW htext hlimit hheap (X.cellsAbove hRcells) hslots (hfitv _) (hfitc _)
    (Nn := fun u => u) heapOnly_id (fun _ _ => rfl) (fun _ => rfl) (fun u x y => setCell_twice _ _ _ _) (fun _ => Nat.le_refl _) (cN := ((preparedCellV T.toThrowableT (freshCell P1.m.cls kX) (W.heap.size + 2) u0 sen).withEntry W.cur))
    hsel0 hcellS hknownS hvU tkS (fun _ hu => hu) (fun _ hu => hu) rfl rfl rfl (by simp [preparedCellV, Cell.setSlot, Cell.withEntry]) hskip (fun _ _ hA hW _ hroom _ hrest => L.nativeOff p htr hA hW hroom hrest) hselF hvSen tkC tkP tkM Y.objLocals rfl hfr' hwd'
  rw [plainBareV_eq T.toThrowableT (W.heap.size + 2) u0 sen (.ref (W.heap.size + 1)) W.cur rfl rfl] at st
  obtain ⟨-, -, w3, w4, -, -, -⟩ := withThrown_facts e.platform W Zs text P1.m.cls kX
  have X3 := ((X.pushed (bytesOf Zs.cB (stringToUtf16 text))).pushed (stringAt Zs.cS Zs.kS Zs.fv Zs.fc (stringToUtf16 text) W.heap.size)).pushed (freshCell P1.m.cls kX)
  rw [← withString_eq] at X3
  have X4 := X3.noted hW'
  have ha : (W.heap.size + 2) < ((withThrown W Zs text P1.m.cls kX).setVm vm').heap.size := by show _ < (withThrown W Zs text P1.m.cls kX).heap.size; rw [w3]; omega
  have hcell : ((withThrown W Zs text P1.m.cls kX).setVm vm').heap[(W.heap.size + 2)]? = some (freshCell P1.m.cls kX) := w4
  have X5 := ((((X4.stored hcell T.fCause.slot (.ref (W.heap.size + 2))).storedAgain ha T.fStack.slot u0.v).storedAgain ha T.fSupp.slot sen.v).storedAgain ha T.fStack.slot u0.v).storedAgain ha T.fMsg.slot (.ref (W.heap.size + 1))
  obtain ⟨g₁, hfrM⟩ := X5.frames_eq
  have hU : ((((withThrown W Zs text P1.m.cls kX).setVm vm').setCell (W.heap.size + 2) (plainBareV T.toThrowableT (freshCell P1.m.cls kX) (W.heap.size + 2) u0 sen (.ref (W.heap.size + 1)))).setTop g).pushFrame (.throwing (W.heap.size + 2)) = (((withThrown W Zs text P1.m.cls kX).setVm vm').setCell (W.heap.size + 2) (plainBareV T.toThrowableT (freshCell P1.m.cls kX) (W.heap.size + 2) u0 sen (.ref (W.heap.size + 1)))).setFrames (.throwing (W.heap.size + 2) :: .java g :: below) := by
    rw [State.pushFrame, State.frames_setTop _ hfrM, State.setTop_of_frames _ hfrM, State.setFrames_setFrames]
  have b1 : (bytesOf Zs.cB (stringToUtf16 text)).slots.size = (stringBytes (stringToUtf16 text)).size := by
    rw [(Cell.writeAll_facts _ _).2.2]; simp [bytes0]
  have b2 : (stringAt Zs.cS Zs.kS Zs.fv Zs.fc (stringToUtf16 text) W.heap.size).slots.size = 4 := by simp [string0, Cell.setSlot, hn4]
  have b3 : (freshCell P1.m.cls kX).slots.size = 6 := by simp [hn6]
  rw [b1, b2, b3] at X5
  have e9 : slots + (stringBytes (stringToUtf16 text)).size + 4 + 6 = slots + ((stringBytes (stringToUtf16 text)).size + 4 + 6) := by omega
  rw [e9] at X5
  simp only [List.append_assoc, List.cons_append, List.nil_append] at X5
  refine ⟨((withThrown W Zs text P1.m.cls kX).setVm vm').setCell (W.heap.size + 2) (plainBareV T.toThrowableT (freshCell P1.m.cls kX) (W.heap.size + 2) u0 sen (.ref (W.heap.size + 1))), W.heap.size + 2, _, fun target ht => st _ (by rw [X.tail, ← hU]; exact ht),
    X5.forget (fun y hy => ?_), heapAt_setCell_self _ ha, hfound, rfl⟩
  simp only [List.mem_cons, List.not_mem_nil, or_false] at hy
  have hge : s.heap.size ≤ W.heap.size := X.same.2.1
  rcases hy with rfl | rfl | rfl | rfl | rfl <;> exact Nat.le_trans hge (Nat.le_add_right _ 2)
set_option maxHeartbeats 1000000 in
/-- the machine throws NullPointerException, no traces kept: from its note over the frame g to 'throwing' over the same frame (follows the proof of Stand.vmThrowsNpe, Shelf42/KT2.lean; throwsNpeColdBareVAt, Shelf42/NT91.lean, called) -/
theorem vx_npeAt {p : Program} {l : Launch} {e : Env} {R : Room} {s : State} {m₀ : MethodId} {args : Array Value} {below : List Frame} {meth : Method} {c : Code} {W : State} {locs : List Loc} {cells slots : Nat}
    (X : Stand p l e R s m₀ args below meth c W locs cells slots) (hexec : p.tables.exec = Jvm.exec) (htr : e.platform.stackTraces = false) {n : Nat}
    (h : ∀ a ∈ Bundle.npeArmAtoms n, a.before args s = true)
    (hlocs : ∀ x ∈ locs, ∀ cell, s.heap[x.base]? = some cell → cell.vm.isStatics = false)
    {g : JFrame} (hg : g.method = m₀) (hsize : g.locals.size = c.maxLocals)
    (hRframes : 7 < R.frames) (hRlocals : 2 * g.monitorRoom + (g.stack.map fun v => v.category).sum + 10240 ≤ R.locals)
    (hRcells : cells + 1 ≤ R.cells) (hRslots : slots + n ≤ R.slots) (hlocks : meth.locks = false) :
    ∃ (S : State) (q : Addr) (ce : Cell), (∀ target, Steps p.tables e below ((S.setTop g).pushFrame (.throwing q)) target → Steps p.tables e below ((W.setTop g).pushFrame (.throwNew "java/lang/NullPointerException" none none)) target) ∧
      Stand p l e R s m₀ args below meth c S locs (cells + 1) (slots + n) ∧ S.heap[q]? = some ce ∧ s.vm.findClass "java/lang/NullPointerException" = some ce.cls ∧ ce.vm = .none := by
  have howns : e.platform.frameOwnsMonitors = true := by rw [X.admits.platform]
  have hfin : e.platform.finalization = false := by rw [X.admits.platform]
  have hpl : e.platform.magicAccessors = ({} : Platform).magicAccessors := by rw [X.admits.platform]
  have hpl2 : e.platform.arrayCloneIsPublic = true := by rw [X.admits.platform]
  have a' : ∀ x, x ∈ Bundle.npeArmAtoms n → x.holds args s none s [] = true := fun x hx => h x hx
  obtain ⟨T, Z, L, LZ, Y⟩ := ThrowableC.of_atoms (args := args) howns hfin hpl (fun x hx => h x (by simp [Bundle.npeArmAtoms, hx]))
  obtain ⟨N, LN, hcN, hnNF, hordN, hffS⟩ := NpeC.of_atoms (args := args) hpl hpl2 L Y (fun x hx => h x (by simp [Bundle.npeArmAtoms, hx]))
  obtain ⟨P1, L1, hP1m, hP1s⟩ := PassC.of_atoms (args := args) (s := s) hpl (X := Bundle.nN) (Y := Bundle.rN) (by decide) (by decide) LibCode.NullPointerException.Init0.at_0 LibCode.NullPointerException.Init0.at_1 LibCode.NullPointerException.Init0.at_4 (fun x hx => h x (by simp [Bundle.npeArmAtoms, hx]))
  obtain ⟨PR, LR, hPRm, hPRs⟩ := PassC.of_atoms (args := args) (s := s) hpl (X := Bundle.rN) (Y := Bundle.eN) (by decide) (by decide) LibCode.RuntimeException.Init0.at_0 LibCode.RuntimeException.Init0.at_1 LibCode.RuntimeException.Init0.at_4 (fun x hx => h x (by simp [Bundle.npeArmAtoms, hx]))
  obtain ⟨PE, LEx, hPEm, hPEs⟩ := PassC.of_atoms (args := args) (s := s) hpl (X := Bundle.eN) (Y := Bundle.tN) (by decide) (by decide) LibCode.Exception.Init0.at_0 LibCode.Exception.Init0.at_1 LibCode.Exception.Init0.at_4 (fun x hx => h x (by simp [Bundle.npeArmAtoms, hx]))
  have hfound : s.vm.findClass Bundle.nN = some P1.m.cls := findClass_of_methodNamed hP1m
  have ecls : N.cN = P1.m.cls := Option.some.inj (hcN.symm.trans hfound)
  have hk : s.vm.classes[P1.m.cls]? = some N.kN := by rw [← ecls]; exact LN.cls
  have hinit := Cond.initialized_spec hfound hk (a' (.initialized Bundle.nN) (by simp [Bundle.npeArmAtoms]))
  have hctor : N.kN.findMethod "<init>" "()V" = some P1.m.idx := findMethod_of_methodNamed hP1m hk
  obtain ⟨c1, k1, hc1, hk1, -, -, -, hn⟩ := Cond.instantiable_spec (a' (.instantiable Bundle.nN n) (by simp [Bundle.npeArmAtoms]))
  cases Option.some.inj (hc1.symm.trans hfound)
  cases Option.some.inj (hk1.symm.trans hk)
  have hfsz : (freshCell P1.m.cls N.kN).slots.size = n := by simp [hn]
  have hlink1 : P1.sup = PR.m := Option.some.inj (hP1s.symm.trans hPRm)
  have hlinkR : PR.sup = PE.m := Option.some.inj (hPRs.symm.trans hPEm)
  have hlinkE : PE.sup = Z.m T.toThrowableT := Option.some.inj (hPEs.symm.trans Y.init0)
  have hLs : ∀ P, P ∈ [PR, PE] → P.Links0 e.platform s := fun P hP => by
    simp only [List.mem_cons, List.not_mem_nil, or_false] at hP
    rcases hP with rfl | rfl
    · exact LR
    · exact LEx
  have hsel0 : selectMethod e.platform s.vm P1.m.cls T.fill0 = .method T.fill0 := by
    obtain ⟨c2, r2, m2, q1, q2, q3, q4, -⟩ := Cond.selects_spec (a' (.selects Bundle.nN Bundle.tFill0 Bundle.tFill0) (by simp [Bundle.npeArmAtoms]))
    cases Option.some.inj (q1.symm.trans hfound)
    cases Option.some.inj (q2.symm.trans (State.methodFound?_of_named Y.fill0 (by decide)))
    cases Option.some.inj (q3.symm.trans Y.fill0)
    rw [Launch.admits_selectMethod X.admits]; exact q4
  have hselF : selectMethod e.platform s.vm P1.m.cls T.fill = .method N.fill := by
    obtain ⟨c2, r2, m2, q1, q2, q3, q4, -⟩ := Cond.selects_spec (a' (.selects Bundle.nN Bundle.tFill Bundle.nFill) (by simp [Bundle.npeArmAtoms]))
    cases Option.some.inj (q1.symm.trans hfound)
    cases Option.some.inj (q2.symm.trans (State.methodFound?_of_named Y.fill (by decide)))
    cases Option.some.inj (q3.symm.trans hnNF)
    rw [Launch.admits_selectMethod X.admits]; exact q4
  obtain ⟨cellS0, hcS0, hiss⟩ := Y.statics
  obtain ⟨u0, hu0⟩ := Cond.staticRefV Y.unassigned L.unassignedStatic L.statics hcS0 hiss (a' (.isRef (.static Bundle.tN "UNASSIGNED_STACK" Bundle.steD)) (by simp [Bundle.npeArmAtoms]))
  obtain ⟨sen, hsen⟩ := Cond.staticRefV Y.sentinel L.sentinelStatic L.statics hcS0 hiss (a' (.isRef (.static Bundle.tN "SUPPRESSED_SENTINEL" Bundle.listD)) (by simp [Bundle.npeArmAtoms]))
  obtain ⟨ci198, i198, fB, hk198, hg198, ha198, hsB, -, hnB, htB, hffB⟩ := Cond.ownField (t := .object "java/lang/Object") Y.found L.cls (by decide +kernel) (a' (.fieldLink Bundle.tN 198 Bundle.tN "backtrace" Bundle.objD) (by simp [Bundle.npeArmAtoms])) (a' (.lays Bundle.tN Bundle.tN "backtrace" Bundle.objD) (by simp [Bundle.npeArmAtoms])) e.platform hpl
  obtain ⟨cellS, hcS', heS, -, hkeep⟩ := X.same.2.2.2.2.2 T.aS cellS0 hcS0
  have hcellS : W.heap[T.aS]? = some cellS := hcS'
  have hout' : ∀ i, (⟨T.aS, i⟩ : Loc) ∉ locs := fun i hmem => by
    have := hlocs _ hmem cellS0 hcS0
    rw [hiss] at this; cases this
  have hknownS : cellS.vm ≠ .unknown := by
    rw [heS]; intro hu
    rw [show cellS0.vm = .unknown from hu] at hiss
    cases hiss
  have hvU : cellS.slots[T.fUnassigned.slot]? = some u0.v := by rw [hkeep _ (hout' _)]; exact hu0
  have hvSen : cellS.slots[T.fSentinel.slot]? = some sen.v := by rw [hkeep _ (hout' _)]; exact hsen
  obtain ⟨tyC, dC, hdC, hdnC⟩ := Cond.laysAt hfound hk Y.cause (a' (.lays Bundle.nN Bundle.tN "cause" "Ljava/lang/Throwable;") (by simp [Bundle.npeArmAtoms]))
  obtain ⟨tyS, dS, hdS, hdnS⟩ := Cond.laysAt hfound hk Y.stack (a' (.lays Bundle.nN Bundle.tN "stackTrace" Bundle.steD) (by simp [Bundle.npeArmAtoms]))
  obtain ⟨tyP, dP, hdP, hdnP⟩ := Cond.laysAt hfound hk Y.supp (a' (.lays Bundle.nN Bundle.tN "suppressedExceptions" Bundle.listD) (by simp [Bundle.npeArmAtoms]))
  obtain ⟨tyX, dX, hdX, hdnX⟩ := Cond.laysAt hfound hk hffS (a' (.lays Bundle.nN Bundle.nN "extendedMessageState" "I") (by simp [Bundle.npeArmAtoms, Bundle.npeAtoms]))
  obtain ⟨hnX, htX⟩ := State.fieldFound?_type hffS (t := .int) (by decide +kernel)
  have xC := Cond.laysApart hdC hdX hdnC hdnX (by rw [hnX, Y.causeName]; decide)
  have xS := Cond.laysApart hdS hdX hdnS hdnX (by rw [hnX, Y.stackName]; decide)
  have xP := Cond.laysApart hdP hdX hdnP hdnX (by rw [hnX, Y.suppName]; decide)
  have hv0 : (freshCell P1.m.cls N.kN).slots[N.fState.slot]? = some (.int 0) := by
    have := fresh_default (c := P1.m.cls) tyX
    rw [htX] at this; exact this
  obtain ⟨tyB, dB, hdB, hdnB⟩ := Cond.laysAt hfound hk hffB (a' (.lays Bundle.nN Bundle.tN "backtrace" Bundle.objD) (by simp [Bundle.npeArmAtoms]))
  have bC := Cond.laysApart hdB hdC hdnB hdnC (by rw [hnB, Y.causeName]; decide)
  have bS := Cond.laysApart hdB hdS hdnB hdnS (by rw [hnB, Y.stackName]; decide)
  have bP := Cond.laysApart hdB hdP hdnB hdnP (by rw [hnB, Y.suppName]; decide)
  have bX := Cond.laysApart hdB hdX hdnB hdnX (by rw [hnB, hnX]; decide)
  have hbk : ((npeCell N.toNpeT (preparedCellV T.toThrowableT (freshCell P1.m.cls N.kN) W.heap.size u0 sen) W.cur).withEntry W.cur).slots[fB.slot]? = some .null := by
    have := fresh_default (c := P1.m.cls) tyB
    rw [htB] at this
    simpa [npeCell, preparedCellV, Cell.setSlot, Cell.withEntry, Array.getElem?_setIfInBounds, bC, bS, bP, bX, bC.symm, bS.symm, bP.symm, bX.symm, defaultValue] using this
  have tkC := Takes.of_laid (v := .ref W.heap.size) hk hordN tyC (by rw [Y.causeType]; rfl)
  have tkS := Takes.of_laid (v := u0.v) hk hordN tyS (by rw [Y.stackType]; exact fits_refV_array _ u0)
  have tkP := Takes.of_laid (v := sen.v) hk hordN tyP (by rw [Y.suppType]; exact fits_refV_object _ sen)
  have tkX := Takes.of_laid (v := .int 1) hk hordN tyX (by rw [htX]; rfl)
  have hskip : SkipFacts T e.platform s (fun u => u) u0 ((npeCell N.toNpeT (preparedCellV T.toThrowableT (freshCell P1.m.cls N.kN) W.heap.size u0 sen) W.cur).withEntry W.cur) := ⟨{ ci198 := ci198, i198 := i198, fBack := fB }, ⟨hk198, hg198, ha198, hsB⟩, hbk, fun _ _ => rfl⟩
  obtain ⟨vm', X3, st, -⟩ := X.throwsNpeColdBareVAt hexec hg hsize T L Z LZ N LN P1 L1 [PR, PE] hLs hlink1 ⟨hlinkR, hlinkE, trivial⟩ hfound hk hinit hordN hctor hsel0 hselF hcellS hknownS hvU hvSen
    hv0 xC xS xP tkC tkS tkP tkX Y.objLocals hskip (fun _ _ hA hW _ hroom _ hrest => L.nativeOff p htr hA hW hroom hrest) (by simpa using hRframes) hRlocals (by simp) hRcells (by rw [hn]; exact hRslots)
  have hlt : W.heap.size < ((W.pushCell (freshCell P1.m.cls N.kN)).setVm vm').heap.size := by
    show W.heap.size < (W.pushCell (freshCell P1.m.cls N.kN)).heap.size
    rw [State.heap_size_pushCell]; omega
  rw [hfsz] at X3
  obtain ⟨g₁, hfrM⟩ := X3.frames_eq
  have hU : ((((W.pushCell (freshCell P1.m.cls N.kN)).setVm vm').setCell W.heap.size (npeBareV T.toThrowableT N.toNpeT (freshCell P1.m.cls N.kN) W.heap.size u0 sen)).setTop g).pushFrame (.throwing W.heap.size) = (((W.pushCell (freshCell P1.m.cls N.kN)).setVm vm').setCell W.heap.size (npeBareV T.toThrowableT N.toNpeT (freshCell P1.m.cls N.kN) W.heap.size u0 sen)).setFrames (.throwing W.heap.size :: .java g :: below) := by
    rw [State.pushFrame, State.frames_setTop _ hfrM, State.setTop_of_frames _ hfrM, State.setFrames_setFrames]
  refine ⟨_, W.heap.size, _, fun target ht => st.trans (by rw [← hU]; exact ht), X3.forget (fun y hy => ?_), heapAt_setCell_self _ hlt, hfound, rfl⟩
  simp only [List.mem_cons, List.not_mem_nil, or_false] at hy
  have hge : s.heap.size ≤ W.heap.size := X.same.2.1
  rcases hy with rfl | rfl | rfl | rfl | rfl <;> exact hge
/-- the words of a machine's NullPointerException, but the four that speak of the heap -/
def vx_atN (n : Nat) : List Cond := (Bundle.npeArmAtoms n).filter vx_no
/-- the words of a machine's throw with a message, but the four that speak of the heap -/
def vx_atM (X : String) (names : List String) : List Cond := (Bundle.messageArmAtoms X names).filter vx_no
section
variable {p : Program} {l : Launch} {e : Env} {R : Room} {s : State} {m : MethodId} {args : Array Value} {below : List Frame} {meth : Method} {c : Code} {H : Heap} {locs : List Loc} {cells slots : Nat}
/-- a frame seen from a rebased start, seen from the first start again -/
theorem vx_back9 {T S : State} {R' : Room} {k n : Nat} (X : Stand p l e R s m args below meth c T locs cells slots) (Y : Stand p l e R' ((T.setVm s.vm).setFrames (.invoking m args :: below)) m args below meth c T [] 0 0) (Z : Stand p l e R' ((T.setVm s.vm).setFrames (.invoking m args :: below)) m args below meth c S [] k n) :
    Stand p l e R s m args below meth c S locs (cells + k) (slots + n) := by
  have hW0 : s.WarmedH ((T.setVm s.vm).setFrames (.invoking m args :: below)).vm := State.WarmedH.refl s
  refine { admits := X.admits, cas := X.cas, clock := X.clock, frames := X.frames, room := X.room, hears := X.hears, method := X.method, code := X.code, here := Z.here, tail := Z.tail, warmed := State.WarmedH.trans hW0 Z.warmed, limits := Z.limits.trans (Y.limits.symm.trans X.limits), bytes := Z.bytes.trans (Y.bytes.symm.trans X.bytes), same := ?_ }
  obtain ⟨e1, e2⟩ := Z.same
  rw [State.setFrames_setFrames] at e1
  have h2 : (T.setVm s.vm).sameButNew (S.setVm s.vm) [] k n := ⟨e1, e2⟩
  have h3 := X.same.trans h2
  rw [List.append_nil] at h3
  exact h3
/-- from the machine's note that E is thrown here with this text -/
def vx_Note (p : Program) (l : Launch) (e : Env) (R : Room) (s : State) (m : MethodId) (args : Array Value) (below : List Frame) (meth : Method) (c : Code) (H : Heap) (locs : List Loc) (cells slots : Nat) (Q : State → Prop) (g : JFrame) (E text : String) : Prop :=
  ∀ T : State, T.heap = H → Stand p l e R s m args below meth c T locs cells slots → ∃ t, Steps p.tables e below ((T.setTop g).pushFrame (.throwNew E (some text) none)) t ∧ Q t
theorem vx_vm {pc : Nat} {ls : Array Slot} {rest : List Value} {Q : State → Prop} (hexec : p.tables.exec = Jvm.exec) (hl : l.stackTraces = false) {cls text : String} {names : List String} {nb : Nat} {A : Nat → Prop}
    (hcls : Bundle.fit cls = true) (hnames : ∀ n ∈ names, Bundle.fit n = true) (hsoe : (cls == "java/lang/StackOverflowError") = false) (hoom : (cls == "java/lang/OutOfMemoryError") = false)
    (hat : ∀ w ∈ vx_atM cls names, w.before args s = true) (hgood : ∀ w ∈ vx_atM cls names, vx_ot w = true)
    (hU : vx_Zq Bundle.tN "UNASSIGNED_STACK" Bundle.steD A s s.heap) (hN : vx_Zq Bundle.tN "SUPPRESSED_SENTINEL" Bundle.listD A s s.heap) (hS : va_S A s.heap H locs) (hsize : ls.size = c.maxLocals)
    (htext : (text == notModelled) = false) (hnb : (stringBytes (stringToUtf16 text)).size ≤ nb) (hnb1 : nb ≤ 1000)
    (hRframes : names.length + 4 < R.frames) (hRlocals : (rest.map fun v => v.category).sum + 10240 ≤ R.locals) (hshort : 13 * names.length + 55 ≤ 10240) (hRcells : cells + 3 ≤ R.cells) (hRslots : slots + (nb + 10) ≤ R.slots) (hlocks : meth.locks = false)
    (k : ∀ (H1 : Heap) (q9 : Addr) (ce : Cell), H.size ≤ H1.size → (∀ q : Nat, q < H.size → H1[q]? = H[q]?) → va_S A s.heap H1 locs → H1[q9]? = some ce → ce.vm = .none → s.vm.findClass cls = some ce.cls → vx_W p l e R s m args below meth c H1 locs (cells + 3) (slots + (nb + 10)) Q (F0 m pc ls rest) q9) :
    vx_Note p l e R s m args below meth c H locs cells slots Q (F0 m pc ls rest) cls text := by
  intro T hT X
  have htr : e.platform.stackTraces = false := (show e.platform.stackTraces = l.stackTraces by rw [X.admits.platform]).trans hl
  have Y := vx_rebase X (R' := { frames := R.frames, locals := R.locals, cells := 3, slots := nb + 10 }) (Nat.le_refl _) (Nat.le_refl _) hRcells hRslots
  have hhp : ((T.setVm s.vm).setFrames (.invoking m args :: below)).heap = H := hT
  have hW0 : s.WarmedH ((T.setVm s.vm).setFrames (.invoking m args :: below)).vm := State.WarmedH.refl s
  have hat' : ∀ w ∈ vx_atM cls names, w.before args ((T.setVm s.vm).setFrames (.invoking m args :: below)) = true := fun w hw => vx_ot_at hW0 rfl (hgood w hw) (hat w hw)
  have hU' : vx_Zq Bundle.tN "UNASSIGNED_STACK" Bundle.steD A ((T.setVm s.vm).setFrames (.invoking m args :: below)) ((T.setVm s.vm).setFrames (.invoking m args :: below)).heap := by rw [hhp]; exact vx_Zq.moved hW0.alike (hU.kept hS.2.1)
  have hN' : vx_Zq Bundle.tN "SUPPRESSED_SENTINEL" Bundle.listD A ((T.setVm s.vm).setFrames (.invoking m args :: below)) ((T.setVm s.vm).setFrames (.invoking m args :: below)).heap := by rw [hhp]; exact vx_Zq.moved hW0.alike (hN.kept hS.2.1)
  obtain ⟨S, q, ce, st, Z, hce, hcl', hv⟩ := vx_vmAt Y hexec htr (cls := cls) (names := names) (text := text) hcls hnames hsoe hoom (vx_own hat' (vx_isRefq hU'.1) (vx_isRefq hN'.1) hU'.2.word hN'.2.word) (fun x hx => nomatch hx) htext
    (by rw [Launch.admits_arrayLengthLimit X.admits]; omega) (by rw [Launch.admits_maxHeapBytes X.admits]; simp only [componentBytes]; omega)
    (g := F0 m pc ls rest) rfl hsize hRframes (by show 2 * 0 + (rest.map fun v => v.category).sum + 10240 ≤ R.locals; omega) hshort (by show 0 + 3 ≤ 3; omega) (by show 0 + (_ + 4 + 6) ≤ nb + 10; omega) hlocks
  obtain ⟨f1, f2⟩ := vx_frame Z.same
  have f1' : H.size ≤ S.heap.size := by rw [← hT]; exact f1
  have f2' : ∀ q : Nat, q < H.size → S.heap[q]? = H[q]? := fun q hq => by
    rw [← hT]
    exact f2 q (by rw [← hT] at hq; exact hq) (fun z hz => nomatch hz)
  have X5 := vx_back9 X Y Z
  have X6 : Stand p l e R s m args below meth c S locs (cells + 3) (slots + (nb + 10)) := { X5 with same := X5.same.mono (by omega) (by omega) }
  obtain ⟨t, a1, b1⟩ := k S.heap q ce f1' f2' ⟨Nat.le_trans hS.1 f1', fun q h1 h2 => (f2' q (Nat.lt_of_lt_of_le h1 hS.1)).trans (hS.2.1 q h1 h2), hS.2.2⟩ hce hv hcl' S rfl X6
  exact ⟨t, st t a1, b1⟩
/-- from the machine's note that NullPointerException is thrown here -/
def vx_NoteN (p : Program) (l : Launch) (e : Env) (R : Room) (s : State) (m : MethodId) (args : Array Value) (below : List Frame) (meth : Method) (c : Code) (H : Heap) (locs : List Loc) (cells slots : Nat) (Q : State → Prop) (g : JFrame) : Prop :=
  ∀ T : State, T.heap = H → Stand p l e R s m args below meth c T locs cells slots → ∃ t, Steps p.tables e below ((T.setTop g).pushFrame (.throwNew "java/lang/NullPointerException" none none)) t ∧ Q t
theorem vx_npe {pc : Nat} {ls : Array Slot} {rest : List Value} {Q : State → Prop} (hexec : p.tables.exec = Jvm.exec) (hl : l.stackTraces = false) {nb : Nat} {A : Nat → Prop}
    (hat : ∀ w ∈ vx_atN nb, w.before args s = true) (hgood : ∀ w ∈ vx_atN nb, vx_ot w = true)
    (hU : vx_Zq Bundle.tN "UNASSIGNED_STACK" Bundle.steD A s s.heap) (hN : vx_Zq Bundle.tN "SUPPRESSED_SENTINEL" Bundle.listD A s s.heap) (hS : va_S A s.heap H locs) (hsize : ls.size = c.maxLocals)
    (hRframes : 7 < R.frames) (hRlocals : (rest.map fun v => v.category).sum + 10240 ≤ R.locals) (hRcells : cells + 1 ≤ R.cells) (hRslots : slots + nb ≤ R.slots) (hlocks : meth.locks = false)
    (k : ∀ (H1 : Heap) (q9 : Addr) (ce : Cell), H.size ≤ H1.size → (∀ q : Nat, q < H.size → H1[q]? = H[q]?) → va_S A s.heap H1 locs → H1[q9]? = some ce → ce.vm = .none → s.vm.findClass "java/lang/NullPointerException" = some ce.cls → vx_W p l e R s m args below meth c H1 locs (cells + 1) (slots + nb) Q (F0 m pc ls rest) q9) :
    vx_NoteN p l e R s m args below meth c H locs cells slots Q (F0 m pc ls rest) := by
  intro T hT X
  have htr : e.platform.stackTraces = false := (show e.platform.stackTraces = l.stackTraces by rw [X.admits.platform]).trans hl
  have Y := vx_rebase X (R' := { frames := R.frames, locals := R.locals, cells := 1, slots := nb }) (Nat.le_refl _) (Nat.le_refl _) hRcells hRslots
  have hhp : ((T.setVm s.vm).setFrames (.invoking m args :: below)).heap = H := hT
  have hW0 : s.WarmedH ((T.setVm s.vm).setFrames (.invoking m args :: below)).vm := State.WarmedH.refl s
  have hat' : ∀ w ∈ vx_atN nb, w.before args ((T.setVm s.vm).setFrames (.invoking m args :: below)) = true := fun w hw => vx_ot_at hW0 rfl (hgood w hw) (hat w hw)
  have hU' : vx_Zq Bundle.tN "UNASSIGNED_STACK" Bundle.steD A ((T.setVm s.vm).setFrames (.invoking m args :: below)) ((T.setVm s.vm).setFrames (.invoking m args :: below)).heap := by rw [hhp]; exact vx_Zq.moved hW0.alike (hU.kept hS.2.1)
  have hN' : vx_Zq Bundle.tN "SUPPRESSED_SENTINEL" Bundle.listD A ((T.setVm s.vm).setFrames (.invoking m args :: below)) ((T.setVm s.vm).setFrames (.invoking m args :: below)).heap := by rw [hhp]; exact vx_Zq.moved hW0.alike (hN.kept hS.2.1)
  obtain ⟨S, q, ce, st, Z, hce, hcl', hv⟩ := vx_npeAt Y hexec htr (n := nb) (vx_own hat' (vx_isRefq hU'.1) (vx_isRefq hN'.1) hU'.2.word hN'.2.word) (fun x hx => nomatch hx)
    (g := F0 m pc ls rest) rfl hsize hRframes (by show 2 * 0 + (rest.map fun v => v.category).sum + 10240 ≤ R.locals; omega) (by show 0 + 1 ≤ 1; omega) (by show 0 + nb ≤ nb; omega) hlocks
  obtain ⟨f1, f2⟩ := vx_frame Z.same
  have f1' : H.size ≤ S.heap.size := by rw [← hT]; exact f1
  have f2' : ∀ q : Nat, q < H.size → S.heap[q]? = H[q]? := fun q hq => by
    rw [← hT]
    exact f2 q (by rw [← hT] at hq; exact hq) (fun z hz => nomatch hz)
  have X5 := vx_back9 X Y Z
  have X6 : Stand p l e R s m args below meth c S locs (cells + 1) (slots + nb) := { X5 with same := X5.same.mono (by omega) (by omega) }
  obtain ⟨t, a1, b1⟩ := k S.heap q ce f1' f2' ⟨Nat.le_trans hS.1 f1', fun q h1 h2 => (f2' q (Nat.lt_of_lt_of_le h1 hS.1)).trans (hS.2.1 q h1 h2), hS.2.2⟩ hce hv hcl' S rfl X6
  exact ⟨t, st t a1, b1⟩
variable {Q : State → Prop} {cc : ByteArray} {pc : Nat} {ls : Array Slot} {rest : List Value}
theorem vx_idivZ (hexec : p.tables.exec = Jvm.exec) (hb : c.code = cc) {a b : Int32} (h0 : b = 0) (d : decode cc pc = .ok (.idiv, 1)) (k : vx_Note p l e R s m args below meth c H locs cells slots Q (F0 m pc ls rest) "java/lang/ArithmeticException" "/ by zero") :
    W p l e R s m args below meth c H locs cells slots Q (F0 m pc ls (.int b :: .int a :: rest)) := by
  intro T hT X
  obtain ⟨t, st, q⟩ := k T hT X
  exact ⟨t, X.idivZero hexec (g := F0 m pc ls (.int b :: .int a :: rest)) rfl (a := a) (rest := rest) (by rw [h0]) (by rw [hb]; exact d) t st, q⟩
theorem vx_iremZ (hexec : p.tables.exec = Jvm.exec) (hb : c.code = cc) {a b : Int32} (h0 : b = 0) (d : decode cc pc = .ok (.irem, 1)) (k : vx_Note p l e R s m args below meth c H locs cells slots Q (F0 m pc ls rest) "java/lang/ArithmeticException" "/ by zero") :
    W p l e R s m args below meth c H locs cells slots Q (F0 m pc ls (.int b :: .int a :: rest)) := by
  intro T hT X
  obtain ⟨t, st, q⟩ := k T hT X
  exact ⟨t, X.iremZero hexec (g := F0 m pc ls (.int b :: .int a :: rest)) rfl (a := a) (rest := rest) (by rw [h0]) (by rw [hb]; exact d) t st, q⟩
theorem vx_ldivZ (hexec : p.tables.exec = Jvm.exec) (hb : c.code = cc) {a b : Int64} (h0 : b = 0) (d : decode cc pc = .ok (.ldiv, 1)) (k : vx_Note p l e R s m args below meth c H locs cells slots Q (F0 m pc ls rest) "java/lang/ArithmeticException" "/ by zero") :
    W p l e R s m args below meth c H locs cells slots Q (F0 m pc ls (.long b :: .long a :: rest)) := by
  intro T hT X
  obtain ⟨t, st, q⟩ := k T hT X
  exact ⟨t, X.ldivZero hexec (g := F0 m pc ls (.long b :: .long a :: rest)) rfl (a := a) (rest := rest) (by rw [h0]) (by rw [hb]; exact d) t st, q⟩
theorem vx_lremZ (hexec : p.tables.exec = Jvm.exec) (hb : c.code = cc) {a b : Int64} (h0 : b = 0) (d : decode cc pc = .ok (.lrem, 1)) (k : vx_Note p l e R s m args below meth c H locs cells slots Q (F0 m pc ls rest) "java/lang/ArithmeticException" "/ by zero") :
    W p l e R s m args below meth c H locs cells slots Q (F0 m pc ls (.long b :: .long a :: rest)) := by
  intro T hT X
  obtain ⟨t, st, q⟩ := k T hT X
  exact ⟨t, X.lremZero hexec (g := F0 m pc ls (.long b :: .long a :: rest)) rfl (a := a) (rest := rest) (by rw [h0]) (by rw [hb]; exact d) t st, q⟩
theorem vx_ialdZ {D : va_G} {cl : List vw_C} {ws : va_W} {tys : List (ClassId × FieldType)} {a : Nat} (hexec : p.tables.exec = Jvm.exec) (hb : c.code = cc) (hK : va_K D cl tys s) (hP : va_P D cl ws H) (q0 t0 : Nat) {cA : ClassId} {n : Nat} {f : Nat → Int32} (ha : ws[q0]? = some (a, .inl (cA, n, .inl f))) (ht : tys[t0]? = some (cA, .int)) {i : Int32} (hout : ¬ vp_in i n) (hdg : decode cc pc = .ok (.iaload, 1))
    (k : ∀ tx : String, tx = (toString "Index " ++ toString i ++ toString " out of bounds for length " ++ toString n : String) → vx_Note p l e R s m args below meth c H locs cells slots Q (F0 m pc ls rest) "java/lang/ArrayIndexOutOfBoundsException" tx) : W p l e R s m args below meth c H locs cells slots Q (F0 m pc ls (.int i :: .ref a :: rest)) := by
  intro T hT X
  obtain ⟨t, st, q⟩ := k _ rfl T hT X
  refine ⟨t, ?_, q⟩
  have h1 := X.ialoadOut hexec (by rw [hT]; exact hP q0 _ ha) ((hK.2 t0 _ ht).1 n (fun j => .int (f j))) (j := i) (by show (i < 0 ∨ (arrV _ _ _).slots.size ≤ _); rw [arrV_size]; exact Classical.byContradiction hout) (g := F0 m pc ls (.int i :: .ref a :: rest)) rfl (rest := rest) rfl (by rw [hb]; exact hdg) t
  simp only [arrV_size] at h1
  exact h1 st
theorem vx_iastZ {D : va_G} {cl : List vw_C} {ws : va_W} {tys : List (ClassId × FieldType)} {a : Nat} (hexec : p.tables.exec = Jvm.exec) (hb : c.code = cc) (hK : va_K D cl tys s) (hP : va_P D cl ws H) (q0 t0 : Nat) {cA : ClassId} {n : Nat} {f : Nat → Int32} (ha : ws[q0]? = some (a, .inl (cA, n, .inl f))) (ht : tys[t0]? = some (cA, .int)) {i : Int32} {x : Int32} (hout : ¬ vp_in i n) (hdg : decode cc pc = .ok (.iastore, 1))
    (k : ∀ tx : String, tx = (toString "Index " ++ toString i ++ toString " out of bounds for length " ++ toString n : String) → vx_Note p l e R s m args below meth c H locs cells slots Q (F0 m pc ls rest) "java/lang/ArrayIndexOutOfBoundsException" tx) : W p l e R s m args below meth c H locs cells slots Q (F0 m pc ls (.int x :: .int i :: .ref a :: rest)) := by
  intro T hT X
  obtain ⟨t, st, q⟩ := k _ rfl T hT X
  refine ⟨t, ?_, q⟩
  have h1 := X.iastoreOut hexec (by rw [hT]; exact hP q0 _ ha) ((hK.2 t0 _ ht).1 n (fun j => .int (f j))) (j := i) (by show (i < 0 ∨ (arrV _ _ _).slots.size ≤ _); rw [arrV_size]; exact Classical.byContradiction hout) (g := F0 m pc ls (.int x :: .int i :: .ref a :: rest)) rfl (rest := rest) rfl (by rw [hb]; exact hdg) t
  simp only [arrV_size] at h1
  exact h1 st
theorem vx_baldZ {D : va_G} {cl : List vw_C} {ws : va_W} {tys : List (ClassId × FieldType)} {a : Nat} (hexec : p.tables.exec = Jvm.exec) (hb : c.code = cc) (hK : va_K D cl tys s) (hP : va_P D cl ws H) (q0 t0 : Nat) {cA : ClassId} {n : Nat} {f : Nat → Int32} (ha : ws[q0]? = some (a, .inl (cA, n, .inl f))) (ht : tys[t0]? = some (cA, .byte)) {i : Int32} (hout : ¬ vp_in i n) (hdg : decode cc pc = .ok (.baload, 1))
    (k : ∀ tx : String, tx = (toString "Index " ++ toString i ++ toString " out of bounds for length " ++ toString n : String) → vx_Note p l e R s m args below meth c H locs cells slots Q (F0 m pc ls rest) "java/lang/ArrayIndexOutOfBoundsException" tx) : W p l e R s m args below meth c H locs cells slots Q (F0 m pc ls (.int i :: .ref a :: rest)) := by
  intro T hT X
  obtain ⟨t, st, q⟩ := k _ rfl T hT X
  refine ⟨t, ?_, q⟩
  have h1 := X.baloadOut hexec (by rw [hT]; exact hP q0 _ ha) ((hK.2 t0 _ ht).1 n (fun j => .int (f j))) (j := i) (by show (i < 0 ∨ (arrV _ _ _).slots.size ≤ _); rw [arrV_size]; exact Classical.byContradiction hout) (g := F0 m pc ls (.int i :: .ref a :: rest)) rfl (rest := rest) rfl (by rw [hb]; exact hdg) t
  simp only [arrV_size] at h1
  exact h1 st
theorem vx_bastZ {D : va_G} {cl : List vw_C} {ws : va_W} {tys : List (ClassId × FieldType)} {a : Nat} (hexec : p.tables.exec = Jvm.exec) (hb : c.code = cc) (hK : va_K D cl tys s) (hP : va_P D cl ws H) (q0 t0 : Nat) {cA : ClassId} {n : Nat} {f : Nat → Int32} (ha : ws[q0]? = some (a, .inl (cA, n, .inl f))) (ht : tys[t0]? = some (cA, .byte)) {i : Int32} {x : Int32} (hout : ¬ vp_in i n) (hdg : decode cc pc = .ok (.bastore, 1))
    (k : ∀ tx : String, tx = (toString "Index " ++ toString i ++ toString " out of bounds for length " ++ toString n : String) → vx_Note p l e R s m args below meth c H locs cells slots Q (F0 m pc ls rest) "java/lang/ArrayIndexOutOfBoundsException" tx) : W p l e R s m args below meth c H locs cells slots Q (F0 m pc ls (.int x :: .int i :: .ref a :: rest)) := by
  intro T hT X
  obtain ⟨t, st, q⟩ := k _ rfl T hT X
  refine ⟨t, ?_, q⟩
  have h1 := X.bastoreOut hexec (by rw [hT]; exact hP q0 _ ha) ((hK.2 t0 _ ht).1 n (fun j => .int (f j))) (j := i) (by show (i < 0 ∨ (arrV _ _ _).slots.size ≤ _); rw [arrV_size]; exact Classical.byContradiction hout) (g := F0 m pc ls (.int x :: .int i :: .ref a :: rest)) rfl (rest := rest) rfl (by rw [hb]; exact hdg) t
  simp only [arrV_size] at h1
  exact h1 st
theorem vx_zaldZ {D : va_G} {cl : List vw_C} {ws : va_W} {tys : List (ClassId × FieldType)} {a : Nat} (hexec : p.tables.exec = Jvm.exec) (hb : c.code = cc) (hK : va_K D cl tys s) (hP : va_P D cl ws H) (q0 t0 : Nat) {cA : ClassId} {n : Nat} {f : Nat → Int32} (ha : ws[q0]? = some (a, .inl (cA, n, .inl f))) (ht : tys[t0]? = some (cA, .boolean)) {i : Int32} (hout : ¬ vp_in i n) (hdg : decode cc pc = .ok (.baload, 1))
    (k : ∀ tx : String, tx = (toString "Index " ++ toString i ++ toString " out of bounds for length " ++ toString n : String) → vx_Note p l e R s m args below meth c H locs cells slots Q (F0 m pc ls rest) "java/lang/ArrayIndexOutOfBoundsException" tx) : W p l e R s m args below meth c H locs cells slots Q (F0 m pc ls (.int i :: .ref a :: rest)) := by
  intro T hT X
  obtain ⟨t, st, q⟩ := k _ rfl T hT X
  refine ⟨t, ?_, q⟩
  have h1 := X.baloadOut hexec (by rw [hT]; exact hP q0 _ ha) ((hK.2 t0 _ ht).1 n (fun j => .int (f j))) (j := i) (by show (i < 0 ∨ (arrV _ _ _).slots.size ≤ _); rw [arrV_size]; exact Classical.byContradiction hout) (g := F0 m pc ls (.int i :: .ref a :: rest)) rfl (rest := rest) rfl (by rw [hb]; exact hdg) t
  simp only [arrV_size] at h1
  exact h1 st
theorem vx_zastZ {D : va_G} {cl : List vw_C} {ws : va_W} {tys : List (ClassId × FieldType)} {a : Nat} (hexec : p.tables.exec = Jvm.exec) (hb : c.code = cc) (hK : va_K D cl tys s) (hP : va_P D cl ws H) (q0 t0 : Nat) {cA : ClassId} {n : Nat} {f : Nat → Int32} (ha : ws[q0]? = some (a, .inl (cA, n, .inl f))) (ht : tys[t0]? = some (cA, .boolean)) {i : Int32} {x : Int32} (hout : ¬ vp_in i n) (hdg : decode cc pc = .ok (.bastore, 1))
    (k : ∀ tx : String, tx = (toString "Index " ++ toString i ++ toString " out of bounds for length " ++ toString n : String) → vx_Note p l e R s m args below meth c H locs cells slots Q (F0 m pc ls rest) "java/lang/ArrayIndexOutOfBoundsException" tx) : W p l e R s m args below meth c H locs cells slots Q (F0 m pc ls (.int x :: .int i :: .ref a :: rest)) := by
  intro T hT X
  obtain ⟨t, st, q⟩ := k _ rfl T hT X
  refine ⟨t, ?_, q⟩
  have h1 := X.bastoreOut hexec (by rw [hT]; exact hP q0 _ ha) ((hK.2 t0 _ ht).1 n (fun j => .int (f j))) (j := i) (by show (i < 0 ∨ (arrV _ _ _).slots.size ≤ _); rw [arrV_size]; exact Classical.byContradiction hout) (g := F0 m pc ls (.int x :: .int i :: .ref a :: rest)) rfl (rest := rest) rfl (by rw [hb]; exact hdg) t
  simp only [arrV_size] at h1
  exact h1 st
theorem vx_caldZ {D : va_G} {cl : List vw_C} {ws : va_W} {tys : List (ClassId × FieldType)} {a : Nat} (hexec : p.tables.exec = Jvm.exec) (hb : c.code = cc) (hK : va_K D cl tys s) (hP : va_P D cl ws H) (q0 t0 : Nat) {cA : ClassId} {n : Nat} {f : Nat → Int32} (ha : ws[q0]? = some (a, .inl (cA, n, .inl f))) (ht : tys[t0]? = some (cA, .char)) {i : Int32} (hout : ¬ vp_in i n) (hdg : decode cc pc = .ok (.caload, 1))
    (k : ∀ tx : String, tx = (toString "Index " ++ toString i ++ toString " out of bounds for length " ++ toString n : String) → vx_Note p l e R s m args below meth c H locs cells slots Q (F0 m pc ls rest) "java/lang/ArrayIndexOutOfBoundsException" tx) : W p l e R s m args below meth c H locs cells slots Q (F0 m pc ls (.int i :: .ref a :: rest)) := by
  intro T hT X
  obtain ⟨t, st, q⟩ := k _ rfl T hT X
  refine ⟨t, ?_, q⟩
  have h1 := X.caloadOut hexec (by rw [hT]; exact hP q0 _ ha) ((hK.2 t0 _ ht).1 n (fun j => .int (f j))) (j := i) (by show (i < 0 ∨ (arrV _ _ _).slots.size ≤ _); rw [arrV_size]; exact Classical.byContradiction hout) (g := F0 m pc ls (.int i :: .ref a :: rest)) rfl (rest := rest) rfl (by rw [hb]; exact hdg) t
  simp only [arrV_size] at h1
  exact h1 st
theorem vx_castZ {D : va_G} {cl : List vw_C} {ws : va_W} {tys : List (ClassId × FieldType)} {a : Nat} (hexec : p.tables.exec = Jvm.exec) (hb : c.code = cc) (hK : va_K D cl tys s) (hP : va_P D cl ws H) (q0 t0 : Nat) {cA : ClassId} {n : Nat} {f : Nat → Int32} (ha : ws[q0]? = some (a, .inl (cA, n, .inl f))) (ht : tys[t0]? = some (cA, .char)) {i : Int32} {x : Int32} (hout : ¬ vp_in i n) (hdg : decode cc pc = .ok (.castore, 1))
    (k : ∀ tx : String, tx = (toString "Index " ++ toString i ++ toString " out of bounds for length " ++ toString n : String) → vx_Note p l e R s m args below meth c H locs cells slots Q (F0 m pc ls rest) "java/lang/ArrayIndexOutOfBoundsException" tx) : W p l e R s m args below meth c H locs cells slots Q (F0 m pc ls (.int x :: .int i :: .ref a :: rest)) := by
  intro T hT X
  obtain ⟨t, st, q⟩ := k _ rfl T hT X
  refine ⟨t, ?_, q⟩
  have h1 := X.castoreOut hexec (by rw [hT]; exact hP q0 _ ha) ((hK.2 t0 _ ht).1 n (fun j => .int (f j))) (j := i) (by show (i < 0 ∨ (arrV _ _ _).slots.size ≤ _); rw [arrV_size]; exact Classical.byContradiction hout) (g := F0 m pc ls (.int x :: .int i :: .ref a :: rest)) rfl (rest := rest) rfl (by rw [hb]; exact hdg) t
  simp only [arrV_size] at h1
  exact h1 st
theorem vx_saldZ {D : va_G} {cl : List vw_C} {ws : va_W} {tys : List (ClassId × FieldType)} {a : Nat} (hexec : p.tables.exec = Jvm.exec) (hb : c.code = cc) (hK : va_K D cl tys s) (hP : va_P D cl ws H) (q0 t0 : Nat) {cA : ClassId} {n : Nat} {f : Nat → Int32} (ha : ws[q0]? = some (a, .inl (cA, n, .inl f))) (ht : tys[t0]? = some (cA, .short)) {i : Int32} (hout : ¬ vp_in i n) (hdg : decode cc pc = .ok (.saload, 1))
    (k : ∀ tx : String, tx = (toString "Index " ++ toString i ++ toString " out of bounds for length " ++ toString n : String) → vx_Note p l e R s m args below meth c H locs cells slots Q (F0 m pc ls rest) "java/lang/ArrayIndexOutOfBoundsException" tx) : W p l e R s m args below meth c H locs cells slots Q (F0 m pc ls (.int i :: .ref a :: rest)) := by
  intro T hT X
  obtain ⟨t, st, q⟩ := k _ rfl T hT X
  refine ⟨t, ?_, q⟩
  have h1 := X.saloadOut hexec (by rw [hT]; exact hP q0 _ ha) ((hK.2 t0 _ ht).1 n (fun j => .int (f j))) (j := i) (by show (i < 0 ∨ (arrV _ _ _).slots.size ≤ _); rw [arrV_size]; exact Classical.byContradiction hout) (g := F0 m pc ls (.int i :: .ref a :: rest)) rfl (rest := rest) rfl (by rw [hb]; exact hdg) t
  simp only [arrV_size] at h1
  exact h1 st
theorem vx_sastZ {D : va_G} {cl : List vw_C} {ws : va_W} {tys : List (ClassId × FieldType)} {a : Nat} (hexec : p.tables.exec = Jvm.exec) (hb : c.code = cc) (hK : va_K D cl tys s) (hP : va_P D cl ws H) (q0 t0 : Nat) {cA : ClassId} {n : Nat} {f : Nat → Int32} (ha : ws[q0]? = some (a, .inl (cA, n, .inl f))) (ht : tys[t0]? = some (cA, .short)) {i : Int32} {x : Int32} (hout : ¬ vp_in i n) (hdg : decode cc pc = .ok (.sastore, 1))
    (k : ∀ tx : String, tx = (toString "Index " ++ toString i ++ toString " out of bounds for length " ++ toString n : String) → vx_Note p l e R s m args below meth c H locs cells slots Q (F0 m pc ls rest) "java/lang/ArrayIndexOutOfBoundsException" tx) : W p l e R s m args below meth c H locs cells slots Q (F0 m pc ls (.int x :: .int i :: .ref a :: rest)) := by
  intro T hT X
  obtain ⟨t, st, q⟩ := k _ rfl T hT X
  refine ⟨t, ?_, q⟩
  have h1 := X.sastoreOut hexec (by rw [hT]; exact hP q0 _ ha) ((hK.2 t0 _ ht).1 n (fun j => .int (f j))) (j := i) (by show (i < 0 ∨ (arrV _ _ _).slots.size ≤ _); rw [arrV_size]; exact Classical.byContradiction hout) (g := F0 m pc ls (.int x :: .int i :: .ref a :: rest)) rfl (rest := rest) rfl (by rw [hb]; exact hdg) t
  simp only [arrV_size] at h1
  exact h1 st
theorem vx_laldZ {D : va_G} {cl : List vw_C} {ws : va_W} {tys : List (ClassId × FieldType)} {a : Nat} (hexec : p.tables.exec = Jvm.exec) (hb : c.code = cc) (hK : va_K D cl tys s) (hP : va_P D cl ws H) (q0 t0 : Nat) {cA : ClassId} {n : Nat} {f : Nat → Int64} (ha : ws[q0]? = some (a, .inl (cA, n, .inr (.inl f)))) (ht : tys[t0]? = some (cA, .long)) {i : Int32} (hout : ¬ vp_in i n) (hdg : decode cc pc = .ok (.laload, 1))
    (k : ∀ tx : String, tx = (toString "Index " ++ toString i ++ toString " out of bounds for length " ++ toString n : String) → vx_Note p l e R s m args below meth c H locs cells slots Q (F0 m pc ls rest) "java/lang/ArrayIndexOutOfBoundsException" tx) : W p l e R s m args below meth c H locs cells slots Q (F0 m pc ls (.int i :: .ref a :: rest)) := by
  intro T hT X
  obtain ⟨t, st, q⟩ := k _ rfl T hT X
  refine ⟨t, ?_, q⟩
  have h1 := X.laloadOut hexec (by rw [hT]; exact hP q0 _ ha) ((hK.2 t0 _ ht).1 n (fun j => .long (f j))) (j := i) (by show (i < 0 ∨ (arrV _ _ _).slots.size ≤ _); rw [arrV_size]; exact Classical.byContradiction hout) (g := F0 m pc ls (.int i :: .ref a :: rest)) rfl (rest := rest) rfl (by rw [hb]; exact hdg) t
  simp only [arrV_size] at h1
  exact h1 st
theorem vx_lastZ {D : va_G} {cl : List vw_C} {ws : va_W} {tys : List (ClassId × FieldType)} {a : Nat} (hexec : p.tables.exec = Jvm.exec) (hb : c.code = cc) (hK : va_K D cl tys s) (hP : va_P D cl ws H) (q0 t0 : Nat) {cA : ClassId} {n : Nat} {f : Nat → Int64} (ha : ws[q0]? = some (a, .inl (cA, n, .inr (.inl f)))) (ht : tys[t0]? = some (cA, .long)) {i : Int32} {x : Int64} (hout : ¬ vp_in i n) (hdg : decode cc pc = .ok (.lastore, 1))
    (k : ∀ tx : String, tx = (toString "Index " ++ toString i ++ toString " out of bounds for length " ++ toString n : String) → vx_Note p l e R s m args below meth c H locs cells slots Q (F0 m pc ls rest) "java/lang/ArrayIndexOutOfBoundsException" tx) : W p l e R s m args below meth c H locs cells slots Q (F0 m pc ls (.long x :: .int i :: .ref a :: rest)) := by
  intro T hT X
  obtain ⟨t, st, q⟩ := k _ rfl T hT X
  refine ⟨t, ?_, q⟩
  have h1 := X.lastoreOut hexec (by rw [hT]; exact hP q0 _ ha) ((hK.2 t0 _ ht).1 n (fun j => .long (f j))) (j := i) (by show (i < 0 ∨ (arrV _ _ _).slots.size ≤ _); rw [arrV_size]; exact Classical.byContradiction hout) (g := F0 m pc ls (.long x :: .int i :: .ref a :: rest)) rfl (rest := rest) rfl (by rw [hb]; exact hdg) t
  simp only [arrV_size] at h1
  exact h1 st
theorem vx_faldZ {D : va_G} {cl : List vw_C} {ws : va_W} {tys : List (ClassId × FieldType)} {a : Nat} (hexec : p.tables.exec = Jvm.exec) (hb : c.code = cc) (hK : va_K D cl tys s) (hP : va_P D cl ws H) (q0 t0 : Nat) {cA : ClassId} {n : Nat} {f : Nat → UInt32} (ha : ws[q0]? = some (a, .inl (cA, n, .inr (.inr (.inl f))))) (ht : tys[t0]? = some (cA, .float)) {i : Int32} (hout : ¬ vp_in i n) (hdg : decode cc pc = .ok (.faload, 1))
    (k : ∀ tx : String, tx = (toString "Index " ++ toString i ++ toString " out of bounds for length " ++ toString n : String) → vx_Note p l e R s m args below meth c H locs cells slots Q (F0 m pc ls rest) "java/lang/ArrayIndexOutOfBoundsException" tx) : W p l e R s m args below meth c H locs cells slots Q (F0 m pc ls (.int i :: .ref a :: rest)) := by
  intro T hT X
  obtain ⟨t, st, q⟩ := k _ rfl T hT X
  refine ⟨t, ?_, q⟩
  have h1 := X.faloadOut hexec (by rw [hT]; exact hP q0 _ ha) ((hK.2 t0 _ ht).1 n (fun j => .float (f j))) (j := i) (by show (i < 0 ∨ (arrV _ _ _).slots.size ≤ _); rw [arrV_size]; exact Classical.byContradiction hout) (g := F0 m pc ls (.int i :: .ref a :: rest)) rfl (rest := rest) rfl (by rw [hb]; exact hdg) t
  simp only [arrV_size] at h1
  exact h1 st
theorem vx_fastZ {D : va_G} {cl : List vw_C} {ws : va_W} {tys : List (ClassId × FieldType)} {a : Nat} (hexec : p.tables.exec = Jvm.exec) (hb : c.code = cc) (hK : va_K D cl tys s) (hP : va_P D cl ws H) (q0 t0 : Nat) {cA : ClassId} {n : Nat} {f : Nat → UInt32} (ha : ws[q0]? = some (a, .inl (cA, n, .inr (.inr (.inl f))))) (ht : tys[t0]? = some (cA, .float)) {i : Int32} {x : UInt32} (hout : ¬ vp_in i n) (hdg : decode cc pc = .ok (.fastore, 1))
    (k : ∀ tx : String, tx = (toString "Index " ++ toString i ++ toString " out of bounds for length " ++ toString n : String) → vx_Note p l e R s m args below meth c H locs cells slots Q (F0 m pc ls rest) "java/lang/ArrayIndexOutOfBoundsException" tx) : W p l e R s m args below meth c H locs cells slots Q (F0 m pc ls (.float x :: .int i :: .ref a :: rest)) := by
  intro T hT X
  obtain ⟨t, st, q⟩ := k _ rfl T hT X
  refine ⟨t, ?_, q⟩
  have h1 := X.fastoreOut hexec (by rw [hT]; exact hP q0 _ ha) ((hK.2 t0 _ ht).1 n (fun j => .float (f j))) (j := i) (by show (i < 0 ∨ (arrV _ _ _).slots.size ≤ _); rw [arrV_size]; exact Classical.byContradiction hout) (g := F0 m pc ls (.float x :: .int i :: .ref a :: rest)) rfl (rest := rest) rfl (by rw [hb]; exact hdg) t
  simp only [arrV_size] at h1
  exact h1 st
theorem vx_daldZ {D : va_G} {cl : List vw_C} {ws : va_W} {tys : List (ClassId × FieldType)} {a : Nat} (hexec : p.tables.exec = Jvm.exec) (hb : c.code = cc) (hK : va_K D cl tys s) (hP : va_P D cl ws H) (q0 t0 : Nat) {cA : ClassId} {n : Nat} {f : Nat → UInt64} (ha : ws[q0]? = some (a, .inl (cA, n, .inr (.inr (.inr (.inl f)))))) (ht : tys[t0]? = some (cA, .double)) {i : Int32} (hout : ¬ vp_in i n) (hdg : decode cc pc = .ok (.daload, 1))
    (k : ∀ tx : String, tx = (toString "Index " ++ toString i ++ toString " out of bounds for length " ++ toString n : String) → vx_Note p l e R s m args below meth c H locs cells slots Q (F0 m pc ls rest) "java/lang/ArrayIndexOutOfBoundsException" tx) : W p l e R s m args below meth c H locs cells slots Q (F0 m pc ls (.int i :: .ref a :: rest)) := by
  intro T hT X
  obtain ⟨t, st, q⟩ := k _ rfl T hT X
  refine ⟨t, ?_, q⟩
  have h1 := X.daloadOut hexec (by rw [hT]; exact hP q0 _ ha) ((hK.2 t0 _ ht).1 n (fun j => .double (f j))) (j := i) (by show (i < 0 ∨ (arrV _ _ _).slots.size ≤ _); rw [arrV_size]; exact Classical.byContradiction hout) (g := F0 m pc ls (.int i :: .ref a :: rest)) rfl (rest := rest) rfl (by rw [hb]; exact hdg) t
  simp only [arrV_size] at h1
  exact h1 st
theorem vx_dastZ {D : va_G} {cl : List vw_C} {ws : va_W} {tys : List (ClassId × FieldType)} {a : Nat} (hexec : p.tables.exec = Jvm.exec) (hb : c.code = cc) (hK : va_K D cl tys s) (hP : va_P D cl ws H) (q0 t0 : Nat) {cA : ClassId} {n : Nat} {f : Nat → UInt64} (ha : ws[q0]? = some (a, .inl (cA, n, .inr (.inr (.inr (.inl f)))))) (ht : tys[t0]? = some (cA, .double)) {i : Int32} {x : UInt64} (hout : ¬ vp_in i n) (hdg : decode cc pc = .ok (.dastore, 1))
    (k : ∀ tx : String, tx = (toString "Index " ++ toString i ++ toString " out of bounds for length " ++ toString n : String) → vx_Note p l e R s m args below meth c H locs cells slots Q (F0 m pc ls rest) "java/lang/ArrayIndexOutOfBoundsException" tx) : W p l e R s m args below meth c H locs cells slots Q (F0 m pc ls (.double x :: .int i :: .ref a :: rest)) := by
  intro T hT X
  obtain ⟨t, st, q⟩ := k _ rfl T hT X
  refine ⟨t, ?_, q⟩
  have h1 := X.dastoreOut hexec (by rw [hT]; exact hP q0 _ ha) ((hK.2 t0 _ ht).1 n (fun j => .double (f j))) (j := i) (by show (i < 0 ∨ (arrV _ _ _).slots.size ≤ _); rw [arrV_size]; exact Classical.byContradiction hout) (g := F0 m pc ls (.double x :: .int i :: .ref a :: rest)) rfl (rest := rest) rfl (by rw [hb]; exact hdg) t
  simp only [arrV_size] at h1
  exact h1 st
theorem vx_arraylengthN (hexec : p.tables.exec = Jvm.exec) (hb : c.code = cc) (hdg : decode cc pc = .ok (.arraylength, 1)) (k : vx_NoteN p l e R s m args below meth c H locs cells slots Q (F0 m pc ls rest)) : W p l e R s m args below meth c H locs cells slots Q (F0 m pc ls (.null :: rest)) := by
  intro T hT X
  obtain ⟨t, st, q⟩ := k T hT X
  exact ⟨t, X.arraylengthNull hexec (g := F0 m pc ls (.null :: rest)) rfl (rest := rest) rfl (by rw [hb]; exact hdg) t st, q⟩
theorem vx_ialoadN (hexec : p.tables.exec = Jvm.exec) (hb : c.code = cc) {i : Int32} (hdg : decode cc pc = .ok (.iaload, 1)) (k : vx_NoteN p l e R s m args below meth c H locs cells slots Q (F0 m pc ls rest)) : W p l e R s m args below meth c H locs cells slots Q (F0 m pc ls (.int i :: .null :: rest)) := by
  intro T hT X
  obtain ⟨t, st, q⟩ := k T hT X
  exact ⟨t, X.ialoadNull hexec (g := F0 m pc ls (.int i :: .null :: rest)) rfl (rest := rest) rfl (by rw [hb]; exact hdg) t st, q⟩
theorem vx_laloadN (hexec : p.tables.exec = Jvm.exec) (hb : c.code = cc) {i : Int32} (hdg : decode cc pc = .ok (.laload, 1)) (k : vx_NoteN p l e R s m args below meth c H locs cells slots Q (F0 m pc ls rest)) : W p l e R s m args below meth c H locs cells slots Q (F0 m pc ls (.int i :: .null :: rest)) := by
  intro T hT X
  obtain ⟨t, st, q⟩ := k T hT X
  exact ⟨t, X.laloadNull hexec (g := F0 m pc ls (.int i :: .null :: rest)) rfl (rest := rest) rfl (by rw [hb]; exact hdg) t st, q⟩
theorem vx_faloadN (hexec : p.tables.exec = Jvm.exec) (hb : c.code = cc) {i : Int32} (hdg : decode cc pc = .ok (.faload, 1)) (k : vx_NoteN p l e R s m args below meth c H locs cells slots Q (F0 m pc ls rest)) : W p l e R s m args below meth c H locs cells slots Q (F0 m pc ls (.int i :: .null :: rest)) := by
  intro T hT X
  obtain ⟨t, st, q⟩ := k T hT X
  exact ⟨t, X.faloadNull hexec (g := F0 m pc ls (.int i :: .null :: rest)) rfl (rest := rest) rfl (by rw [hb]; exact hdg) t st, q⟩
theorem vx_daloadN (hexec : p.tables.exec = Jvm.exec) (hb : c.code = cc) {i : Int32} (hdg : decode cc pc = .ok (.daload, 1)) (k : vx_NoteN p l e R s m args below meth c H locs cells slots Q (F0 m pc ls rest)) : W p l e R s m args below meth c H locs cells slots Q (F0 m pc ls (.int i :: .null :: rest)) := by
  intro T hT X
  obtain ⟨t, st, q⟩ := k T hT X
  exact ⟨t, X.daloadNull hexec (g := F0 m pc ls (.int i :: .null :: rest)) rfl (rest := rest) rfl (by rw [hb]; exact hdg) t st, q⟩
theorem vx_aaloadN (hexec : p.tables.exec = Jvm.exec) (hb : c.code = cc) {i : Int32} (hdg : decode cc pc = .ok (.aaload, 1)) (k : vx_NoteN p l e R s m args below meth c H locs cells slots Q (F0 m pc ls rest)) : W p l e R s m args below meth c H locs cells slots Q (F0 m pc ls (.int i :: .null :: rest)) := by
  intro T hT X
  obtain ⟨t, st, q⟩ := k T hT X
  exact ⟨t, X.aaloadNull hexec (g := F0 m pc ls (.int i :: .null :: rest)) rfl (rest := rest) rfl (by rw [hb]; exact hdg) t st, q⟩
theorem vx_baloadN (hexec : p.tables.exec = Jvm.exec) (hb : c.code = cc) {i : Int32} (hdg : decode cc pc = .ok (.baload, 1)) (k : vx_NoteN p l e R s m args below meth c H locs cells slots Q (F0 m pc ls rest)) : W p l e R s m args below meth c H locs cells slots Q (F0 m pc ls (.int i :: .null :: rest)) := by
  intro T hT X
  obtain ⟨t, st, q⟩ := k T hT X
  exact ⟨t, X.baloadNull hexec (g := F0 m pc ls (.int i :: .null :: rest)) rfl (rest := rest) rfl (by rw [hb]; exact hdg) t st, q⟩
theorem vx_caloadN (hexec : p.tables.exec = Jvm.exec) (hb : c.code = cc) {i : Int32} (hdg : decode cc pc = .ok (.caload, 1)) (k : vx_NoteN p l e R s m args below meth c H locs cells slots Q (F0 m pc ls rest)) : W p l e R s m args below meth c H locs cells slots Q (F0 m pc ls (.int i :: .null :: rest)) := by
  intro T hT X
  obtain ⟨t, st, q⟩ := k T hT X
  exact ⟨t, X.caloadNull hexec (g := F0 m pc ls (.int i :: .null :: rest)) rfl (rest := rest) rfl (by rw [hb]; exact hdg) t st, q⟩
theorem vx_saloadN (hexec : p.tables.exec = Jvm.exec) (hb : c.code = cc) {i : Int32} (hdg : decode cc pc = .ok (.saload, 1)) (k : vx_NoteN p l e R s m args below meth c H locs cells slots Q (F0 m pc ls rest)) : W p l e R s m args below meth c H locs cells slots Q (F0 m pc ls (.int i :: .null :: rest)) := by
  intro T hT X
  obtain ⟨t, st, q⟩ := k T hT X
  exact ⟨t, X.saloadNull hexec (g := F0 m pc ls (.int i :: .null :: rest)) rfl (rest := rest) rfl (by rw [hb]; exact hdg) t st, q⟩
theorem vx_iastoreN (hexec : p.tables.exec = Jvm.exec) (hb : c.code = cc) {x : Int32} {i : Int32} (hdg : decode cc pc = .ok (.iastore, 1)) (k : vx_NoteN p l e R s m args below meth c H locs cells slots Q (F0 m pc ls rest)) : W p l e R s m args below meth c H locs cells slots Q (F0 m pc ls (.int x :: .int i :: .null :: rest)) := by
  intro T hT X
  obtain ⟨t, st, q⟩ := k T hT X
  exact ⟨t, X.iastoreNull hexec (g := F0 m pc ls (.int x :: .int i :: .null :: rest)) rfl (rest := rest) rfl (by rw [hb]; exact hdg) t st, q⟩
theorem vx_lastoreN (hexec : p.tables.exec = Jvm.exec) (hb : c.code = cc) {x : Int64} {i : Int32} (hdg : decode cc pc = .ok (.lastore, 1)) (k : vx_NoteN p l e R s m args below meth c H locs cells slots Q (F0 m pc ls rest)) : W p l e R s m args below meth c H locs cells slots Q (F0 m pc ls (.long x :: .int i :: .null :: rest)) := by
  intro T hT X
  obtain ⟨t, st, q⟩ := k T hT X
  exact ⟨t, X.lastoreNull hexec (g := F0 m pc ls (.long x :: .int i :: .null :: rest)) rfl (rest := rest) rfl (by rw [hb]; exact hdg) t st, q⟩
theorem vx_fastoreN (hexec : p.tables.exec = Jvm.exec) (hb : c.code = cc) {x : UInt32} {i : Int32} (hdg : decode cc pc = .ok (.fastore, 1)) (k : vx_NoteN p l e R s m args below meth c H locs cells slots Q (F0 m pc ls rest)) : W p l e R s m args below meth c H locs cells slots Q (F0 m pc ls (.float x :: .int i :: .null :: rest)) := by
  intro T hT X
  obtain ⟨t, st, q⟩ := k T hT X
  exact ⟨t, X.fastoreNull hexec (g := F0 m pc ls (.float x :: .int i :: .null :: rest)) rfl (rest := rest) rfl (by rw [hb]; exact hdg) t st, q⟩
theorem vx_dastoreN (hexec : p.tables.exec = Jvm.exec) (hb : c.code = cc) {x : UInt64} {i : Int32} (hdg : decode cc pc = .ok (.dastore, 1)) (k : vx_NoteN p l e R s m args below meth c H locs cells slots Q (F0 m pc ls rest)) : W p l e R s m args below meth c H locs cells slots Q (F0 m pc ls (.double x :: .int i :: .null :: rest)) := by
  intro T hT X
  obtain ⟨t, st, q⟩ := k T hT X
  exact ⟨t, X.dastoreNull hexec (g := F0 m pc ls (.double x :: .int i :: .null :: rest)) rfl (rest := rest) rfl (by rw [hb]; exact hdg) t st, q⟩
theorem vx_bastoreN (hexec : p.tables.exec = Jvm.exec) (hb : c.code = cc) {x : Int32} {i : Int32} (hdg : decode cc pc = .ok (.bastore, 1)) (k : vx_NoteN p l e R s m args below meth c H locs cells slots Q (F0 m pc ls rest)) : W p l e R s m args below meth c H locs cells slots Q (F0 m pc ls (.int x :: .int i :: .null :: rest)) := by
  intro T hT X
  obtain ⟨t, st, q⟩ := k T hT X
  exact ⟨t, X.bastoreNull hexec (g := F0 m pc ls (.int x :: .int i :: .null :: rest)) rfl (rest := rest) rfl (by rw [hb]; exact hdg) t st, q⟩
theorem vx_castoreN (hexec : p.tables.exec = Jvm.exec) (hb : c.code = cc) {x : Int32} {i : Int32} (hdg : decode cc pc = .ok (.castore, 1)) (k : vx_NoteN p l e R s m args below meth c H locs cells slots Q (F0 m pc ls rest)) : W p l e R s m args below meth c H locs cells slots Q (F0 m pc ls (.int x :: .int i :: .null :: rest)) := by
  intro T hT X
  obtain ⟨t, st, q⟩ := k T hT X
  exact ⟨t, X.castoreNull hexec (g := F0 m pc ls (.int x :: .int i :: .null :: rest)) rfl (rest := rest) rfl (by rw [hb]; exact hdg) t st, q⟩
theorem vx_sastoreN (hexec : p.tables.exec = Jvm.exec) (hb : c.code = cc) {x : Int32} {i : Int32} (hdg : decode cc pc = .ok (.sastore, 1)) (k : vx_NoteN p l e R s m args below meth c H locs cells slots Q (F0 m pc ls rest)) : W p l e R s m args below meth c H locs cells slots Q (F0 m pc ls (.int x :: .int i :: .null :: rest)) := by
  intro T hT X
  obtain ⟨t, st, q⟩ := k T hT X
  exact ⟨t, X.sastoreNull hexec (g := F0 m pc ls (.int x :: .int i :: .null :: rest)) rfl (rest := rest) rfl (by rw [hb]; exact hdg) t st, q⟩
theorem vx_invokeN {own C : String} {index maxL : Nat} {y : MethodName} {bytes : ByteArray} {ret : Option FieldType} (hexec : p.tables.exec = Jvm.exec) (hb : c.code = cc) (hown : s.vm.findClass own = some m.cls) (hlink : (Cond.methodLink own index y).before args s = true) (hinst : (Cond.instanceMethod y).before args s = true) (hcode : (Cond.code y bytes maxL ret).before args s = true) (hsel : (Cond.selects C y y).before args s = true)
    (hx : y.cls ≠ "java/lang/invoke/MethodHandle" ∧ y.cls ≠ "java/lang/invoke/VarHandle") {As : List Value} (hlen : (parseMethodDescriptor y.desc).map (fun d => d.parameters.length) = some As.length) (hdg : decode cc pc = .ok (.invokevirtual index, 3))
    (k : vx_NoteN p l e R s m args below meth c H locs cells slots Q (F0 m pc ls rest)) {st0 : List Value} (hst : st0 = As.reverse ++ .null :: rest) : W p l e R s m args below meth c H locs cells slots Q (F0 m pc ls st0) := by
  intro T hT X
  obtain ⟨r0, r, hn, hrm, hstR, hsigR⟩ := va_Decl.of hinst hcode
  obtain ⟨c2, r2, m2, q1, q2, q3, q4, kP, hkP, hkPi⟩ := Cond.selects_spec hsel
  cases hn.symm.trans q3
  have hl9 : As.length = r.sig.parameters.length := by
    rw [hsigR] at hlen
    exact (Option.some.inj hlen).symm
  obtain ⟨vm', X1, st1⟩ := X.invokevirtualNull hexec hown hlink hn hrm hstR hkP hkPi hx (g := F0 m pc ls st0) rfl (argsL := As) (rest := rest) hl9 hst (by rw [hb]; exact hdg)
  obtain ⟨t, st, q⟩ := k (T.setVm vm') hT X1
  exact ⟨t, st1 t st, q⟩
theorem vx_newarrayZ {atype : ArrayType} (hexec : p.tables.exec = Jvm.exec) (hb : c.code = cc) {n : Int32} (h0 : n < 0) (hdg : decode cc pc = .ok (.newarray atype, 2)) (k : ∀ tx : String, tx = toString n → vx_Note p l e R s m args below meth c H locs cells slots Q (F0 m pc ls rest) "java/lang/NegativeArraySizeException" tx) : W p l e R s m args below meth c H locs cells slots Q (F0 m pc ls (.int n :: rest)) := by
  intro T hT X
  obtain ⟨t, st, q⟩ := k _ rfl T hT X
  exact ⟨t, X.newarrayNegative hexec (g := F0 m pc ls (.int n :: rest)) rfl h0 (rest := rest) rfl (by rw [hb]; exact hdg) t st, q⟩
end
end VXM
/-! ===== END ===== -/
end
section
/-! ===== BEGIN printed: names, fields, word lists, decode rows ===== -/
def RX0 : String := "Proofpress$Comment"
def TX0 : u_T := fun k => match k with
  | 0 => ("Proofpress$Comment", "document", "LProofpress$Document;", true)
  | 1 => ("Proofpress$Comment", "from", "I", false)
  | 2 => ("Proofpress$Comment", "to", "I", false)
  | _ => ("Proofpress$Comment", "open", "Z", false)
def tyX0 : Nat → FieldType := fun k => match k with
  | 0 => .object "Proofpress$Document"
  | 1 => .int
  | 2 => .int
  | _ => .boolean
abbrev wsX00 : List Cond := u_ws RX0 TX0 4
theorem nmX0 : ∀ a, a < 4 → ∀ b, b < 4 → a ≠ b → (TX0 a).2.1 ≠ (TX0 b).2.1 := by decide +kernel
theorem tyX0_ok : ∀ k, k < 4 → parseFieldDescriptor (TX0 k).2.2.1 = some (tyX0 k) := by decide +kernel
abbrev cX0_init : ByteArray := prog_2_method_1_code
def yX0_init : MethodName := ⟨RX0, "<init>", "(LProofpress$Document;II)V"⟩
abbrev cX0_isOpenOn : ByteArray := prog_2_method_2_code
def yX0_isOpenOn : MethodName := ⟨RX0, "isOpenOn", "(LProofpress$Document;)Z"⟩
abbrev cX0_freezes : ByteArray := prog_2_method_3_code
def yX0_freezes : MethodName := ⟨RX0, "freezes", "(IZ)Z"⟩
abbrev cX0_moveBy : ByteArray := prog_2_method_4_code
def yX0_moveBy : MethodName := ⟨RX0, "moveBy", "(I)V"⟩
def RX1 : String := "Proofpress$Document"
def TX1 : u_T := fun k => match k with
  | 0 => ("Proofpress$Document", "number", "I", true)
  | 1 => ("Proofpress$Document", "text", "LProofpress$Text;", true)
  | 2 => ("Proofpress$Document", "proof", "LProofpress$Text;", true)
  | 3 => ("Proofpress$Document", "version", "I", false)
  | 4 => ("Proofpress$Document", "proofVersion", "I", false)
  | 5 => ("Proofpress$Document", "proofSheets", "I", false)
  | _ => ("Proofpress$Document", "closingHour", "I", false)
def tyX1 : Nat → FieldType := fun k => match k with
  | 0 => .int
  | 1 => .object "Proofpress$Text"
  | 2 => .object "Proofpress$Text"
  | 3 => .int
  | 4 => .int
  | 5 => .int
  | _ => .int
abbrev wsX10 : List Cond := u_ws RX1 TX1 7
theorem nmX1 : ∀ a, a < 7 → ∀ b, b < 7 → a ≠ b → (TX1 a).2.1 ≠ (TX1 b).2.1 := by decide +kernel
theorem tyX1_ok : ∀ k, k < 7 → parseFieldDescriptor (TX1 k).2.2.1 = some (tyX1 k) := by decide +kernel
abbrev cX1_init : ByteArray := prog_3_method_1_code
def yX1_init : MethodName := ⟨RX1, "<init>", "(I)V"⟩
abbrev cX1_hasProof : ByteArray := prog_3_method_2_code
def yX1_hasProof : MethodName := ⟨RX1, "hasProof", "()Z"⟩
abbrev cX1_makeProof : ByteArray := prog_3_method_3_code
def yX1_makeProof : MethodName := ⟨RX1, "makeProof", "()V"⟩
abbrev cX1_codeOnSheet : ByteArray := prog_3_method_4_code
def yX1_codeOnSheet : MethodName := ⟨RX1, "codeOnSheet", "(II)I"⟩
def RX2 : String := "Proofpress$Layout"
def TX2 : u_T := fun k => match k with
  | _ => ("", "", "", false)
def tyX2 : Nat → FieldType := fun k => match k with
  | _ => .int
abbrev wsX20 : List Cond := u_ws RX2 TX2 0
theorem nmX2 : ∀ a, a < 0 → ∀ b, b < 0 → a ≠ b → (TX2 a).2.1 ≠ (TX2 b).2.1 := by decide +kernel
theorem tyX2_ok : ∀ k, k < 0 → parseFieldDescriptor (TX2 k).2.2.1 = some (tyX2 k) := by decide +kernel
abbrev cX2_sheetCount : ByteArray := prog_4_method_2_code
def yX2_sheetCount : MethodName := ⟨RX2, "sheetCount", "(I)I"⟩
abbrev cX2_pageAt : ByteArray := prog_4_method_3_code
def yX2_pageAt : MethodName := ⟨RX2, "pageAt", "(III)I"⟩
abbrev cX2_greatestPage : ByteArray := prog_4_method_4_code
def yX2_greatestPage : MethodName := ⟨RX2, "greatestPage", "(II)I"⟩
def RX3 : String := "Proofpress$Log"
def TX3 : u_T := fun k => match k with
  | 0 => ("Proofpress$Log", "kinds", "[I", true)
  | 1 => ("Proofpress$Log", "documents", "[I", true)
  | 2 => ("Proofpress$Log", "places", "[I", true)
  | 3 => ("Proofpress$Log", "codes", "[I", true)
  | _ => ("Proofpress$Log", "size", "I", false)
def tyX3 : Nat → FieldType := fun k => match k with
  | 0 => .array .int
  | 1 => .array .int
  | 2 => .array .int
  | 3 => .array .int
  | _ => .int
abbrev wsX30 : List Cond := u_ws RX3 TX3 5
theorem nmX3 : ∀ a, a < 5 → ∀ b, b < 5 → a ≠ b → (TX3 a).2.1 ≠ (TX3 b).2.1 := by decide +kernel
theorem tyX3_ok : ∀ k, k < 5 → parseFieldDescriptor (TX3 k).2.2.1 = some (tyX3 k) := by decide +kernel
abbrev cX3_init : ByteArray := prog_5_method_1_code
def yX3_init : MethodName := ⟨RX3, "<init>", "()V"⟩
abbrev cX3_addInsertion : ByteArray := prog_5_method_2_code
def yX3_addInsertion : MethodName := ⟨RX3, "addInsertion", "(III)V"⟩
abbrev cX3_addDeletion : ByteArray := prog_5_method_3_code
def yX3_addDeletion : MethodName := ⟨RX3, "addDeletion", "(II)V"⟩
abbrev cX3_addSignature : ByteArray := prog_5_method_4_code
def yX3_addSignature : MethodName := ⟨RX3, "addSignature", "(I)V"⟩
abbrev cX3_add : ByteArray := prog_5_method_5_code
def yX3_add : MethodName := ⟨RX3, "add", "(IIII)V"⟩
abbrev cX3_codeOnSheet : ByteArray := prog_5_method_6_code
def yX3_codeOnSheet : MethodName := ⟨RX3, "codeOnSheet", "(III)I"⟩
abbrev cX3_lastSignature : ByteArray := prog_5_method_7_code
def yX3_lastSignature : MethodName := ⟨RX3, "lastSignature", "(I)I"⟩
abbrev cX3_charactersBefore : ByteArray := prog_5_method_8_code
def yX3_charactersBefore : MethodName := ⟨RX3, "charactersBefore", "(II)I"⟩
abbrev cX3_codeBefore : ByteArray := prog_5_method_9_code
def yX3_codeBefore : MethodName := ⟨RX3, "codeBefore", "(III)I"⟩
def RX4 : String := "Proofpress$Order"
def TX4 : u_T := fun k => match k with
  | 0 => ("Proofpress$Order", "number", "I", true)
  | 1 => ("Proofpress$Order", "document", "LProofpress$Document;", true)
  | 2 => ("Proofpress$Order", "copies", "I", true)
  | 3 => ("Proofpress$Order", "due", "I", true)
  | 4 => ("Proofpress$Order", "records", "[LProofpress$SheetRecord;", true)
  | 5 => ("Proofpress$Order", "paperTaken", "I", false)
  | 6 => ("Proofpress$Order", "paperWasted", "I", false)
  | _ => ("Proofpress$Order", "platesTaken", "I", false)
def tyX4 : Nat → FieldType := fun k => match k with
  | 0 => .int
  | 1 => .object "Proofpress$Document"
  | 2 => .int
  | 3 => .int
  | 4 => .array (.object "Proofpress$SheetRecord")
  | 5 => .int
  | 6 => .int
  | _ => .int
abbrev wsX40 : List Cond := u_ws RX4 TX4 8
theorem nmX4 : ∀ a, a < 8 → ∀ b, b < 8 → a ≠ b → (TX4 a).2.1 ≠ (TX4 b).2.1 := by decide +kernel
theorem tyX4_ok : ∀ k, k < 8 → parseFieldDescriptor (TX4 k).2.2.1 = some (tyX4 k) := by decide +kernel
abbrev cX4_init : ByteArray := prog_6_method_1_code
def yX4_init : MethodName := ⟨RX4, "<init>", "(ILProofpress$Document;II)V"⟩
abbrev cX4_isMoreUrgentThan : ByteArray := prog_6_method_2_code
def yX4_isMoreUrgentThan : MethodName := ⟨RX4, "isMoreUrgentThan", "(LProofpress$Order;)Z"⟩
abbrev cX4_takePrinted : ByteArray := prog_6_method_3_code
def yX4_takePrinted : MethodName := ⟨RX4, "takePrinted", "(I[I)V"⟩
def RX5 : String := "Proofpress$Press"
def TX5 : u_T := fun k => match k with
  | 0 => ("Proofpress$Press", "order", "LProofpress$Order;", false)
  | 1 => ("Proofpress$Press", "sheet", "I", false)
  | 2 => ("Proofpress$Press", "leavingHour", "I", false)
  | 3 => ("Proofpress$Press", "greatestPage", "I", false)
  | _ => ("Proofpress$Press", "image", "[I", true)
def tyX5 : Nat → FieldType := fun k => match k with
  | 0 => .object "Proofpress$Order"
  | 1 => .int
  | 2 => .int
  | 3 => .int
  | _ => .array .int
abbrev wsX50 : List Cond := u_ws RX5 TX5 5
theorem nmX5 : ∀ a, a < 5 → ∀ b, b < 5 → a ≠ b → (TX5 a).2.1 ≠ (TX5 b).2.1 := by decide +kernel
theorem tyX5_ok : ∀ k, k < 5 → parseFieldDescriptor (TX5 k).2.2.1 = some (tyX5 k) := by decide +kernel
abbrev cX5_init : ByteArray := prog_7_method_1_code
def yX5_init : MethodName := ⟨RX5, "<init>", "()V"⟩
abbrev cX5_holds : ByteArray := prog_7_method_2_code
def yX5_holds : MethodName := ⟨RX5, "holds", "(LProofpress$Order;I)Z"⟩
abbrev cX5_locks : ByteArray := prog_7_method_3_code
def yX5_locks : MethodName := ⟨RX5, "locks", "(LProofpress$Document;I)Z"⟩
abbrev cX5_load : ByteArray := prog_7_method_4_code
def yX5_load : MethodName := ⟨RX5, "load", "(LProofpress$Order;II)V"⟩
abbrev cX5_unload : ByteArray := prog_7_method_5_code
def yX5_unload : MethodName := ⟨RX5, "unload", "()V"⟩
def RX6 : String := "Proofpress$SheetRecord"
def TX6 : u_T := fun k => match k with
  | 0 => ("Proofpress$SheetRecord", "printed", "[I", true)
  | 1 => ("Proofpress$SheetRecord", "isPrinted", "Z", false)
  | 2 => ("Proofpress$SheetRecord", "plate", "[I", true)
  | 3 => ("Proofpress$SheetRecord", "plateSize", "I", false)
  | _ => ("Proofpress$SheetRecord", "hasPlate", "Z", false)
def tyX6 : Nat → FieldType := fun k => match k with
  | 0 => .array .int
  | 1 => .boolean
  | 2 => .array .int
  | 3 => .int
  | _ => .boolean
abbrev wsX60 : List Cond := u_ws RX6 TX6 5
theorem nmX6 : ∀ a, a < 5 → ∀ b, b < 5 → a ≠ b → (TX6 a).2.1 ≠ (TX6 b).2.1 := by decide +kernel
theorem tyX6_ok : ∀ k, k < 5 → parseFieldDescriptor (TX6 k).2.2.1 = some (tyX6 k) := by decide +kernel
abbrev cX6_init : ByteArray := prog_8_method_1_code
def yX6_init : MethodName := ⟨RX6, "<init>", "()V"⟩
abbrev cX6_takePrinted : ByteArray := prog_8_method_2_code
def yX6_takePrinted : MethodName := ⟨RX6, "takePrinted", "([I)V"⟩
abbrev cX6_isPrintedAs : ByteArray := prog_8_method_3_code
def yX6_isPrintedAs : MethodName := ⟨RX6, "isPrintedAs", "(LProofpress$Document;I)Z"⟩
abbrev cX6_makePlate : ByteArray := prog_8_method_4_code
def yX6_makePlate : MethodName := ⟨RX6, "makePlate", "(LProofpress$Document;I)V"⟩
abbrev cX6_hasPlateFor : ByteArray := prog_8_method_5_code
def yX6_hasPlateFor : MethodName := ⟨RX6, "hasPlateFor", "(LProofpress$Document;I)Z"⟩
def RX7 : String := "Proofpress$Text"
def TX7 : u_T := fun k => match k with
  | 0 => ("Proofpress$Text", "codes", "[I", true)
  | _ => ("Proofpress$Text", "size", "I", false)
def tyX7 : Nat → FieldType := fun k => match k with
  | 0 => .array .int
  | _ => .int
abbrev wsX70 : List Cond := u_ws RX7 TX7 2
theorem nmX7 : ∀ a, a < 2 → ∀ b, b < 2 → a ≠ b → (TX7 a).2.1 ≠ (TX7 b).2.1 := by decide +kernel
theorem tyX7_ok : ∀ k, k < 2 → parseFieldDescriptor (TX7 k).2.2.1 = some (tyX7 k) := by decide +kernel
abbrev cX7_init : ByteArray := prog_9_method_1_code
def yX7_init : MethodName := ⟨RX7, "<init>", "()V"⟩
abbrev cX7_at : ByteArray := prog_9_method_2_code
def yX7_at : MethodName := ⟨RX7, "at", "(I)I"⟩
abbrev cX7_putIn : ByteArray := prog_9_method_3_code
def yX7_putIn : MethodName := ⟨RX7, "putIn", "(II)V"⟩
abbrev cX7_takeOut : ByteArray := prog_9_method_4_code
def yX7_takeOut : MethodName := ⟨RX7, "takeOut", "(I)V"⟩
abbrev cX7_become : ByteArray := prog_9_method_5_code
def yX7_become : MethodName := ⟨RX7, "become", "(LProofpress$Text;)V"⟩
def RX8 : String := "Proofpress"
def TX8 : u_T := fun k => match k with
  | 0 => ("Proofpress", "documents", "[LProofpress$Document;", true)
  | 1 => ("Proofpress", "documentCount", "I", false)
  | 2 => ("Proofpress", "comments", "[LProofpress$Comment;", true)
  | 3 => ("Proofpress", "commentCount", "I", false)
  | 4 => ("Proofpress", "orders", "[LProofpress$Order;", true)
  | 5 => ("Proofpress", "orderCount", "I", false)
  | 6 => ("Proofpress", "log", "LProofpress$Log;", true)
  | 7 => ("Proofpress", "press", "LProofpress$Press;", true)
  | 8 => ("Proofpress", "paperStock", "I", false)
  | 9 => ("Proofpress", "plateStock", "I", false)
  | _ => ("Proofpress", "now", "I", false)
def tyX8 : Nat → FieldType := fun k => match k with
  | 0 => .array (.object "Proofpress$Document")
  | 1 => .int
  | 2 => .array (.object "Proofpress$Comment")
  | 3 => .int
  | 4 => .array (.object "Proofpress$Order")
  | 5 => .int
  | 6 => .object "Proofpress$Log"
  | 7 => .object "Proofpress$Press"
  | 8 => .int
  | 9 => .int
  | _ => .int
abbrev wsX80 : List Cond := u_ws RX8 TX8 11
theorem nmX8 : ∀ a, a < 11 → ∀ b, b < 11 → a ≠ b → (TX8 a).2.1 ≠ (TX8 b).2.1 := by decide +kernel
theorem tyX8_ok : ∀ k, k < 11 → parseFieldDescriptor (TX8 k).2.2.1 = some (tyX8 k) := by decide +kernel
abbrev cX8_init : ByteArray := prog_1_method_1_code
def yX8_init : MethodName := ⟨RX8, "<init>", "()V"⟩
abbrev cX8_addDocument : ByteArray := prog_1_method_2_code
def yX8_addDocument : MethodName := ⟨RX8, "addDocument", "()I"⟩
abbrev cX8_insert : ByteArray := prog_1_method_3_code
def yX8_insert : MethodName := ⟨RX8, "insert", "(III)I"⟩
abbrev cX8_delete : ByteArray := prog_1_method_4_code
def yX8_delete : MethodName := ⟨RX8, "delete", "(II)I"⟩
abbrev cX8_bar : ByteArray := prog_1_method_5_code
def yX8_bar : MethodName := ⟨RX8, "bar", "(IIZ)C"⟩
abbrev cX8_close : ByteArray := prog_1_method_6_code
def yX8_close : MethodName := ⟨RX8, "close", "(II)I"⟩
abbrev cX8_length : ByteArray := prog_1_method_7_code
def yX8_length : MethodName := ⟨RX8, "length", "(I)I"⟩
abbrev cX8_codeAt : ByteArray := prog_1_method_8_code
def yX8_codeAt : MethodName := ⟨RX8, "codeAt", "(II)I"⟩
abbrev cX8_version : ByteArray := prog_1_method_9_code
def yX8_version : MethodName := ⟨RX8, "version", "(I)I"⟩
abbrev cX8_documentOf : ByteArray := prog_1_method_10_code
def yX8_documentOf : MethodName := ⟨RX8, "documentOf", "(I)LProofpress$Document;"⟩
abbrev cX8_isCode : ByteArray := prog_1_method_11_code
def yX8_isCode : MethodName := ⟨RX8, "isCode", "(I)Z"⟩
abbrev cX8_requirePlaceOfEdit : ByteArray := prog_1_method_12_code
def yX8_requirePlaceOfEdit : MethodName := ⟨RX8, "requirePlaceOfEdit", "(LProofpress$Document;IZ)V"⟩
abbrev cX8_requireNotBarred : ByteArray := prog_1_method_13_code
def yX8_requireNotBarred : MethodName := ⟨RX8, "requireNotBarred", "(LProofpress$Document;IZ)V"⟩
abbrev cX8_barOf : ByteArray := prog_1_method_14_code
def yX8_barOf : MethodName := ⟨RX8, "barOf", "(LProofpress$Document;IZ)C"⟩
abbrev cX8_isFrozen : ByteArray := prog_1_method_15_code
def yX8_isFrozen : MethodName := ⟨RX8, "isFrozen", "(LProofpress$Document;IZ)Z"⟩
abbrev cX8_moveSpansForInsertion : ByteArray := prog_1_method_16_code
def yX8_moveSpansForInsertion : MethodName := ⟨RX8, "moveSpansForInsertion", "(LProofpress$Document;I)V"⟩
abbrev cX8_moveSpansForDeletion : ByteArray := prog_1_method_17_code
def yX8_moveSpansForDeletion : MethodName := ⟨RX8, "moveSpansForDeletion", "(LProofpress$Document;I)V"⟩
abbrev cX8_comment : ByteArray := prog_1_method_18_code
def yX8_comment : MethodName := ⟨RX8, "comment", "(III)I"⟩
abbrev cX8_answer : ByteArray := prog_1_method_19_code
def yX8_answer : MethodName := ⟨RX8, "answer", "(I)I"⟩
abbrev cX8_isOpen : ByteArray := prog_1_method_20_code
def yX8_isOpen : MethodName := ⟨RX8, "isOpen", "(I)Z"⟩
abbrev cX8_spanFrom : ByteArray := prog_1_method_21_code
def yX8_spanFrom : MethodName := ⟨RX8, "spanFrom", "(I)I"⟩
abbrev cX8_spanTo : ByteArray := prog_1_method_22_code
def yX8_spanTo : MethodName := ⟨RX8, "spanTo", "(I)I"⟩
abbrev cX8_commentOf : ByteArray := prog_1_method_23_code
def yX8_commentOf : MethodName := ⟨RX8, "commentOf", "(I)LProofpress$Comment;"⟩
abbrev cX8_openCommentOf : ByteArray := prog_1_method_24_code
def yX8_openCommentOf : MethodName := ⟨RX8, "openCommentOf", "(I)LProofpress$Comment;"⟩
abbrev cX8_openCommentsOn : ByteArray := prog_1_method_25_code
def yX8_openCommentsOn : MethodName := ⟨RX8, "openCommentsOn", "(LProofpress$Document;)I"⟩
abbrev cX8_sign : ByteArray := prog_1_method_26_code
def yX8_sign : MethodName := ⟨RX8, "sign", "(I)I"⟩
abbrev cX8_signed : ByteArray := prog_1_method_27_code
def yX8_signed : MethodName := ⟨RX8, "signed", "(I)I"⟩
abbrev cX8_sheets : ByteArray := prog_1_method_28_code
def yX8_sheets : MethodName := ⟨RX8, "sheets", "(I)I"⟩
abbrev cX8_pageOn : ByteArray := prog_1_method_29_code
def yX8_pageOn : MethodName := ⟨RX8, "pageOn", "(III)I"⟩
abbrev cX8_shown : ByteArray := prog_1_method_30_code
def yX8_shown : MethodName := ⟨RX8, "shown", "(III)I"⟩
abbrev cX8_shownByLog : ByteArray := prog_1_method_31_code
def yX8_shownByLog : MethodName := ⟨RX8, "shownByLog", "(III)I"⟩
abbrev cX8_proofedDocumentOf : ByteArray := prog_1_method_32_code
def yX8_proofedDocumentOf : MethodName := ⟨RX8, "proofedDocumentOf", "(I)LProofpress$Document;"⟩
abbrev cX8_requireSheet : ByteArray := prog_1_method_33_code
def yX8_requireSheet : MethodName := ⟨RX8, "requireSheet", "(LProofpress$Document;I)V"⟩
abbrev cX8_requireIndexOnSheet : ByteArray := prog_1_method_34_code
def yX8_requireIndexOnSheet : MethodName := ⟨RX8, "requireIndexOnSheet", "(I)V"⟩
abbrev cX8_supply : ByteArray := prog_1_method_35_code
def yX8_supply : MethodName := ⟨RX8, "supply", "(II)I"⟩
abbrev cX8_paper : ByteArray := prog_1_method_36_code
def yX8_paper : MethodName := ⟨RX8, "paper", "()I"⟩
abbrev cX8_plates : ByteArray := prog_1_method_37_code
def yX8_plates : MethodName := ⟨RX8, "plates", "()I"⟩
abbrev cX8_order : ByteArray := prog_1_method_38_code
def yX8_order : MethodName := ⟨RX8, "order", "(III)I"⟩
abbrev cX8_needs : ByteArray := prog_1_method_39_code
def yX8_needs : MethodName := ⟨RX8, "needs", "(I)I"⟩
abbrev cX8_freePaper : ByteArray := prog_1_method_40_code
def yX8_freePaper : MethodName := ⟨RX8, "freePaper", "()I"⟩
abbrev cX8_stateOf : ByteArray := prog_1_method_41_code
def yX8_stateOf : MethodName := ⟨RX8, "stateOf", "(II)C"⟩
abbrev cX8_isDone : ByteArray := prog_1_method_42_code
def yX8_isDone : MethodName := ⟨RX8, "isDone", "(I)Z"⟩
abbrev cX8_lateBy : ByteArray := prog_1_method_43_code
def yX8_lateBy : MethodName := ⟨RX8, "lateBy", "(I)I"⟩
abbrev cX8_nextOrder : ByteArray := prog_1_method_44_code
def yX8_nextOrder : MethodName := ⟨RX8, "nextOrder", "()I"⟩
abbrev cX8_nextSheet : ByteArray := prog_1_method_45_code
def yX8_nextSheet : MethodName := ⟨RX8, "nextSheet", "(I)I"⟩
abbrev cX8_orderOf : ByteArray := prog_1_method_46_code
def yX8_orderOf : MethodName := ⟨RX8, "orderOf", "(I)LProofpress$Order;"⟩
abbrev cX8_stateOn : ByteArray := prog_1_method_47_code
def yX8_stateOn : MethodName := ⟨RX8, "stateOn", "(LProofpress$Order;I)C"⟩
abbrev cX8_isToBePrinted : ByteArray := prog_1_method_48_code
def yX8_isToBePrinted : MethodName := ⟨RX8, "isToBePrinted", "(C)Z"⟩
abbrev cX8_goodSheetsOf : ByteArray := prog_1_method_49_code
def yX8_goodSheetsOf : MethodName := ⟨RX8, "goodSheetsOf", "(LProofpress$Order;)I"⟩
abbrev cX8_isFinished : ByteArray := prog_1_method_50_code
def yX8_isFinished : MethodName := ⟨RX8, "isFinished", "(LProofpress$Order;)Z"⟩
abbrev cX8_paperNeededBy : ByteArray := prog_1_method_51_code
def yX8_paperNeededBy : MethodName := ⟨RX8, "paperNeededBy", "(LProofpress$Order;)I"⟩
abbrev cX8_print : ByteArray := prog_1_method_52_code
def yX8_print : MethodName := ⟨RX8, "print", "(II)I"⟩
abbrev cX8_onPress : ByteArray := prog_1_method_53_code
def yX8_onPress : MethodName := ⟨RX8, "onPress", "()I"⟩
abbrev cX8_pass : ByteArray := prog_1_method_54_code
def yX8_pass : MethodName := ⟨RX8, "pass", "(I)I"⟩
abbrev cX8_hour : ByteArray := prog_1_method_55_code
def yX8_hour : MethodName := ⟨RX8, "hour", "()I"⟩
abbrev cX8_plateLength : ByteArray := prog_1_method_56_code
def yX8_plateLength : MethodName := ⟨RX8, "plateLength", "(II)I"⟩
abbrev cX8_plateAt : ByteArray := prog_1_method_57_code
def yX8_plateAt : MethodName := ⟨RX8, "plateAt", "(III)I"⟩
abbrev cX8_platedRecordOf : ByteArray := prog_1_method_58_code
def yX8_platedRecordOf : MethodName := ⟨RX8, "platedRecordOf", "(II)LProofpress$SheetRecord;"⟩
abbrev cX8_platesFor : ByteArray := prog_1_method_59_code
def yX8_platesFor : MethodName := ⟨RX8, "platesFor", "(I)I"⟩
abbrev cX8_wasted : ByteArray := prog_1_method_60_code
def yX8_wasted : MethodName := ⟨RX8, "wasted", "(I)I"⟩
abbrev cX8_cost : ByteArray := prog_1_method_61_code
def yX8_cost : MethodName := ⟨RX8, "cost", "(I)J"⟩
abbrev cX8_goodShare : ByteArray := prog_1_method_62_code
def yX8_goodShare : MethodName := ⟨RX8, "goodShare", "()F"⟩
abbrev cX8_meanLength : ByteArray := prog_1_method_63_code
def yX8_meanLength : MethodName := ⟨RX8, "meanLength", "()D"⟩
def RX9 : String := "ProofpressModel"
def TX9 : u_T := fun k => match k with
  | 0 => ("ProofpressModel", "texts", "[I", true)
  | 1 => ("ProofpressModel", "lengths", "[I", true)
  | 2 => ("ProofpressModel", "versions", "[I", true)
  | 3 => ("ProofpressModel", "closings", "[I", true)
  | 4 => ("ProofpressModel", "proofs", "[I", true)
  | 5 => ("ProofpressModel", "proofLengths", "[I", true)
  | 6 => ("ProofpressModel", "proofVersions", "[I", true)
  | 7 => ("ProofpressModel", "documents", "I", false)
  | 8 => ("ProofpressModel", "commentOn", "[I", true)
  | 9 => ("ProofpressModel", "spanFrom", "[I", true)
  | 10 => ("ProofpressModel", "spanTo", "[I", true)
  | 11 => ("ProofpressModel", "isOpen", "[Z", true)
  | 12 => ("ProofpressModel", "comments", "I", false)
  | 13 => ("ProofpressModel", "orderOf", "[I", true)
  | 14 => ("ProofpressModel", "copies", "[I", true)
  | 15 => ("ProofpressModel", "dues", "[I", true)
  | 16 => ("ProofpressModel", "paperFor", "[I", true)
  | 17 => ("ProofpressModel", "platesFor", "[I", true)
  | 18 => ("ProofpressModel", "orders", "I", false)
  | 19 => ("ProofpressModel", "printings", "[I", true)
  | 20 => ("ProofpressModel", "plateLength", "[I", true)
  | 21 => ("ProofpressModel", "printed", "[I", true)
  | 22 => ("ProofpressModel", "plate", "[I", true)
  | 23 => ("ProofpressModel", "paper", "I", false)
  | 24 => ("ProofpressModel", "plates", "I", false)
  | 25 => ("ProofpressModel", "pressOrder", "I", false)
  | 26 => ("ProofpressModel", "pressSheet", "I", false)
  | 27 => ("ProofpressModel", "pressUntil", "I", false)
  | 28 => ("ProofpressModel", "pressMost", "I", false)
  | 29 => ("ProofpressModel", "onPress", "[I", true)
  | 30 => ("ProofpressModel", "hour", "I", false)
  | _ => ("ProofpressModel", "thrown", "I", false)
def tyX9 : Nat → FieldType := fun k => match k with
  | 0 => .array .int
  | 1 => .array .int
  | 2 => .array .int
  | 3 => .array .int
  | 4 => .array .int
  | 5 => .array .int
  | 6 => .array .int
  | 7 => .int
  | 8 => .array .int
  | 9 => .array .int
  | 10 => .array .int
  | 11 => .array .boolean
  | 12 => .int
  | 13 => .array .int
  | 14 => .array .int
  | 15 => .array .int
  | 16 => .array .int
  | 17 => .array .int
  | 18 => .int
  | 19 => .array .int
  | 20 => .array .int
  | 21 => .array .int
  | 22 => .array .int
  | 23 => .int
  | 24 => .int
  | 25 => .int
  | 26 => .int
  | 27 => .int
  | 28 => .int
  | 29 => .array .int
  | 30 => .int
  | _ => .int
abbrev wsX90 : List Cond := u_ws RX9 TX9 32
theorem nmX9 : ∀ a, a < 32 → ∀ b, b < 32 → a ≠ b → (TX9 a).2.1 ≠ (TX9 b).2.1 := by decide +kernel
theorem tyX9_ok : ∀ k, k < 32 → parseFieldDescriptor (TX9 k).2.2.1 = some (tyX9 k) := by decide +kernel
abbrev cX9_init : ByteArray := prog_11_method_1_code
def yX9_init : MethodName := ⟨RX9, "<init>", "()V"⟩
abbrev cX9_thrown : ByteArray := prog_11_method_2_code
def yX9_thrown : MethodName := ⟨RX9, "thrown", "()I"⟩
abbrev cX9_in : ByteArray := prog_11_method_3_code
def yX9_in : MethodName := ⟨RX9, "in", "(JJJ)Z"⟩
abbrev cX9_isDocument : ByteArray := prog_11_method_4_code
def yX9_isDocument : MethodName := ⟨RX9, "isDocument", "(I)Z"⟩
abbrev cX9_addDocument : ByteArray := prog_11_method_5_code
def yX9_addDocument : MethodName := ⟨RX9, "addDocument", "()I"⟩
abbrev cX9_barOf : ByteArray := prog_11_method_6_code
def yX9_barOf : MethodName := ⟨RX9, "barOf", "(IIZ)C"⟩
abbrev cX9_isCode : ByteArray := prog_11_method_7_code
def yX9_isCode : MethodName := ⟨RX9, "isCode", "(I)Z"⟩
abbrev cX9_moves : ByteArray := prog_11_method_8_code
def yX9_moves : MethodName := ⟨RX9, "moves", "(III)V"⟩
abbrev cX9_insert : ByteArray := prog_11_method_9_code
def yX9_insert : MethodName := ⟨RX9, "insert", "(III)I"⟩
abbrev cX9_delete : ByteArray := prog_11_method_10_code
def yX9_delete : MethodName := ⟨RX9, "delete", "(II)I"⟩
abbrev cX9_bar : ByteArray := prog_11_method_11_code
def yX9_bar : MethodName := ⟨RX9, "bar", "(IIZ)C"⟩
abbrev cX9_close : ByteArray := prog_11_method_12_code
def yX9_close : MethodName := ⟨RX9, "close", "(II)I"⟩
abbrev cX9_asks : ByteArray := prog_11_method_13_code
def yX9_asks : MethodName := ⟨RX9, "asks", "(I)Z"⟩
abbrev cX9_length : ByteArray := prog_11_method_14_code
def yX9_length : MethodName := ⟨RX9, "length", "(I)I"⟩
abbrev cX9_codeAt : ByteArray := prog_11_method_15_code
def yX9_codeAt : MethodName := ⟨RX9, "codeAt", "(II)I"⟩
abbrev cX9_version : ByteArray := prog_11_method_16_code
def yX9_version : MethodName := ⟨RX9, "version", "(I)I"⟩
abbrev cX9_comment : ByteArray := prog_11_method_17_code
def yX9_comment : MethodName := ⟨RX9, "comment", "(III)I"⟩
abbrev cX9_openOn : ByteArray := prog_11_method_18_code
def yX9_openOn : MethodName := ⟨RX9, "openOn", "(I)I"⟩
abbrev cX9_isComment : ByteArray := prog_11_method_19_code
def yX9_isComment : MethodName := ⟨RX9, "isComment", "(I)Z"⟩
abbrev cX9_answer : ByteArray := prog_11_method_20_code
def yX9_answer : MethodName := ⟨RX9, "answer", "(I)I"⟩
abbrev cX9_isOpen : ByteArray := prog_11_method_21_code
def yX9_isOpen : MethodName := ⟨RX9, "isOpen", "(I)Z"⟩
abbrev cX9_spanFrom : ByteArray := prog_11_method_22_code
def yX9_spanFrom : MethodName := ⟨RX9, "spanFrom", "(I)I"⟩
abbrev cX9_spanTo : ByteArray := prog_11_method_23_code
def yX9_spanTo : MethodName := ⟨RX9, "spanTo", "(I)I"⟩
abbrev cX9_sheetsOf : ByteArray := prog_11_method_24_code
def yX9_sheetsOf : MethodName := ⟨RX9, "sheetsOf", "(I)I"⟩
abbrev cX9_sign : ByteArray := prog_11_method_25_code
def yX9_sign : MethodName := ⟨RX9, "sign", "(I)I"⟩
abbrev cX9_asksProof : ByteArray := prog_11_method_26_code
def yX9_asksProof : MethodName := ⟨RX9, "asksProof", "(I)Z"⟩
abbrev cX9_signed : ByteArray := prog_11_method_27_code
def yX9_signed : MethodName := ⟨RX9, "signed", "(I)I"⟩
abbrev cX9_sheets : ByteArray := prog_11_method_28_code
def yX9_sheets : MethodName := ⟨RX9, "sheets", "(I)I"⟩
abbrev cX9_pageAt : ByteArray := prog_11_method_29_code
def yX9_pageAt : MethodName := ⟨RX9, "pageAt", "(III)I"⟩
abbrev cX9_pageOn : ByteArray := prog_11_method_30_code
def yX9_pageOn : MethodName := ⟨RX9, "pageOn", "(III)I"⟩
abbrev cX9_codeOn : ByteArray := prog_11_method_31_code
def yX9_codeOn : MethodName := ⟨RX9, "codeOn", "(III)I"⟩
abbrev cX9_shown : ByteArray := prog_11_method_32_code
def yX9_shown : MethodName := ⟨RX9, "shown", "(III)I"⟩
abbrev cX9_shownByLog : ByteArray := prog_11_method_33_code
def yX9_shownByLog : MethodName := ⟨RX9, "shownByLog", "(III)I"⟩
abbrev cX9_supply : ByteArray := prog_11_method_34_code
def yX9_supply : MethodName := ⟨RX9, "supply", "(II)I"⟩
abbrev cX9_paper : ByteArray := prog_11_method_35_code
def yX9_paper : MethodName := ⟨RX9, "paper", "()I"⟩
abbrev cX9_plates : ByteArray := prog_11_method_36_code
def yX9_plates : MethodName := ⟨RX9, "plates", "()I"⟩
abbrev cX9_order : ByteArray := prog_11_method_37_code
def yX9_order : MethodName := ⟨RX9, "order", "(III)I"⟩
abbrev cX9_isOrder : ByteArray := prog_11_method_38_code
def yX9_isOrder : MethodName := ⟨RX9, "isOrder", "(I)Z"⟩
abbrev cX9_sheetsIn : ByteArray := prog_11_method_39_code
def yX9_sheetsIn : MethodName := ⟨RX9, "sheetsIn", "(I)I"⟩
abbrev cX9_stateNow : ByteArray := prog_11_method_40_code
def yX9_stateNow : MethodName := ⟨RX9, "stateNow", "(II)C"⟩
abbrev cX9_count : ByteArray := prog_11_method_41_code
def yX9_count : MethodName := ⟨RX9, "count", "(IC)I"⟩
abbrev cX9_needed : ByteArray := prog_11_method_42_code
def yX9_needed : MethodName := ⟨RX9, "needed", "(I)I"⟩
abbrev cX9_free : ByteArray := prog_11_method_43_code
def yX9_free : MethodName := ⟨RX9, "free", "()I"⟩
abbrev cX9_asksOrder : ByteArray := prog_11_method_44_code
def yX9_asksOrder : MethodName := ⟨RX9, "asksOrder", "(I)Z"⟩
abbrev cX9_needs : ByteArray := prog_11_method_45_code
def yX9_needs : MethodName := ⟨RX9, "needs", "(I)I"⟩
abbrev cX9_freePaper : ByteArray := prog_11_method_46_code
def yX9_freePaper : MethodName := ⟨RX9, "freePaper", "()I"⟩
abbrev cX9_asksSheet : ByteArray := prog_11_method_47_code
def yX9_asksSheet : MethodName := ⟨RX9, "asksSheet", "(II)Z"⟩
abbrev cX9_stateOf : ByteArray := prog_11_method_48_code
def yX9_stateOf : MethodName := ⟨RX9, "stateOf", "(II)C"⟩
abbrev cX9_isAll : ByteArray := prog_11_method_49_code
def yX9_isAll : MethodName := ⟨RX9, "isAll", "(I)Z"⟩
abbrev cX9_isDone : ByteArray := prog_11_method_50_code
def yX9_isDone : MethodName := ⟨RX9, "isDone", "(I)Z"⟩
abbrev cX9_lateBy : ByteArray := prog_11_method_51_code
def yX9_lateBy : MethodName := ⟨RX9, "lateBy", "(I)I"⟩
abbrev cX9_nextOrder : ByteArray := prog_11_method_52_code
def yX9_nextOrder : MethodName := ⟨RX9, "nextOrder", "()I"⟩
abbrev cX9_nextSheet : ByteArray := prog_11_method_53_code
def yX9_nextSheet : MethodName := ⟨RX9, "nextSheet", "(I)I"⟩
abbrev cX9_made : ByteArray := prog_11_method_54_code
def yX9_made : MethodName := ⟨RX9, "made", "(II[I)I"⟩
abbrev cX9_print : ByteArray := prog_11_method_55_code
def yX9_print : MethodName := ⟨RX9, "print", "(II)I"⟩
abbrev cX9_onPress : ByteArray := prog_11_method_56_code
def yX9_onPress : MethodName := ⟨RX9, "onPress", "()I"⟩
abbrev cX9_hours : ByteArray := prog_11_method_57_code
def yX9_hours : MethodName := ⟨RX9, "hours", "()I"⟩
abbrev cX9_pass : ByteArray := prog_11_method_58_code
def yX9_pass : MethodName := ⟨RX9, "pass", "(I)I"⟩
abbrev cX9_hour : ByteArray := prog_11_method_59_code
def yX9_hour : MethodName := ⟨RX9, "hour", "()I"⟩
abbrev cX9_plateLength : ByteArray := prog_11_method_60_code
def yX9_plateLength : MethodName := ⟨RX9, "plateLength", "(II)I"⟩
abbrev cX9_plateAt : ByteArray := prog_11_method_61_code
def yX9_plateAt : MethodName := ⟨RX9, "plateAt", "(III)I"⟩
abbrev cX9_platesFor : ByteArray := prog_11_method_62_code
def yX9_platesFor : MethodName := ⟨RX9, "platesFor", "(I)I"⟩
abbrev cX9_wasted : ByteArray := prog_11_method_63_code
def yX9_wasted : MethodName := ⟨RX9, "wasted", "(I)I"⟩
abbrev cX9_cost : ByteArray := prog_11_method_64_code
def yX9_cost : MethodName := ⟨RX9, "cost", "(I)J"⟩
abbrev cX9_goodShare : ByteArray := prog_11_method_65_code
def yX9_goodShare : MethodName := ⟨RX9, "goodShare", "()F"⟩
abbrev cX9_meanLength : ByteArray := prog_11_method_66_code
def yX9_meanLength : MethodName := ⟨RX9, "meanLength", "()D"⟩
def RJx145de : String := "java/io/Serializable"
def TJx145de : u_T := fun k => match k with
  | _ => ("", "", "", false)
def tyJx145de : Nat → FieldType := fun k => match k with
  | _ => .int
abbrev wsJx145de0 : List Cond := u_ws RJx145de TJx145de 0
theorem nmJx145de : ∀ a, a < 0 → ∀ b, b < 0 → a ≠ b → (TJx145de a).2.1 ≠ (TJx145de b).2.1 := by decide +kernel
theorem tyJx145de_ok : ∀ k, k < 0 → parseFieldDescriptor (TJx145de k).2.2.1 = some (tyJx145de k) := by decide +kernel
def RJx00060 : String := "java/lang/ArrayIndexOutOfBoundsException"
def TJx00060 : u_T := fun k => match k with
  | 0 => ("java/lang/Throwable", "backtrace", "Ljava/lang/Object;", false)
  | 1 => ("java/lang/Throwable", "detailMessage", "Ljava/lang/String;", false)
  | 2 => ("java/lang/Throwable", "cause", "Ljava/lang/Throwable;", false)
  | 3 => ("java/lang/Throwable", "stackTrace", "[Ljava/lang/StackTraceElement;", false)
  | 4 => ("java/lang/Throwable", "depth", "I", false)
  | _ => ("java/lang/Throwable", "suppressedExceptions", "Ljava/util/List;", false)
def tyJx00060 : Nat → FieldType := fun k => match k with
  | 0 => .object "java/lang/Object"
  | 1 => .object "java/lang/String"
  | 2 => .object "java/lang/Throwable"
  | 3 => .array (.object "java/lang/StackTraceElement")
  | 4 => .int
  | _ => .object "java/util/List"
abbrev wsJx000600 : List Cond := u_ws RJx00060 TJx00060 6
theorem nmJx00060 : ∀ a, a < 6 → ∀ b, b < 6 → a ≠ b → (TJx00060 a).2.1 ≠ (TJx00060 b).2.1 := by decide +kernel
theorem tyJx00060_ok : ∀ k, k < 6 → parseFieldDescriptor (TJx00060 k).2.2.1 = some (tyJx00060 k) := by decide +kernel
abbrev cJx00060_init_a7421 : ByteArray := prog_14_method_2_code
def yJx00060_init_a7421 : MethodName := ⟨RJx00060, "<init>", "(Ljava/lang/String;)V"⟩
def RJ9 : String := "java/lang/Math"
def TJ9 : u_T := fun k => match k with
  | _ => ("", "", "", false)
def tyJ9 : Nat → FieldType := fun k => match k with
  | _ => .int
abbrev wsJ90 : List Cond := u_ws RJ9 TJ9 0
theorem nmJ9 : ∀ a, a < 0 → ∀ b, b < 0 → a ≠ b → (TJ9 a).2.1 ≠ (TJ9 b).2.1 := by decide +kernel
theorem tyJ9_ok : ∀ k, k < 0 → parseFieldDescriptor (TJ9 k).2.2.1 = some (tyJ9 k) := by decide +kernel
abbrev cJ9_max_7cf53 : ByteArray := prog_19_method_65_code
def yJ9_max_7cf53 : MethodName := ⟨RJ9, "max", "(II)I"⟩
def RJ0 : String := "java/lang/String"
def TJ0 : u_T := fun k => match k with
  | 0 => ("java/lang/String", "value", "[B", true)
  | _ => ("java/lang/String", "coder", "B", true)
def tyJ0 : Nat → FieldType := fun k => match k with
  | 0 => .array .byte
  | _ => .byte
abbrev wsJ00 : List Cond := u_ws RJ0 TJ0 2
theorem nmJ0 : ∀ a, a < 2 → ∀ b, b < 2 → a ≠ b → (TJ0 a).2.1 ≠ (TJ0 b).2.1 := by decide +kernel
theorem tyJ0_ok : ∀ k, k < 2 → parseFieldDescriptor (TJ0 k).2.2.1 = some (tyJ0 k) := by decide +kernel
def RL : String := "ProofpressLaw"
abbrev cL_addDocument : ByteArray := method_3_code
def yL_addDocument : MethodName := ⟨RL, "addDocument", "(LProofpress;[J)I"⟩
abbrev cL_insert : ByteArray := method_4_code
def yL_insert : MethodName := ⟨RL, "insert", "(LProofpress;III[J)I"⟩
abbrev cL_delete : ByteArray := method_5_code
def yL_delete : MethodName := ⟨RL, "delete", "(LProofpress;II[J)I"⟩
abbrev cL_bar : ByteArray := method_6_code
def yL_bar : MethodName := ⟨RL, "bar", "(LProofpress;IIZ[J)I"⟩
abbrev cL_close : ByteArray := method_7_code
def yL_close : MethodName := ⟨RL, "close", "(LProofpress;II[J)I"⟩
abbrev cL_length : ByteArray := method_8_code
def yL_length : MethodName := ⟨RL, "length", "(LProofpress;I[J)I"⟩
abbrev cL_codeAt : ByteArray := method_9_code
def yL_codeAt : MethodName := ⟨RL, "codeAt", "(LProofpress;II[J)I"⟩
abbrev cL_version : ByteArray := method_10_code
def yL_version : MethodName := ⟨RL, "version", "(LProofpress;I[J)I"⟩
abbrev cL_comment : ByteArray := method_11_code
def yL_comment : MethodName := ⟨RL, "comment", "(LProofpress;III[J)I"⟩
abbrev cL_answer : ByteArray := method_12_code
def yL_answer : MethodName := ⟨RL, "answer", "(LProofpress;I[J)I"⟩
abbrev cL_isOpen : ByteArray := method_13_code
def yL_isOpen : MethodName := ⟨RL, "isOpen", "(LProofpress;I[J)I"⟩
abbrev cL_spanFrom : ByteArray := method_14_code
def yL_spanFrom : MethodName := ⟨RL, "spanFrom", "(LProofpress;I[J)I"⟩
abbrev cL_spanTo : ByteArray := method_15_code
def yL_spanTo : MethodName := ⟨RL, "spanTo", "(LProofpress;I[J)I"⟩
abbrev cL_sign : ByteArray := method_16_code
def yL_sign : MethodName := ⟨RL, "sign", "(LProofpress;I[J)I"⟩
abbrev cL_signed : ByteArray := method_17_code
def yL_signed : MethodName := ⟨RL, "signed", "(LProofpress;I[J)I"⟩
abbrev cL_sheets : ByteArray := method_18_code
def yL_sheets : MethodName := ⟨RL, "sheets", "(LProofpress;I[J)I"⟩
abbrev cL_pageOn : ByteArray := method_19_code
def yL_pageOn : MethodName := ⟨RL, "pageOn", "(LProofpress;III[J)I"⟩
abbrev cL_shown : ByteArray := method_20_code
def yL_shown : MethodName := ⟨RL, "shown", "(LProofpress;III[J)I"⟩
abbrev cL_shownByLog : ByteArray := method_21_code
def yL_shownByLog : MethodName := ⟨RL, "shownByLog", "(LProofpress;III[J)I"⟩
abbrev cL_supply : ByteArray := method_22_code
def yL_supply : MethodName := ⟨RL, "supply", "(LProofpress;II[J)I"⟩
abbrev cL_order : ByteArray := method_23_code
def yL_order : MethodName := ⟨RL, "order", "(LProofpress;III[J)I"⟩
abbrev cL_needs : ByteArray := method_24_code
def yL_needs : MethodName := ⟨RL, "needs", "(LProofpress;I[J)I"⟩
abbrev cL_stateOf : ByteArray := method_25_code
def yL_stateOf : MethodName := ⟨RL, "stateOf", "(LProofpress;II[J)I"⟩
abbrev cL_isDone : ByteArray := method_26_code
def yL_isDone : MethodName := ⟨RL, "isDone", "(LProofpress;I[J)I"⟩
abbrev cL_lateBy : ByteArray := method_27_code
def yL_lateBy : MethodName := ⟨RL, "lateBy", "(LProofpress;I[J)I"⟩
abbrev cL_nextOrder : ByteArray := method_28_code
def yL_nextOrder : MethodName := ⟨RL, "nextOrder", "(LProofpress;[J)I"⟩
abbrev cL_nextSheet : ByteArray := method_29_code
def yL_nextSheet : MethodName := ⟨RL, "nextSheet", "(LProofpress;I[J)I"⟩
abbrev cL_print : ByteArray := method_30_code
def yL_print : MethodName := ⟨RL, "print", "(LProofpress;II[J)I"⟩
abbrev cL_pass : ByteArray := method_31_code
def yL_pass : MethodName := ⟨RL, "pass", "(LProofpress;I[J)I"⟩
abbrev cL_plateLength : ByteArray := method_32_code
def yL_plateLength : MethodName := ⟨RL, "plateLength", "(LProofpress;II[J)I"⟩
abbrev cL_plateAt : ByteArray := method_33_code
def yL_plateAt : MethodName := ⟨RL, "plateAt", "(LProofpress;III[J)I"⟩
abbrev cL_platesFor : ByteArray := method_34_code
def yL_platesFor : MethodName := ⟨RL, "platesFor", "(LProofpress;I[J)I"⟩
abbrev cL_wasted : ByteArray := method_35_code
def yL_wasted : MethodName := ⟨RL, "wasted", "(LProofpress;I[J)I"⟩
abbrev cL_cost : ByteArray := method_36_code
def yL_cost : MethodName := ⟨RL, "cost", "(LProofpress;I[J)I"⟩
abbrev cL_goodShare : ByteArray := method_37_code
def yL_goodShare : MethodName := ⟨RL, "goodShare", "(LProofpress;[D)I"⟩
abbrev cL_meanLength : ByteArray := method_38_code
def yL_meanLength : MethodName := ⟨RL, "meanLength", "(LProofpress;[D)I"⟩
abbrev cL_law : ByteArray := code
def yL_law : MethodName := ⟨RL, "law", "([I)Z"⟩
def wsJx00060_init_a7421 : List Cond := .code yJx00060_init_a7421 cJx00060_init_a7421 2 none :: ([])
def wsJ9_max_7cf53 : List Cond := .code yJ9_max_7cf53 cJ9_max_7cf53 2 (some .int) :: ([])
abbrev vwCl : List vw_C := [(RJ0, TJ0, 2), (RJx00060, TJx00060, 6), (RX0, TX0, 4), (RX1, TX1, 7), (RX3, TX3, 5), (RX4, TX4, 8), (RX5, TX5, 5), (RX6, TX6, 5), (RX7, TX7, 2), (RX8, TX8, 11), (RX9, TX9, 32)]
end
section
theorem dX0_init_0 : decode cX0_init 0 = .ok (.aload_n 0, 1) := by decide +kernel
theorem dX0_init_1 : decode cX0_init 1 = .ok (.invokespecial 1, 3) := by decide +kernel
theorem dX0_init_4 : decode cX0_init 4 = .ok (.aload_n 0, 1) := by decide +kernel
theorem dX0_init_5 : decode cX0_init 5 = .ok (.aload_n 1, 1) := by decide +kernel
theorem dX0_init_6 : decode cX0_init 6 = .ok (.putfield 7, 3) := by decide +kernel
theorem dX0_init_9 : decode cX0_init 9 = .ok (.aload_n 0, 1) := by decide +kernel
theorem dX0_init_10 : decode cX0_init 10 = .ok (.iload_n 2, 1) := by decide +kernel
theorem dX0_init_11 : decode cX0_init 11 = .ok (.putfield 13, 3) := by decide +kernel
theorem dX0_init_14 : decode cX0_init 14 = .ok (.aload_n 0, 1) := by decide +kernel
theorem dX0_init_15 : decode cX0_init 15 = .ok (.iload_n 3, 1) := by decide +kernel
theorem dX0_init_16 : decode cX0_init 16 = .ok (.putfield 17, 3) := by decide +kernel
theorem dX0_init_19 : decode cX0_init 19 = .ok (.aload_n 0, 1) := by decide +kernel
theorem dX0_init_20 : decode cX0_init 20 = .ok (.iconst 1, 1) := by decide +kernel
theorem dX0_init_21 : decode cX0_init 21 = .ok (.putfield 20, 3) := by decide +kernel
theorem dX0_init_24 : decode cX0_init 24 = .ok (.return_, 1) := by decide +kernel
theorem dX0_isOpenOn_0 : decode cX0_isOpenOn 0 = .ok (.aload_n 0, 1) := by decide +kernel
theorem dX0_isOpenOn_1 : decode cX0_isOpenOn 1 = .ok (.getfield 20, 3) := by decide +kernel
theorem dX0_isOpenOn_4 : decode cX0_isOpenOn 4 = .ok (.ifCond .eq 15, 3) := by decide +kernel
theorem dX0_isOpenOn_7 : decode cX0_isOpenOn 7 = .ok (.aload_n 0, 1) := by decide +kernel
theorem dX0_isOpenOn_8 : decode cX0_isOpenOn 8 = .ok (.getfield 7, 3) := by decide +kernel
theorem dX0_isOpenOn_11 : decode cX0_isOpenOn 11 = .ok (.aload_n 1, 1) := by decide +kernel
theorem dX0_isOpenOn_12 : decode cX0_isOpenOn 12 = .ok (.if_acmp .ne 7, 3) := by decide +kernel
theorem dX0_isOpenOn_15 : decode cX0_isOpenOn 15 = .ok (.iconst 1, 1) := by decide +kernel
theorem dX0_isOpenOn_16 : decode cX0_isOpenOn 16 = .ok (.goto 4, 3) := by decide +kernel
theorem dX0_isOpenOn_19 : decode cX0_isOpenOn 19 = .ok (.iconst 0, 1) := by decide +kernel
theorem dX0_isOpenOn_20 : decode cX0_isOpenOn 20 = .ok (.ireturn, 1) := by decide +kernel
theorem dX0_freezes_0 : decode cX0_freezes 0 = .ok (.iload_n 2, 1) := by decide +kernel
theorem dX0_freezes_1 : decode cX0_freezes 1 = .ok (.ifCond .eq 12, 3) := by decide +kernel
theorem dX0_freezes_4 : decode cX0_freezes 4 = .ok (.aload_n 0, 1) := by decide +kernel
theorem dX0_freezes_5 : decode cX0_freezes 5 = .ok (.getfield 13, 3) := by decide +kernel
theorem dX0_freezes_8 : decode cX0_freezes 8 = .ok (.iconst 1, 1) := by decide +kernel
theorem dX0_freezes_9 : decode cX0_freezes 9 = .ok (.iadd, 1) := by decide +kernel
theorem dX0_freezes_10 : decode cX0_freezes 10 = .ok (.goto 7, 3) := by decide +kernel
theorem dX0_freezes_13 : decode cX0_freezes 13 = .ok (.aload_n 0, 1) := by decide +kernel
theorem dX0_freezes_14 : decode cX0_freezes 14 = .ok (.getfield 13, 3) := by decide +kernel
theorem dX0_freezes_17 : decode cX0_freezes 17 = .ok (.istore_n 3, 1) := by decide +kernel
theorem dX0_freezes_18 : decode cX0_freezes 18 = .ok (.iload_n 1, 1) := by decide +kernel
theorem dX0_freezes_19 : decode cX0_freezes 19 = .ok (.iload_n 3, 1) := by decide +kernel
theorem dX0_freezes_20 : decode cX0_freezes 20 = .ok (.if_icmp .lt 15, 3) := by decide +kernel
theorem dX0_freezes_23 : decode cX0_freezes 23 = .ok (.iload_n 1, 1) := by decide +kernel
theorem dX0_freezes_24 : decode cX0_freezes 24 = .ok (.aload_n 0, 1) := by decide +kernel
theorem dX0_freezes_25 : decode cX0_freezes 25 = .ok (.getfield 17, 3) := by decide +kernel
theorem dX0_freezes_28 : decode cX0_freezes 28 = .ok (.if_icmp .ge 7, 3) := by decide +kernel
theorem dX0_freezes_31 : decode cX0_freezes 31 = .ok (.iconst 1, 1) := by decide +kernel
theorem dX0_freezes_32 : decode cX0_freezes 32 = .ok (.goto 4, 3) := by decide +kernel
theorem dX0_freezes_35 : decode cX0_freezes 35 = .ok (.iconst 0, 1) := by decide +kernel
theorem dX0_freezes_36 : decode cX0_freezes 36 = .ok (.ireturn, 1) := by decide +kernel
theorem dX0_moveBy_0 : decode cX0_moveBy 0 = .ok (.aload_n 0, 1) := by decide +kernel
theorem dX0_moveBy_1 : decode cX0_moveBy 1 = .ok (.dup, 1) := by decide +kernel
theorem dX0_moveBy_2 : decode cX0_moveBy 2 = .ok (.getfield 13, 3) := by decide +kernel
theorem dX0_moveBy_5 : decode cX0_moveBy 5 = .ok (.iload_n 1, 1) := by decide +kernel
theorem dX0_moveBy_6 : decode cX0_moveBy 6 = .ok (.iadd, 1) := by decide +kernel
theorem dX0_moveBy_7 : decode cX0_moveBy 7 = .ok (.putfield 13, 3) := by decide +kernel
theorem dX0_moveBy_10 : decode cX0_moveBy 10 = .ok (.aload_n 0, 1) := by decide +kernel
theorem dX0_moveBy_11 : decode cX0_moveBy 11 = .ok (.dup, 1) := by decide +kernel
theorem dX0_moveBy_12 : decode cX0_moveBy 12 = .ok (.getfield 17, 3) := by decide +kernel
theorem dX0_moveBy_15 : decode cX0_moveBy 15 = .ok (.iload_n 1, 1) := by decide +kernel
theorem dX0_moveBy_16 : decode cX0_moveBy 16 = .ok (.iadd, 1) := by decide +kernel
theorem dX0_moveBy_17 : decode cX0_moveBy 17 = .ok (.putfield 17, 3) := by decide +kernel
theorem dX0_moveBy_20 : decode cX0_moveBy 20 = .ok (.return_, 1) := by decide +kernel
theorem dX1_init_0 : decode cX1_init 0 = .ok (.aload_n 0, 1) := by decide +kernel
theorem dX1_init_1 : decode cX1_init 1 = .ok (.invokespecial 3, 3) := by decide +kernel
theorem dX1_init_4 : decode cX1_init 4 = .ok (.aload_n 0, 1) := by decide +kernel
theorem dX1_init_5 : decode cX1_init 5 = .ok (.iload_n 1, 1) := by decide +kernel
theorem dX1_init_6 : decode cX1_init 6 = .ok (.putfield 9, 3) := by decide +kernel
theorem dX1_init_9 : decode cX1_init 9 = .ok (.aload_n 0, 1) := by decide +kernel
theorem dX1_init_10 : decode cX1_init 10 = .ok (.new 15, 3) := by decide +kernel
theorem dX1_init_13 : decode cX1_init 13 = .ok (.dup, 1) := by decide +kernel
theorem dX1_init_14 : decode cX1_init 14 = .ok (.invokespecial 17, 3) := by decide +kernel
theorem dX1_init_17 : decode cX1_init 17 = .ok (.putfield 18, 3) := by decide +kernel
theorem dX1_init_20 : decode cX1_init 20 = .ok (.aload_n 0, 1) := by decide +kernel
theorem dX1_init_21 : decode cX1_init 21 = .ok (.new 15, 3) := by decide +kernel
theorem dX1_init_24 : decode cX1_init 24 = .ok (.dup, 1) := by decide +kernel
theorem dX1_init_25 : decode cX1_init 25 = .ok (.invokespecial 17, 3) := by decide +kernel
theorem dX1_init_28 : decode cX1_init 28 = .ok (.putfield 22, 3) := by decide +kernel
theorem dX1_init_31 : decode cX1_init 31 = .ok (.aload_n 0, 1) := by decide +kernel
theorem dX1_init_32 : decode cX1_init 32 = .ok (.iconst (-1), 1) := by decide +kernel
theorem dX1_init_33 : decode cX1_init 33 = .ok (.putfield 25, 3) := by decide +kernel
theorem dX1_init_36 : decode cX1_init 36 = .ok (.aload_n 0, 1) := by decide +kernel
theorem dX1_init_37 : decode cX1_init 37 = .ok (.sipush 999, 3) := by decide +kernel
theorem dX1_init_40 : decode cX1_init 40 = .ok (.putfield 28, 3) := by decide +kernel
theorem dX1_init_43 : decode cX1_init 43 = .ok (.return_, 1) := by decide +kernel
theorem dX1_hasProof_0 : decode cX1_hasProof 0 = .ok (.aload_n 0, 1) := by decide +kernel
theorem dX1_hasProof_1 : decode cX1_hasProof 1 = .ok (.getfield 25, 3) := by decide +kernel
theorem dX1_hasProof_4 : decode cX1_hasProof 4 = .ok (.iconst (-1), 1) := by decide +kernel
theorem dX1_hasProof_5 : decode cX1_hasProof 5 = .ok (.if_icmp .eq 7, 3) := by decide +kernel
theorem dX1_hasProof_8 : decode cX1_hasProof 8 = .ok (.iconst 1, 1) := by decide +kernel
theorem dX1_hasProof_9 : decode cX1_hasProof 9 = .ok (.goto 4, 3) := by decide +kernel
theorem dX1_hasProof_12 : decode cX1_hasProof 12 = .ok (.iconst 0, 1) := by decide +kernel
theorem dX1_hasProof_13 : decode cX1_hasProof 13 = .ok (.ireturn, 1) := by decide +kernel
theorem dX1_makeProof_0 : decode cX1_makeProof 0 = .ok (.aload_n 0, 1) := by decide +kernel
theorem dX1_makeProof_1 : decode cX1_makeProof 1 = .ok (.getfield 22, 3) := by decide +kernel
theorem dX1_makeProof_4 : decode cX1_makeProof 4 = .ok (.aload_n 0, 1) := by decide +kernel
theorem dX1_makeProof_5 : decode cX1_makeProof 5 = .ok (.getfield 18, 3) := by decide +kernel
theorem dX1_makeProof_8 : decode cX1_makeProof 8 = .ok (.invokevirtual 31, 3) := by decide +kernel
theorem dX1_makeProof_11 : decode cX1_makeProof 11 = .ok (.aload_n 0, 1) := by decide +kernel
theorem dX1_makeProof_12 : decode cX1_makeProof 12 = .ok (.aload_n 0, 1) := by decide +kernel
theorem dX1_makeProof_13 : decode cX1_makeProof 13 = .ok (.getfield 35, 3) := by decide +kernel
theorem dX1_makeProof_16 : decode cX1_makeProof 16 = .ok (.putfield 25, 3) := by decide +kernel
theorem dX1_makeProof_19 : decode cX1_makeProof 19 = .ok (.aload_n 0, 1) := by decide +kernel
theorem dX1_makeProof_20 : decode cX1_makeProof 20 = .ok (.aload_n 0, 1) := by decide +kernel
theorem dX1_makeProof_21 : decode cX1_makeProof 21 = .ok (.getfield 22, 3) := by decide +kernel
theorem dX1_makeProof_24 : decode cX1_makeProof 24 = .ok (.getfield 38, 3) := by decide +kernel
theorem dX1_makeProof_27 : decode cX1_makeProof 27 = .ok (.invokestatic 41, 3) := by decide +kernel
theorem dX1_makeProof_30 : decode cX1_makeProof 30 = .ok (.putfield 47, 3) := by decide +kernel
theorem dX1_makeProof_33 : decode cX1_makeProof 33 = .ok (.return_, 1) := by decide +kernel
theorem dX1_codeOnSheet_0 : decode cX1_codeOnSheet 0 = .ok (.aload_n 0, 1) := by decide +kernel
theorem dX1_codeOnSheet_1 : decode cX1_codeOnSheet 1 = .ok (.getfield 47, 3) := by decide +kernel
theorem dX1_codeOnSheet_4 : decode cX1_codeOnSheet 4 = .ok (.iload_n 1, 1) := by decide +kernel
theorem dX1_codeOnSheet_5 : decode cX1_codeOnSheet 5 = .ok (.iload_n 2, 1) := by decide +kernel
theorem dX1_codeOnSheet_6 : decode cX1_codeOnSheet 6 = .ok (.bipush 8, 2) := by decide +kernel
theorem dX1_codeOnSheet_8 : decode cX1_codeOnSheet 8 = .ok (.idiv, 1) := by decide +kernel
theorem dX1_codeOnSheet_9 : decode cX1_codeOnSheet 9 = .ok (.invokestatic 50, 3) := by decide +kernel
theorem dX1_codeOnSheet_12 : decode cX1_codeOnSheet 12 = .ok (.istore_n 3, 1) := by decide +kernel
theorem dX1_codeOnSheet_13 : decode cX1_codeOnSheet 13 = .ok (.aload_n 0, 1) := by decide +kernel
theorem dX1_codeOnSheet_14 : decode cX1_codeOnSheet 14 = .ok (.getfield 22, 3) := by decide +kernel
theorem dX1_codeOnSheet_17 : decode cX1_codeOnSheet 17 = .ok (.bipush 8, 2) := by decide +kernel
theorem dX1_codeOnSheet_19 : decode cX1_codeOnSheet 19 = .ok (.iload_n 3, 1) := by decide +kernel
theorem dX1_codeOnSheet_20 : decode cX1_codeOnSheet 20 = .ok (.imul, 1) := by decide +kernel
theorem dX1_codeOnSheet_21 : decode cX1_codeOnSheet 21 = .ok (.iload_n 2, 1) := by decide +kernel
theorem dX1_codeOnSheet_22 : decode cX1_codeOnSheet 22 = .ok (.bipush 8, 2) := by decide +kernel
theorem dX1_codeOnSheet_24 : decode cX1_codeOnSheet 24 = .ok (.irem, 1) := by decide +kernel
theorem dX1_codeOnSheet_25 : decode cX1_codeOnSheet 25 = .ok (.iadd, 1) := by decide +kernel
theorem dX1_codeOnSheet_26 : decode cX1_codeOnSheet 26 = .ok (.invokevirtual 54, 3) := by decide +kernel
theorem dX1_codeOnSheet_29 : decode cX1_codeOnSheet 29 = .ok (.ireturn, 1) := by decide +kernel
theorem dX2_sheetCount_0 : decode cX2_sheetCount 0 = .ok (.iload_n 0, 1) := by decide +kernel
theorem dX2_sheetCount_1 : decode cX2_sheetCount 1 = .ok (.bipush 8, 2) := by decide +kernel
theorem dX2_sheetCount_3 : decode cX2_sheetCount 3 = .ok (.iadd, 1) := by decide +kernel
theorem dX2_sheetCount_4 : decode cX2_sheetCount 4 = .ok (.iconst 1, 1) := by decide +kernel
theorem dX2_sheetCount_5 : decode cX2_sheetCount 5 = .ok (.isub, 1) := by decide +kernel
theorem dX2_sheetCount_6 : decode cX2_sheetCount 6 = .ok (.bipush 8, 2) := by decide +kernel
theorem dX2_sheetCount_8 : decode cX2_sheetCount 8 = .ok (.idiv, 1) := by decide +kernel
theorem dX2_sheetCount_9 : decode cX2_sheetCount 9 = .ok (.istore_n 1, 1) := by decide +kernel
theorem dX2_sheetCount_10 : decode cX2_sheetCount 10 = .ok (.iload_n 1, 1) := by decide +kernel
theorem dX2_sheetCount_11 : decode cX2_sheetCount 11 = .ok (.iconst 4, 1) := by decide +kernel
theorem dX2_sheetCount_12 : decode cX2_sheetCount 12 = .ok (.iadd, 1) := by decide +kernel
theorem dX2_sheetCount_13 : decode cX2_sheetCount 13 = .ok (.iconst 1, 1) := by decide +kernel
theorem dX2_sheetCount_14 : decode cX2_sheetCount 14 = .ok (.isub, 1) := by decide +kernel
theorem dX2_sheetCount_15 : decode cX2_sheetCount 15 = .ok (.iconst 4, 1) := by decide +kernel
theorem dX2_sheetCount_16 : decode cX2_sheetCount 16 = .ok (.idiv, 1) := by decide +kernel
theorem dX2_sheetCount_17 : decode cX2_sheetCount 17 = .ok (.ireturn, 1) := by decide +kernel
theorem dX2_pageAt_0 : decode cX2_pageAt 0 = .ok (.iconst 4, 1) := by decide +kernel
theorem dX2_pageAt_1 : decode cX2_pageAt 1 = .ok (.iload_n 0, 1) := by decide +kernel
theorem dX2_pageAt_2 : decode cX2_pageAt 2 = .ok (.imul, 1) := by decide +kernel
theorem dX2_pageAt_3 : decode cX2_pageAt 3 = .ok (.istore_n 3, 1) := by decide +kernel
theorem dX2_pageAt_4 : decode cX2_pageAt 4 = .ok (.iload_n 2, 1) := by decide +kernel
theorem dX2_pageAt_5 : decode cX2_pageAt 5 = .ok (.tableswitch 45 0 2 #[27, 35, 39], 27) := by decide +kernel
theorem dX2_pageAt_32 : decode cX2_pageAt 32 = .ok (.iload_n 3, 1) := by decide +kernel
theorem dX2_pageAt_33 : decode cX2_pageAt 33 = .ok (.iconst 1, 1) := by decide +kernel
theorem dX2_pageAt_34 : decode cX2_pageAt 34 = .ok (.isub, 1) := by decide +kernel
theorem dX2_pageAt_35 : decode cX2_pageAt 35 = .ok (.iconst 2, 1) := by decide +kernel
theorem dX2_pageAt_36 : decode cX2_pageAt 36 = .ok (.iload_n 1, 1) := by decide +kernel
theorem dX2_pageAt_37 : decode cX2_pageAt 37 = .ok (.imul, 1) := by decide +kernel
theorem dX2_pageAt_38 : decode cX2_pageAt 38 = .ok (.isub, 1) := by decide +kernel
theorem dX2_pageAt_39 : decode cX2_pageAt 39 = .ok (.ireturn, 1) := by decide +kernel
theorem dX2_pageAt_40 : decode cX2_pageAt 40 = .ok (.iconst 2, 1) := by decide +kernel
theorem dX2_pageAt_41 : decode cX2_pageAt 41 = .ok (.iload_n 1, 1) := by decide +kernel
theorem dX2_pageAt_42 : decode cX2_pageAt 42 = .ok (.imul, 1) := by decide +kernel
theorem dX2_pageAt_43 : decode cX2_pageAt 43 = .ok (.ireturn, 1) := by decide +kernel
theorem dX2_pageAt_44 : decode cX2_pageAt 44 = .ok (.iconst 2, 1) := by decide +kernel
theorem dX2_pageAt_45 : decode cX2_pageAt 45 = .ok (.iload_n 1, 1) := by decide +kernel
theorem dX2_pageAt_46 : decode cX2_pageAt 46 = .ok (.imul, 1) := by decide +kernel
theorem dX2_pageAt_47 : decode cX2_pageAt 47 = .ok (.iconst 1, 1) := by decide +kernel
theorem dX2_pageAt_48 : decode cX2_pageAt 48 = .ok (.iadd, 1) := by decide +kernel
theorem dX2_pageAt_49 : decode cX2_pageAt 49 = .ok (.ireturn, 1) := by decide +kernel
theorem dX2_pageAt_50 : decode cX2_pageAt 50 = .ok (.iload_n 3, 1) := by decide +kernel
theorem dX2_pageAt_51 : decode cX2_pageAt 51 = .ok (.iconst 2, 1) := by decide +kernel
theorem dX2_pageAt_52 : decode cX2_pageAt 52 = .ok (.isub, 1) := by decide +kernel
theorem dX2_pageAt_53 : decode cX2_pageAt 53 = .ok (.iconst 2, 1) := by decide +kernel
theorem dX2_pageAt_54 : decode cX2_pageAt 54 = .ok (.iload_n 1, 1) := by decide +kernel
theorem dX2_pageAt_55 : decode cX2_pageAt 55 = .ok (.imul, 1) := by decide +kernel
theorem dX2_pageAt_56 : decode cX2_pageAt 56 = .ok (.isub, 1) := by decide +kernel
theorem dX2_pageAt_57 : decode cX2_pageAt 57 = .ok (.ireturn, 1) := by decide +kernel
theorem dX2_greatestPage_0 : decode cX2_greatestPage 0 = .ok (.iconst 0, 1) := by decide +kernel
theorem dX2_greatestPage_1 : decode cX2_greatestPage 1 = .ok (.istore_n 2, 1) := by decide +kernel
theorem dX2_greatestPage_2 : decode cX2_greatestPage 2 = .ok (.iconst 0, 1) := by decide +kernel
theorem dX2_greatestPage_3 : decode cX2_greatestPage 3 = .ok (.istore_n 3, 1) := by decide +kernel
theorem dX2_greatestPage_4 : decode cX2_greatestPage 4 = .ok (.iload_n 3, 1) := by decide +kernel
theorem dX2_greatestPage_5 : decode cX2_greatestPage 5 = .ok (.iconst 4, 1) := by decide +kernel
theorem dX2_greatestPage_6 : decode cX2_greatestPage 6 = .ok (.if_icmp .ge 20, 3) := by decide +kernel
theorem dX2_greatestPage_9 : decode cX2_greatestPage 9 = .ok (.iload_n 2, 1) := by decide +kernel
theorem dX2_greatestPage_10 : decode cX2_greatestPage 10 = .ok (.iload_n 0, 1) := by decide +kernel
theorem dX2_greatestPage_11 : decode cX2_greatestPage 11 = .ok (.iload_n 1, 1) := by decide +kernel
theorem dX2_greatestPage_12 : decode cX2_greatestPage 12 = .ok (.iload_n 3, 1) := by decide +kernel
theorem dX2_greatestPage_13 : decode cX2_greatestPage 13 = .ok (.invokestatic 9, 3) := by decide +kernel
theorem dX2_greatestPage_16 : decode cX2_greatestPage 16 = .ok (.invokestatic 15, 3) := by decide +kernel
theorem dX2_greatestPage_19 : decode cX2_greatestPage 19 = .ok (.istore_n 2, 1) := by decide +kernel
theorem dX2_greatestPage_20 : decode cX2_greatestPage 20 = .ok (.iinc 3 1, 3) := by decide +kernel
theorem dX2_greatestPage_23 : decode cX2_greatestPage 23 = .ok (.goto (-19), 3) := by decide +kernel
theorem dX2_greatestPage_26 : decode cX2_greatestPage 26 = .ok (.iload_n 2, 1) := by decide +kernel
theorem dX2_greatestPage_27 : decode cX2_greatestPage 27 = .ok (.ireturn, 1) := by decide +kernel
theorem dX3_init_0 : decode cX3_init 0 = .ok (.aload_n 0, 1) := by decide +kernel
theorem dX3_init_1 : decode cX3_init 1 = .ok (.invokespecial 3, 3) := by decide +kernel
theorem dX3_init_4 : decode cX3_init 4 = .ok (.aload_n 0, 1) := by decide +kernel
theorem dX3_init_5 : decode cX3_init 5 = .ok (.sipush 512, 3) := by decide +kernel
theorem dX3_init_8 : decode cX3_init 8 = .ok (.newarray .int, 2) := by decide +kernel
theorem dX3_init_10 : decode cX3_init 10 = .ok (.putfield 9, 3) := by decide +kernel
theorem dX3_init_13 : decode cX3_init 13 = .ok (.aload_n 0, 1) := by decide +kernel
theorem dX3_init_14 : decode cX3_init 14 = .ok (.sipush 512, 3) := by decide +kernel
theorem dX3_init_17 : decode cX3_init 17 = .ok (.newarray .int, 2) := by decide +kernel
theorem dX3_init_19 : decode cX3_init 19 = .ok (.putfield 15, 3) := by decide +kernel
theorem dX3_init_22 : decode cX3_init 22 = .ok (.aload_n 0, 1) := by decide +kernel
theorem dX3_init_23 : decode cX3_init 23 = .ok (.sipush 512, 3) := by decide +kernel
theorem dX3_init_26 : decode cX3_init 26 = .ok (.newarray .int, 2) := by decide +kernel
theorem dX3_init_28 : decode cX3_init 28 = .ok (.putfield 18, 3) := by decide +kernel
theorem dX3_init_31 : decode cX3_init 31 = .ok (.aload_n 0, 1) := by decide +kernel
theorem dX3_init_32 : decode cX3_init 32 = .ok (.sipush 512, 3) := by decide +kernel
theorem dX3_init_35 : decode cX3_init 35 = .ok (.newarray .int, 2) := by decide +kernel
theorem dX3_init_37 : decode cX3_init 37 = .ok (.putfield 21, 3) := by decide +kernel
theorem dX3_init_40 : decode cX3_init 40 = .ok (.return_, 1) := by decide +kernel
theorem dX3_addInsertion_0 : decode cX3_addInsertion 0 = .ok (.aload_n 0, 1) := by decide +kernel
theorem dX3_addInsertion_1 : decode cX3_addInsertion 1 = .ok (.iconst 0, 1) := by decide +kernel
theorem dX3_addInsertion_2 : decode cX3_addInsertion 2 = .ok (.iload_n 1, 1) := by decide +kernel
theorem dX3_addInsertion_3 : decode cX3_addInsertion 3 = .ok (.iload_n 2, 1) := by decide +kernel
theorem dX3_addInsertion_4 : decode cX3_addInsertion 4 = .ok (.iload_n 3, 1) := by decide +kernel
theorem dX3_addInsertion_5 : decode cX3_addInsertion 5 = .ok (.invokevirtual 24, 3) := by decide +kernel
theorem dX3_addInsertion_8 : decode cX3_addInsertion 8 = .ok (.return_, 1) := by decide +kernel
theorem dX3_addDeletion_0 : decode cX3_addDeletion 0 = .ok (.aload_n 0, 1) := by decide +kernel
theorem dX3_addDeletion_1 : decode cX3_addDeletion 1 = .ok (.iconst 1, 1) := by decide +kernel
theorem dX3_addDeletion_2 : decode cX3_addDeletion 2 = .ok (.iload_n 1, 1) := by decide +kernel
theorem dX3_addDeletion_3 : decode cX3_addDeletion 3 = .ok (.iload_n 2, 1) := by decide +kernel
theorem dX3_addDeletion_4 : decode cX3_addDeletion 4 = .ok (.iconst (-1), 1) := by decide +kernel
theorem dX3_addDeletion_5 : decode cX3_addDeletion 5 = .ok (.invokevirtual 24, 3) := by decide +kernel
theorem dX3_addDeletion_8 : decode cX3_addDeletion 8 = .ok (.return_, 1) := by decide +kernel
theorem dX3_addSignature_0 : decode cX3_addSignature 0 = .ok (.aload_n 0, 1) := by decide +kernel
theorem dX3_addSignature_1 : decode cX3_addSignature 1 = .ok (.iconst 2, 1) := by decide +kernel
theorem dX3_addSignature_2 : decode cX3_addSignature 2 = .ok (.iload_n 1, 1) := by decide +kernel
theorem dX3_addSignature_3 : decode cX3_addSignature 3 = .ok (.iconst 0, 1) := by decide +kernel
theorem dX3_addSignature_4 : decode cX3_addSignature 4 = .ok (.iconst (-1), 1) := by decide +kernel
theorem dX3_addSignature_5 : decode cX3_addSignature 5 = .ok (.invokevirtual 24, 3) := by decide +kernel
theorem dX3_addSignature_8 : decode cX3_addSignature 8 = .ok (.return_, 1) := by decide +kernel
theorem dX3_add_0 : decode cX3_add 0 = .ok (.aload_n 0, 1) := by decide +kernel
theorem dX3_add_1 : decode cX3_add 1 = .ok (.getfield 28, 3) := by decide +kernel
theorem dX3_add_4 : decode cX3_add 4 = .ok (.sipush 512, 3) := by decide +kernel
theorem dX3_add_7 : decode cX3_add 7 = .ok (.if_icmp .lt 4, 3) := by decide +kernel
theorem dX3_add_10 : decode cX3_add 10 = .ok (.return_, 1) := by decide +kernel
theorem dX3_add_11 : decode cX3_add 11 = .ok (.aload_n 0, 1) := by decide +kernel
theorem dX3_add_12 : decode cX3_add 12 = .ok (.getfield 9, 3) := by decide +kernel
theorem dX3_add_15 : decode cX3_add 15 = .ok (.aload_n 0, 1) := by decide +kernel
theorem dX3_add_16 : decode cX3_add 16 = .ok (.getfield 28, 3) := by decide +kernel
theorem dX3_add_19 : decode cX3_add 19 = .ok (.iload_n 1, 1) := by decide +kernel
theorem dX3_add_20 : decode cX3_add 20 = .ok (.iastore, 1) := by decide +kernel
theorem dX3_add_21 : decode cX3_add 21 = .ok (.aload_n 0, 1) := by decide +kernel
theorem dX3_add_22 : decode cX3_add 22 = .ok (.getfield 15, 3) := by decide +kernel
theorem dX3_add_25 : decode cX3_add 25 = .ok (.aload_n 0, 1) := by decide +kernel
theorem dX3_add_26 : decode cX3_add 26 = .ok (.getfield 28, 3) := by decide +kernel
theorem dX3_add_29 : decode cX3_add 29 = .ok (.iload_n 2, 1) := by decide +kernel
theorem dX3_add_30 : decode cX3_add 30 = .ok (.iastore, 1) := by decide +kernel
theorem dX3_add_31 : decode cX3_add 31 = .ok (.aload_n 0, 1) := by decide +kernel
theorem dX3_add_32 : decode cX3_add 32 = .ok (.getfield 18, 3) := by decide +kernel
theorem dX3_add_35 : decode cX3_add 35 = .ok (.aload_n 0, 1) := by decide +kernel
theorem dX3_add_36 : decode cX3_add 36 = .ok (.getfield 28, 3) := by decide +kernel
theorem dX3_add_39 : decode cX3_add 39 = .ok (.iload_n 3, 1) := by decide +kernel
theorem dX3_add_40 : decode cX3_add 40 = .ok (.iastore, 1) := by decide +kernel
theorem dX3_add_41 : decode cX3_add 41 = .ok (.aload_n 0, 1) := by decide +kernel
theorem dX3_add_42 : decode cX3_add 42 = .ok (.getfield 21, 3) := by decide +kernel
theorem dX3_add_45 : decode cX3_add 45 = .ok (.aload_n 0, 1) := by decide +kernel
theorem dX3_add_46 : decode cX3_add 46 = .ok (.getfield 28, 3) := by decide +kernel
theorem dX3_add_49 : decode cX3_add 49 = .ok (.iload 4, 2) := by decide +kernel
theorem dX3_add_51 : decode cX3_add 51 = .ok (.iastore, 1) := by decide +kernel
theorem dX3_add_52 : decode cX3_add 52 = .ok (.aload_n 0, 1) := by decide +kernel
theorem dX3_add_53 : decode cX3_add 53 = .ok (.dup, 1) := by decide +kernel
theorem dX3_add_54 : decode cX3_add 54 = .ok (.getfield 28, 3) := by decide +kernel
theorem dX3_add_57 : decode cX3_add 57 = .ok (.iconst 1, 1) := by decide +kernel
theorem dX3_add_58 : decode cX3_add 58 = .ok (.iadd, 1) := by decide +kernel
theorem dX3_add_59 : decode cX3_add 59 = .ok (.putfield 28, 3) := by decide +kernel
theorem dX3_add_62 : decode cX3_add 62 = .ok (.return_, 1) := by decide +kernel
theorem dX3_codeOnSheet_0 : decode cX3_codeOnSheet 0 = .ok (.aload_n 0, 1) := by decide +kernel
theorem dX3_codeOnSheet_1 : decode cX3_codeOnSheet 1 = .ok (.iload_n 1, 1) := by decide +kernel
theorem dX3_codeOnSheet_2 : decode cX3_codeOnSheet 2 = .ok (.invokevirtual 32, 3) := by decide +kernel
theorem dX3_codeOnSheet_5 : decode cX3_codeOnSheet 5 = .ok (.istore 4, 2) := by decide +kernel
theorem dX3_codeOnSheet_7 : decode cX3_codeOnSheet 7 = .ok (.aload_n 0, 1) := by decide +kernel
theorem dX3_codeOnSheet_8 : decode cX3_codeOnSheet 8 = .ok (.iload 4, 2) := by decide +kernel
theorem dX3_codeOnSheet_10 : decode cX3_codeOnSheet 10 = .ok (.iload_n 1, 1) := by decide +kernel
theorem dX3_codeOnSheet_11 : decode cX3_codeOnSheet 11 = .ok (.invokevirtual 36, 3) := by decide +kernel
theorem dX3_codeOnSheet_14 : decode cX3_codeOnSheet 14 = .ok (.istore 5, 2) := by decide +kernel
theorem dX3_codeOnSheet_16 : decode cX3_codeOnSheet 16 = .ok (.iload 5, 2) := by decide +kernel
theorem dX3_codeOnSheet_18 : decode cX3_codeOnSheet 18 = .ok (.invokestatic 40, 3) := by decide +kernel
theorem dX3_codeOnSheet_21 : decode cX3_codeOnSheet 21 = .ok (.iload_n 2, 1) := by decide +kernel
theorem dX3_codeOnSheet_22 : decode cX3_codeOnSheet 22 = .ok (.iload_n 3, 1) := by decide +kernel
theorem dX3_codeOnSheet_23 : decode cX3_codeOnSheet 23 = .ok (.bipush 8, 2) := by decide +kernel
theorem dX3_codeOnSheet_25 : decode cX3_codeOnSheet 25 = .ok (.idiv, 1) := by decide +kernel
theorem dX3_codeOnSheet_26 : decode cX3_codeOnSheet 26 = .ok (.invokestatic 45, 3) := by decide +kernel
theorem dX3_codeOnSheet_29 : decode cX3_codeOnSheet 29 = .ok (.istore 6, 2) := by decide +kernel
theorem dX3_codeOnSheet_31 : decode cX3_codeOnSheet 31 = .ok (.bipush 8, 2) := by decide +kernel
theorem dX3_codeOnSheet_33 : decode cX3_codeOnSheet 33 = .ok (.iload 6, 2) := by decide +kernel
theorem dX3_codeOnSheet_35 : decode cX3_codeOnSheet 35 = .ok (.imul, 1) := by decide +kernel
theorem dX3_codeOnSheet_36 : decode cX3_codeOnSheet 36 = .ok (.iload_n 3, 1) := by decide +kernel
theorem dX3_codeOnSheet_37 : decode cX3_codeOnSheet 37 = .ok (.bipush 8, 2) := by decide +kernel
theorem dX3_codeOnSheet_39 : decode cX3_codeOnSheet 39 = .ok (.irem, 1) := by decide +kernel
theorem dX3_codeOnSheet_40 : decode cX3_codeOnSheet 40 = .ok (.iadd, 1) := by decide +kernel
theorem dX3_codeOnSheet_41 : decode cX3_codeOnSheet 41 = .ok (.istore 7, 2) := by decide +kernel
theorem dX3_codeOnSheet_43 : decode cX3_codeOnSheet 43 = .ok (.iload 7, 2) := by decide +kernel
theorem dX3_codeOnSheet_45 : decode cX3_codeOnSheet 45 = .ok (.ifCond .lt 10, 3) := by decide +kernel
theorem dX3_codeOnSheet_48 : decode cX3_codeOnSheet 48 = .ok (.iload 7, 2) := by decide +kernel
theorem dX3_codeOnSheet_50 : decode cX3_codeOnSheet 50 = .ok (.iload 5, 2) := by decide +kernel
theorem dX3_codeOnSheet_52 : decode cX3_codeOnSheet 52 = .ok (.if_icmp .lt 5, 3) := by decide +kernel
theorem dX3_codeOnSheet_55 : decode cX3_codeOnSheet 55 = .ok (.iconst (-1), 1) := by decide +kernel
theorem dX3_codeOnSheet_56 : decode cX3_codeOnSheet 56 = .ok (.ireturn, 1) := by decide +kernel
theorem dX3_codeOnSheet_57 : decode cX3_codeOnSheet 57 = .ok (.aload_n 0, 1) := by decide +kernel
theorem dX3_codeOnSheet_58 : decode cX3_codeOnSheet 58 = .ok (.iload 4, 2) := by decide +kernel
theorem dX3_codeOnSheet_60 : decode cX3_codeOnSheet 60 = .ok (.iload_n 1, 1) := by decide +kernel
theorem dX3_codeOnSheet_61 : decode cX3_codeOnSheet 61 = .ok (.iload 7, 2) := by decide +kernel
theorem dX3_codeOnSheet_63 : decode cX3_codeOnSheet 63 = .ok (.invokevirtual 49, 3) := by decide +kernel
theorem dX3_codeOnSheet_66 : decode cX3_codeOnSheet 66 = .ok (.ireturn, 1) := by decide +kernel
theorem dX3_lastSignature_0 : decode cX3_lastSignature 0 = .ok (.aload_n 0, 1) := by decide +kernel
theorem dX3_lastSignature_1 : decode cX3_lastSignature 1 = .ok (.getfield 28, 3) := by decide +kernel
theorem dX3_lastSignature_4 : decode cX3_lastSignature 4 = .ok (.iconst 1, 1) := by decide +kernel
theorem dX3_lastSignature_5 : decode cX3_lastSignature 5 = .ok (.isub, 1) := by decide +kernel
theorem dX3_lastSignature_6 : decode cX3_lastSignature 6 = .ok (.istore_n 2, 1) := by decide +kernel
theorem dX3_lastSignature_7 : decode cX3_lastSignature 7 = .ok (.iload_n 2, 1) := by decide +kernel
theorem dX3_lastSignature_8 : decode cX3_lastSignature 8 = .ok (.ifCond .lt 31, 3) := by decide +kernel
theorem dX3_lastSignature_11 : decode cX3_lastSignature 11 = .ok (.aload_n 0, 1) := by decide +kernel
theorem dX3_lastSignature_12 : decode cX3_lastSignature 12 = .ok (.getfield 15, 3) := by decide +kernel
theorem dX3_lastSignature_15 : decode cX3_lastSignature 15 = .ok (.iload_n 2, 1) := by decide +kernel
theorem dX3_lastSignature_16 : decode cX3_lastSignature 16 = .ok (.iaload, 1) := by decide +kernel
theorem dX3_lastSignature_17 : decode cX3_lastSignature 17 = .ok (.iload_n 1, 1) := by decide +kernel
theorem dX3_lastSignature_18 : decode cX3_lastSignature 18 = .ok (.if_icmp .ne 15, 3) := by decide +kernel
theorem dX3_lastSignature_21 : decode cX3_lastSignature 21 = .ok (.aload_n 0, 1) := by decide +kernel
theorem dX3_lastSignature_22 : decode cX3_lastSignature 22 = .ok (.getfield 9, 3) := by decide +kernel
theorem dX3_lastSignature_25 : decode cX3_lastSignature 25 = .ok (.iload_n 2, 1) := by decide +kernel
theorem dX3_lastSignature_26 : decode cX3_lastSignature 26 = .ok (.iaload, 1) := by decide +kernel
theorem dX3_lastSignature_27 : decode cX3_lastSignature 27 = .ok (.iconst 2, 1) := by decide +kernel
theorem dX3_lastSignature_28 : decode cX3_lastSignature 28 = .ok (.if_icmp .ne 5, 3) := by decide +kernel
theorem dX3_lastSignature_31 : decode cX3_lastSignature 31 = .ok (.iload_n 2, 1) := by decide +kernel
theorem dX3_lastSignature_32 : decode cX3_lastSignature 32 = .ok (.ireturn, 1) := by decide +kernel
theorem dX3_lastSignature_33 : decode cX3_lastSignature 33 = .ok (.iinc 2 (-1), 3) := by decide +kernel
theorem dX3_lastSignature_36 : decode cX3_lastSignature 36 = .ok (.goto (-29), 3) := by decide +kernel
theorem dX3_lastSignature_39 : decode cX3_lastSignature 39 = .ok (.iconst 0, 1) := by decide +kernel
theorem dX3_lastSignature_40 : decode cX3_lastSignature 40 = .ok (.ireturn, 1) := by decide +kernel
theorem dX3_charactersBefore_0 : decode cX3_charactersBefore 0 = .ok (.iconst 0, 1) := by decide +kernel
theorem dX3_charactersBefore_1 : decode cX3_charactersBefore 1 = .ok (.istore_n 3, 1) := by decide +kernel
theorem dX3_charactersBefore_2 : decode cX3_charactersBefore 2 = .ok (.iconst 0, 1) := by decide +kernel
theorem dX3_charactersBefore_3 : decode cX3_charactersBefore 3 = .ok (.istore 4, 2) := by decide +kernel
theorem dX3_charactersBefore_5 : decode cX3_charactersBefore 5 = .ok (.iload 4, 2) := by decide +kernel
theorem dX3_charactersBefore_7 : decode cX3_charactersBefore 7 = .ok (.iload_n 1, 1) := by decide +kernel
theorem dX3_charactersBefore_8 : decode cX3_charactersBefore 8 = .ok (.if_icmp .ge 61, 3) := by decide +kernel
theorem dX3_charactersBefore_11 : decode cX3_charactersBefore 11 = .ok (.aload_n 0, 1) := by decide +kernel
theorem dX3_charactersBefore_12 : decode cX3_charactersBefore 12 = .ok (.getfield 15, 3) := by decide +kernel
theorem dX3_charactersBefore_15 : decode cX3_charactersBefore 15 = .ok (.iload 4, 2) := by decide +kernel
theorem dX3_charactersBefore_17 : decode cX3_charactersBefore 17 = .ok (.iaload, 1) := by decide +kernel
theorem dX3_charactersBefore_18 : decode cX3_charactersBefore 18 = .ok (.iload_n 2, 1) := by decide +kernel
theorem dX3_charactersBefore_19 : decode cX3_charactersBefore 19 = .ok (.if_icmp .ne 19, 3) := by decide +kernel
theorem dX3_charactersBefore_22 : decode cX3_charactersBefore 22 = .ok (.aload_n 0, 1) := by decide +kernel
theorem dX3_charactersBefore_23 : decode cX3_charactersBefore 23 = .ok (.getfield 9, 3) := by decide +kernel
theorem dX3_charactersBefore_26 : decode cX3_charactersBefore 26 = .ok (.iload 4, 2) := by decide +kernel
theorem dX3_charactersBefore_28 : decode cX3_charactersBefore 28 = .ok (.iaload, 1) := by decide +kernel
theorem dX3_charactersBefore_29 : decode cX3_charactersBefore 29 = .ok (.ifCond .ne 9, 3) := by decide +kernel
theorem dX3_charactersBefore_32 : decode cX3_charactersBefore 32 = .ok (.iinc 3 1, 3) := by decide +kernel
theorem dX3_charactersBefore_35 : decode cX3_charactersBefore 35 = .ok (.goto 28, 3) := by decide +kernel
theorem dX3_charactersBefore_38 : decode cX3_charactersBefore 38 = .ok (.aload_n 0, 1) := by decide +kernel
theorem dX3_charactersBefore_39 : decode cX3_charactersBefore 39 = .ok (.getfield 15, 3) := by decide +kernel
theorem dX3_charactersBefore_42 : decode cX3_charactersBefore 42 = .ok (.iload 4, 2) := by decide +kernel
theorem dX3_charactersBefore_44 : decode cX3_charactersBefore 44 = .ok (.iaload, 1) := by decide +kernel
theorem dX3_charactersBefore_45 : decode cX3_charactersBefore 45 = .ok (.iload_n 2, 1) := by decide +kernel
theorem dX3_charactersBefore_46 : decode cX3_charactersBefore 46 = .ok (.if_icmp .ne 17, 3) := by decide +kernel
theorem dX3_charactersBefore_49 : decode cX3_charactersBefore 49 = .ok (.aload_n 0, 1) := by decide +kernel
theorem dX3_charactersBefore_50 : decode cX3_charactersBefore 50 = .ok (.getfield 9, 3) := by decide +kernel
theorem dX3_charactersBefore_53 : decode cX3_charactersBefore 53 = .ok (.iload 4, 2) := by decide +kernel
theorem dX3_charactersBefore_55 : decode cX3_charactersBefore 55 = .ok (.iaload, 1) := by decide +kernel
theorem dX3_charactersBefore_56 : decode cX3_charactersBefore 56 = .ok (.iconst 1, 1) := by decide +kernel
theorem dX3_charactersBefore_57 : decode cX3_charactersBefore 57 = .ok (.if_icmp .ne 6, 3) := by decide +kernel
theorem dX3_charactersBefore_60 : decode cX3_charactersBefore 60 = .ok (.iinc 3 (-1), 3) := by decide +kernel
theorem dX3_charactersBefore_63 : decode cX3_charactersBefore 63 = .ok (.iinc 4 1, 3) := by decide +kernel
theorem dX3_charactersBefore_66 : decode cX3_charactersBefore 66 = .ok (.goto (-61), 3) := by decide +kernel
theorem dX3_charactersBefore_69 : decode cX3_charactersBefore 69 = .ok (.iload_n 3, 1) := by decide +kernel
theorem dX3_charactersBefore_70 : decode cX3_charactersBefore 70 = .ok (.ireturn, 1) := by decide +kernel
theorem dX3_codeBefore_0 : decode cX3_codeBefore 0 = .ok (.iload_n 3, 1) := by decide +kernel
theorem dX3_codeBefore_1 : decode cX3_codeBefore 1 = .ok (.istore 4, 2) := by decide +kernel
theorem dX3_codeBefore_3 : decode cX3_codeBefore 3 = .ok (.iload_n 1, 1) := by decide +kernel
theorem dX3_codeBefore_4 : decode cX3_codeBefore 4 = .ok (.iconst 1, 1) := by decide +kernel
theorem dX3_codeBefore_5 : decode cX3_codeBefore 5 = .ok (.isub, 1) := by decide +kernel
theorem dX3_codeBefore_6 : decode cX3_codeBefore 6 = .ok (.istore 5, 2) := by decide +kernel
theorem dX3_codeBefore_8 : decode cX3_codeBefore 8 = .ok (.iload 5, 2) := by decide +kernel
theorem dX3_codeBefore_10 : decode cX3_codeBefore 10 = .ok (.ifCond .lt 107, 3) := by decide +kernel
theorem dX3_codeBefore_13 : decode cX3_codeBefore 13 = .ok (.aload_n 0, 1) := by decide +kernel
theorem dX3_codeBefore_14 : decode cX3_codeBefore 14 = .ok (.getfield 15, 3) := by decide +kernel
theorem dX3_codeBefore_17 : decode cX3_codeBefore 17 = .ok (.iload 5, 2) := by decide +kernel
theorem dX3_codeBefore_19 : decode cX3_codeBefore 19 = .ok (.iaload, 1) := by decide +kernel
theorem dX3_codeBefore_20 : decode cX3_codeBefore 20 = .ok (.iload_n 2, 1) := by decide +kernel
theorem dX3_codeBefore_21 : decode cX3_codeBefore 21 = .ok (.if_icmp .eq 6, 3) := by decide +kernel
theorem dX3_codeBefore_24 : decode cX3_codeBefore 24 = .ok (.goto 87, 3) := by decide +kernel
theorem dX3_codeBefore_27 : decode cX3_codeBefore 27 = .ok (.aload_n 0, 1) := by decide +kernel
theorem dX3_codeBefore_28 : decode cX3_codeBefore 28 = .ok (.getfield 9, 3) := by decide +kernel
theorem dX3_codeBefore_31 : decode cX3_codeBefore 31 = .ok (.iload 5, 2) := by decide +kernel
theorem dX3_codeBefore_33 : decode cX3_codeBefore 33 = .ok (.iaload, 1) := by decide +kernel
theorem dX3_codeBefore_34 : decode cX3_codeBefore 34 = .ok (.ifCond .ne 23, 3) := by decide +kernel
theorem dX3_codeBefore_37 : decode cX3_codeBefore 37 = .ok (.aload_n 0, 1) := by decide +kernel
theorem dX3_codeBefore_38 : decode cX3_codeBefore 38 = .ok (.getfield 18, 3) := by decide +kernel
theorem dX3_codeBefore_41 : decode cX3_codeBefore 41 = .ok (.iload 5, 2) := by decide +kernel
theorem dX3_codeBefore_43 : decode cX3_codeBefore 43 = .ok (.iaload, 1) := by decide +kernel
theorem dX3_codeBefore_44 : decode cX3_codeBefore 44 = .ok (.iload 4, 2) := by decide +kernel
theorem dX3_codeBefore_46 : decode cX3_codeBefore 46 = .ok (.if_icmp .ne 11, 3) := by decide +kernel
theorem dX3_codeBefore_49 : decode cX3_codeBefore 49 = .ok (.aload_n 0, 1) := by decide +kernel
theorem dX3_codeBefore_50 : decode cX3_codeBefore 50 = .ok (.getfield 21, 3) := by decide +kernel
theorem dX3_codeBefore_53 : decode cX3_codeBefore 53 = .ok (.iload 5, 2) := by decide +kernel
theorem dX3_codeBefore_55 : decode cX3_codeBefore 55 = .ok (.iaload, 1) := by decide +kernel
theorem dX3_codeBefore_56 : decode cX3_codeBefore 56 = .ok (.ireturn, 1) := by decide +kernel
theorem dX3_codeBefore_57 : decode cX3_codeBefore 57 = .ok (.aload_n 0, 1) := by decide +kernel
theorem dX3_codeBefore_58 : decode cX3_codeBefore 58 = .ok (.getfield 9, 3) := by decide +kernel
theorem dX3_codeBefore_61 : decode cX3_codeBefore 61 = .ok (.iload 5, 2) := by decide +kernel
theorem dX3_codeBefore_63 : decode cX3_codeBefore 63 = .ok (.iaload, 1) := by decide +kernel
theorem dX3_codeBefore_64 : decode cX3_codeBefore 64 = .ok (.ifCond .ne 21, 3) := by decide +kernel
theorem dX3_codeBefore_67 : decode cX3_codeBefore 67 = .ok (.aload_n 0, 1) := by decide +kernel
theorem dX3_codeBefore_68 : decode cX3_codeBefore 68 = .ok (.getfield 18, 3) := by decide +kernel
theorem dX3_codeBefore_71 : decode cX3_codeBefore 71 = .ok (.iload 5, 2) := by decide +kernel
theorem dX3_codeBefore_73 : decode cX3_codeBefore 73 = .ok (.iaload, 1) := by decide +kernel
theorem dX3_codeBefore_74 : decode cX3_codeBefore 74 = .ok (.iload 4, 2) := by decide +kernel
theorem dX3_codeBefore_76 : decode cX3_codeBefore 76 = .ok (.if_icmp .ge 9, 3) := by decide +kernel
theorem dX3_codeBefore_79 : decode cX3_codeBefore 79 = .ok (.iinc 4 (-1), 3) := by decide +kernel
theorem dX3_codeBefore_82 : decode cX3_codeBefore 82 = .ok (.goto 29, 3) := by decide +kernel
theorem dX3_codeBefore_85 : decode cX3_codeBefore 85 = .ok (.aload_n 0, 1) := by decide +kernel
theorem dX3_codeBefore_86 : decode cX3_codeBefore 86 = .ok (.getfield 9, 3) := by decide +kernel
theorem dX3_codeBefore_89 : decode cX3_codeBefore 89 = .ok (.iload 5, 2) := by decide +kernel
theorem dX3_codeBefore_91 : decode cX3_codeBefore 91 = .ok (.iaload, 1) := by decide +kernel
theorem dX3_codeBefore_92 : decode cX3_codeBefore 92 = .ok (.iconst 1, 1) := by decide +kernel
theorem dX3_codeBefore_93 : decode cX3_codeBefore 93 = .ok (.if_icmp .ne 18, 3) := by decide +kernel
theorem dX3_codeBefore_96 : decode cX3_codeBefore 96 = .ok (.aload_n 0, 1) := by decide +kernel
theorem dX3_codeBefore_97 : decode cX3_codeBefore 97 = .ok (.getfield 18, 3) := by decide +kernel
theorem dX3_codeBefore_100 : decode cX3_codeBefore 100 = .ok (.iload 5, 2) := by decide +kernel
theorem dX3_codeBefore_102 : decode cX3_codeBefore 102 = .ok (.iaload, 1) := by decide +kernel
theorem dX3_codeBefore_103 : decode cX3_codeBefore 103 = .ok (.iload 4, 2) := by decide +kernel
theorem dX3_codeBefore_105 : decode cX3_codeBefore 105 = .ok (.if_icmp .gt 6, 3) := by decide +kernel
theorem dX3_codeBefore_108 : decode cX3_codeBefore 108 = .ok (.iinc 4 1, 3) := by decide +kernel
theorem dX3_codeBefore_111 : decode cX3_codeBefore 111 = .ok (.iinc 5 (-1), 3) := by decide +kernel
theorem dX3_codeBefore_114 : decode cX3_codeBefore 114 = .ok (.goto (-106), 3) := by decide +kernel
theorem dX3_codeBefore_117 : decode cX3_codeBefore 117 = .ok (.iconst (-1), 1) := by decide +kernel
theorem dX3_codeBefore_118 : decode cX3_codeBefore 118 = .ok (.ireturn, 1) := by decide +kernel
theorem dX4_init_0 : decode cX4_init 0 = .ok (.aload_n 0, 1) := by decide +kernel
theorem dX4_init_1 : decode cX4_init 1 = .ok (.invokespecial 3, 3) := by decide +kernel
theorem dX4_init_4 : decode cX4_init 4 = .ok (.aload_n 0, 1) := by decide +kernel
theorem dX4_init_5 : decode cX4_init 5 = .ok (.iload_n 1, 1) := by decide +kernel
theorem dX4_init_6 : decode cX4_init 6 = .ok (.putfield 9, 3) := by decide +kernel
theorem dX4_init_9 : decode cX4_init 9 = .ok (.aload_n 0, 1) := by decide +kernel
theorem dX4_init_10 : decode cX4_init 10 = .ok (.aload_n 2, 1) := by decide +kernel
theorem dX4_init_11 : decode cX4_init 11 = .ok (.putfield 15, 3) := by decide +kernel
theorem dX4_init_14 : decode cX4_init 14 = .ok (.aload_n 0, 1) := by decide +kernel
theorem dX4_init_15 : decode cX4_init 15 = .ok (.iload_n 3, 1) := by decide +kernel
theorem dX4_init_16 : decode cX4_init 16 = .ok (.putfield 19, 3) := by decide +kernel
theorem dX4_init_19 : decode cX4_init 19 = .ok (.aload_n 0, 1) := by decide +kernel
theorem dX4_init_20 : decode cX4_init 20 = .ok (.iload 4, 2) := by decide +kernel
theorem dX4_init_22 : decode cX4_init 22 = .ok (.putfield 22, 3) := by decide +kernel
theorem dX4_init_25 : decode cX4_init 25 = .ok (.aload_n 0, 1) := by decide +kernel
theorem dX4_init_26 : decode cX4_init 26 = .ok (.iconst 3, 1) := by decide +kernel
theorem dX4_init_27 : decode cX4_init 27 = .ok (.anewarray 25, 3) := by decide +kernel
theorem dX4_init_30 : decode cX4_init 30 = .ok (.putfield 27, 3) := by decide +kernel
theorem dX4_init_33 : decode cX4_init 33 = .ok (.iconst 0, 1) := by decide +kernel
theorem dX4_init_34 : decode cX4_init 34 = .ok (.istore 5, 2) := by decide +kernel
theorem dX4_init_36 : decode cX4_init 36 = .ok (.iload 5, 2) := by decide +kernel
theorem dX4_init_38 : decode cX4_init 38 = .ok (.iconst 3, 1) := by decide +kernel
theorem dX4_init_39 : decode cX4_init 39 = .ok (.if_icmp .ge 23, 3) := by decide +kernel
theorem dX4_init_42 : decode cX4_init 42 = .ok (.aload_n 0, 1) := by decide +kernel
theorem dX4_init_43 : decode cX4_init 43 = .ok (.getfield 27, 3) := by decide +kernel
theorem dX4_init_46 : decode cX4_init 46 = .ok (.iload 5, 2) := by decide +kernel
theorem dX4_init_48 : decode cX4_init 48 = .ok (.new 25, 3) := by decide +kernel
theorem dX4_init_51 : decode cX4_init 51 = .ok (.dup, 1) := by decide +kernel
theorem dX4_init_52 : decode cX4_init 52 = .ok (.invokespecial 31, 3) := by decide +kernel
theorem dX4_init_55 : decode cX4_init 55 = .ok (.aastore, 1) := by decide +kernel
theorem dX4_init_56 : decode cX4_init 56 = .ok (.iinc 5 1, 3) := by decide +kernel
theorem dX4_init_59 : decode cX4_init 59 = .ok (.goto (-23), 3) := by decide +kernel
theorem dX4_init_62 : decode cX4_init 62 = .ok (.return_, 1) := by decide +kernel
theorem dX4_isMoreUrgentThan_0 : decode cX4_isMoreUrgentThan 0 = .ok (.aload_n 0, 1) := by decide +kernel
theorem dX4_isMoreUrgentThan_1 : decode cX4_isMoreUrgentThan 1 = .ok (.getfield 22, 3) := by decide +kernel
theorem dX4_isMoreUrgentThan_4 : decode cX4_isMoreUrgentThan 4 = .ok (.aload_n 1, 1) := by decide +kernel
theorem dX4_isMoreUrgentThan_5 : decode cX4_isMoreUrgentThan 5 = .ok (.getfield 22, 3) := by decide +kernel
theorem dX4_isMoreUrgentThan_8 : decode cX4_isMoreUrgentThan 8 = .ok (.if_icmp .lt 25, 3) := by decide +kernel
theorem dX4_isMoreUrgentThan_11 : decode cX4_isMoreUrgentThan 11 = .ok (.aload_n 0, 1) := by decide +kernel
theorem dX4_isMoreUrgentThan_12 : decode cX4_isMoreUrgentThan 12 = .ok (.getfield 22, 3) := by decide +kernel
theorem dX4_isMoreUrgentThan_15 : decode cX4_isMoreUrgentThan 15 = .ok (.aload_n 1, 1) := by decide +kernel
theorem dX4_isMoreUrgentThan_16 : decode cX4_isMoreUrgentThan 16 = .ok (.getfield 22, 3) := by decide +kernel
theorem dX4_isMoreUrgentThan_19 : decode cX4_isMoreUrgentThan 19 = .ok (.if_icmp .ne 18, 3) := by decide +kernel
theorem dX4_isMoreUrgentThan_22 : decode cX4_isMoreUrgentThan 22 = .ok (.aload_n 0, 1) := by decide +kernel
theorem dX4_isMoreUrgentThan_23 : decode cX4_isMoreUrgentThan 23 = .ok (.getfield 19, 3) := by decide +kernel
theorem dX4_isMoreUrgentThan_26 : decode cX4_isMoreUrgentThan 26 = .ok (.aload_n 1, 1) := by decide +kernel
theorem dX4_isMoreUrgentThan_27 : decode cX4_isMoreUrgentThan 27 = .ok (.getfield 19, 3) := by decide +kernel
theorem dX4_isMoreUrgentThan_30 : decode cX4_isMoreUrgentThan 30 = .ok (.if_icmp .le 7, 3) := by decide +kernel
theorem dX4_isMoreUrgentThan_33 : decode cX4_isMoreUrgentThan 33 = .ok (.iconst 1, 1) := by decide +kernel
theorem dX4_isMoreUrgentThan_34 : decode cX4_isMoreUrgentThan 34 = .ok (.goto 4, 3) := by decide +kernel
theorem dX4_isMoreUrgentThan_37 : decode cX4_isMoreUrgentThan 37 = .ok (.iconst 0, 1) := by decide +kernel
theorem dX4_isMoreUrgentThan_38 : decode cX4_isMoreUrgentThan 38 = .ok (.ireturn, 1) := by decide +kernel
theorem dX4_takePrinted_0 : decode cX4_takePrinted 0 = .ok (.aload_n 0, 1) := by decide +kernel
theorem dX4_takePrinted_1 : decode cX4_takePrinted 1 = .ok (.getfield 27, 3) := by decide +kernel
theorem dX4_takePrinted_4 : decode cX4_takePrinted 4 = .ok (.iload_n 1, 1) := by decide +kernel
theorem dX4_takePrinted_5 : decode cX4_takePrinted 5 = .ok (.aaload, 1) := by decide +kernel
theorem dX4_takePrinted_6 : decode cX4_takePrinted 6 = .ok (.astore_n 3, 1) := by decide +kernel
theorem dX4_takePrinted_7 : decode cX4_takePrinted 7 = .ok (.aload_n 3, 1) := by decide +kernel
theorem dX4_takePrinted_8 : decode cX4_takePrinted 8 = .ok (.getfield 32, 3) := by decide +kernel
theorem dX4_takePrinted_11 : decode cX4_takePrinted 11 = .ok (.ifCond .eq 16, 3) := by decide +kernel
theorem dX4_takePrinted_14 : decode cX4_takePrinted 14 = .ok (.aload_n 0, 1) := by decide +kernel
theorem dX4_takePrinted_15 : decode cX4_takePrinted 15 = .ok (.dup, 1) := by decide +kernel
theorem dX4_takePrinted_16 : decode cX4_takePrinted 16 = .ok (.getfield 36, 3) := by decide +kernel
theorem dX4_takePrinted_19 : decode cX4_takePrinted 19 = .ok (.aload_n 0, 1) := by decide +kernel
theorem dX4_takePrinted_20 : decode cX4_takePrinted 20 = .ok (.getfield 19, 3) := by decide +kernel
theorem dX4_takePrinted_23 : decode cX4_takePrinted 23 = .ok (.iadd, 1) := by decide +kernel
theorem dX4_takePrinted_24 : decode cX4_takePrinted 24 = .ok (.putfield 36, 3) := by decide +kernel
theorem dX4_takePrinted_27 : decode cX4_takePrinted 27 = .ok (.aload_n 3, 1) := by decide +kernel
theorem dX4_takePrinted_28 : decode cX4_takePrinted 28 = .ok (.aload_n 2, 1) := by decide +kernel
theorem dX4_takePrinted_29 : decode cX4_takePrinted 29 = .ok (.invokevirtual 39, 3) := by decide +kernel
theorem dX4_takePrinted_32 : decode cX4_takePrinted 32 = .ok (.return_, 1) := by decide +kernel
theorem dX5_init_0 : decode cX5_init 0 = .ok (.aload_n 0, 1) := by decide +kernel
theorem dX5_init_1 : decode cX5_init 1 = .ok (.invokespecial 3, 3) := by decide +kernel
theorem dX5_init_4 : decode cX5_init 4 = .ok (.aload_n 0, 1) := by decide +kernel
theorem dX5_init_5 : decode cX5_init 5 = .ok (.bipush 32, 2) := by decide +kernel
theorem dX5_init_7 : decode cX5_init 7 = .ok (.newarray .int, 2) := by decide +kernel
theorem dX5_init_9 : decode cX5_init 9 = .ok (.putfield 9, 3) := by decide +kernel
theorem dX5_init_12 : decode cX5_init 12 = .ok (.return_, 1) := by decide +kernel
theorem dX5_holds_0 : decode cX5_holds 0 = .ok (.aload_n 0, 1) := by decide +kernel
theorem dX5_holds_1 : decode cX5_holds 1 = .ok (.getfield 15, 3) := by decide +kernel
theorem dX5_holds_4 : decode cX5_holds 4 = .ok (.ifnull 23, 3) := by decide +kernel
theorem dX5_holds_7 : decode cX5_holds 7 = .ok (.aload_n 0, 1) := by decide +kernel
theorem dX5_holds_8 : decode cX5_holds 8 = .ok (.getfield 15, 3) := by decide +kernel
theorem dX5_holds_11 : decode cX5_holds 11 = .ok (.aload_n 1, 1) := by decide +kernel
theorem dX5_holds_12 : decode cX5_holds 12 = .ok (.if_acmp .ne 15, 3) := by decide +kernel
theorem dX5_holds_15 : decode cX5_holds 15 = .ok (.aload_n 0, 1) := by decide +kernel
theorem dX5_holds_16 : decode cX5_holds 16 = .ok (.getfield 19, 3) := by decide +kernel
theorem dX5_holds_19 : decode cX5_holds 19 = .ok (.iload_n 2, 1) := by decide +kernel
theorem dX5_holds_20 : decode cX5_holds 20 = .ok (.if_icmp .ne 7, 3) := by decide +kernel
theorem dX5_holds_23 : decode cX5_holds 23 = .ok (.iconst 1, 1) := by decide +kernel
theorem dX5_holds_24 : decode cX5_holds 24 = .ok (.goto 4, 3) := by decide +kernel
theorem dX5_holds_27 : decode cX5_holds 27 = .ok (.iconst 0, 1) := by decide +kernel
theorem dX5_holds_28 : decode cX5_holds 28 = .ok (.ireturn, 1) := by decide +kernel
theorem dX5_locks_0 : decode cX5_locks 0 = .ok (.aload_n 0, 1) := by decide +kernel
theorem dX5_locks_1 : decode cX5_locks 1 = .ok (.getfield 15, 3) := by decide +kernel
theorem dX5_locks_4 : decode cX5_locks 4 = .ok (.ifnull 29, 3) := by decide +kernel
theorem dX5_locks_7 : decode cX5_locks 7 = .ok (.aload_n 0, 1) := by decide +kernel
theorem dX5_locks_8 : decode cX5_locks 8 = .ok (.getfield 15, 3) := by decide +kernel
theorem dX5_locks_11 : decode cX5_locks 11 = .ok (.getfield 23, 3) := by decide +kernel
theorem dX5_locks_14 : decode cX5_locks 14 = .ok (.aload_n 1, 1) := by decide +kernel
theorem dX5_locks_15 : decode cX5_locks 15 = .ok (.if_acmp .ne 18, 3) := by decide +kernel
theorem dX5_locks_18 : decode cX5_locks 18 = .ok (.aload_n 0, 1) := by decide +kernel
theorem dX5_locks_19 : decode cX5_locks 19 = .ok (.getfield 29, 3) := by decide +kernel
theorem dX5_locks_22 : decode cX5_locks 22 = .ok (.iload_n 2, 1) := by decide +kernel
theorem dX5_locks_23 : decode cX5_locks 23 = .ok (.bipush 8, 2) := by decide +kernel
theorem dX5_locks_25 : decode cX5_locks 25 = .ok (.idiv, 1) := by decide +kernel
theorem dX5_locks_26 : decode cX5_locks 26 = .ok (.if_icmp .lt 7, 3) := by decide +kernel
theorem dX5_locks_29 : decode cX5_locks 29 = .ok (.iconst 1, 1) := by decide +kernel
theorem dX5_locks_30 : decode cX5_locks 30 = .ok (.goto 4, 3) := by decide +kernel
theorem dX5_locks_33 : decode cX5_locks 33 = .ok (.iconst 0, 1) := by decide +kernel
theorem dX5_locks_34 : decode cX5_locks 34 = .ok (.ireturn, 1) := by decide +kernel
theorem dX5_load_0 : decode cX5_load 0 = .ok (.aload_n 0, 1) := by decide +kernel
theorem dX5_load_1 : decode cX5_load 1 = .ok (.aload_n 1, 1) := by decide +kernel
theorem dX5_load_2 : decode cX5_load 2 = .ok (.putfield 15, 3) := by decide +kernel
theorem dX5_load_5 : decode cX5_load 5 = .ok (.aload_n 0, 1) := by decide +kernel
theorem dX5_load_6 : decode cX5_load 6 = .ok (.iload_n 2, 1) := by decide +kernel
theorem dX5_load_7 : decode cX5_load 7 = .ok (.putfield 19, 3) := by decide +kernel
theorem dX5_load_10 : decode cX5_load 10 = .ok (.aload_n 0, 1) := by decide +kernel
theorem dX5_load_11 : decode cX5_load 11 = .ok (.iload_n 3, 1) := by decide +kernel
theorem dX5_load_12 : decode cX5_load 12 = .ok (.putfield 32, 3) := by decide +kernel
theorem dX5_load_15 : decode cX5_load 15 = .ok (.aload_n 0, 1) := by decide +kernel
theorem dX5_load_16 : decode cX5_load 16 = .ok (.aload_n 1, 1) := by decide +kernel
theorem dX5_load_17 : decode cX5_load 17 = .ok (.getfield 23, 3) := by decide +kernel
theorem dX5_load_20 : decode cX5_load 20 = .ok (.getfield 35, 3) := by decide +kernel
theorem dX5_load_23 : decode cX5_load 23 = .ok (.iload_n 2, 1) := by decide +kernel
theorem dX5_load_24 : decode cX5_load 24 = .ok (.invokestatic 40, 3) := by decide +kernel
theorem dX5_load_27 : decode cX5_load 27 = .ok (.putfield 29, 3) := by decide +kernel
theorem dX5_load_30 : decode cX5_load 30 = .ok (.iconst 0, 1) := by decide +kernel
theorem dX5_load_31 : decode cX5_load 31 = .ok (.istore 4, 2) := by decide +kernel
theorem dX5_load_33 : decode cX5_load 33 = .ok (.iload 4, 2) := by decide +kernel
theorem dX5_load_35 : decode cX5_load 35 = .ok (.bipush 32, 2) := by decide +kernel
theorem dX5_load_37 : decode cX5_load 37 = .ok (.if_icmp .ge 26, 3) := by decide +kernel
theorem dX5_load_40 : decode cX5_load 40 = .ok (.aload_n 0, 1) := by decide +kernel
theorem dX5_load_41 : decode cX5_load 41 = .ok (.getfield 9, 3) := by decide +kernel
theorem dX5_load_44 : decode cX5_load 44 = .ok (.iload 4, 2) := by decide +kernel
theorem dX5_load_46 : decode cX5_load 46 = .ok (.aload_n 1, 1) := by decide +kernel
theorem dX5_load_47 : decode cX5_load 47 = .ok (.getfield 23, 3) := by decide +kernel
theorem dX5_load_50 : decode cX5_load 50 = .ok (.iload_n 2, 1) := by decide +kernel
theorem dX5_load_51 : decode cX5_load 51 = .ok (.iload 4, 2) := by decide +kernel
theorem dX5_load_53 : decode cX5_load 53 = .ok (.invokevirtual 45, 3) := by decide +kernel
theorem dX5_load_56 : decode cX5_load 56 = .ok (.iastore, 1) := by decide +kernel
theorem dX5_load_57 : decode cX5_load 57 = .ok (.iinc 4 1, 3) := by decide +kernel
theorem dX5_load_60 : decode cX5_load 60 = .ok (.goto (-27), 3) := by decide +kernel
theorem dX5_load_63 : decode cX5_load 63 = .ok (.return_, 1) := by decide +kernel
theorem dX5_unload_0 : decode cX5_unload 0 = .ok (.aload_n 0, 1) := by decide +kernel
theorem dX5_unload_1 : decode cX5_unload 1 = .ok (.getfield 15, 3) := by decide +kernel
theorem dX5_unload_4 : decode cX5_unload 4 = .ok (.ifnull 23, 3) := by decide +kernel
theorem dX5_unload_7 : decode cX5_unload 7 = .ok (.aload_n 0, 1) := by decide +kernel
theorem dX5_unload_8 : decode cX5_unload 8 = .ok (.getfield 15, 3) := by decide +kernel
theorem dX5_unload_11 : decode cX5_unload 11 = .ok (.aload_n 0, 1) := by decide +kernel
theorem dX5_unload_12 : decode cX5_unload 12 = .ok (.getfield 19, 3) := by decide +kernel
theorem dX5_unload_15 : decode cX5_unload 15 = .ok (.aload_n 0, 1) := by decide +kernel
theorem dX5_unload_16 : decode cX5_unload 16 = .ok (.getfield 9, 3) := by decide +kernel
theorem dX5_unload_19 : decode cX5_unload 19 = .ok (.invokevirtual 48, 3) := by decide +kernel
theorem dX5_unload_22 : decode cX5_unload 22 = .ok (.aload_n 0, 1) := by decide +kernel
theorem dX5_unload_23 : decode cX5_unload 23 = .ok (.aconst_null, 1) := by decide +kernel
theorem dX5_unload_24 : decode cX5_unload 24 = .ok (.putfield 15, 3) := by decide +kernel
theorem dX5_unload_27 : decode cX5_unload 27 = .ok (.return_, 1) := by decide +kernel
theorem dX6_init_0 : decode cX6_init 0 = .ok (.aload_n 0, 1) := by decide +kernel
theorem dX6_init_1 : decode cX6_init 1 = .ok (.invokespecial 3, 3) := by decide +kernel
theorem dX6_init_4 : decode cX6_init 4 = .ok (.aload_n 0, 1) := by decide +kernel
theorem dX6_init_5 : decode cX6_init 5 = .ok (.bipush 32, 2) := by decide +kernel
theorem dX6_init_7 : decode cX6_init 7 = .ok (.newarray .int, 2) := by decide +kernel
theorem dX6_init_9 : decode cX6_init 9 = .ok (.putfield 9, 3) := by decide +kernel
theorem dX6_init_12 : decode cX6_init 12 = .ok (.aload_n 0, 1) := by decide +kernel
theorem dX6_init_13 : decode cX6_init 13 = .ok (.bipush 32, 2) := by decide +kernel
theorem dX6_init_15 : decode cX6_init 15 = .ok (.newarray .int, 2) := by decide +kernel
theorem dX6_init_17 : decode cX6_init 17 = .ok (.putfield 15, 3) := by decide +kernel
theorem dX6_init_20 : decode cX6_init 20 = .ok (.return_, 1) := by decide +kernel
theorem dX6_takePrinted_0 : decode cX6_takePrinted 0 = .ok (.iconst 0, 1) := by decide +kernel
theorem dX6_takePrinted_1 : decode cX6_takePrinted 1 = .ok (.istore_n 2, 1) := by decide +kernel
theorem dX6_takePrinted_2 : decode cX6_takePrinted 2 = .ok (.iload_n 2, 1) := by decide +kernel
theorem dX6_takePrinted_3 : decode cX6_takePrinted 3 = .ok (.bipush 32, 2) := by decide +kernel
theorem dX6_takePrinted_5 : decode cX6_takePrinted 5 = .ok (.if_icmp .ge 18, 3) := by decide +kernel
theorem dX6_takePrinted_8 : decode cX6_takePrinted 8 = .ok (.aload_n 0, 1) := by decide +kernel
theorem dX6_takePrinted_9 : decode cX6_takePrinted 9 = .ok (.getfield 9, 3) := by decide +kernel
theorem dX6_takePrinted_12 : decode cX6_takePrinted 12 = .ok (.iload_n 2, 1) := by decide +kernel
theorem dX6_takePrinted_13 : decode cX6_takePrinted 13 = .ok (.aload_n 1, 1) := by decide +kernel
theorem dX6_takePrinted_14 : decode cX6_takePrinted 14 = .ok (.iload_n 2, 1) := by decide +kernel
theorem dX6_takePrinted_15 : decode cX6_takePrinted 15 = .ok (.iaload, 1) := by decide +kernel
theorem dX6_takePrinted_16 : decode cX6_takePrinted 16 = .ok (.iastore, 1) := by decide +kernel
theorem dX6_takePrinted_17 : decode cX6_takePrinted 17 = .ok (.iinc 2 1, 3) := by decide +kernel
theorem dX6_takePrinted_20 : decode cX6_takePrinted 20 = .ok (.goto (-18), 3) := by decide +kernel
theorem dX6_takePrinted_23 : decode cX6_takePrinted 23 = .ok (.aload_n 0, 1) := by decide +kernel
theorem dX6_takePrinted_24 : decode cX6_takePrinted 24 = .ok (.iconst 1, 1) := by decide +kernel
theorem dX6_takePrinted_25 : decode cX6_takePrinted 25 = .ok (.putfield 18, 3) := by decide +kernel
theorem dX6_takePrinted_28 : decode cX6_takePrinted 28 = .ok (.return_, 1) := by decide +kernel
theorem dX6_isPrintedAs_0 : decode cX6_isPrintedAs 0 = .ok (.iconst 0, 1) := by decide +kernel
theorem dX6_isPrintedAs_1 : decode cX6_isPrintedAs 1 = .ok (.istore_n 3, 1) := by decide +kernel
theorem dX6_isPrintedAs_2 : decode cX6_isPrintedAs 2 = .ok (.iload_n 3, 1) := by decide +kernel
theorem dX6_isPrintedAs_3 : decode cX6_isPrintedAs 3 = .ok (.bipush 32, 2) := by decide +kernel
theorem dX6_isPrintedAs_5 : decode cX6_isPrintedAs 5 = .ok (.if_icmp .ge 26, 3) := by decide +kernel
theorem dX6_isPrintedAs_8 : decode cX6_isPrintedAs 8 = .ok (.aload_n 0, 1) := by decide +kernel
theorem dX6_isPrintedAs_9 : decode cX6_isPrintedAs 9 = .ok (.getfield 9, 3) := by decide +kernel
theorem dX6_isPrintedAs_12 : decode cX6_isPrintedAs 12 = .ok (.iload_n 3, 1) := by decide +kernel
theorem dX6_isPrintedAs_13 : decode cX6_isPrintedAs 13 = .ok (.iaload, 1) := by decide +kernel
theorem dX6_isPrintedAs_14 : decode cX6_isPrintedAs 14 = .ok (.aload_n 1, 1) := by decide +kernel
theorem dX6_isPrintedAs_15 : decode cX6_isPrintedAs 15 = .ok (.iload_n 2, 1) := by decide +kernel
theorem dX6_isPrintedAs_16 : decode cX6_isPrintedAs 16 = .ok (.iload_n 3, 1) := by decide +kernel
theorem dX6_isPrintedAs_17 : decode cX6_isPrintedAs 17 = .ok (.invokevirtual 22, 3) := by decide +kernel
theorem dX6_isPrintedAs_20 : decode cX6_isPrintedAs 20 = .ok (.if_icmp .eq 5, 3) := by decide +kernel
theorem dX6_isPrintedAs_23 : decode cX6_isPrintedAs 23 = .ok (.iconst 0, 1) := by decide +kernel
theorem dX6_isPrintedAs_24 : decode cX6_isPrintedAs 24 = .ok (.ireturn, 1) := by decide +kernel
theorem dX6_isPrintedAs_25 : decode cX6_isPrintedAs 25 = .ok (.iinc 3 1, 3) := by decide +kernel
theorem dX6_isPrintedAs_28 : decode cX6_isPrintedAs 28 = .ok (.goto (-26), 3) := by decide +kernel
theorem dX6_isPrintedAs_31 : decode cX6_isPrintedAs 31 = .ok (.iconst 1, 1) := by decide +kernel
theorem dX6_isPrintedAs_32 : decode cX6_isPrintedAs 32 = .ok (.ireturn, 1) := by decide +kernel
theorem dX6_makePlate_0 : decode cX6_makePlate 0 = .ok (.aload_n 0, 1) := by decide +kernel
theorem dX6_makePlate_1 : decode cX6_makePlate 1 = .ok (.iconst 0, 1) := by decide +kernel
theorem dX6_makePlate_2 : decode cX6_makePlate 2 = .ok (.putfield 28, 3) := by decide +kernel
theorem dX6_makePlate_5 : decode cX6_makePlate 5 = .ok (.bipush 31, 2) := by decide +kernel
theorem dX6_makePlate_7 : decode cX6_makePlate 7 = .ok (.istore_n 3, 1) := by decide +kernel
theorem dX6_makePlate_8 : decode cX6_makePlate 8 = .ok (.iload_n 3, 1) := by decide +kernel
theorem dX6_makePlate_9 : decode cX6_makePlate 9 = .ok (.ifCond .lt 44, 3) := by decide +kernel
theorem dX6_makePlate_12 : decode cX6_makePlate 12 = .ok (.aload_n 1, 1) := by decide +kernel
theorem dX6_makePlate_13 : decode cX6_makePlate 13 = .ok (.iload_n 2, 1) := by decide +kernel
theorem dX6_makePlate_14 : decode cX6_makePlate 14 = .ok (.iload_n 3, 1) := by decide +kernel
theorem dX6_makePlate_15 : decode cX6_makePlate 15 = .ok (.invokevirtual 22, 3) := by decide +kernel
theorem dX6_makePlate_18 : decode cX6_makePlate 18 = .ok (.istore 4, 2) := by decide +kernel
theorem dX6_makePlate_20 : decode cX6_makePlate 20 = .ok (.iload 4, 2) := by decide +kernel
theorem dX6_makePlate_22 : decode cX6_makePlate 22 = .ok (.iconst (-1), 1) := by decide +kernel
theorem dX6_makePlate_23 : decode cX6_makePlate 23 = .ok (.if_icmp .eq 24, 3) := by decide +kernel
theorem dX6_makePlate_26 : decode cX6_makePlate 26 = .ok (.aload_n 0, 1) := by decide +kernel
theorem dX6_makePlate_27 : decode cX6_makePlate 27 = .ok (.getfield 15, 3) := by decide +kernel
theorem dX6_makePlate_30 : decode cX6_makePlate 30 = .ok (.aload_n 0, 1) := by decide +kernel
theorem dX6_makePlate_31 : decode cX6_makePlate 31 = .ok (.getfield 28, 3) := by decide +kernel
theorem dX6_makePlate_34 : decode cX6_makePlate 34 = .ok (.iload 4, 2) := by decide +kernel
theorem dX6_makePlate_36 : decode cX6_makePlate 36 = .ok (.iastore, 1) := by decide +kernel
theorem dX6_makePlate_37 : decode cX6_makePlate 37 = .ok (.aload_n 0, 1) := by decide +kernel
theorem dX6_makePlate_38 : decode cX6_makePlate 38 = .ok (.dup, 1) := by decide +kernel
theorem dX6_makePlate_39 : decode cX6_makePlate 39 = .ok (.getfield 28, 3) := by decide +kernel
theorem dX6_makePlate_42 : decode cX6_makePlate 42 = .ok (.iconst 1, 1) := by decide +kernel
theorem dX6_makePlate_43 : decode cX6_makePlate 43 = .ok (.iadd, 1) := by decide +kernel
theorem dX6_makePlate_44 : decode cX6_makePlate 44 = .ok (.putfield 28, 3) := by decide +kernel
theorem dX6_makePlate_47 : decode cX6_makePlate 47 = .ok (.iinc 3 (-1), 3) := by decide +kernel
theorem dX6_makePlate_50 : decode cX6_makePlate 50 = .ok (.goto (-42), 3) := by decide +kernel
theorem dX6_makePlate_53 : decode cX6_makePlate 53 = .ok (.aload_n 0, 1) := by decide +kernel
theorem dX6_makePlate_54 : decode cX6_makePlate 54 = .ok (.iconst 1, 1) := by decide +kernel
theorem dX6_makePlate_55 : decode cX6_makePlate 55 = .ok (.putfield 32, 3) := by decide +kernel
theorem dX6_makePlate_58 : decode cX6_makePlate 58 = .ok (.return_, 1) := by decide +kernel
theorem dX6_hasPlateFor_0 : decode cX6_hasPlateFor 0 = .ok (.iconst 0, 1) := by decide +kernel
theorem dX6_hasPlateFor_1 : decode cX6_hasPlateFor 1 = .ok (.istore_n 3, 1) := by decide +kernel
theorem dX6_hasPlateFor_2 : decode cX6_hasPlateFor 2 = .ok (.bipush 31, 2) := by decide +kernel
theorem dX6_hasPlateFor_4 : decode cX6_hasPlateFor 4 = .ok (.istore 4, 2) := by decide +kernel
theorem dX6_hasPlateFor_6 : decode cX6_hasPlateFor 6 = .ok (.iload 4, 2) := by decide +kernel
theorem dX6_hasPlateFor_8 : decode cX6_hasPlateFor 8 = .ok (.ifCond .lt 51, 3) := by decide +kernel
theorem dX6_hasPlateFor_11 : decode cX6_hasPlateFor 11 = .ok (.aload_n 1, 1) := by decide +kernel
theorem dX6_hasPlateFor_12 : decode cX6_hasPlateFor 12 = .ok (.iload_n 2, 1) := by decide +kernel
theorem dX6_hasPlateFor_13 : decode cX6_hasPlateFor 13 = .ok (.iload 4, 2) := by decide +kernel
theorem dX6_hasPlateFor_15 : decode cX6_hasPlateFor 15 = .ok (.invokevirtual 22, 3) := by decide +kernel
theorem dX6_hasPlateFor_18 : decode cX6_hasPlateFor 18 = .ok (.istore 5, 2) := by decide +kernel
theorem dX6_hasPlateFor_20 : decode cX6_hasPlateFor 20 = .ok (.iload 5, 2) := by decide +kernel
theorem dX6_hasPlateFor_22 : decode cX6_hasPlateFor 22 = .ok (.iconst (-1), 1) := by decide +kernel
theorem dX6_hasPlateFor_23 : decode cX6_hasPlateFor 23 = .ok (.if_icmp .ne 6, 3) := by decide +kernel
theorem dX6_hasPlateFor_26 : decode cX6_hasPlateFor 26 = .ok (.goto 27, 3) := by decide +kernel
theorem dX6_hasPlateFor_29 : decode cX6_hasPlateFor 29 = .ok (.iload_n 3, 1) := by decide +kernel
theorem dX6_hasPlateFor_30 : decode cX6_hasPlateFor 30 = .ok (.aload_n 0, 1) := by decide +kernel
theorem dX6_hasPlateFor_31 : decode cX6_hasPlateFor 31 = .ok (.getfield 28, 3) := by decide +kernel
theorem dX6_hasPlateFor_34 : decode cX6_hasPlateFor 34 = .ok (.if_icmp .ge 14, 3) := by decide +kernel
theorem dX6_hasPlateFor_37 : decode cX6_hasPlateFor 37 = .ok (.aload_n 0, 1) := by decide +kernel
theorem dX6_hasPlateFor_38 : decode cX6_hasPlateFor 38 = .ok (.getfield 15, 3) := by decide +kernel
theorem dX6_hasPlateFor_41 : decode cX6_hasPlateFor 41 = .ok (.iload_n 3, 1) := by decide +kernel
theorem dX6_hasPlateFor_42 : decode cX6_hasPlateFor 42 = .ok (.iaload, 1) := by decide +kernel
theorem dX6_hasPlateFor_43 : decode cX6_hasPlateFor 43 = .ok (.iload 5, 2) := by decide +kernel
theorem dX6_hasPlateFor_45 : decode cX6_hasPlateFor 45 = .ok (.if_icmp .eq 5, 3) := by decide +kernel
theorem dX6_hasPlateFor_48 : decode cX6_hasPlateFor 48 = .ok (.iconst 0, 1) := by decide +kernel
theorem dX6_hasPlateFor_49 : decode cX6_hasPlateFor 49 = .ok (.ireturn, 1) := by decide +kernel
theorem dX6_hasPlateFor_50 : decode cX6_hasPlateFor 50 = .ok (.iinc 3 1, 3) := by decide +kernel
theorem dX6_hasPlateFor_53 : decode cX6_hasPlateFor 53 = .ok (.iinc 4 (-1), 3) := by decide +kernel
theorem dX6_hasPlateFor_56 : decode cX6_hasPlateFor 56 = .ok (.goto (-50), 3) := by decide +kernel
theorem dX6_hasPlateFor_59 : decode cX6_hasPlateFor 59 = .ok (.aload_n 0, 1) := by decide +kernel
theorem dX6_hasPlateFor_60 : decode cX6_hasPlateFor 60 = .ok (.getfield 32, 3) := by decide +kernel
theorem dX6_hasPlateFor_63 : decode cX6_hasPlateFor 63 = .ok (.ifCond .eq 15, 3) := by decide +kernel
theorem dX6_hasPlateFor_66 : decode cX6_hasPlateFor 66 = .ok (.iload_n 3, 1) := by decide +kernel
theorem dX6_hasPlateFor_67 : decode cX6_hasPlateFor 67 = .ok (.aload_n 0, 1) := by decide +kernel
theorem dX6_hasPlateFor_68 : decode cX6_hasPlateFor 68 = .ok (.getfield 28, 3) := by decide +kernel
theorem dX6_hasPlateFor_71 : decode cX6_hasPlateFor 71 = .ok (.if_icmp .ne 7, 3) := by decide +kernel
theorem dX6_hasPlateFor_74 : decode cX6_hasPlateFor 74 = .ok (.iconst 1, 1) := by decide +kernel
theorem dX6_hasPlateFor_75 : decode cX6_hasPlateFor 75 = .ok (.goto 4, 3) := by decide +kernel
theorem dX6_hasPlateFor_78 : decode cX6_hasPlateFor 78 = .ok (.iconst 0, 1) := by decide +kernel
theorem dX6_hasPlateFor_79 : decode cX6_hasPlateFor 79 = .ok (.ireturn, 1) := by decide +kernel
theorem dX7_init_0 : decode cX7_init 0 = .ok (.aload_n 0, 1) := by decide +kernel
theorem dX7_init_1 : decode cX7_init 1 = .ok (.invokespecial 3, 3) := by decide +kernel
theorem dX7_init_4 : decode cX7_init 4 = .ok (.aload_n 0, 1) := by decide +kernel
theorem dX7_init_5 : decode cX7_init 5 = .ok (.bipush 80, 2) := by decide +kernel
theorem dX7_init_7 : decode cX7_init 7 = .ok (.newarray .int, 2) := by decide +kernel
theorem dX7_init_9 : decode cX7_init 9 = .ok (.putfield 9, 3) := by decide +kernel
theorem dX7_init_12 : decode cX7_init 12 = .ok (.return_, 1) := by decide +kernel
theorem dX7_at_0 : decode cX7_at 0 = .ok (.iload_n 1, 1) := by decide +kernel
theorem dX7_at_1 : decode cX7_at 1 = .ok (.ifCond .lt 20, 3) := by decide +kernel
theorem dX7_at_4 : decode cX7_at 4 = .ok (.iload_n 1, 1) := by decide +kernel
theorem dX7_at_5 : decode cX7_at 5 = .ok (.aload_n 0, 1) := by decide +kernel
theorem dX7_at_6 : decode cX7_at 6 = .ok (.getfield 15, 3) := by decide +kernel
theorem dX7_at_9 : decode cX7_at 9 = .ok (.if_icmp .ge 12, 3) := by decide +kernel
theorem dX7_at_12 : decode cX7_at 12 = .ok (.aload_n 0, 1) := by decide +kernel
theorem dX7_at_13 : decode cX7_at 13 = .ok (.getfield 9, 3) := by decide +kernel
theorem dX7_at_16 : decode cX7_at 16 = .ok (.iload_n 1, 1) := by decide +kernel
theorem dX7_at_17 : decode cX7_at 17 = .ok (.iaload, 1) := by decide +kernel
theorem dX7_at_18 : decode cX7_at 18 = .ok (.goto 4, 3) := by decide +kernel
theorem dX7_at_21 : decode cX7_at 21 = .ok (.iconst (-1), 1) := by decide +kernel
theorem dX7_at_22 : decode cX7_at 22 = .ok (.ireturn, 1) := by decide +kernel
theorem dX7_putIn_0 : decode cX7_putIn 0 = .ok (.iload_n 1, 1) := by decide +kernel
theorem dX7_putIn_1 : decode cX7_putIn 1 = .ok (.ifCond .lt 20, 3) := by decide +kernel
theorem dX7_putIn_4 : decode cX7_putIn 4 = .ok (.iload_n 1, 1) := by decide +kernel
theorem dX7_putIn_5 : decode cX7_putIn 5 = .ok (.aload_n 0, 1) := by decide +kernel
theorem dX7_putIn_6 : decode cX7_putIn 6 = .ok (.getfield 15, 3) := by decide +kernel
theorem dX7_putIn_9 : decode cX7_putIn 9 = .ok (.if_icmp .gt 12, 3) := by decide +kernel
theorem dX7_putIn_12 : decode cX7_putIn 12 = .ok (.aload_n 0, 1) := by decide +kernel
theorem dX7_putIn_13 : decode cX7_putIn 13 = .ok (.getfield 15, 3) := by decide +kernel
theorem dX7_putIn_16 : decode cX7_putIn 16 = .ok (.bipush 80, 2) := by decide +kernel
theorem dX7_putIn_18 : decode cX7_putIn 18 = .ok (.if_icmp .lt 4, 3) := by decide +kernel
theorem dX7_putIn_21 : decode cX7_putIn 21 = .ok (.return_, 1) := by decide +kernel
theorem dX7_putIn_22 : decode cX7_putIn 22 = .ok (.aload_n 0, 1) := by decide +kernel
theorem dX7_putIn_23 : decode cX7_putIn 23 = .ok (.getfield 15, 3) := by decide +kernel
theorem dX7_putIn_26 : decode cX7_putIn 26 = .ok (.istore_n 3, 1) := by decide +kernel
theorem dX7_putIn_27 : decode cX7_putIn 27 = .ok (.iload_n 3, 1) := by decide +kernel
theorem dX7_putIn_28 : decode cX7_putIn 28 = .ok (.iload_n 1, 1) := by decide +kernel
theorem dX7_putIn_29 : decode cX7_putIn 29 = .ok (.if_icmp .le 23, 3) := by decide +kernel
theorem dX7_putIn_32 : decode cX7_putIn 32 = .ok (.aload_n 0, 1) := by decide +kernel
theorem dX7_putIn_33 : decode cX7_putIn 33 = .ok (.getfield 9, 3) := by decide +kernel
theorem dX7_putIn_36 : decode cX7_putIn 36 = .ok (.iload_n 3, 1) := by decide +kernel
theorem dX7_putIn_37 : decode cX7_putIn 37 = .ok (.aload_n 0, 1) := by decide +kernel
theorem dX7_putIn_38 : decode cX7_putIn 38 = .ok (.getfield 9, 3) := by decide +kernel
theorem dX7_putIn_41 : decode cX7_putIn 41 = .ok (.iload_n 3, 1) := by decide +kernel
theorem dX7_putIn_42 : decode cX7_putIn 42 = .ok (.iconst 1, 1) := by decide +kernel
theorem dX7_putIn_43 : decode cX7_putIn 43 = .ok (.isub, 1) := by decide +kernel
theorem dX7_putIn_44 : decode cX7_putIn 44 = .ok (.iaload, 1) := by decide +kernel
theorem dX7_putIn_45 : decode cX7_putIn 45 = .ok (.iastore, 1) := by decide +kernel
theorem dX7_putIn_46 : decode cX7_putIn 46 = .ok (.iinc 3 (-1), 3) := by decide +kernel
theorem dX7_putIn_49 : decode cX7_putIn 49 = .ok (.goto (-22), 3) := by decide +kernel
theorem dX7_putIn_52 : decode cX7_putIn 52 = .ok (.aload_n 0, 1) := by decide +kernel
theorem dX7_putIn_53 : decode cX7_putIn 53 = .ok (.getfield 9, 3) := by decide +kernel
theorem dX7_putIn_56 : decode cX7_putIn 56 = .ok (.iload_n 1, 1) := by decide +kernel
theorem dX7_putIn_57 : decode cX7_putIn 57 = .ok (.iload_n 2, 1) := by decide +kernel
theorem dX7_putIn_58 : decode cX7_putIn 58 = .ok (.iastore, 1) := by decide +kernel
theorem dX7_putIn_59 : decode cX7_putIn 59 = .ok (.aload_n 0, 1) := by decide +kernel
theorem dX7_putIn_60 : decode cX7_putIn 60 = .ok (.dup, 1) := by decide +kernel
theorem dX7_putIn_61 : decode cX7_putIn 61 = .ok (.getfield 15, 3) := by decide +kernel
theorem dX7_putIn_64 : decode cX7_putIn 64 = .ok (.iconst 1, 1) := by decide +kernel
theorem dX7_putIn_65 : decode cX7_putIn 65 = .ok (.iadd, 1) := by decide +kernel
theorem dX7_putIn_66 : decode cX7_putIn 66 = .ok (.putfield 15, 3) := by decide +kernel
theorem dX7_putIn_69 : decode cX7_putIn 69 = .ok (.return_, 1) := by decide +kernel
theorem dX7_takeOut_0 : decode cX7_takeOut 0 = .ok (.iload_n 1, 1) := by decide +kernel
theorem dX7_takeOut_1 : decode cX7_takeOut 1 = .ok (.ifCond .lt 11, 3) := by decide +kernel
theorem dX7_takeOut_4 : decode cX7_takeOut 4 = .ok (.iload_n 1, 1) := by decide +kernel
theorem dX7_takeOut_5 : decode cX7_takeOut 5 = .ok (.aload_n 0, 1) := by decide +kernel
theorem dX7_takeOut_6 : decode cX7_takeOut 6 = .ok (.getfield 15, 3) := by decide +kernel
theorem dX7_takeOut_9 : decode cX7_takeOut 9 = .ok (.if_icmp .lt 4, 3) := by decide +kernel
theorem dX7_takeOut_12 : decode cX7_takeOut 12 = .ok (.return_, 1) := by decide +kernel
theorem dX7_takeOut_13 : decode cX7_takeOut 13 = .ok (.aload_n 0, 1) := by decide +kernel
theorem dX7_takeOut_14 : decode cX7_takeOut 14 = .ok (.dup, 1) := by decide +kernel
theorem dX7_takeOut_15 : decode cX7_takeOut 15 = .ok (.getfield 15, 3) := by decide +kernel
theorem dX7_takeOut_18 : decode cX7_takeOut 18 = .ok (.iconst 1, 1) := by decide +kernel
theorem dX7_takeOut_19 : decode cX7_takeOut 19 = .ok (.isub, 1) := by decide +kernel
theorem dX7_takeOut_20 : decode cX7_takeOut 20 = .ok (.putfield 15, 3) := by decide +kernel
theorem dX7_takeOut_23 : decode cX7_takeOut 23 = .ok (.iload_n 1, 1) := by decide +kernel
theorem dX7_takeOut_24 : decode cX7_takeOut 24 = .ok (.istore_n 2, 1) := by decide +kernel
theorem dX7_takeOut_25 : decode cX7_takeOut 25 = .ok (.iload_n 2, 1) := by decide +kernel
theorem dX7_takeOut_26 : decode cX7_takeOut 26 = .ok (.aload_n 0, 1) := by decide +kernel
theorem dX7_takeOut_27 : decode cX7_takeOut 27 = .ok (.getfield 15, 3) := by decide +kernel
theorem dX7_takeOut_30 : decode cX7_takeOut 30 = .ok (.if_icmp .ge 23, 3) := by decide +kernel
theorem dX7_takeOut_33 : decode cX7_takeOut 33 = .ok (.aload_n 0, 1) := by decide +kernel
theorem dX7_takeOut_34 : decode cX7_takeOut 34 = .ok (.getfield 9, 3) := by decide +kernel
theorem dX7_takeOut_37 : decode cX7_takeOut 37 = .ok (.iload_n 2, 1) := by decide +kernel
theorem dX7_takeOut_38 : decode cX7_takeOut 38 = .ok (.aload_n 0, 1) := by decide +kernel
theorem dX7_takeOut_39 : decode cX7_takeOut 39 = .ok (.getfield 9, 3) := by decide +kernel
theorem dX7_takeOut_42 : decode cX7_takeOut 42 = .ok (.iload_n 2, 1) := by decide +kernel
theorem dX7_takeOut_43 : decode cX7_takeOut 43 = .ok (.iconst 1, 1) := by decide +kernel
theorem dX7_takeOut_44 : decode cX7_takeOut 44 = .ok (.iadd, 1) := by decide +kernel
theorem dX7_takeOut_45 : decode cX7_takeOut 45 = .ok (.iaload, 1) := by decide +kernel
theorem dX7_takeOut_46 : decode cX7_takeOut 46 = .ok (.iastore, 1) := by decide +kernel
theorem dX7_takeOut_47 : decode cX7_takeOut 47 = .ok (.iinc 2 1, 3) := by decide +kernel
theorem dX7_takeOut_50 : decode cX7_takeOut 50 = .ok (.goto (-25), 3) := by decide +kernel
theorem dX7_takeOut_53 : decode cX7_takeOut 53 = .ok (.return_, 1) := by decide +kernel
theorem dX7_become_0 : decode cX7_become 0 = .ok (.aload_n 0, 1) := by decide +kernel
theorem dX7_become_1 : decode cX7_become 1 = .ok (.aload_n 1, 1) := by decide +kernel
theorem dX7_become_2 : decode cX7_become 2 = .ok (.getfield 15, 3) := by decide +kernel
theorem dX7_become_5 : decode cX7_become 5 = .ok (.putfield 15, 3) := by decide +kernel
theorem dX7_become_8 : decode cX7_become 8 = .ok (.iconst 0, 1) := by decide +kernel
theorem dX7_become_9 : decode cX7_become 9 = .ok (.istore_n 2, 1) := by decide +kernel
theorem dX7_become_10 : decode cX7_become 10 = .ok (.iload_n 2, 1) := by decide +kernel
theorem dX7_become_11 : decode cX7_become 11 = .ok (.aload_n 0, 1) := by decide +kernel
theorem dX7_become_12 : decode cX7_become 12 = .ok (.getfield 15, 3) := by decide +kernel
theorem dX7_become_15 : decode cX7_become 15 = .ok (.if_icmp .ge 21, 3) := by decide +kernel
theorem dX7_become_18 : decode cX7_become 18 = .ok (.aload_n 0, 1) := by decide +kernel
theorem dX7_become_19 : decode cX7_become 19 = .ok (.getfield 9, 3) := by decide +kernel
theorem dX7_become_22 : decode cX7_become 22 = .ok (.iload_n 2, 1) := by decide +kernel
theorem dX7_become_23 : decode cX7_become 23 = .ok (.aload_n 1, 1) := by decide +kernel
theorem dX7_become_24 : decode cX7_become 24 = .ok (.getfield 9, 3) := by decide +kernel
theorem dX7_become_27 : decode cX7_become 27 = .ok (.iload_n 2, 1) := by decide +kernel
theorem dX7_become_28 : decode cX7_become 28 = .ok (.iaload, 1) := by decide +kernel
theorem dX7_become_29 : decode cX7_become 29 = .ok (.iastore, 1) := by decide +kernel
theorem dX7_become_30 : decode cX7_become 30 = .ok (.iinc 2 1, 3) := by decide +kernel
theorem dX7_become_33 : decode cX7_become 33 = .ok (.goto (-23), 3) := by decide +kernel
theorem dX7_become_36 : decode cX7_become 36 = .ok (.return_, 1) := by decide +kernel
theorem dX8_init_0 : decode cX8_init 0 = .ok (.aload_n 0, 1) := by decide +kernel
theorem dX8_init_1 : decode cX8_init 1 = .ok (.invokespecial 3, 3) := by decide +kernel
theorem dX8_init_4 : decode cX8_init 4 = .ok (.aload_n 0, 1) := by decide +kernel
theorem dX8_init_5 : decode cX8_init 5 = .ok (.iconst 3, 1) := by decide +kernel
theorem dX8_init_6 : decode cX8_init 6 = .ok (.anewarray 9, 3) := by decide +kernel
theorem dX8_init_9 : decode cX8_init 9 = .ok (.putfield 11, 3) := by decide +kernel
theorem dX8_init_12 : decode cX8_init 12 = .ok (.aload_n 0, 1) := by decide +kernel
theorem dX8_init_13 : decode cX8_init 13 = .ok (.bipush 8, 2) := by decide +kernel
theorem dX8_init_15 : decode cX8_init 15 = .ok (.anewarray 15, 3) := by decide +kernel
theorem dX8_init_18 : decode cX8_init 18 = .ok (.putfield 17, 3) := by decide +kernel
theorem dX8_init_21 : decode cX8_init 21 = .ok (.aload_n 0, 1) := by decide +kernel
theorem dX8_init_22 : decode cX8_init 22 = .ok (.bipush 6, 2) := by decide +kernel
theorem dX8_init_24 : decode cX8_init 24 = .ok (.anewarray 21, 3) := by decide +kernel
theorem dX8_init_27 : decode cX8_init 27 = .ok (.putfield 23, 3) := by decide +kernel
theorem dX8_init_30 : decode cX8_init 30 = .ok (.aload_n 0, 1) := by decide +kernel
theorem dX8_init_31 : decode cX8_init 31 = .ok (.new 27, 3) := by decide +kernel
theorem dX8_init_34 : decode cX8_init 34 = .ok (.dup, 1) := by decide +kernel
theorem dX8_init_35 : decode cX8_init 35 = .ok (.invokespecial 29, 3) := by decide +kernel
theorem dX8_init_38 : decode cX8_init 38 = .ok (.putfield 30, 3) := by decide +kernel
theorem dX8_init_41 : decode cX8_init 41 = .ok (.aload_n 0, 1) := by decide +kernel
theorem dX8_init_42 : decode cX8_init 42 = .ok (.new 34, 3) := by decide +kernel
theorem dX8_init_45 : decode cX8_init 45 = .ok (.dup, 1) := by decide +kernel
theorem dX8_init_46 : decode cX8_init 46 = .ok (.invokespecial 36, 3) := by decide +kernel
theorem dX8_init_49 : decode cX8_init 49 = .ok (.putfield 37, 3) := by decide +kernel
theorem dX8_init_52 : decode cX8_init 52 = .ok (.return_, 1) := by decide +kernel
theorem dX8_addDocument_0 : decode cX8_addDocument 0 = .ok (.aload_n 0, 1) := by decide +kernel
theorem dX8_addDocument_1 : decode cX8_addDocument 1 = .ok (.getfield 41, 3) := by decide +kernel
theorem dX8_addDocument_4 : decode cX8_addDocument 4 = .ok (.iconst 3, 1) := by decide +kernel
theorem dX8_addDocument_5 : decode cX8_addDocument 5 = .ok (.if_icmp .lt 13, 3) := by decide +kernel
theorem dX8_addDocument_8 : decode cX8_addDocument 8 = .ok (.new 45, 3) := by decide +kernel
theorem dX8_addDocument_11 : decode cX8_addDocument 11 = .ok (.dup, 1) := by decide +kernel
theorem dX8_addDocument_12 : decode cX8_addDocument 12 = .ok (.ldc 47, 2) := by decide +kernel
theorem dX8_addDocument_14 : decode cX8_addDocument 14 = .ok (.invokespecial 49, 3) := by decide +kernel
theorem dX8_addDocument_17 : decode cX8_addDocument 17 = .ok (.athrow, 1) := by decide +kernel
theorem dX8_addDocument_18 : decode cX8_addDocument 18 = .ok (.aload_n 0, 1) := by decide +kernel
theorem dX8_addDocument_19 : decode cX8_addDocument 19 = .ok (.getfield 41, 3) := by decide +kernel
theorem dX8_addDocument_22 : decode cX8_addDocument 22 = .ok (.istore_n 1, 1) := by decide +kernel
theorem dX8_addDocument_23 : decode cX8_addDocument 23 = .ok (.aload_n 0, 1) := by decide +kernel
theorem dX8_addDocument_24 : decode cX8_addDocument 24 = .ok (.getfield 11, 3) := by decide +kernel
theorem dX8_addDocument_27 : decode cX8_addDocument 27 = .ok (.iload_n 1, 1) := by decide +kernel
theorem dX8_addDocument_28 : decode cX8_addDocument 28 = .ok (.new 9, 3) := by decide +kernel
theorem dX8_addDocument_31 : decode cX8_addDocument 31 = .ok (.dup, 1) := by decide +kernel
theorem dX8_addDocument_32 : decode cX8_addDocument 32 = .ok (.iload_n 1, 1) := by decide +kernel
theorem dX8_addDocument_33 : decode cX8_addDocument 33 = .ok (.invokespecial 52, 3) := by decide +kernel
theorem dX8_addDocument_36 : decode cX8_addDocument 36 = .ok (.aastore, 1) := by decide +kernel
theorem dX8_addDocument_37 : decode cX8_addDocument 37 = .ok (.aload_n 0, 1) := by decide +kernel
theorem dX8_addDocument_38 : decode cX8_addDocument 38 = .ok (.dup, 1) := by decide +kernel
theorem dX8_addDocument_39 : decode cX8_addDocument 39 = .ok (.getfield 41, 3) := by decide +kernel
theorem dX8_addDocument_42 : decode cX8_addDocument 42 = .ok (.iconst 1, 1) := by decide +kernel
theorem dX8_addDocument_43 : decode cX8_addDocument 43 = .ok (.iadd, 1) := by decide +kernel
theorem dX8_addDocument_44 : decode cX8_addDocument 44 = .ok (.putfield 41, 3) := by decide +kernel
theorem dX8_addDocument_47 : decode cX8_addDocument 47 = .ok (.iload_n 1, 1) := by decide +kernel
theorem dX8_addDocument_48 : decode cX8_addDocument 48 = .ok (.ireturn, 1) := by decide +kernel
theorem dX8_insert_0 : decode cX8_insert 0 = .ok (.aload_n 0, 1) := by decide +kernel
theorem dX8_insert_1 : decode cX8_insert 1 = .ok (.iload_n 1, 1) := by decide +kernel
theorem dX8_insert_2 : decode cX8_insert 2 = .ok (.invokevirtual 55, 3) := by decide +kernel
theorem dX8_insert_5 : decode cX8_insert 5 = .ok (.astore 4, 2) := by decide +kernel
theorem dX8_insert_7 : decode cX8_insert 7 = .ok (.aload 4, 2) := by decide +kernel
theorem dX8_insert_9 : decode cX8_insert 9 = .ok (.iload_n 2, 1) := by decide +kernel
theorem dX8_insert_10 : decode cX8_insert 10 = .ok (.iconst 1, 1) := by decide +kernel
theorem dX8_insert_11 : decode cX8_insert 11 = .ok (.invokestatic 59, 3) := by decide +kernel
theorem dX8_insert_14 : decode cX8_insert 14 = .ok (.iload_n 3, 1) := by decide +kernel
theorem dX8_insert_15 : decode cX8_insert 15 = .ok (.invokestatic 63, 3) := by decide +kernel
theorem dX8_insert_18 : decode cX8_insert 18 = .ok (.ifCond .ne 13, 3) := by decide +kernel
theorem dX8_insert_21 : decode cX8_insert 21 = .ok (.new 67, 3) := by decide +kernel
theorem dX8_insert_24 : decode cX8_insert 24 = .ok (.dup, 1) := by decide +kernel
theorem dX8_insert_25 : decode cX8_insert 25 = .ok (.ldc 69, 2) := by decide +kernel
theorem dX8_insert_27 : decode cX8_insert 27 = .ok (.invokespecial 71, 3) := by decide +kernel
theorem dX8_insert_30 : decode cX8_insert 30 = .ok (.athrow, 1) := by decide +kernel
theorem dX8_insert_31 : decode cX8_insert 31 = .ok (.aload 4, 2) := by decide +kernel
theorem dX8_insert_33 : decode cX8_insert 33 = .ok (.getfield 72, 3) := by decide +kernel
theorem dX8_insert_36 : decode cX8_insert 36 = .ok (.getfield 76, 3) := by decide +kernel
theorem dX8_insert_39 : decode cX8_insert 39 = .ok (.bipush 80, 2) := by decide +kernel
theorem dX8_insert_41 : decode cX8_insert 41 = .ok (.if_icmp .lt 13, 3) := by decide +kernel
theorem dX8_insert_44 : decode cX8_insert 44 = .ok (.new 45, 3) := by decide +kernel
theorem dX8_insert_47 : decode cX8_insert 47 = .ok (.dup, 1) := by decide +kernel
theorem dX8_insert_48 : decode cX8_insert 48 = .ok (.ldc 81, 2) := by decide +kernel
theorem dX8_insert_50 : decode cX8_insert 50 = .ok (.invokespecial 49, 3) := by decide +kernel
theorem dX8_insert_53 : decode cX8_insert 53 = .ok (.athrow, 1) := by decide +kernel
theorem dX8_insert_54 : decode cX8_insert 54 = .ok (.aload_n 0, 1) := by decide +kernel
theorem dX8_insert_55 : decode cX8_insert 55 = .ok (.aload 4, 2) := by decide +kernel
theorem dX8_insert_57 : decode cX8_insert 57 = .ok (.iload_n 2, 1) := by decide +kernel
theorem dX8_insert_58 : decode cX8_insert 58 = .ok (.iconst 1, 1) := by decide +kernel
theorem dX8_insert_59 : decode cX8_insert 59 = .ok (.invokevirtual 83, 3) := by decide +kernel
theorem dX8_insert_62 : decode cX8_insert 62 = .ok (.aload 4, 2) := by decide +kernel
theorem dX8_insert_64 : decode cX8_insert 64 = .ok (.getfield 72, 3) := by decide +kernel
theorem dX8_insert_67 : decode cX8_insert 67 = .ok (.iload_n 2, 1) := by decide +kernel
theorem dX8_insert_68 : decode cX8_insert 68 = .ok (.iload_n 3, 1) := by decide +kernel
theorem dX8_insert_69 : decode cX8_insert 69 = .ok (.invokevirtual 86, 3) := by decide +kernel
theorem dX8_insert_72 : decode cX8_insert 72 = .ok (.aload 4, 2) := by decide +kernel
theorem dX8_insert_74 : decode cX8_insert 74 = .ok (.dup, 1) := by decide +kernel
theorem dX8_insert_75 : decode cX8_insert 75 = .ok (.getfield 90, 3) := by decide +kernel
theorem dX8_insert_78 : decode cX8_insert 78 = .ok (.iconst 1, 1) := by decide +kernel
theorem dX8_insert_79 : decode cX8_insert 79 = .ok (.iadd, 1) := by decide +kernel
theorem dX8_insert_80 : decode cX8_insert 80 = .ok (.putfield 90, 3) := by decide +kernel
theorem dX8_insert_83 : decode cX8_insert 83 = .ok (.aload_n 0, 1) := by decide +kernel
theorem dX8_insert_84 : decode cX8_insert 84 = .ok (.aload 4, 2) := by decide +kernel
theorem dX8_insert_86 : decode cX8_insert 86 = .ok (.iload_n 2, 1) := by decide +kernel
theorem dX8_insert_87 : decode cX8_insert 87 = .ok (.invokevirtual 93, 3) := by decide +kernel
theorem dX8_insert_90 : decode cX8_insert 90 = .ok (.aload_n 0, 1) := by decide +kernel
theorem dX8_insert_91 : decode cX8_insert 91 = .ok (.getfield 30, 3) := by decide +kernel
theorem dX8_insert_94 : decode cX8_insert 94 = .ok (.iload_n 1, 1) := by decide +kernel
theorem dX8_insert_95 : decode cX8_insert 95 = .ok (.iload_n 2, 1) := by decide +kernel
theorem dX8_insert_96 : decode cX8_insert 96 = .ok (.iload_n 3, 1) := by decide +kernel
theorem dX8_insert_97 : decode cX8_insert 97 = .ok (.invokevirtual 97, 3) := by decide +kernel
theorem dX8_insert_100 : decode cX8_insert 100 = .ok (.aload 4, 2) := by decide +kernel
theorem dX8_insert_102 : decode cX8_insert 102 = .ok (.getfield 90, 3) := by decide +kernel
theorem dX8_insert_105 : decode cX8_insert 105 = .ok (.ireturn, 1) := by decide +kernel
theorem dX8_delete_0 : decode cX8_delete 0 = .ok (.aload_n 0, 1) := by decide +kernel
theorem dX8_delete_1 : decode cX8_delete 1 = .ok (.iload_n 1, 1) := by decide +kernel
theorem dX8_delete_2 : decode cX8_delete 2 = .ok (.invokevirtual 55, 3) := by decide +kernel
theorem dX8_delete_5 : decode cX8_delete 5 = .ok (.astore_n 3, 1) := by decide +kernel
theorem dX8_delete_6 : decode cX8_delete 6 = .ok (.aload_n 3, 1) := by decide +kernel
theorem dX8_delete_7 : decode cX8_delete 7 = .ok (.iload_n 2, 1) := by decide +kernel
theorem dX8_delete_8 : decode cX8_delete 8 = .ok (.iconst 0, 1) := by decide +kernel
theorem dX8_delete_9 : decode cX8_delete 9 = .ok (.invokestatic 59, 3) := by decide +kernel
theorem dX8_delete_12 : decode cX8_delete 12 = .ok (.aload_n 0, 1) := by decide +kernel
theorem dX8_delete_13 : decode cX8_delete 13 = .ok (.aload_n 3, 1) := by decide +kernel
theorem dX8_delete_14 : decode cX8_delete 14 = .ok (.iload_n 2, 1) := by decide +kernel
theorem dX8_delete_15 : decode cX8_delete 15 = .ok (.iconst 0, 1) := by decide +kernel
theorem dX8_delete_16 : decode cX8_delete 16 = .ok (.invokevirtual 83, 3) := by decide +kernel
theorem dX8_delete_19 : decode cX8_delete 19 = .ok (.aload_n 3, 1) := by decide +kernel
theorem dX8_delete_20 : decode cX8_delete 20 = .ok (.getfield 72, 3) := by decide +kernel
theorem dX8_delete_23 : decode cX8_delete 23 = .ok (.iload_n 2, 1) := by decide +kernel
theorem dX8_delete_24 : decode cX8_delete 24 = .ok (.invokevirtual 101, 3) := by decide +kernel
theorem dX8_delete_27 : decode cX8_delete 27 = .ok (.istore 4, 2) := by decide +kernel
theorem dX8_delete_29 : decode cX8_delete 29 = .ok (.aload_n 3, 1) := by decide +kernel
theorem dX8_delete_30 : decode cX8_delete 30 = .ok (.getfield 72, 3) := by decide +kernel
theorem dX8_delete_33 : decode cX8_delete 33 = .ok (.iload_n 2, 1) := by decide +kernel
theorem dX8_delete_34 : decode cX8_delete 34 = .ok (.invokevirtual 105, 3) := by decide +kernel
theorem dX8_delete_37 : decode cX8_delete 37 = .ok (.aload_n 3, 1) := by decide +kernel
theorem dX8_delete_38 : decode cX8_delete 38 = .ok (.dup, 1) := by decide +kernel
theorem dX8_delete_39 : decode cX8_delete 39 = .ok (.getfield 90, 3) := by decide +kernel
theorem dX8_delete_42 : decode cX8_delete 42 = .ok (.iconst 1, 1) := by decide +kernel
theorem dX8_delete_43 : decode cX8_delete 43 = .ok (.iadd, 1) := by decide +kernel
theorem dX8_delete_44 : decode cX8_delete 44 = .ok (.putfield 90, 3) := by decide +kernel
theorem dX8_delete_47 : decode cX8_delete 47 = .ok (.aload_n 0, 1) := by decide +kernel
theorem dX8_delete_48 : decode cX8_delete 48 = .ok (.aload_n 3, 1) := by decide +kernel
theorem dX8_delete_49 : decode cX8_delete 49 = .ok (.iload_n 2, 1) := by decide +kernel
theorem dX8_delete_50 : decode cX8_delete 50 = .ok (.invokevirtual 108, 3) := by decide +kernel
theorem dX8_delete_53 : decode cX8_delete 53 = .ok (.aload_n 0, 1) := by decide +kernel
theorem dX8_delete_54 : decode cX8_delete 54 = .ok (.getfield 30, 3) := by decide +kernel
theorem dX8_delete_57 : decode cX8_delete 57 = .ok (.iload_n 1, 1) := by decide +kernel
theorem dX8_delete_58 : decode cX8_delete 58 = .ok (.iload_n 2, 1) := by decide +kernel
theorem dX8_delete_59 : decode cX8_delete 59 = .ok (.invokevirtual 111, 3) := by decide +kernel
theorem dX8_delete_62 : decode cX8_delete 62 = .ok (.iload 4, 2) := by decide +kernel
theorem dX8_delete_64 : decode cX8_delete 64 = .ok (.ireturn, 1) := by decide +kernel
theorem dX8_bar_0 : decode cX8_bar 0 = .ok (.aload_n 0, 1) := by decide +kernel
theorem dX8_bar_1 : decode cX8_bar 1 = .ok (.iload_n 1, 1) := by decide +kernel
theorem dX8_bar_2 : decode cX8_bar 2 = .ok (.invokevirtual 55, 3) := by decide +kernel
theorem dX8_bar_5 : decode cX8_bar 5 = .ok (.astore 4, 2) := by decide +kernel
theorem dX8_bar_7 : decode cX8_bar 7 = .ok (.aload 4, 2) := by decide +kernel
theorem dX8_bar_9 : decode cX8_bar 9 = .ok (.iload_n 2, 1) := by decide +kernel
theorem dX8_bar_10 : decode cX8_bar 10 = .ok (.iload_n 3, 1) := by decide +kernel
theorem dX8_bar_11 : decode cX8_bar 11 = .ok (.invokestatic 59, 3) := by decide +kernel
theorem dX8_bar_14 : decode cX8_bar 14 = .ok (.aload_n 0, 1) := by decide +kernel
theorem dX8_bar_15 : decode cX8_bar 15 = .ok (.aload 4, 2) := by decide +kernel
theorem dX8_bar_17 : decode cX8_bar 17 = .ok (.iload_n 2, 1) := by decide +kernel
theorem dX8_bar_18 : decode cX8_bar 18 = .ok (.iload_n 3, 1) := by decide +kernel
theorem dX8_bar_19 : decode cX8_bar 19 = .ok (.invokevirtual 114, 3) := by decide +kernel
theorem dX8_bar_22 : decode cX8_bar 22 = .ok (.ireturn, 1) := by decide +kernel
theorem dX8_close_0 : decode cX8_close 0 = .ok (.aload_n 0, 1) := by decide +kernel
theorem dX8_close_1 : decode cX8_close 1 = .ok (.iload_n 1, 1) := by decide +kernel
theorem dX8_close_2 : decode cX8_close 2 = .ok (.invokevirtual 55, 3) := by decide +kernel
theorem dX8_close_5 : decode cX8_close 5 = .ok (.astore_n 3, 1) := by decide +kernel
theorem dX8_close_6 : decode cX8_close 6 = .ok (.iload_n 2, 1) := by decide +kernel
theorem dX8_close_7 : decode cX8_close 7 = .ok (.ifCond .lt 10, 3) := by decide +kernel
theorem dX8_close_10 : decode cX8_close 10 = .ok (.iload_n 2, 1) := by decide +kernel
theorem dX8_close_11 : decode cX8_close 11 = .ok (.sipush 999, 3) := by decide +kernel
theorem dX8_close_14 : decode cX8_close 14 = .ok (.if_icmp .le 13, 3) := by decide +kernel
theorem dX8_close_17 : decode cX8_close 17 = .ok (.new 67, 3) := by decide +kernel
theorem dX8_close_20 : decode cX8_close 20 = .ok (.dup, 1) := by decide +kernel
theorem dX8_close_21 : decode cX8_close 21 = .ok (.ldc 118, 2) := by decide +kernel
theorem dX8_close_23 : decode cX8_close 23 = .ok (.invokespecial 71, 3) := by decide +kernel
theorem dX8_close_26 : decode cX8_close 26 = .ok (.athrow, 1) := by decide +kernel
theorem dX8_close_27 : decode cX8_close 27 = .ok (.aload_n 3, 1) := by decide +kernel
theorem dX8_close_28 : decode cX8_close 28 = .ok (.getfield 120, 3) := by decide +kernel
theorem dX8_close_31 : decode cX8_close 31 = .ok (.istore 4, 2) := by decide +kernel
theorem dX8_close_33 : decode cX8_close 33 = .ok (.aload_n 3, 1) := by decide +kernel
theorem dX8_close_34 : decode cX8_close 34 = .ok (.iload_n 2, 1) := by decide +kernel
theorem dX8_close_35 : decode cX8_close 35 = .ok (.putfield 120, 3) := by decide +kernel
theorem dX8_close_38 : decode cX8_close 38 = .ok (.iload 4, 2) := by decide +kernel
theorem dX8_close_40 : decode cX8_close 40 = .ok (.ireturn, 1) := by decide +kernel
theorem dX8_length_0 : decode cX8_length 0 = .ok (.aload_n 0, 1) := by decide +kernel
theorem dX8_length_1 : decode cX8_length 1 = .ok (.iload_n 1, 1) := by decide +kernel
theorem dX8_length_2 : decode cX8_length 2 = .ok (.invokevirtual 55, 3) := by decide +kernel
theorem dX8_length_5 : decode cX8_length 5 = .ok (.getfield 72, 3) := by decide +kernel
theorem dX8_length_8 : decode cX8_length 8 = .ok (.getfield 76, 3) := by decide +kernel
theorem dX8_length_11 : decode cX8_length 11 = .ok (.ireturn, 1) := by decide +kernel
theorem dX8_codeAt_0 : decode cX8_codeAt 0 = .ok (.aload_n 0, 1) := by decide +kernel
theorem dX8_codeAt_1 : decode cX8_codeAt 1 = .ok (.iload_n 1, 1) := by decide +kernel
theorem dX8_codeAt_2 : decode cX8_codeAt 2 = .ok (.invokevirtual 55, 3) := by decide +kernel
theorem dX8_codeAt_5 : decode cX8_codeAt 5 = .ok (.getfield 72, 3) := by decide +kernel
theorem dX8_codeAt_8 : decode cX8_codeAt 8 = .ok (.astore_n 3, 1) := by decide +kernel
theorem dX8_codeAt_9 : decode cX8_codeAt 9 = .ok (.iload_n 2, 1) := by decide +kernel
theorem dX8_codeAt_10 : decode cX8_codeAt 10 = .ok (.ifCond .lt 11, 3) := by decide +kernel
theorem dX8_codeAt_13 : decode cX8_codeAt 13 = .ok (.iload_n 2, 1) := by decide +kernel
theorem dX8_codeAt_14 : decode cX8_codeAt 14 = .ok (.aload_n 3, 1) := by decide +kernel
theorem dX8_codeAt_15 : decode cX8_codeAt 15 = .ok (.getfield 76, 3) := by decide +kernel
theorem dX8_codeAt_18 : decode cX8_codeAt 18 = .ok (.if_icmp .lt 13, 3) := by decide +kernel
theorem dX8_codeAt_21 : decode cX8_codeAt 21 = .ok (.new 123, 3) := by decide +kernel
theorem dX8_codeAt_24 : decode cX8_codeAt 24 = .ok (.dup, 1) := by decide +kernel
theorem dX8_codeAt_25 : decode cX8_codeAt 25 = .ok (.ldc 125, 2) := by decide +kernel
theorem dX8_codeAt_27 : decode cX8_codeAt 27 = .ok (.invokespecial 127, 3) := by decide +kernel
theorem dX8_codeAt_30 : decode cX8_codeAt 30 = .ok (.athrow, 1) := by decide +kernel
theorem dX8_codeAt_31 : decode cX8_codeAt 31 = .ok (.aload_n 3, 1) := by decide +kernel
theorem dX8_codeAt_32 : decode cX8_codeAt 32 = .ok (.iload_n 2, 1) := by decide +kernel
theorem dX8_codeAt_33 : decode cX8_codeAt 33 = .ok (.invokevirtual 101, 3) := by decide +kernel
theorem dX8_codeAt_36 : decode cX8_codeAt 36 = .ok (.ireturn, 1) := by decide +kernel
theorem dX8_version_0 : decode cX8_version 0 = .ok (.aload_n 0, 1) := by decide +kernel
theorem dX8_version_1 : decode cX8_version 1 = .ok (.iload_n 1, 1) := by decide +kernel
theorem dX8_version_2 : decode cX8_version 2 = .ok (.invokevirtual 55, 3) := by decide +kernel
theorem dX8_version_5 : decode cX8_version 5 = .ok (.getfield 90, 3) := by decide +kernel
theorem dX8_version_8 : decode cX8_version 8 = .ok (.ireturn, 1) := by decide +kernel
theorem dX8_documentOf_0 : decode cX8_documentOf 0 = .ok (.iload_n 1, 1) := by decide +kernel
theorem dX8_documentOf_1 : decode cX8_documentOf 1 = .ok (.ifCond .lt 11, 3) := by decide +kernel
theorem dX8_documentOf_4 : decode cX8_documentOf 4 = .ok (.iload_n 1, 1) := by decide +kernel
theorem dX8_documentOf_5 : decode cX8_documentOf 5 = .ok (.aload_n 0, 1) := by decide +kernel
theorem dX8_documentOf_6 : decode cX8_documentOf 6 = .ok (.getfield 41, 3) := by decide +kernel
theorem dX8_documentOf_9 : decode cX8_documentOf 9 = .ok (.if_icmp .lt 13, 3) := by decide +kernel
theorem dX8_documentOf_12 : decode cX8_documentOf 12 = .ok (.new 128, 3) := by decide +kernel
theorem dX8_documentOf_15 : decode cX8_documentOf 15 = .ok (.dup, 1) := by decide +kernel
theorem dX8_documentOf_16 : decode cX8_documentOf 16 = .ok (.ldc 130, 2) := by decide +kernel
theorem dX8_documentOf_18 : decode cX8_documentOf 18 = .ok (.invokespecial 132, 3) := by decide +kernel
theorem dX8_documentOf_21 : decode cX8_documentOf 21 = .ok (.athrow, 1) := by decide +kernel
theorem dX8_documentOf_22 : decode cX8_documentOf 22 = .ok (.aload_n 0, 1) := by decide +kernel
theorem dX8_documentOf_23 : decode cX8_documentOf 23 = .ok (.getfield 11, 3) := by decide +kernel
theorem dX8_documentOf_26 : decode cX8_documentOf 26 = .ok (.iload_n 1, 1) := by decide +kernel
theorem dX8_documentOf_27 : decode cX8_documentOf 27 = .ok (.aaload, 1) := by decide +kernel
theorem dX8_documentOf_28 : decode cX8_documentOf 28 = .ok (.areturn, 1) := by decide +kernel
theorem dX8_isCode_0 : decode cX8_isCode 0 = .ok (.iload_n 0, 1) := by decide +kernel
theorem dX8_isCode_1 : decode cX8_isCode 1 = .ok (.bipush 32, 2) := by decide +kernel
theorem dX8_isCode_3 : decode cX8_isCode 3 = .ok (.if_icmp .eq 27, 3) := by decide +kernel
theorem dX8_isCode_6 : decode cX8_isCode 6 = .ok (.iload_n 0, 1) := by decide +kernel
theorem dX8_isCode_7 : decode cX8_isCode 7 = .ok (.bipush 97, 2) := by decide +kernel
theorem dX8_isCode_9 : decode cX8_isCode 9 = .ok (.if_icmp .lt 9, 3) := by decide +kernel
theorem dX8_isCode_12 : decode cX8_isCode 12 = .ok (.iload_n 0, 1) := by decide +kernel
theorem dX8_isCode_13 : decode cX8_isCode 13 = .ok (.bipush 122, 2) := by decide +kernel
theorem dX8_isCode_15 : decode cX8_isCode 15 = .ok (.if_icmp .le 15, 3) := by decide +kernel
theorem dX8_isCode_18 : decode cX8_isCode 18 = .ok (.iload_n 0, 1) := by decide +kernel
theorem dX8_isCode_19 : decode cX8_isCode 19 = .ok (.ldc 133, 2) := by decide +kernel
theorem dX8_isCode_21 : decode cX8_isCode 21 = .ok (.if_icmp .lt 13, 3) := by decide +kernel
theorem dX8_isCode_24 : decode cX8_isCode 24 = .ok (.iload_n 0, 1) := by decide +kernel
theorem dX8_isCode_25 : decode cX8_isCode 25 = .ok (.ldc 134, 2) := by decide +kernel
theorem dX8_isCode_27 : decode cX8_isCode 27 = .ok (.if_icmp .gt 7, 3) := by decide +kernel
theorem dX8_isCode_30 : decode cX8_isCode 30 = .ok (.iconst 1, 1) := by decide +kernel
theorem dX8_isCode_31 : decode cX8_isCode 31 = .ok (.goto 4, 3) := by decide +kernel
theorem dX8_isCode_34 : decode cX8_isCode 34 = .ok (.iconst 0, 1) := by decide +kernel
theorem dX8_isCode_35 : decode cX8_isCode 35 = .ok (.ireturn, 1) := by decide +kernel
theorem dX8_requirePlaceOfEdit_0 : decode cX8_requirePlaceOfEdit 0 = .ok (.iload_n 2, 1) := by decide +kernel
theorem dX8_requirePlaceOfEdit_1 : decode cX8_requirePlaceOfEdit 1 = .ok (.ifCond .eq 15, 3) := by decide +kernel
theorem dX8_requirePlaceOfEdit_4 : decode cX8_requirePlaceOfEdit 4 = .ok (.aload_n 0, 1) := by decide +kernel
theorem dX8_requirePlaceOfEdit_5 : decode cX8_requirePlaceOfEdit 5 = .ok (.getfield 72, 3) := by decide +kernel
theorem dX8_requirePlaceOfEdit_8 : decode cX8_requirePlaceOfEdit 8 = .ok (.getfield 76, 3) := by decide +kernel
theorem dX8_requirePlaceOfEdit_11 : decode cX8_requirePlaceOfEdit 11 = .ok (.iconst 1, 1) := by decide +kernel
theorem dX8_requirePlaceOfEdit_12 : decode cX8_requirePlaceOfEdit 12 = .ok (.iadd, 1) := by decide +kernel
theorem dX8_requirePlaceOfEdit_13 : decode cX8_requirePlaceOfEdit 13 = .ok (.goto 10, 3) := by decide +kernel
theorem dX8_requirePlaceOfEdit_16 : decode cX8_requirePlaceOfEdit 16 = .ok (.aload_n 0, 1) := by decide +kernel
theorem dX8_requirePlaceOfEdit_17 : decode cX8_requirePlaceOfEdit 17 = .ok (.getfield 72, 3) := by decide +kernel
theorem dX8_requirePlaceOfEdit_20 : decode cX8_requirePlaceOfEdit 20 = .ok (.getfield 76, 3) := by decide +kernel
theorem dX8_requirePlaceOfEdit_23 : decode cX8_requirePlaceOfEdit 23 = .ok (.istore_n 3, 1) := by decide +kernel
theorem dX8_requirePlaceOfEdit_24 : decode cX8_requirePlaceOfEdit 24 = .ok (.iload_n 1, 1) := by decide +kernel
theorem dX8_requirePlaceOfEdit_25 : decode cX8_requirePlaceOfEdit 25 = .ok (.ifCond .lt 8, 3) := by decide +kernel
theorem dX8_requirePlaceOfEdit_28 : decode cX8_requirePlaceOfEdit 28 = .ok (.iload_n 1, 1) := by decide +kernel
theorem dX8_requirePlaceOfEdit_29 : decode cX8_requirePlaceOfEdit 29 = .ok (.iload_n 3, 1) := by decide +kernel
theorem dX8_requirePlaceOfEdit_30 : decode cX8_requirePlaceOfEdit 30 = .ok (.if_icmp .lt 13, 3) := by decide +kernel
theorem dX8_requirePlaceOfEdit_33 : decode cX8_requirePlaceOfEdit 33 = .ok (.new 123, 3) := by decide +kernel
theorem dX8_requirePlaceOfEdit_36 : decode cX8_requirePlaceOfEdit 36 = .ok (.dup, 1) := by decide +kernel
theorem dX8_requirePlaceOfEdit_37 : decode cX8_requirePlaceOfEdit 37 = .ok (.ldc 125, 2) := by decide +kernel
theorem dX8_requirePlaceOfEdit_39 : decode cX8_requirePlaceOfEdit 39 = .ok (.invokespecial 127, 3) := by decide +kernel
theorem dX8_requirePlaceOfEdit_42 : decode cX8_requirePlaceOfEdit 42 = .ok (.athrow, 1) := by decide +kernel
theorem dX8_requirePlaceOfEdit_43 : decode cX8_requirePlaceOfEdit 43 = .ok (.return_, 1) := by decide +kernel
theorem dX8_requireNotBarred_0 : decode cX8_requireNotBarred 0 = .ok (.aload_n 0, 1) := by decide +kernel
theorem dX8_requireNotBarred_1 : decode cX8_requireNotBarred 1 = .ok (.aload_n 1, 1) := by decide +kernel
theorem dX8_requireNotBarred_2 : decode cX8_requireNotBarred 2 = .ok (.iload_n 2, 1) := by decide +kernel
theorem dX8_requireNotBarred_3 : decode cX8_requireNotBarred 3 = .ok (.iload_n 3, 1) := by decide +kernel
theorem dX8_requireNotBarred_4 : decode cX8_requireNotBarred 4 = .ok (.invokevirtual 114, 3) := by decide +kernel
theorem dX8_requireNotBarred_7 : decode cX8_requireNotBarred 7 = .ok (.bipush 45, 2) := by decide +kernel
theorem dX8_requireNotBarred_9 : decode cX8_requireNotBarred 9 = .ok (.if_icmp .eq 13, 3) := by decide +kernel
theorem dX8_requireNotBarred_12 : decode cX8_requireNotBarred 12 = .ok (.new 135, 3) := by decide +kernel
theorem dX8_requireNotBarred_15 : decode cX8_requireNotBarred 15 = .ok (.dup, 1) := by decide +kernel
theorem dX8_requireNotBarred_16 : decode cX8_requireNotBarred 16 = .ok (.ldc 137, 2) := by decide +kernel
theorem dX8_requireNotBarred_18 : decode cX8_requireNotBarred 18 = .ok (.invokespecial 139, 3) := by decide +kernel
theorem dX8_requireNotBarred_21 : decode cX8_requireNotBarred 21 = .ok (.athrow, 1) := by decide +kernel
theorem dX8_requireNotBarred_22 : decode cX8_requireNotBarred 22 = .ok (.return_, 1) := by decide +kernel
theorem dX8_barOf_0 : decode cX8_barOf 0 = .ok (.aload_n 0, 1) := by decide +kernel
theorem dX8_barOf_1 : decode cX8_barOf 1 = .ok (.getfield 140, 3) := by decide +kernel
theorem dX8_barOf_4 : decode cX8_barOf 4 = .ok (.aload_n 1, 1) := by decide +kernel
theorem dX8_barOf_5 : decode cX8_barOf 5 = .ok (.getfield 120, 3) := by decide +kernel
theorem dX8_barOf_8 : decode cX8_barOf 8 = .ok (.if_icmp .lt 6, 3) := by decide +kernel
theorem dX8_barOf_11 : decode cX8_barOf 11 = .ok (.bipush 99, 2) := by decide +kernel
theorem dX8_barOf_13 : decode cX8_barOf 13 = .ok (.ireturn, 1) := by decide +kernel
theorem dX8_barOf_14 : decode cX8_barOf 14 = .ok (.aload_n 0, 1) := by decide +kernel
theorem dX8_barOf_15 : decode cX8_barOf 15 = .ok (.aload_n 1, 1) := by decide +kernel
theorem dX8_barOf_16 : decode cX8_barOf 16 = .ok (.iload_n 2, 1) := by decide +kernel
theorem dX8_barOf_17 : decode cX8_barOf 17 = .ok (.iload_n 3, 1) := by decide +kernel
theorem dX8_barOf_18 : decode cX8_barOf 18 = .ok (.invokevirtual 143, 3) := by decide +kernel
theorem dX8_barOf_21 : decode cX8_barOf 21 = .ok (.ifCond .eq 6, 3) := by decide +kernel
theorem dX8_barOf_24 : decode cX8_barOf 24 = .ok (.bipush 102, 2) := by decide +kernel
theorem dX8_barOf_26 : decode cX8_barOf 26 = .ok (.ireturn, 1) := by decide +kernel
theorem dX8_barOf_27 : decode cX8_barOf 27 = .ok (.aload_n 0, 1) := by decide +kernel
theorem dX8_barOf_28 : decode cX8_barOf 28 = .ok (.getfield 37, 3) := by decide +kernel
theorem dX8_barOf_31 : decode cX8_barOf 31 = .ok (.aload_n 1, 1) := by decide +kernel
theorem dX8_barOf_32 : decode cX8_barOf 32 = .ok (.iload_n 2, 1) := by decide +kernel
theorem dX8_barOf_33 : decode cX8_barOf 33 = .ok (.invokevirtual 147, 3) := by decide +kernel
theorem dX8_barOf_36 : decode cX8_barOf 36 = .ok (.ifCond .eq 6, 3) := by decide +kernel
theorem dX8_barOf_39 : decode cX8_barOf 39 = .ok (.bipush 108, 2) := by decide +kernel
theorem dX8_barOf_41 : decode cX8_barOf 41 = .ok (.ireturn, 1) := by decide +kernel
theorem dX8_barOf_42 : decode cX8_barOf 42 = .ok (.bipush 45, 2) := by decide +kernel
theorem dX8_barOf_44 : decode cX8_barOf 44 = .ok (.ireturn, 1) := by decide +kernel
theorem dX8_isFrozen_0 : decode cX8_isFrozen 0 = .ok (.iconst 0, 1) := by decide +kernel
theorem dX8_isFrozen_1 : decode cX8_isFrozen 1 = .ok (.istore 4, 2) := by decide +kernel
theorem dX8_isFrozen_3 : decode cX8_isFrozen 3 = .ok (.iload 4, 2) := by decide +kernel
theorem dX8_isFrozen_5 : decode cX8_isFrozen 5 = .ok (.aload_n 0, 1) := by decide +kernel
theorem dX8_isFrozen_6 : decode cX8_isFrozen 6 = .ok (.getfield 151, 3) := by decide +kernel
theorem dX8_isFrozen_9 : decode cX8_isFrozen 9 = .ok (.if_icmp .ge 40, 3) := by decide +kernel
theorem dX8_isFrozen_12 : decode cX8_isFrozen 12 = .ok (.aload_n 0, 1) := by decide +kernel
theorem dX8_isFrozen_13 : decode cX8_isFrozen 13 = .ok (.getfield 17, 3) := by decide +kernel
theorem dX8_isFrozen_16 : decode cX8_isFrozen 16 = .ok (.iload 4, 2) := by decide +kernel
theorem dX8_isFrozen_18 : decode cX8_isFrozen 18 = .ok (.aaload, 1) := by decide +kernel
theorem dX8_isFrozen_19 : decode cX8_isFrozen 19 = .ok (.aload_n 1, 1) := by decide +kernel
theorem dX8_isFrozen_20 : decode cX8_isFrozen 20 = .ok (.invokevirtual 154, 3) := by decide +kernel
theorem dX8_isFrozen_23 : decode cX8_isFrozen 23 = .ok (.ifCond .eq 20, 3) := by decide +kernel
theorem dX8_isFrozen_26 : decode cX8_isFrozen 26 = .ok (.aload_n 0, 1) := by decide +kernel
theorem dX8_isFrozen_27 : decode cX8_isFrozen 27 = .ok (.getfield 17, 3) := by decide +kernel
theorem dX8_isFrozen_30 : decode cX8_isFrozen 30 = .ok (.iload 4, 2) := by decide +kernel
theorem dX8_isFrozen_32 : decode cX8_isFrozen 32 = .ok (.aaload, 1) := by decide +kernel
theorem dX8_isFrozen_33 : decode cX8_isFrozen 33 = .ok (.iload_n 2, 1) := by decide +kernel
theorem dX8_isFrozen_34 : decode cX8_isFrozen 34 = .ok (.iload_n 3, 1) := by decide +kernel
theorem dX8_isFrozen_35 : decode cX8_isFrozen 35 = .ok (.invokevirtual 158, 3) := by decide +kernel
theorem dX8_isFrozen_38 : decode cX8_isFrozen 38 = .ok (.ifCond .eq 5, 3) := by decide +kernel
theorem dX8_isFrozen_41 : decode cX8_isFrozen 41 = .ok (.iconst 1, 1) := by decide +kernel
theorem dX8_isFrozen_42 : decode cX8_isFrozen 42 = .ok (.ireturn, 1) := by decide +kernel
theorem dX8_isFrozen_43 : decode cX8_isFrozen 43 = .ok (.iinc 4 1, 3) := by decide +kernel
theorem dX8_isFrozen_46 : decode cX8_isFrozen 46 = .ok (.goto (-43), 3) := by decide +kernel
theorem dX8_isFrozen_49 : decode cX8_isFrozen 49 = .ok (.iconst 0, 1) := by decide +kernel
theorem dX8_isFrozen_50 : decode cX8_isFrozen 50 = .ok (.ireturn, 1) := by decide +kernel
theorem dX8_moveSpansForInsertion_0 : decode cX8_moveSpansForInsertion 0 = .ok (.iconst 0, 1) := by decide +kernel
theorem dX8_moveSpansForInsertion_1 : decode cX8_moveSpansForInsertion 1 = .ok (.istore_n 3, 1) := by decide +kernel
theorem dX8_moveSpansForInsertion_2 : decode cX8_moveSpansForInsertion 2 = .ok (.iload_n 3, 1) := by decide +kernel
theorem dX8_moveSpansForInsertion_3 : decode cX8_moveSpansForInsertion 3 = .ok (.aload_n 0, 1) := by decide +kernel
theorem dX8_moveSpansForInsertion_4 : decode cX8_moveSpansForInsertion 4 = .ok (.getfield 151, 3) := by decide +kernel
theorem dX8_moveSpansForInsertion_7 : decode cX8_moveSpansForInsertion 7 = .ok (.if_icmp .ge 45, 3) := by decide +kernel
theorem dX8_moveSpansForInsertion_10 : decode cX8_moveSpansForInsertion 10 = .ok (.aload_n 0, 1) := by decide +kernel
theorem dX8_moveSpansForInsertion_11 : decode cX8_moveSpansForInsertion 11 = .ok (.getfield 17, 3) := by decide +kernel
theorem dX8_moveSpansForInsertion_14 : decode cX8_moveSpansForInsertion 14 = .ok (.iload_n 3, 1) := by decide +kernel
theorem dX8_moveSpansForInsertion_15 : decode cX8_moveSpansForInsertion 15 = .ok (.aaload, 1) := by decide +kernel
theorem dX8_moveSpansForInsertion_16 : decode cX8_moveSpansForInsertion 16 = .ok (.aload_n 1, 1) := by decide +kernel
theorem dX8_moveSpansForInsertion_17 : decode cX8_moveSpansForInsertion 17 = .ok (.invokevirtual 154, 3) := by decide +kernel
theorem dX8_moveSpansForInsertion_20 : decode cX8_moveSpansForInsertion 20 = .ok (.ifCond .eq 26, 3) := by decide +kernel
theorem dX8_moveSpansForInsertion_23 : decode cX8_moveSpansForInsertion 23 = .ok (.iload_n 2, 1) := by decide +kernel
theorem dX8_moveSpansForInsertion_24 : decode cX8_moveSpansForInsertion 24 = .ok (.aload_n 0, 1) := by decide +kernel
theorem dX8_moveSpansForInsertion_25 : decode cX8_moveSpansForInsertion 25 = .ok (.getfield 17, 3) := by decide +kernel
theorem dX8_moveSpansForInsertion_28 : decode cX8_moveSpansForInsertion 28 = .ok (.iload_n 3, 1) := by decide +kernel
theorem dX8_moveSpansForInsertion_29 : decode cX8_moveSpansForInsertion 29 = .ok (.aaload, 1) := by decide +kernel
theorem dX8_moveSpansForInsertion_30 : decode cX8_moveSpansForInsertion 30 = .ok (.getfield 162, 3) := by decide +kernel
theorem dX8_moveSpansForInsertion_33 : decode cX8_moveSpansForInsertion 33 = .ok (.if_icmp .gt 13, 3) := by decide +kernel
theorem dX8_moveSpansForInsertion_36 : decode cX8_moveSpansForInsertion 36 = .ok (.aload_n 0, 1) := by decide +kernel
theorem dX8_moveSpansForInsertion_37 : decode cX8_moveSpansForInsertion 37 = .ok (.getfield 17, 3) := by decide +kernel
theorem dX8_moveSpansForInsertion_40 : decode cX8_moveSpansForInsertion 40 = .ok (.iload_n 3, 1) := by decide +kernel
theorem dX8_moveSpansForInsertion_41 : decode cX8_moveSpansForInsertion 41 = .ok (.aaload, 1) := by decide +kernel
theorem dX8_moveSpansForInsertion_42 : decode cX8_moveSpansForInsertion 42 = .ok (.iconst 1, 1) := by decide +kernel
theorem dX8_moveSpansForInsertion_43 : decode cX8_moveSpansForInsertion 43 = .ok (.invokevirtual 165, 3) := by decide +kernel
theorem dX8_moveSpansForInsertion_46 : decode cX8_moveSpansForInsertion 46 = .ok (.iinc 3 1, 3) := by decide +kernel
theorem dX8_moveSpansForInsertion_49 : decode cX8_moveSpansForInsertion 49 = .ok (.goto (-47), 3) := by decide +kernel
theorem dX8_moveSpansForInsertion_52 : decode cX8_moveSpansForInsertion 52 = .ok (.return_, 1) := by decide +kernel
theorem dX8_moveSpansForDeletion_0 : decode cX8_moveSpansForDeletion 0 = .ok (.iconst 0, 1) := by decide +kernel
theorem dX8_moveSpansForDeletion_1 : decode cX8_moveSpansForDeletion 1 = .ok (.istore_n 3, 1) := by decide +kernel
theorem dX8_moveSpansForDeletion_2 : decode cX8_moveSpansForDeletion 2 = .ok (.iload_n 3, 1) := by decide +kernel
theorem dX8_moveSpansForDeletion_3 : decode cX8_moveSpansForDeletion 3 = .ok (.aload_n 0, 1) := by decide +kernel
theorem dX8_moveSpansForDeletion_4 : decode cX8_moveSpansForDeletion 4 = .ok (.getfield 151, 3) := by decide +kernel
theorem dX8_moveSpansForDeletion_7 : decode cX8_moveSpansForDeletion 7 = .ok (.if_icmp .ge 45, 3) := by decide +kernel
theorem dX8_moveSpansForDeletion_10 : decode cX8_moveSpansForDeletion 10 = .ok (.aload_n 0, 1) := by decide +kernel
theorem dX8_moveSpansForDeletion_11 : decode cX8_moveSpansForDeletion 11 = .ok (.getfield 17, 3) := by decide +kernel
theorem dX8_moveSpansForDeletion_14 : decode cX8_moveSpansForDeletion 14 = .ok (.iload_n 3, 1) := by decide +kernel
theorem dX8_moveSpansForDeletion_15 : decode cX8_moveSpansForDeletion 15 = .ok (.aaload, 1) := by decide +kernel
theorem dX8_moveSpansForDeletion_16 : decode cX8_moveSpansForDeletion 16 = .ok (.aload_n 1, 1) := by decide +kernel
theorem dX8_moveSpansForDeletion_17 : decode cX8_moveSpansForDeletion 17 = .ok (.invokevirtual 154, 3) := by decide +kernel
theorem dX8_moveSpansForDeletion_20 : decode cX8_moveSpansForDeletion 20 = .ok (.ifCond .eq 26, 3) := by decide +kernel
theorem dX8_moveSpansForDeletion_23 : decode cX8_moveSpansForDeletion 23 = .ok (.iload_n 2, 1) := by decide +kernel
theorem dX8_moveSpansForDeletion_24 : decode cX8_moveSpansForDeletion 24 = .ok (.aload_n 0, 1) := by decide +kernel
theorem dX8_moveSpansForDeletion_25 : decode cX8_moveSpansForDeletion 25 = .ok (.getfield 17, 3) := by decide +kernel
theorem dX8_moveSpansForDeletion_28 : decode cX8_moveSpansForDeletion 28 = .ok (.iload_n 3, 1) := by decide +kernel
theorem dX8_moveSpansForDeletion_29 : decode cX8_moveSpansForDeletion 29 = .ok (.aaload, 1) := by decide +kernel
theorem dX8_moveSpansForDeletion_30 : decode cX8_moveSpansForDeletion 30 = .ok (.getfield 162, 3) := by decide +kernel
theorem dX8_moveSpansForDeletion_33 : decode cX8_moveSpansForDeletion 33 = .ok (.if_icmp .ge 13, 3) := by decide +kernel
theorem dX8_moveSpansForDeletion_36 : decode cX8_moveSpansForDeletion 36 = .ok (.aload_n 0, 1) := by decide +kernel
theorem dX8_moveSpansForDeletion_37 : decode cX8_moveSpansForDeletion 37 = .ok (.getfield 17, 3) := by decide +kernel
theorem dX8_moveSpansForDeletion_40 : decode cX8_moveSpansForDeletion 40 = .ok (.iload_n 3, 1) := by decide +kernel
theorem dX8_moveSpansForDeletion_41 : decode cX8_moveSpansForDeletion 41 = .ok (.aaload, 1) := by decide +kernel
theorem dX8_moveSpansForDeletion_42 : decode cX8_moveSpansForDeletion 42 = .ok (.iconst (-1), 1) := by decide +kernel
theorem dX8_moveSpansForDeletion_43 : decode cX8_moveSpansForDeletion 43 = .ok (.invokevirtual 165, 3) := by decide +kernel
theorem dX8_moveSpansForDeletion_46 : decode cX8_moveSpansForDeletion 46 = .ok (.iinc 3 1, 3) := by decide +kernel
theorem dX8_moveSpansForDeletion_49 : decode cX8_moveSpansForDeletion 49 = .ok (.goto (-47), 3) := by decide +kernel
theorem dX8_moveSpansForDeletion_52 : decode cX8_moveSpansForDeletion 52 = .ok (.return_, 1) := by decide +kernel
theorem dX8_comment_0 : decode cX8_comment 0 = .ok (.aload_n 0, 1) := by decide +kernel
theorem dX8_comment_1 : decode cX8_comment 1 = .ok (.iload_n 1, 1) := by decide +kernel
theorem dX8_comment_2 : decode cX8_comment 2 = .ok (.invokevirtual 55, 3) := by decide +kernel
theorem dX8_comment_5 : decode cX8_comment 5 = .ok (.astore 4, 2) := by decide +kernel
theorem dX8_comment_7 : decode cX8_comment 7 = .ok (.iload_n 2, 1) := by decide +kernel
theorem dX8_comment_8 : decode cX8_comment 8 = .ok (.ifCond .lt 20, 3) := by decide +kernel
theorem dX8_comment_11 : decode cX8_comment 11 = .ok (.iload_n 2, 1) := by decide +kernel
theorem dX8_comment_12 : decode cX8_comment 12 = .ok (.iload_n 3, 1) := by decide +kernel
theorem dX8_comment_13 : decode cX8_comment 13 = .ok (.if_icmp .ge 15, 3) := by decide +kernel
theorem dX8_comment_16 : decode cX8_comment 16 = .ok (.iload_n 3, 1) := by decide +kernel
theorem dX8_comment_17 : decode cX8_comment 17 = .ok (.aload 4, 2) := by decide +kernel
theorem dX8_comment_19 : decode cX8_comment 19 = .ok (.getfield 72, 3) := by decide +kernel
theorem dX8_comment_22 : decode cX8_comment 22 = .ok (.getfield 76, 3) := by decide +kernel
theorem dX8_comment_25 : decode cX8_comment 25 = .ok (.if_icmp .le 13, 3) := by decide +kernel
theorem dX8_comment_28 : decode cX8_comment 28 = .ok (.new 123, 3) := by decide +kernel
theorem dX8_comment_31 : decode cX8_comment 31 = .ok (.dup, 1) := by decide +kernel
theorem dX8_comment_32 : decode cX8_comment 32 = .ok (.ldc 168, 2) := by decide +kernel
theorem dX8_comment_34 : decode cX8_comment 34 = .ok (.invokespecial 127, 3) := by decide +kernel
theorem dX8_comment_37 : decode cX8_comment 37 = .ok (.athrow, 1) := by decide +kernel
theorem dX8_comment_38 : decode cX8_comment 38 = .ok (.aload_n 0, 1) := by decide +kernel
theorem dX8_comment_39 : decode cX8_comment 39 = .ok (.getfield 151, 3) := by decide +kernel
theorem dX8_comment_42 : decode cX8_comment 42 = .ok (.bipush 8, 2) := by decide +kernel
theorem dX8_comment_44 : decode cX8_comment 44 = .ok (.if_icmp .lt 13, 3) := by decide +kernel
theorem dX8_comment_47 : decode cX8_comment 47 = .ok (.new 45, 3) := by decide +kernel
theorem dX8_comment_50 : decode cX8_comment 50 = .ok (.dup, 1) := by decide +kernel
theorem dX8_comment_51 : decode cX8_comment 51 = .ok (.ldc 170, 2) := by decide +kernel
theorem dX8_comment_53 : decode cX8_comment 53 = .ok (.invokespecial 49, 3) := by decide +kernel
theorem dX8_comment_56 : decode cX8_comment 56 = .ok (.athrow, 1) := by decide +kernel
theorem dX8_comment_57 : decode cX8_comment 57 = .ok (.aload_n 0, 1) := by decide +kernel
theorem dX8_comment_58 : decode cX8_comment 58 = .ok (.getfield 151, 3) := by decide +kernel
theorem dX8_comment_61 : decode cX8_comment 61 = .ok (.istore 5, 2) := by decide +kernel
theorem dX8_comment_63 : decode cX8_comment 63 = .ok (.aload_n 0, 1) := by decide +kernel
theorem dX8_comment_64 : decode cX8_comment 64 = .ok (.getfield 17, 3) := by decide +kernel
theorem dX8_comment_67 : decode cX8_comment 67 = .ok (.iload 5, 2) := by decide +kernel
theorem dX8_comment_69 : decode cX8_comment 69 = .ok (.new 15, 3) := by decide +kernel
theorem dX8_comment_72 : decode cX8_comment 72 = .ok (.dup, 1) := by decide +kernel
theorem dX8_comment_73 : decode cX8_comment 73 = .ok (.aload 4, 2) := by decide +kernel
theorem dX8_comment_75 : decode cX8_comment 75 = .ok (.iload_n 2, 1) := by decide +kernel
theorem dX8_comment_76 : decode cX8_comment 76 = .ok (.iload_n 3, 1) := by decide +kernel
theorem dX8_comment_77 : decode cX8_comment 77 = .ok (.invokespecial 172, 3) := by decide +kernel
theorem dX8_comment_80 : decode cX8_comment 80 = .ok (.aastore, 1) := by decide +kernel
theorem dX8_comment_81 : decode cX8_comment 81 = .ok (.aload_n 0, 1) := by decide +kernel
theorem dX8_comment_82 : decode cX8_comment 82 = .ok (.dup, 1) := by decide +kernel
theorem dX8_comment_83 : decode cX8_comment 83 = .ok (.getfield 151, 3) := by decide +kernel
theorem dX8_comment_86 : decode cX8_comment 86 = .ok (.iconst 1, 1) := by decide +kernel
theorem dX8_comment_87 : decode cX8_comment 87 = .ok (.iadd, 1) := by decide +kernel
theorem dX8_comment_88 : decode cX8_comment 88 = .ok (.putfield 151, 3) := by decide +kernel
theorem dX8_comment_91 : decode cX8_comment 91 = .ok (.iload 5, 2) := by decide +kernel
theorem dX8_comment_93 : decode cX8_comment 93 = .ok (.ireturn, 1) := by decide +kernel
theorem dX8_answer_0 : decode cX8_answer 0 = .ok (.aload_n 0, 1) := by decide +kernel
theorem dX8_answer_1 : decode cX8_answer 1 = .ok (.iload_n 1, 1) := by decide +kernel
theorem dX8_answer_2 : decode cX8_answer 2 = .ok (.invokevirtual 175, 3) := by decide +kernel
theorem dX8_answer_5 : decode cX8_answer 5 = .ok (.astore_n 2, 1) := by decide +kernel
theorem dX8_answer_6 : decode cX8_answer 6 = .ok (.aload_n 2, 1) := by decide +kernel
theorem dX8_answer_7 : decode cX8_answer 7 = .ok (.iconst 0, 1) := by decide +kernel
theorem dX8_answer_8 : decode cX8_answer 8 = .ok (.putfield 179, 3) := by decide +kernel
theorem dX8_answer_11 : decode cX8_answer 11 = .ok (.aload_n 0, 1) := by decide +kernel
theorem dX8_answer_12 : decode cX8_answer 12 = .ok (.aload_n 2, 1) := by decide +kernel
theorem dX8_answer_13 : decode cX8_answer 13 = .ok (.getfield 183, 3) := by decide +kernel
theorem dX8_answer_16 : decode cX8_answer 16 = .ok (.invokevirtual 187, 3) := by decide +kernel
theorem dX8_answer_19 : decode cX8_answer 19 = .ok (.ireturn, 1) := by decide +kernel
theorem dX8_isOpen_0 : decode cX8_isOpen 0 = .ok (.aload_n 0, 1) := by decide +kernel
theorem dX8_isOpen_1 : decode cX8_isOpen 1 = .ok (.iload_n 1, 1) := by decide +kernel
theorem dX8_isOpen_2 : decode cX8_isOpen 2 = .ok (.invokevirtual 191, 3) := by decide +kernel
theorem dX8_isOpen_5 : decode cX8_isOpen 5 = .ok (.getfield 179, 3) := by decide +kernel
theorem dX8_isOpen_8 : decode cX8_isOpen 8 = .ok (.ireturn, 1) := by decide +kernel
theorem dX8_spanFrom_0 : decode cX8_spanFrom 0 = .ok (.aload_n 0, 1) := by decide +kernel
theorem dX8_spanFrom_1 : decode cX8_spanFrom 1 = .ok (.iload_n 1, 1) := by decide +kernel
theorem dX8_spanFrom_2 : decode cX8_spanFrom 2 = .ok (.invokevirtual 175, 3) := by decide +kernel
theorem dX8_spanFrom_5 : decode cX8_spanFrom 5 = .ok (.getfield 162, 3) := by decide +kernel
theorem dX8_spanFrom_8 : decode cX8_spanFrom 8 = .ok (.ireturn, 1) := by decide +kernel
theorem dX8_spanTo_0 : decode cX8_spanTo 0 = .ok (.aload_n 0, 1) := by decide +kernel
theorem dX8_spanTo_1 : decode cX8_spanTo 1 = .ok (.iload_n 1, 1) := by decide +kernel
theorem dX8_spanTo_2 : decode cX8_spanTo 2 = .ok (.invokevirtual 175, 3) := by decide +kernel
theorem dX8_spanTo_5 : decode cX8_spanTo 5 = .ok (.getfield 194, 3) := by decide +kernel
theorem dX8_spanTo_8 : decode cX8_spanTo 8 = .ok (.ireturn, 1) := by decide +kernel
theorem dX8_commentOf_0 : decode cX8_commentOf 0 = .ok (.iload_n 1, 1) := by decide +kernel
theorem dX8_commentOf_1 : decode cX8_commentOf 1 = .ok (.ifCond .lt 11, 3) := by decide +kernel
theorem dX8_commentOf_4 : decode cX8_commentOf 4 = .ok (.iload_n 1, 1) := by decide +kernel
theorem dX8_commentOf_5 : decode cX8_commentOf 5 = .ok (.aload_n 0, 1) := by decide +kernel
theorem dX8_commentOf_6 : decode cX8_commentOf 6 = .ok (.getfield 151, 3) := by decide +kernel
theorem dX8_commentOf_9 : decode cX8_commentOf 9 = .ok (.if_icmp .lt 13, 3) := by decide +kernel
theorem dX8_commentOf_12 : decode cX8_commentOf 12 = .ok (.new 128, 3) := by decide +kernel
theorem dX8_commentOf_15 : decode cX8_commentOf 15 = .ok (.dup, 1) := by decide +kernel
theorem dX8_commentOf_16 : decode cX8_commentOf 16 = .ok (.ldc 197, 2) := by decide +kernel
theorem dX8_commentOf_18 : decode cX8_commentOf 18 = .ok (.invokespecial 132, 3) := by decide +kernel
theorem dX8_commentOf_21 : decode cX8_commentOf 21 = .ok (.athrow, 1) := by decide +kernel
theorem dX8_commentOf_22 : decode cX8_commentOf 22 = .ok (.aload_n 0, 1) := by decide +kernel
theorem dX8_commentOf_23 : decode cX8_commentOf 23 = .ok (.getfield 17, 3) := by decide +kernel
theorem dX8_commentOf_26 : decode cX8_commentOf 26 = .ok (.iload_n 1, 1) := by decide +kernel
theorem dX8_commentOf_27 : decode cX8_commentOf 27 = .ok (.aaload, 1) := by decide +kernel
theorem dX8_commentOf_28 : decode cX8_commentOf 28 = .ok (.areturn, 1) := by decide +kernel
theorem dX8_openCommentOf_0 : decode cX8_openCommentOf 0 = .ok (.aload_n 0, 1) := by decide +kernel
theorem dX8_openCommentOf_1 : decode cX8_openCommentOf 1 = .ok (.iload_n 1, 1) := by decide +kernel
theorem dX8_openCommentOf_2 : decode cX8_openCommentOf 2 = .ok (.invokevirtual 191, 3) := by decide +kernel
theorem dX8_openCommentOf_5 : decode cX8_openCommentOf 5 = .ok (.astore_n 2, 1) := by decide +kernel
theorem dX8_openCommentOf_6 : decode cX8_openCommentOf 6 = .ok (.aload_n 2, 1) := by decide +kernel
theorem dX8_openCommentOf_7 : decode cX8_openCommentOf 7 = .ok (.getfield 179, 3) := by decide +kernel
theorem dX8_openCommentOf_10 : decode cX8_openCommentOf 10 = .ok (.ifCond .ne 13, 3) := by decide +kernel
theorem dX8_openCommentOf_13 : decode cX8_openCommentOf 13 = .ok (.new 45, 3) := by decide +kernel
theorem dX8_openCommentOf_16 : decode cX8_openCommentOf 16 = .ok (.dup, 1) := by decide +kernel
theorem dX8_openCommentOf_17 : decode cX8_openCommentOf 17 = .ok (.ldc 199, 2) := by decide +kernel
theorem dX8_openCommentOf_19 : decode cX8_openCommentOf 19 = .ok (.invokespecial 49, 3) := by decide +kernel
theorem dX8_openCommentOf_22 : decode cX8_openCommentOf 22 = .ok (.athrow, 1) := by decide +kernel
theorem dX8_openCommentOf_23 : decode cX8_openCommentOf 23 = .ok (.aload_n 2, 1) := by decide +kernel
theorem dX8_openCommentOf_24 : decode cX8_openCommentOf 24 = .ok (.areturn, 1) := by decide +kernel
theorem dX8_openCommentsOn_0 : decode cX8_openCommentsOn 0 = .ok (.iconst 0, 1) := by decide +kernel
theorem dX8_openCommentsOn_1 : decode cX8_openCommentsOn 1 = .ok (.istore_n 2, 1) := by decide +kernel
theorem dX8_openCommentsOn_2 : decode cX8_openCommentsOn 2 = .ok (.iconst 0, 1) := by decide +kernel
theorem dX8_openCommentsOn_3 : decode cX8_openCommentsOn 3 = .ok (.istore_n 3, 1) := by decide +kernel
theorem dX8_openCommentsOn_4 : decode cX8_openCommentsOn 4 = .ok (.iload_n 3, 1) := by decide +kernel
theorem dX8_openCommentsOn_5 : decode cX8_openCommentsOn 5 = .ok (.aload_n 0, 1) := by decide +kernel
theorem dX8_openCommentsOn_6 : decode cX8_openCommentsOn 6 = .ok (.getfield 151, 3) := by decide +kernel
theorem dX8_openCommentsOn_9 : decode cX8_openCommentsOn 9 = .ok (.if_icmp .ge 25, 3) := by decide +kernel
theorem dX8_openCommentsOn_12 : decode cX8_openCommentsOn 12 = .ok (.aload_n 0, 1) := by decide +kernel
theorem dX8_openCommentsOn_13 : decode cX8_openCommentsOn 13 = .ok (.getfield 17, 3) := by decide +kernel
theorem dX8_openCommentsOn_16 : decode cX8_openCommentsOn 16 = .ok (.iload_n 3, 1) := by decide +kernel
theorem dX8_openCommentsOn_17 : decode cX8_openCommentsOn 17 = .ok (.aaload, 1) := by decide +kernel
theorem dX8_openCommentsOn_18 : decode cX8_openCommentsOn 18 = .ok (.aload_n 1, 1) := by decide +kernel
theorem dX8_openCommentsOn_19 : decode cX8_openCommentsOn 19 = .ok (.invokevirtual 154, 3) := by decide +kernel
theorem dX8_openCommentsOn_22 : decode cX8_openCommentsOn 22 = .ok (.ifCond .eq 6, 3) := by decide +kernel
theorem dX8_openCommentsOn_25 : decode cX8_openCommentsOn 25 = .ok (.iinc 2 1, 3) := by decide +kernel
theorem dX8_openCommentsOn_28 : decode cX8_openCommentsOn 28 = .ok (.iinc 3 1, 3) := by decide +kernel
theorem dX8_openCommentsOn_31 : decode cX8_openCommentsOn 31 = .ok (.goto (-27), 3) := by decide +kernel
theorem dX8_openCommentsOn_34 : decode cX8_openCommentsOn 34 = .ok (.iload_n 2, 1) := by decide +kernel
theorem dX8_openCommentsOn_35 : decode cX8_openCommentsOn 35 = .ok (.ireturn, 1) := by decide +kernel
theorem dX8_sign_0 : decode cX8_sign 0 = .ok (.aload_n 0, 1) := by decide +kernel
theorem dX8_sign_1 : decode cX8_sign 1 = .ok (.iload_n 1, 1) := by decide +kernel
theorem dX8_sign_2 : decode cX8_sign 2 = .ok (.invokevirtual 55, 3) := by decide +kernel
theorem dX8_sign_5 : decode cX8_sign 5 = .ok (.astore_n 2, 1) := by decide +kernel
theorem dX8_sign_6 : decode cX8_sign 6 = .ok (.aload_n 2, 1) := by decide +kernel
theorem dX8_sign_7 : decode cX8_sign 7 = .ok (.getfield 72, 3) := by decide +kernel
theorem dX8_sign_10 : decode cX8_sign 10 = .ok (.getfield 76, 3) := by decide +kernel
theorem dX8_sign_13 : decode cX8_sign 13 = .ok (.ifCond .ne 13, 3) := by decide +kernel
theorem dX8_sign_16 : decode cX8_sign 16 = .ok (.new 45, 3) := by decide +kernel
theorem dX8_sign_19 : decode cX8_sign 19 = .ok (.dup, 1) := by decide +kernel
theorem dX8_sign_20 : decode cX8_sign 20 = .ok (.ldc 201, 2) := by decide +kernel
theorem dX8_sign_22 : decode cX8_sign 22 = .ok (.invokespecial 49, 3) := by decide +kernel
theorem dX8_sign_25 : decode cX8_sign 25 = .ok (.athrow, 1) := by decide +kernel
theorem dX8_sign_26 : decode cX8_sign 26 = .ok (.aload_n 0, 1) := by decide +kernel
theorem dX8_sign_27 : decode cX8_sign 27 = .ok (.aload_n 2, 1) := by decide +kernel
theorem dX8_sign_28 : decode cX8_sign 28 = .ok (.invokevirtual 187, 3) := by decide +kernel
theorem dX8_sign_31 : decode cX8_sign 31 = .ok (.ifCond .le 13, 3) := by decide +kernel
theorem dX8_sign_34 : decode cX8_sign 34 = .ok (.new 45, 3) := by decide +kernel
theorem dX8_sign_37 : decode cX8_sign 37 = .ok (.dup, 1) := by decide +kernel
theorem dX8_sign_38 : decode cX8_sign 38 = .ok (.ldc 203, 2) := by decide +kernel
theorem dX8_sign_40 : decode cX8_sign 40 = .ok (.invokespecial 49, 3) := by decide +kernel
theorem dX8_sign_43 : decode cX8_sign 43 = .ok (.athrow, 1) := by decide +kernel
theorem dX8_sign_44 : decode cX8_sign 44 = .ok (.aload_n 2, 1) := by decide +kernel
theorem dX8_sign_45 : decode cX8_sign 45 = .ok (.getfield 90, 3) := by decide +kernel
theorem dX8_sign_48 : decode cX8_sign 48 = .ok (.aload_n 2, 1) := by decide +kernel
theorem dX8_sign_49 : decode cX8_sign 49 = .ok (.getfield 205, 3) := by decide +kernel
theorem dX8_sign_52 : decode cX8_sign 52 = .ok (.if_icmp .ne 13, 3) := by decide +kernel
theorem dX8_sign_55 : decode cX8_sign 55 = .ok (.new 45, 3) := by decide +kernel
theorem dX8_sign_58 : decode cX8_sign 58 = .ok (.dup, 1) := by decide +kernel
theorem dX8_sign_59 : decode cX8_sign 59 = .ok (.ldc 208, 2) := by decide +kernel
theorem dX8_sign_61 : decode cX8_sign 61 = .ok (.invokespecial 49, 3) := by decide +kernel
theorem dX8_sign_64 : decode cX8_sign 64 = .ok (.athrow, 1) := by decide +kernel
theorem dX8_sign_65 : decode cX8_sign 65 = .ok (.aload_n 2, 1) := by decide +kernel
theorem dX8_sign_66 : decode cX8_sign 66 = .ok (.invokevirtual 210, 3) := by decide +kernel
theorem dX8_sign_69 : decode cX8_sign 69 = .ok (.aload_n 0, 1) := by decide +kernel
theorem dX8_sign_70 : decode cX8_sign 70 = .ok (.getfield 30, 3) := by decide +kernel
theorem dX8_sign_73 : decode cX8_sign 73 = .ok (.iload_n 1, 1) := by decide +kernel
theorem dX8_sign_74 : decode cX8_sign 74 = .ok (.invokevirtual 213, 3) := by decide +kernel
theorem dX8_sign_77 : decode cX8_sign 77 = .ok (.aload_n 2, 1) := by decide +kernel
theorem dX8_sign_78 : decode cX8_sign 78 = .ok (.getfield 216, 3) := by decide +kernel
theorem dX8_sign_81 : decode cX8_sign 81 = .ok (.ireturn, 1) := by decide +kernel
theorem dX8_signed_0 : decode cX8_signed 0 = .ok (.aload_n 0, 1) := by decide +kernel
theorem dX8_signed_1 : decode cX8_signed 1 = .ok (.iload_n 1, 1) := by decide +kernel
theorem dX8_signed_2 : decode cX8_signed 2 = .ok (.invokevirtual 219, 3) := by decide +kernel
theorem dX8_signed_5 : decode cX8_signed 5 = .ok (.getfield 205, 3) := by decide +kernel
theorem dX8_signed_8 : decode cX8_signed 8 = .ok (.ireturn, 1) := by decide +kernel
theorem dX8_sheets_0 : decode cX8_sheets 0 = .ok (.aload_n 0, 1) := by decide +kernel
theorem dX8_sheets_1 : decode cX8_sheets 1 = .ok (.iload_n 1, 1) := by decide +kernel
theorem dX8_sheets_2 : decode cX8_sheets 2 = .ok (.invokevirtual 219, 3) := by decide +kernel
theorem dX8_sheets_5 : decode cX8_sheets 5 = .ok (.getfield 216, 3) := by decide +kernel
theorem dX8_sheets_8 : decode cX8_sheets 8 = .ok (.ireturn, 1) := by decide +kernel
theorem dX8_pageOn_0 : decode cX8_pageOn 0 = .ok (.aload_n 0, 1) := by decide +kernel
theorem dX8_pageOn_1 : decode cX8_pageOn 1 = .ok (.iload_n 1, 1) := by decide +kernel
theorem dX8_pageOn_2 : decode cX8_pageOn 2 = .ok (.invokevirtual 219, 3) := by decide +kernel
theorem dX8_pageOn_5 : decode cX8_pageOn 5 = .ok (.astore 4, 2) := by decide +kernel
theorem dX8_pageOn_7 : decode cX8_pageOn 7 = .ok (.aload 4, 2) := by decide +kernel
theorem dX8_pageOn_9 : decode cX8_pageOn 9 = .ok (.iload_n 2, 1) := by decide +kernel
theorem dX8_pageOn_10 : decode cX8_pageOn 10 = .ok (.invokestatic 222, 3) := by decide +kernel
theorem dX8_pageOn_13 : decode cX8_pageOn 13 = .ok (.iload_n 3, 1) := by decide +kernel
theorem dX8_pageOn_14 : decode cX8_pageOn 14 = .ok (.ifCond .lt 8, 3) := by decide +kernel
theorem dX8_pageOn_17 : decode cX8_pageOn 17 = .ok (.iload_n 3, 1) := by decide +kernel
theorem dX8_pageOn_18 : decode cX8_pageOn 18 = .ok (.iconst 4, 1) := by decide +kernel
theorem dX8_pageOn_19 : decode cX8_pageOn 19 = .ok (.if_icmp .lt 13, 3) := by decide +kernel
theorem dX8_pageOn_22 : decode cX8_pageOn 22 = .ok (.new 123, 3) := by decide +kernel
theorem dX8_pageOn_25 : decode cX8_pageOn 25 = .ok (.dup, 1) := by decide +kernel
theorem dX8_pageOn_26 : decode cX8_pageOn 26 = .ok (.ldc 225, 2) := by decide +kernel
theorem dX8_pageOn_28 : decode cX8_pageOn 28 = .ok (.invokespecial 127, 3) := by decide +kernel
theorem dX8_pageOn_31 : decode cX8_pageOn 31 = .ok (.athrow, 1) := by decide +kernel
theorem dX8_pageOn_32 : decode cX8_pageOn 32 = .ok (.aload 4, 2) := by decide +kernel
theorem dX8_pageOn_34 : decode cX8_pageOn 34 = .ok (.getfield 216, 3) := by decide +kernel
theorem dX8_pageOn_37 : decode cX8_pageOn 37 = .ok (.iload_n 2, 1) := by decide +kernel
theorem dX8_pageOn_38 : decode cX8_pageOn 38 = .ok (.iload_n 3, 1) := by decide +kernel
theorem dX8_pageOn_39 : decode cX8_pageOn 39 = .ok (.invokestatic 227, 3) := by decide +kernel
theorem dX8_pageOn_42 : decode cX8_pageOn 42 = .ok (.ireturn, 1) := by decide +kernel
theorem dX8_shown_0 : decode cX8_shown 0 = .ok (.aload_n 0, 1) := by decide +kernel
theorem dX8_shown_1 : decode cX8_shown 1 = .ok (.iload_n 1, 1) := by decide +kernel
theorem dX8_shown_2 : decode cX8_shown 2 = .ok (.invokevirtual 219, 3) := by decide +kernel
theorem dX8_shown_5 : decode cX8_shown 5 = .ok (.astore 4, 2) := by decide +kernel
theorem dX8_shown_7 : decode cX8_shown 7 = .ok (.aload 4, 2) := by decide +kernel
theorem dX8_shown_9 : decode cX8_shown 9 = .ok (.iload_n 2, 1) := by decide +kernel
theorem dX8_shown_10 : decode cX8_shown 10 = .ok (.invokestatic 222, 3) := by decide +kernel
theorem dX8_shown_13 : decode cX8_shown 13 = .ok (.iload_n 3, 1) := by decide +kernel
theorem dX8_shown_14 : decode cX8_shown 14 = .ok (.invokestatic 233, 3) := by decide +kernel
theorem dX8_shown_17 : decode cX8_shown 17 = .ok (.aload 4, 2) := by decide +kernel
theorem dX8_shown_19 : decode cX8_shown 19 = .ok (.iload_n 2, 1) := by decide +kernel
theorem dX8_shown_20 : decode cX8_shown 20 = .ok (.iload_n 3, 1) := by decide +kernel
theorem dX8_shown_21 : decode cX8_shown 21 = .ok (.invokevirtual 236, 3) := by decide +kernel
theorem dX8_shown_24 : decode cX8_shown 24 = .ok (.ireturn, 1) := by decide +kernel
theorem dX8_shownByLog_0 : decode cX8_shownByLog 0 = .ok (.aload_n 0, 1) := by decide +kernel
theorem dX8_shownByLog_1 : decode cX8_shownByLog 1 = .ok (.iload_n 1, 1) := by decide +kernel
theorem dX8_shownByLog_2 : decode cX8_shownByLog 2 = .ok (.invokevirtual 219, 3) := by decide +kernel
theorem dX8_shownByLog_5 : decode cX8_shownByLog 5 = .ok (.astore 4, 2) := by decide +kernel
theorem dX8_shownByLog_7 : decode cX8_shownByLog 7 = .ok (.aload 4, 2) := by decide +kernel
theorem dX8_shownByLog_9 : decode cX8_shownByLog 9 = .ok (.iload_n 2, 1) := by decide +kernel
theorem dX8_shownByLog_10 : decode cX8_shownByLog 10 = .ok (.invokestatic 222, 3) := by decide +kernel
theorem dX8_shownByLog_13 : decode cX8_shownByLog 13 = .ok (.iload_n 3, 1) := by decide +kernel
theorem dX8_shownByLog_14 : decode cX8_shownByLog 14 = .ok (.invokestatic 233, 3) := by decide +kernel
theorem dX8_shownByLog_17 : decode cX8_shownByLog 17 = .ok (.aload_n 0, 1) := by decide +kernel
theorem dX8_shownByLog_18 : decode cX8_shownByLog 18 = .ok (.getfield 30, 3) := by decide +kernel
theorem dX8_shownByLog_21 : decode cX8_shownByLog 21 = .ok (.iload_n 1, 1) := by decide +kernel
theorem dX8_shownByLog_22 : decode cX8_shownByLog 22 = .ok (.iload_n 2, 1) := by decide +kernel
theorem dX8_shownByLog_23 : decode cX8_shownByLog 23 = .ok (.iload_n 3, 1) := by decide +kernel
theorem dX8_shownByLog_24 : decode cX8_shownByLog 24 = .ok (.invokevirtual 240, 3) := by decide +kernel
theorem dX8_shownByLog_27 : decode cX8_shownByLog 27 = .ok (.ireturn, 1) := by decide +kernel
theorem dX8_proofedDocumentOf_0 : decode cX8_proofedDocumentOf 0 = .ok (.aload_n 0, 1) := by decide +kernel
theorem dX8_proofedDocumentOf_1 : decode cX8_proofedDocumentOf 1 = .ok (.iload_n 1, 1) := by decide +kernel
theorem dX8_proofedDocumentOf_2 : decode cX8_proofedDocumentOf 2 = .ok (.invokevirtual 55, 3) := by decide +kernel
theorem dX8_proofedDocumentOf_5 : decode cX8_proofedDocumentOf 5 = .ok (.astore_n 2, 1) := by decide +kernel
theorem dX8_proofedDocumentOf_6 : decode cX8_proofedDocumentOf 6 = .ok (.aload_n 2, 1) := by decide +kernel
theorem dX8_proofedDocumentOf_7 : decode cX8_proofedDocumentOf 7 = .ok (.invokevirtual 242, 3) := by decide +kernel
theorem dX8_proofedDocumentOf_10 : decode cX8_proofedDocumentOf 10 = .ok (.ifCond .ne 13, 3) := by decide +kernel
theorem dX8_proofedDocumentOf_13 : decode cX8_proofedDocumentOf 13 = .ok (.new 45, 3) := by decide +kernel
theorem dX8_proofedDocumentOf_16 : decode cX8_proofedDocumentOf 16 = .ok (.dup, 1) := by decide +kernel
theorem dX8_proofedDocumentOf_17 : decode cX8_proofedDocumentOf 17 = .ok (.ldc 246, 2) := by decide +kernel
theorem dX8_proofedDocumentOf_19 : decode cX8_proofedDocumentOf 19 = .ok (.invokespecial 49, 3) := by decide +kernel
theorem dX8_proofedDocumentOf_22 : decode cX8_proofedDocumentOf 22 = .ok (.athrow, 1) := by decide +kernel
theorem dX8_proofedDocumentOf_23 : decode cX8_proofedDocumentOf 23 = .ok (.aload_n 2, 1) := by decide +kernel
theorem dX8_proofedDocumentOf_24 : decode cX8_proofedDocumentOf 24 = .ok (.areturn, 1) := by decide +kernel
theorem dX8_requireSheet_0 : decode cX8_requireSheet 0 = .ok (.iload_n 1, 1) := by decide +kernel
theorem dX8_requireSheet_1 : decode cX8_requireSheet 1 = .ok (.ifCond .lt 11, 3) := by decide +kernel
theorem dX8_requireSheet_4 : decode cX8_requireSheet 4 = .ok (.iload_n 1, 1) := by decide +kernel
theorem dX8_requireSheet_5 : decode cX8_requireSheet 5 = .ok (.aload_n 0, 1) := by decide +kernel
theorem dX8_requireSheet_6 : decode cX8_requireSheet 6 = .ok (.getfield 216, 3) := by decide +kernel
theorem dX8_requireSheet_9 : decode cX8_requireSheet 9 = .ok (.if_icmp .lt 13, 3) := by decide +kernel
theorem dX8_requireSheet_12 : decode cX8_requireSheet 12 = .ok (.new 123, 3) := by decide +kernel
theorem dX8_requireSheet_15 : decode cX8_requireSheet 15 = .ok (.dup, 1) := by decide +kernel
theorem dX8_requireSheet_16 : decode cX8_requireSheet 16 = .ok (.ldc 248, 2) := by decide +kernel
theorem dX8_requireSheet_18 : decode cX8_requireSheet 18 = .ok (.invokespecial 127, 3) := by decide +kernel
theorem dX8_requireSheet_21 : decode cX8_requireSheet 21 = .ok (.athrow, 1) := by decide +kernel
theorem dX8_requireSheet_22 : decode cX8_requireSheet 22 = .ok (.return_, 1) := by decide +kernel
theorem dX8_requireIndexOnSheet_0 : decode cX8_requireIndexOnSheet 0 = .ok (.iload_n 0, 1) := by decide +kernel
theorem dX8_requireIndexOnSheet_1 : decode cX8_requireIndexOnSheet 1 = .ok (.ifCond .lt 9, 3) := by decide +kernel
theorem dX8_requireIndexOnSheet_4 : decode cX8_requireIndexOnSheet 4 = .ok (.iload_n 0, 1) := by decide +kernel
theorem dX8_requireIndexOnSheet_5 : decode cX8_requireIndexOnSheet 5 = .ok (.bipush 32, 2) := by decide +kernel
theorem dX8_requireIndexOnSheet_7 : decode cX8_requireIndexOnSheet 7 = .ok (.if_icmp .lt 13, 3) := by decide +kernel
theorem dX8_requireIndexOnSheet_10 : decode cX8_requireIndexOnSheet 10 = .ok (.new 123, 3) := by decide +kernel
theorem dX8_requireIndexOnSheet_13 : decode cX8_requireIndexOnSheet 13 = .ok (.dup, 1) := by decide +kernel
theorem dX8_requireIndexOnSheet_14 : decode cX8_requireIndexOnSheet 14 = .ok (.ldc 250, 2) := by decide +kernel
theorem dX8_requireIndexOnSheet_16 : decode cX8_requireIndexOnSheet 16 = .ok (.invokespecial 127, 3) := by decide +kernel
theorem dX8_requireIndexOnSheet_19 : decode cX8_requireIndexOnSheet 19 = .ok (.athrow, 1) := by decide +kernel
theorem dX8_requireIndexOnSheet_20 : decode cX8_requireIndexOnSheet 20 = .ok (.return_, 1) := by decide +kernel
theorem dX8_supply_0 : decode cX8_supply 0 = .ok (.iload_n 1, 1) := by decide +kernel
theorem dX8_supply_1 : decode cX8_supply 1 = .ok (.ifCond .lt 20, 3) := by decide +kernel
theorem dX8_supply_4 : decode cX8_supply 4 = .ok (.iload_n 1, 1) := by decide +kernel
theorem dX8_supply_5 : decode cX8_supply 5 = .ok (.sipush 9999, 3) := by decide +kernel
theorem dX8_supply_8 : decode cX8_supply 8 = .ok (.if_icmp .gt 13, 3) := by decide +kernel
theorem dX8_supply_11 : decode cX8_supply 11 = .ok (.iload_n 2, 1) := by decide +kernel
theorem dX8_supply_12 : decode cX8_supply 12 = .ok (.ifCond .lt 9, 3) := by decide +kernel
theorem dX8_supply_15 : decode cX8_supply 15 = .ok (.iload_n 2, 1) := by decide +kernel
theorem dX8_supply_16 : decode cX8_supply 16 = .ok (.bipush 99, 2) := by decide +kernel
theorem dX8_supply_18 : decode cX8_supply 18 = .ok (.if_icmp .le 13, 3) := by decide +kernel
theorem dX8_supply_21 : decode cX8_supply 21 = .ok (.new 67, 3) := by decide +kernel
theorem dX8_supply_24 : decode cX8_supply 24 = .ok (.dup, 1) := by decide +kernel
theorem dX8_supply_25 : decode cX8_supply 25 = .ok (.ldc 252, 2) := by decide +kernel
theorem dX8_supply_27 : decode cX8_supply 27 = .ok (.invokespecial 71, 3) := by decide +kernel
theorem dX8_supply_30 : decode cX8_supply 30 = .ok (.athrow, 1) := by decide +kernel
theorem dX8_supply_31 : decode cX8_supply 31 = .ok (.aload_n 0, 1) := by decide +kernel
theorem dX8_supply_32 : decode cX8_supply 32 = .ok (.getfield 254, 3) := by decide +kernel
theorem dX8_supply_35 : decode cX8_supply 35 = .ok (.iload_n 1, 1) := by decide +kernel
theorem dX8_supply_36 : decode cX8_supply 36 = .ok (.iadd, 1) := by decide +kernel
theorem dX8_supply_37 : decode cX8_supply 37 = .ok (.ldc_w 257, 3) := by decide +kernel
theorem dX8_supply_40 : decode cX8_supply 40 = .ok (.if_icmp .gt 15, 3) := by decide +kernel
theorem dX8_supply_43 : decode cX8_supply 43 = .ok (.aload_n 0, 1) := by decide +kernel
theorem dX8_supply_44 : decode cX8_supply 44 = .ok (.getfield 258, 3) := by decide +kernel
theorem dX8_supply_47 : decode cX8_supply 47 = .ok (.iload_n 2, 1) := by decide +kernel
theorem dX8_supply_48 : decode cX8_supply 48 = .ok (.iadd, 1) := by decide +kernel
theorem dX8_supply_49 : decode cX8_supply 49 = .ok (.sipush 999, 3) := by decide +kernel
theorem dX8_supply_52 : decode cX8_supply 52 = .ok (.if_icmp .le 14, 3) := by decide +kernel
theorem dX8_supply_55 : decode cX8_supply 55 = .ok (.new 45, 3) := by decide +kernel
theorem dX8_supply_58 : decode cX8_supply 58 = .ok (.dup, 1) := by decide +kernel
theorem dX8_supply_59 : decode cX8_supply 59 = .ok (.ldc_w 261, 3) := by decide +kernel
theorem dX8_supply_62 : decode cX8_supply 62 = .ok (.invokespecial 49, 3) := by decide +kernel
theorem dX8_supply_65 : decode cX8_supply 65 = .ok (.athrow, 1) := by decide +kernel
theorem dX8_supply_66 : decode cX8_supply 66 = .ok (.aload_n 0, 1) := by decide +kernel
theorem dX8_supply_67 : decode cX8_supply 67 = .ok (.dup, 1) := by decide +kernel
theorem dX8_supply_68 : decode cX8_supply 68 = .ok (.getfield 254, 3) := by decide +kernel
theorem dX8_supply_71 : decode cX8_supply 71 = .ok (.iload_n 1, 1) := by decide +kernel
theorem dX8_supply_72 : decode cX8_supply 72 = .ok (.iadd, 1) := by decide +kernel
theorem dX8_supply_73 : decode cX8_supply 73 = .ok (.putfield 254, 3) := by decide +kernel
theorem dX8_supply_76 : decode cX8_supply 76 = .ok (.aload_n 0, 1) := by decide +kernel
theorem dX8_supply_77 : decode cX8_supply 77 = .ok (.dup, 1) := by decide +kernel
theorem dX8_supply_78 : decode cX8_supply 78 = .ok (.getfield 258, 3) := by decide +kernel
theorem dX8_supply_81 : decode cX8_supply 81 = .ok (.iload_n 2, 1) := by decide +kernel
theorem dX8_supply_82 : decode cX8_supply 82 = .ok (.iadd, 1) := by decide +kernel
theorem dX8_supply_83 : decode cX8_supply 83 = .ok (.putfield 258, 3) := by decide +kernel
theorem dX8_supply_86 : decode cX8_supply 86 = .ok (.aload_n 0, 1) := by decide +kernel
theorem dX8_supply_87 : decode cX8_supply 87 = .ok (.getfield 254, 3) := by decide +kernel
theorem dX8_supply_90 : decode cX8_supply 90 = .ok (.ireturn, 1) := by decide +kernel
theorem dX8_paper_0 : decode cX8_paper 0 = .ok (.aload_n 0, 1) := by decide +kernel
theorem dX8_paper_1 : decode cX8_paper 1 = .ok (.getfield 254, 3) := by decide +kernel
theorem dX8_paper_4 : decode cX8_paper 4 = .ok (.ireturn, 1) := by decide +kernel
theorem dX8_plates_0 : decode cX8_plates 0 = .ok (.aload_n 0, 1) := by decide +kernel
theorem dX8_plates_1 : decode cX8_plates 1 = .ok (.getfield 258, 3) := by decide +kernel
theorem dX8_plates_4 : decode cX8_plates 4 = .ok (.ireturn, 1) := by decide +kernel
theorem dX8_order_0 : decode cX8_order 0 = .ok (.aload_n 0, 1) := by decide +kernel
theorem dX8_order_1 : decode cX8_order 1 = .ok (.iload_n 1, 1) := by decide +kernel
theorem dX8_order_2 : decode cX8_order 2 = .ok (.invokevirtual 55, 3) := by decide +kernel
theorem dX8_order_5 : decode cX8_order 5 = .ok (.astore 4, 2) := by decide +kernel
theorem dX8_order_7 : decode cX8_order 7 = .ok (.iload_n 2, 1) := by decide +kernel
theorem dX8_order_8 : decode cX8_order 8 = .ok (.iconst 1, 1) := by decide +kernel
theorem dX8_order_9 : decode cX8_order 9 = .ok (.if_icmp .lt 21, 3) := by decide +kernel
theorem dX8_order_12 : decode cX8_order 12 = .ok (.iload_n 2, 1) := by decide +kernel
theorem dX8_order_13 : decode cX8_order 13 = .ok (.sipush 500, 3) := by decide +kernel
theorem dX8_order_16 : decode cX8_order 16 = .ok (.if_icmp .gt 14, 3) := by decide +kernel
theorem dX8_order_19 : decode cX8_order 19 = .ok (.iload_n 3, 1) := by decide +kernel
theorem dX8_order_20 : decode cX8_order 20 = .ok (.ifCond .lt 10, 3) := by decide +kernel
theorem dX8_order_23 : decode cX8_order 23 = .ok (.iload_n 3, 1) := by decide +kernel
theorem dX8_order_24 : decode cX8_order 24 = .ok (.sipush 999, 3) := by decide +kernel
theorem dX8_order_27 : decode cX8_order 27 = .ok (.if_icmp .le 13, 3) := by decide +kernel
theorem dX8_order_30 : decode cX8_order 30 = .ok (.new 67, 3) := by decide +kernel
theorem dX8_order_33 : decode cX8_order 33 = .ok (.dup, 1) := by decide +kernel
theorem dX8_order_34 : decode cX8_order 34 = .ok (.ldc 252, 2) := by decide +kernel
theorem dX8_order_36 : decode cX8_order 36 = .ok (.invokespecial 71, 3) := by decide +kernel
theorem dX8_order_39 : decode cX8_order 39 = .ok (.athrow, 1) := by decide +kernel
theorem dX8_order_40 : decode cX8_order 40 = .ok (.aload 4, 2) := by decide +kernel
theorem dX8_order_42 : decode cX8_order 42 = .ok (.invokevirtual 242, 3) := by decide +kernel
theorem dX8_order_45 : decode cX8_order 45 = .ok (.ifCond .eq 12, 3) := by decide +kernel
theorem dX8_order_48 : decode cX8_order 48 = .ok (.aload_n 0, 1) := by decide +kernel
theorem dX8_order_49 : decode cX8_order 49 = .ok (.getfield 263, 3) := by decide +kernel
theorem dX8_order_52 : decode cX8_order 52 = .ok (.bipush 6, 2) := by decide +kernel
theorem dX8_order_54 : decode cX8_order 54 = .ok (.if_icmp .lt 14, 3) := by decide +kernel
theorem dX8_order_57 : decode cX8_order 57 = .ok (.new 45, 3) := by decide +kernel
theorem dX8_order_60 : decode cX8_order 60 = .ok (.dup, 1) := by decide +kernel
theorem dX8_order_61 : decode cX8_order 61 = .ok (.ldc_w 266, 3) := by decide +kernel
theorem dX8_order_64 : decode cX8_order 64 = .ok (.invokespecial 49, 3) := by decide +kernel
theorem dX8_order_67 : decode cX8_order 67 = .ok (.athrow, 1) := by decide +kernel
theorem dX8_order_68 : decode cX8_order 68 = .ok (.iload_n 2, 1) := by decide +kernel
theorem dX8_order_69 : decode cX8_order 69 = .ok (.aload 4, 2) := by decide +kernel
theorem dX8_order_71 : decode cX8_order 71 = .ok (.getfield 216, 3) := by decide +kernel
theorem dX8_order_74 : decode cX8_order 74 = .ok (.imul, 1) := by decide +kernel
theorem dX8_order_75 : decode cX8_order 75 = .ok (.aload_n 0, 1) := by decide +kernel
theorem dX8_order_76 : decode cX8_order 76 = .ok (.invokevirtual 268, 3) := by decide +kernel
theorem dX8_order_79 : decode cX8_order 79 = .ok (.if_icmp .le 14, 3) := by decide +kernel
theorem dX8_order_82 : decode cX8_order 82 = .ok (.new 135, 3) := by decide +kernel
theorem dX8_order_85 : decode cX8_order 85 = .ok (.dup, 1) := by decide +kernel
theorem dX8_order_86 : decode cX8_order 86 = .ok (.ldc_w 272, 3) := by decide +kernel
theorem dX8_order_89 : decode cX8_order 89 = .ok (.invokespecial 139, 3) := by decide +kernel
theorem dX8_order_92 : decode cX8_order 92 = .ok (.athrow, 1) := by decide +kernel
theorem dX8_order_93 : decode cX8_order 93 = .ok (.aload_n 0, 1) := by decide +kernel
theorem dX8_order_94 : decode cX8_order 94 = .ok (.getfield 263, 3) := by decide +kernel
theorem dX8_order_97 : decode cX8_order 97 = .ok (.istore 5, 2) := by decide +kernel
theorem dX8_order_99 : decode cX8_order 99 = .ok (.aload_n 0, 1) := by decide +kernel
theorem dX8_order_100 : decode cX8_order 100 = .ok (.getfield 23, 3) := by decide +kernel
theorem dX8_order_103 : decode cX8_order 103 = .ok (.iload 5, 2) := by decide +kernel
theorem dX8_order_105 : decode cX8_order 105 = .ok (.new 21, 3) := by decide +kernel
theorem dX8_order_108 : decode cX8_order 108 = .ok (.dup, 1) := by decide +kernel
theorem dX8_order_109 : decode cX8_order 109 = .ok (.iload 5, 2) := by decide +kernel
theorem dX8_order_111 : decode cX8_order 111 = .ok (.aload 4, 2) := by decide +kernel
theorem dX8_order_113 : decode cX8_order 113 = .ok (.iload_n 2, 1) := by decide +kernel
theorem dX8_order_114 : decode cX8_order 114 = .ok (.iload_n 3, 1) := by decide +kernel
theorem dX8_order_115 : decode cX8_order 115 = .ok (.invokespecial 274, 3) := by decide +kernel
theorem dX8_order_118 : decode cX8_order 118 = .ok (.aastore, 1) := by decide +kernel
theorem dX8_order_119 : decode cX8_order 119 = .ok (.aload_n 0, 1) := by decide +kernel
theorem dX8_order_120 : decode cX8_order 120 = .ok (.dup, 1) := by decide +kernel
theorem dX8_order_121 : decode cX8_order 121 = .ok (.getfield 263, 3) := by decide +kernel
theorem dX8_order_124 : decode cX8_order 124 = .ok (.iconst 1, 1) := by decide +kernel
theorem dX8_order_125 : decode cX8_order 125 = .ok (.iadd, 1) := by decide +kernel
theorem dX8_order_126 : decode cX8_order 126 = .ok (.putfield 263, 3) := by decide +kernel
theorem dX8_order_129 : decode cX8_order 129 = .ok (.iload 5, 2) := by decide +kernel
theorem dX8_order_131 : decode cX8_order 131 = .ok (.ireturn, 1) := by decide +kernel
theorem dX8_needs_0 : decode cX8_needs 0 = .ok (.aload_n 0, 1) := by decide +kernel
theorem dX8_needs_1 : decode cX8_needs 1 = .ok (.aload_n 0, 1) := by decide +kernel
theorem dX8_needs_2 : decode cX8_needs 2 = .ok (.iload_n 1, 1) := by decide +kernel
theorem dX8_needs_3 : decode cX8_needs 3 = .ok (.invokevirtual 277, 3) := by decide +kernel
theorem dX8_needs_6 : decode cX8_needs 6 = .ok (.invokevirtual 281, 3) := by decide +kernel
theorem dX8_needs_9 : decode cX8_needs 9 = .ok (.ireturn, 1) := by decide +kernel
theorem dX8_freePaper_0 : decode cX8_freePaper 0 = .ok (.aload_n 0, 1) := by decide +kernel
theorem dX8_freePaper_1 : decode cX8_freePaper 1 = .ok (.getfield 254, 3) := by decide +kernel
theorem dX8_freePaper_4 : decode cX8_freePaper 4 = .ok (.istore_n 1, 1) := by decide +kernel
theorem dX8_freePaper_5 : decode cX8_freePaper 5 = .ok (.iconst 0, 1) := by decide +kernel
theorem dX8_freePaper_6 : decode cX8_freePaper 6 = .ok (.istore_n 2, 1) := by decide +kernel
theorem dX8_freePaper_7 : decode cX8_freePaper 7 = .ok (.iload_n 2, 1) := by decide +kernel
theorem dX8_freePaper_8 : decode cX8_freePaper 8 = .ok (.aload_n 0, 1) := by decide +kernel
theorem dX8_freePaper_9 : decode cX8_freePaper 9 = .ok (.getfield 263, 3) := by decide +kernel
theorem dX8_freePaper_12 : decode cX8_freePaper 12 = .ok (.if_icmp .ge 22, 3) := by decide +kernel
theorem dX8_freePaper_15 : decode cX8_freePaper 15 = .ok (.iload_n 1, 1) := by decide +kernel
theorem dX8_freePaper_16 : decode cX8_freePaper 16 = .ok (.aload_n 0, 1) := by decide +kernel
theorem dX8_freePaper_17 : decode cX8_freePaper 17 = .ok (.aload_n 0, 1) := by decide +kernel
theorem dX8_freePaper_18 : decode cX8_freePaper 18 = .ok (.getfield 23, 3) := by decide +kernel
theorem dX8_freePaper_21 : decode cX8_freePaper 21 = .ok (.iload_n 2, 1) := by decide +kernel
theorem dX8_freePaper_22 : decode cX8_freePaper 22 = .ok (.aaload, 1) := by decide +kernel
theorem dX8_freePaper_23 : decode cX8_freePaper 23 = .ok (.invokevirtual 281, 3) := by decide +kernel
theorem dX8_freePaper_26 : decode cX8_freePaper 26 = .ok (.isub, 1) := by decide +kernel
theorem dX8_freePaper_27 : decode cX8_freePaper 27 = .ok (.istore_n 1, 1) := by decide +kernel
theorem dX8_freePaper_28 : decode cX8_freePaper 28 = .ok (.iinc 2 1, 3) := by decide +kernel
theorem dX8_freePaper_31 : decode cX8_freePaper 31 = .ok (.goto (-24), 3) := by decide +kernel
theorem dX8_freePaper_34 : decode cX8_freePaper 34 = .ok (.iload_n 1, 1) := by decide +kernel
theorem dX8_freePaper_35 : decode cX8_freePaper 35 = .ok (.ireturn, 1) := by decide +kernel
theorem dX8_stateOf_0 : decode cX8_stateOf 0 = .ok (.aload_n 0, 1) := by decide +kernel
theorem dX8_stateOf_1 : decode cX8_stateOf 1 = .ok (.iload_n 1, 1) := by decide +kernel
theorem dX8_stateOf_2 : decode cX8_stateOf 2 = .ok (.invokevirtual 277, 3) := by decide +kernel
theorem dX8_stateOf_5 : decode cX8_stateOf 5 = .ok (.astore_n 3, 1) := by decide +kernel
theorem dX8_stateOf_6 : decode cX8_stateOf 6 = .ok (.aload_n 3, 1) := by decide +kernel
theorem dX8_stateOf_7 : decode cX8_stateOf 7 = .ok (.getfield 285, 3) := by decide +kernel
theorem dX8_stateOf_10 : decode cX8_stateOf 10 = .ok (.iload_n 2, 1) := by decide +kernel
theorem dX8_stateOf_11 : decode cX8_stateOf 11 = .ok (.invokestatic 222, 3) := by decide +kernel
theorem dX8_stateOf_14 : decode cX8_stateOf 14 = .ok (.aload_n 0, 1) := by decide +kernel
theorem dX8_stateOf_15 : decode cX8_stateOf 15 = .ok (.aload_n 3, 1) := by decide +kernel
theorem dX8_stateOf_16 : decode cX8_stateOf 16 = .ok (.iload_n 2, 1) := by decide +kernel
theorem dX8_stateOf_17 : decode cX8_stateOf 17 = .ok (.invokevirtual 286, 3) := by decide +kernel
theorem dX8_stateOf_20 : decode cX8_stateOf 20 = .ok (.ireturn, 1) := by decide +kernel
theorem dX8_isDone_0 : decode cX8_isDone 0 = .ok (.aload_n 0, 1) := by decide +kernel
theorem dX8_isDone_1 : decode cX8_isDone 1 = .ok (.aload_n 0, 1) := by decide +kernel
theorem dX8_isDone_2 : decode cX8_isDone 2 = .ok (.iload_n 1, 1) := by decide +kernel
theorem dX8_isDone_3 : decode cX8_isDone 3 = .ok (.invokevirtual 277, 3) := by decide +kernel
theorem dX8_isDone_6 : decode cX8_isDone 6 = .ok (.invokevirtual 290, 3) := by decide +kernel
theorem dX8_isDone_9 : decode cX8_isDone 9 = .ok (.ireturn, 1) := by decide +kernel
theorem dX8_lateBy_0 : decode cX8_lateBy 0 = .ok (.aload_n 0, 1) := by decide +kernel
theorem dX8_lateBy_1 : decode cX8_lateBy 1 = .ok (.iload_n 1, 1) := by decide +kernel
theorem dX8_lateBy_2 : decode cX8_lateBy 2 = .ok (.invokevirtual 277, 3) := by decide +kernel
theorem dX8_lateBy_5 : decode cX8_lateBy 5 = .ok (.astore_n 2, 1) := by decide +kernel
theorem dX8_lateBy_6 : decode cX8_lateBy 6 = .ok (.aload_n 0, 1) := by decide +kernel
theorem dX8_lateBy_7 : decode cX8_lateBy 7 = .ok (.getfield 140, 3) := by decide +kernel
theorem dX8_lateBy_10 : decode cX8_lateBy 10 = .ok (.aload_n 2, 1) := by decide +kernel
theorem dX8_lateBy_11 : decode cX8_lateBy 11 = .ok (.getfield 294, 3) := by decide +kernel
theorem dX8_lateBy_14 : decode cX8_lateBy 14 = .ok (.if_icmp .le 11, 3) := by decide +kernel
theorem dX8_lateBy_17 : decode cX8_lateBy 17 = .ok (.aload_n 0, 1) := by decide +kernel
theorem dX8_lateBy_18 : decode cX8_lateBy 18 = .ok (.aload_n 2, 1) := by decide +kernel
theorem dX8_lateBy_19 : decode cX8_lateBy 19 = .ok (.invokevirtual 290, 3) := by decide +kernel
theorem dX8_lateBy_22 : decode cX8_lateBy 22 = .ok (.ifCond .eq 5, 3) := by decide +kernel
theorem dX8_lateBy_25 : decode cX8_lateBy 25 = .ok (.iconst 0, 1) := by decide +kernel
theorem dX8_lateBy_26 : decode cX8_lateBy 26 = .ok (.ireturn, 1) := by decide +kernel
theorem dX8_lateBy_27 : decode cX8_lateBy 27 = .ok (.aload_n 0, 1) := by decide +kernel
theorem dX8_lateBy_28 : decode cX8_lateBy 28 = .ok (.getfield 140, 3) := by decide +kernel
theorem dX8_lateBy_31 : decode cX8_lateBy 31 = .ok (.aload_n 2, 1) := by decide +kernel
theorem dX8_lateBy_32 : decode cX8_lateBy 32 = .ok (.getfield 294, 3) := by decide +kernel
theorem dX8_lateBy_35 : decode cX8_lateBy 35 = .ok (.isub, 1) := by decide +kernel
theorem dX8_lateBy_36 : decode cX8_lateBy 36 = .ok (.ireturn, 1) := by decide +kernel
theorem dX8_nextOrder_0 : decode cX8_nextOrder 0 = .ok (.aconst_null, 1) := by decide +kernel
theorem dX8_nextOrder_1 : decode cX8_nextOrder 1 = .ok (.astore_n 1, 1) := by decide +kernel
theorem dX8_nextOrder_2 : decode cX8_nextOrder 2 = .ok (.iconst 0, 1) := by decide +kernel
theorem dX8_nextOrder_3 : decode cX8_nextOrder 3 = .ok (.istore_n 2, 1) := by decide +kernel
theorem dX8_nextOrder_4 : decode cX8_nextOrder 4 = .ok (.iload_n 2, 1) := by decide +kernel
theorem dX8_nextOrder_5 : decode cX8_nextOrder 5 = .ok (.aload_n 0, 1) := by decide +kernel
theorem dX8_nextOrder_6 : decode cX8_nextOrder 6 = .ok (.getfield 263, 3) := by decide +kernel
theorem dX8_nextOrder_9 : decode cX8_nextOrder 9 = .ok (.if_icmp .ge 46, 3) := by decide +kernel
theorem dX8_nextOrder_12 : decode cX8_nextOrder 12 = .ok (.aload_n 0, 1) := by decide +kernel
theorem dX8_nextOrder_13 : decode cX8_nextOrder 13 = .ok (.aload_n 0, 1) := by decide +kernel
theorem dX8_nextOrder_14 : decode cX8_nextOrder 14 = .ok (.getfield 23, 3) := by decide +kernel
theorem dX8_nextOrder_17 : decode cX8_nextOrder 17 = .ok (.iload_n 2, 1) := by decide +kernel
theorem dX8_nextOrder_18 : decode cX8_nextOrder 18 = .ok (.aaload, 1) := by decide +kernel
theorem dX8_nextOrder_19 : decode cX8_nextOrder 19 = .ok (.invokevirtual 290, 3) := by decide +kernel
theorem dX8_nextOrder_22 : decode cX8_nextOrder 22 = .ok (.ifCond .ne 27, 3) := by decide +kernel
theorem dX8_nextOrder_25 : decode cX8_nextOrder 25 = .ok (.aload_n 1, 1) := by decide +kernel
theorem dX8_nextOrder_26 : decode cX8_nextOrder 26 = .ok (.ifnull 16, 3) := by decide +kernel
theorem dX8_nextOrder_29 : decode cX8_nextOrder 29 = .ok (.aload_n 0, 1) := by decide +kernel
theorem dX8_nextOrder_30 : decode cX8_nextOrder 30 = .ok (.getfield 23, 3) := by decide +kernel
theorem dX8_nextOrder_33 : decode cX8_nextOrder 33 = .ok (.iload_n 2, 1) := by decide +kernel
theorem dX8_nextOrder_34 : decode cX8_nextOrder 34 = .ok (.aaload, 1) := by decide +kernel
theorem dX8_nextOrder_35 : decode cX8_nextOrder 35 = .ok (.aload_n 1, 1) := by decide +kernel
theorem dX8_nextOrder_36 : decode cX8_nextOrder 36 = .ok (.invokevirtual 297, 3) := by decide +kernel
theorem dX8_nextOrder_39 : decode cX8_nextOrder 39 = .ok (.ifCond .eq 10, 3) := by decide +kernel
theorem dX8_nextOrder_42 : decode cX8_nextOrder 42 = .ok (.aload_n 0, 1) := by decide +kernel
theorem dX8_nextOrder_43 : decode cX8_nextOrder 43 = .ok (.getfield 23, 3) := by decide +kernel
theorem dX8_nextOrder_46 : decode cX8_nextOrder 46 = .ok (.iload_n 2, 1) := by decide +kernel
theorem dX8_nextOrder_47 : decode cX8_nextOrder 47 = .ok (.aaload, 1) := by decide +kernel
theorem dX8_nextOrder_48 : decode cX8_nextOrder 48 = .ok (.astore_n 1, 1) := by decide +kernel
theorem dX8_nextOrder_49 : decode cX8_nextOrder 49 = .ok (.iinc 2 1, 3) := by decide +kernel
theorem dX8_nextOrder_52 : decode cX8_nextOrder 52 = .ok (.goto (-48), 3) := by decide +kernel
theorem dX8_nextOrder_55 : decode cX8_nextOrder 55 = .ok (.aload_n 1, 1) := by decide +kernel
theorem dX8_nextOrder_56 : decode cX8_nextOrder 56 = .ok (.ifnonnull 14, 3) := by decide +kernel
theorem dX8_nextOrder_59 : decode cX8_nextOrder 59 = .ok (.new 45, 3) := by decide +kernel
theorem dX8_nextOrder_62 : decode cX8_nextOrder 62 = .ok (.dup, 1) := by decide +kernel
theorem dX8_nextOrder_63 : decode cX8_nextOrder 63 = .ok (.ldc_w 300, 3) := by decide +kernel
theorem dX8_nextOrder_66 : decode cX8_nextOrder 66 = .ok (.invokespecial 49, 3) := by decide +kernel
theorem dX8_nextOrder_69 : decode cX8_nextOrder 69 = .ok (.athrow, 1) := by decide +kernel
theorem dX8_nextOrder_70 : decode cX8_nextOrder 70 = .ok (.aload_n 1, 1) := by decide +kernel
theorem dX8_nextOrder_71 : decode cX8_nextOrder 71 = .ok (.getfield 302, 3) := by decide +kernel
theorem dX8_nextOrder_74 : decode cX8_nextOrder 74 = .ok (.ireturn, 1) := by decide +kernel
theorem dX8_nextSheet_0 : decode cX8_nextSheet 0 = .ok (.aload_n 0, 1) := by decide +kernel
theorem dX8_nextSheet_1 : decode cX8_nextSheet 1 = .ok (.iload_n 1, 1) := by decide +kernel
theorem dX8_nextSheet_2 : decode cX8_nextSheet 2 = .ok (.invokevirtual 277, 3) := by decide +kernel
theorem dX8_nextSheet_5 : decode cX8_nextSheet 5 = .ok (.astore_n 2, 1) := by decide +kernel
theorem dX8_nextSheet_6 : decode cX8_nextSheet 6 = .ok (.aload_n 2, 1) := by decide +kernel
theorem dX8_nextSheet_7 : decode cX8_nextSheet 7 = .ok (.getfield 285, 3) := by decide +kernel
theorem dX8_nextSheet_10 : decode cX8_nextSheet 10 = .ok (.getfield 216, 3) := by decide +kernel
theorem dX8_nextSheet_13 : decode cX8_nextSheet 13 = .ok (.istore_n 3, 1) := by decide +kernel
theorem dX8_nextSheet_14 : decode cX8_nextSheet 14 = .ok (.iconst 0, 1) := by decide +kernel
theorem dX8_nextSheet_15 : decode cX8_nextSheet 15 = .ok (.istore 4, 2) := by decide +kernel
theorem dX8_nextSheet_17 : decode cX8_nextSheet 17 = .ok (.iload 4, 2) := by decide +kernel
theorem dX8_nextSheet_19 : decode cX8_nextSheet 19 = .ok (.iload_n 3, 1) := by decide +kernel
theorem dX8_nextSheet_20 : decode cX8_nextSheet 20 = .ok (.if_icmp .ge 25, 3) := by decide +kernel
theorem dX8_nextSheet_23 : decode cX8_nextSheet 23 = .ok (.aload_n 0, 1) := by decide +kernel
theorem dX8_nextSheet_24 : decode cX8_nextSheet 24 = .ok (.aload_n 2, 1) := by decide +kernel
theorem dX8_nextSheet_25 : decode cX8_nextSheet 25 = .ok (.iload 4, 2) := by decide +kernel
theorem dX8_nextSheet_27 : decode cX8_nextSheet 27 = .ok (.invokevirtual 286, 3) := by decide +kernel
theorem dX8_nextSheet_30 : decode cX8_nextSheet 30 = .ok (.invokestatic 305, 3) := by decide +kernel
theorem dX8_nextSheet_33 : decode cX8_nextSheet 33 = .ok (.ifCond .eq 6, 3) := by decide +kernel
theorem dX8_nextSheet_36 : decode cX8_nextSheet 36 = .ok (.iload 4, 2) := by decide +kernel
theorem dX8_nextSheet_38 : decode cX8_nextSheet 38 = .ok (.ireturn, 1) := by decide +kernel
theorem dX8_nextSheet_39 : decode cX8_nextSheet 39 = .ok (.iinc 4 1, 3) := by decide +kernel
theorem dX8_nextSheet_42 : decode cX8_nextSheet 42 = .ok (.goto (-25), 3) := by decide +kernel
theorem dX8_nextSheet_45 : decode cX8_nextSheet 45 = .ok (.new 45, 3) := by decide +kernel
theorem dX8_nextSheet_48 : decode cX8_nextSheet 48 = .ok (.dup, 1) := by decide +kernel
theorem dX8_nextSheet_49 : decode cX8_nextSheet 49 = .ok (.ldc_w 309, 3) := by decide +kernel
theorem dX8_nextSheet_52 : decode cX8_nextSheet 52 = .ok (.invokespecial 49, 3) := by decide +kernel
theorem dX8_nextSheet_55 : decode cX8_nextSheet 55 = .ok (.athrow, 1) := by decide +kernel
theorem dX8_orderOf_0 : decode cX8_orderOf 0 = .ok (.iload_n 1, 1) := by decide +kernel
theorem dX8_orderOf_1 : decode cX8_orderOf 1 = .ok (.ifCond .lt 11, 3) := by decide +kernel
theorem dX8_orderOf_4 : decode cX8_orderOf 4 = .ok (.iload_n 1, 1) := by decide +kernel
theorem dX8_orderOf_5 : decode cX8_orderOf 5 = .ok (.aload_n 0, 1) := by decide +kernel
theorem dX8_orderOf_6 : decode cX8_orderOf 6 = .ok (.getfield 263, 3) := by decide +kernel
theorem dX8_orderOf_9 : decode cX8_orderOf 9 = .ok (.if_icmp .lt 14, 3) := by decide +kernel
theorem dX8_orderOf_12 : decode cX8_orderOf 12 = .ok (.new 128, 3) := by decide +kernel
theorem dX8_orderOf_15 : decode cX8_orderOf 15 = .ok (.dup, 1) := by decide +kernel
theorem dX8_orderOf_16 : decode cX8_orderOf 16 = .ok (.ldc_w 311, 3) := by decide +kernel
theorem dX8_orderOf_19 : decode cX8_orderOf 19 = .ok (.invokespecial 132, 3) := by decide +kernel
theorem dX8_orderOf_22 : decode cX8_orderOf 22 = .ok (.athrow, 1) := by decide +kernel
theorem dX8_orderOf_23 : decode cX8_orderOf 23 = .ok (.aload_n 0, 1) := by decide +kernel
theorem dX8_orderOf_24 : decode cX8_orderOf 24 = .ok (.getfield 23, 3) := by decide +kernel
theorem dX8_orderOf_27 : decode cX8_orderOf 27 = .ok (.iload_n 1, 1) := by decide +kernel
theorem dX8_orderOf_28 : decode cX8_orderOf 28 = .ok (.aaload, 1) := by decide +kernel
theorem dX8_orderOf_29 : decode cX8_orderOf 29 = .ok (.areturn, 1) := by decide +kernel
theorem dX8_stateOn_0 : decode cX8_stateOn 0 = .ok (.aload_n 0, 1) := by decide +kernel
theorem dX8_stateOn_1 : decode cX8_stateOn 1 = .ok (.getfield 37, 3) := by decide +kernel
theorem dX8_stateOn_4 : decode cX8_stateOn 4 = .ok (.aload_n 1, 1) := by decide +kernel
theorem dX8_stateOn_5 : decode cX8_stateOn 5 = .ok (.iload_n 2, 1) := by decide +kernel
theorem dX8_stateOn_6 : decode cX8_stateOn 6 = .ok (.invokevirtual 313, 3) := by decide +kernel
theorem dX8_stateOn_9 : decode cX8_stateOn 9 = .ok (.ifCond .eq 6, 3) := by decide +kernel
theorem dX8_stateOn_12 : decode cX8_stateOn 12 = .ok (.bipush 111, 2) := by decide +kernel
theorem dX8_stateOn_14 : decode cX8_stateOn 14 = .ok (.ireturn, 1) := by decide +kernel
theorem dX8_stateOn_15 : decode cX8_stateOn 15 = .ok (.aload_n 1, 1) := by decide +kernel
theorem dX8_stateOn_16 : decode cX8_stateOn 16 = .ok (.getfield 317, 3) := by decide +kernel
theorem dX8_stateOn_19 : decode cX8_stateOn 19 = .ok (.iload_n 2, 1) := by decide +kernel
theorem dX8_stateOn_20 : decode cX8_stateOn 20 = .ok (.aaload, 1) := by decide +kernel
theorem dX8_stateOn_21 : decode cX8_stateOn 21 = .ok (.astore_n 3, 1) := by decide +kernel
theorem dX8_stateOn_22 : decode cX8_stateOn 22 = .ok (.aload_n 3, 1) := by decide +kernel
theorem dX8_stateOn_23 : decode cX8_stateOn 23 = .ok (.getfield 321, 3) := by decide +kernel
theorem dX8_stateOn_26 : decode cX8_stateOn 26 = .ok (.ifCond .ne 6, 3) := by decide +kernel
theorem dX8_stateOn_29 : decode cX8_stateOn 29 = .ok (.bipush 119, 2) := by decide +kernel
theorem dX8_stateOn_31 : decode cX8_stateOn 31 = .ok (.ireturn, 1) := by decide +kernel
theorem dX8_stateOn_32 : decode cX8_stateOn 32 = .ok (.aload_n 3, 1) := by decide +kernel
theorem dX8_stateOn_33 : decode cX8_stateOn 33 = .ok (.aload_n 1, 1) := by decide +kernel
theorem dX8_stateOn_34 : decode cX8_stateOn 34 = .ok (.getfield 285, 3) := by decide +kernel
theorem dX8_stateOn_37 : decode cX8_stateOn 37 = .ok (.iload_n 2, 1) := by decide +kernel
theorem dX8_stateOn_38 : decode cX8_stateOn 38 = .ok (.invokevirtual 326, 3) := by decide +kernel
theorem dX8_stateOn_41 : decode cX8_stateOn 41 = .ok (.ifCond .eq 8, 3) := by decide +kernel
theorem dX8_stateOn_44 : decode cX8_stateOn 44 = .ok (.bipush 112, 2) := by decide +kernel
theorem dX8_stateOn_46 : decode cX8_stateOn 46 = .ok (.goto 5, 3) := by decide +kernel
theorem dX8_stateOn_49 : decode cX8_stateOn 49 = .ok (.bipush 115, 2) := by decide +kernel
theorem dX8_stateOn_51 : decode cX8_stateOn 51 = .ok (.ireturn, 1) := by decide +kernel
theorem dX8_isToBePrinted_0 : decode cX8_isToBePrinted 0 = .ok (.iload_n 0, 1) := by decide +kernel
theorem dX8_isToBePrinted_1 : decode cX8_isToBePrinted 1 = .ok (.bipush 119, 2) := by decide +kernel
theorem dX8_isToBePrinted_3 : decode cX8_isToBePrinted 3 = .ok (.if_icmp .eq 9, 3) := by decide +kernel
theorem dX8_isToBePrinted_6 : decode cX8_isToBePrinted 6 = .ok (.iload_n 0, 1) := by decide +kernel
theorem dX8_isToBePrinted_7 : decode cX8_isToBePrinted 7 = .ok (.bipush 115, 2) := by decide +kernel
theorem dX8_isToBePrinted_9 : decode cX8_isToBePrinted 9 = .ok (.if_icmp .ne 7, 3) := by decide +kernel
theorem dX8_isToBePrinted_12 : decode cX8_isToBePrinted 12 = .ok (.iconst 1, 1) := by decide +kernel
theorem dX8_isToBePrinted_13 : decode cX8_isToBePrinted 13 = .ok (.goto 4, 3) := by decide +kernel
theorem dX8_isToBePrinted_16 : decode cX8_isToBePrinted 16 = .ok (.iconst 0, 1) := by decide +kernel
theorem dX8_isToBePrinted_17 : decode cX8_isToBePrinted 17 = .ok (.ireturn, 1) := by decide +kernel
theorem dX8_goodSheetsOf_0 : decode cX8_goodSheetsOf 0 = .ok (.aload_n 1, 1) := by decide +kernel
theorem dX8_goodSheetsOf_1 : decode cX8_goodSheetsOf 1 = .ok (.getfield 285, 3) := by decide +kernel
theorem dX8_goodSheetsOf_4 : decode cX8_goodSheetsOf 4 = .ok (.getfield 216, 3) := by decide +kernel
theorem dX8_goodSheetsOf_7 : decode cX8_goodSheetsOf 7 = .ok (.istore_n 2, 1) := by decide +kernel
theorem dX8_goodSheetsOf_8 : decode cX8_goodSheetsOf 8 = .ok (.iconst 0, 1) := by decide +kernel
theorem dX8_goodSheetsOf_9 : decode cX8_goodSheetsOf 9 = .ok (.istore_n 3, 1) := by decide +kernel
theorem dX8_goodSheetsOf_10 : decode cX8_goodSheetsOf 10 = .ok (.iconst 0, 1) := by decide +kernel
theorem dX8_goodSheetsOf_11 : decode cX8_goodSheetsOf 11 = .ok (.istore 4, 2) := by decide +kernel
theorem dX8_goodSheetsOf_13 : decode cX8_goodSheetsOf 13 = .ok (.iload 4, 2) := by decide +kernel
theorem dX8_goodSheetsOf_15 : decode cX8_goodSheetsOf 15 = .ok (.iload_n 2, 1) := by decide +kernel
theorem dX8_goodSheetsOf_16 : decode cX8_goodSheetsOf 16 = .ok (.if_icmp .ge 24, 3) := by decide +kernel
theorem dX8_goodSheetsOf_19 : decode cX8_goodSheetsOf 19 = .ok (.aload_n 0, 1) := by decide +kernel
theorem dX8_goodSheetsOf_20 : decode cX8_goodSheetsOf 20 = .ok (.aload_n 1, 1) := by decide +kernel
theorem dX8_goodSheetsOf_21 : decode cX8_goodSheetsOf 21 = .ok (.iload 4, 2) := by decide +kernel
theorem dX8_goodSheetsOf_23 : decode cX8_goodSheetsOf 23 = .ok (.invokevirtual 286, 3) := by decide +kernel
theorem dX8_goodSheetsOf_26 : decode cX8_goodSheetsOf 26 = .ok (.bipush 112, 2) := by decide +kernel
theorem dX8_goodSheetsOf_28 : decode cX8_goodSheetsOf 28 = .ok (.if_icmp .ne 6, 3) := by decide +kernel
theorem dX8_goodSheetsOf_31 : decode cX8_goodSheetsOf 31 = .ok (.iinc 3 1, 3) := by decide +kernel
theorem dX8_goodSheetsOf_34 : decode cX8_goodSheetsOf 34 = .ok (.iinc 4 1, 3) := by decide +kernel
theorem dX8_goodSheetsOf_37 : decode cX8_goodSheetsOf 37 = .ok (.goto (-24), 3) := by decide +kernel
theorem dX8_goodSheetsOf_40 : decode cX8_goodSheetsOf 40 = .ok (.iload_n 3, 1) := by decide +kernel
theorem dX8_goodSheetsOf_41 : decode cX8_goodSheetsOf 41 = .ok (.ireturn, 1) := by decide +kernel
theorem dX8_isFinished_0 : decode cX8_isFinished 0 = .ok (.aload_n 0, 1) := by decide +kernel
theorem dX8_isFinished_1 : decode cX8_isFinished 1 = .ok (.aload_n 1, 1) := by decide +kernel
theorem dX8_isFinished_2 : decode cX8_isFinished 2 = .ok (.invokevirtual 329, 3) := by decide +kernel
theorem dX8_isFinished_5 : decode cX8_isFinished 5 = .ok (.aload_n 1, 1) := by decide +kernel
theorem dX8_isFinished_6 : decode cX8_isFinished 6 = .ok (.getfield 285, 3) := by decide +kernel
theorem dX8_isFinished_9 : decode cX8_isFinished 9 = .ok (.getfield 216, 3) := by decide +kernel
theorem dX8_isFinished_12 : decode cX8_isFinished 12 = .ok (.if_icmp .ne 7, 3) := by decide +kernel
theorem dX8_isFinished_15 : decode cX8_isFinished 15 = .ok (.iconst 1, 1) := by decide +kernel
theorem dX8_isFinished_16 : decode cX8_isFinished 16 = .ok (.goto 4, 3) := by decide +kernel
theorem dX8_isFinished_19 : decode cX8_isFinished 19 = .ok (.iconst 0, 1) := by decide +kernel
theorem dX8_isFinished_20 : decode cX8_isFinished 20 = .ok (.ireturn, 1) := by decide +kernel
theorem dX8_paperNeededBy_0 : decode cX8_paperNeededBy 0 = .ok (.aload_n 1, 1) := by decide +kernel
theorem dX8_paperNeededBy_1 : decode cX8_paperNeededBy 1 = .ok (.getfield 285, 3) := by decide +kernel
theorem dX8_paperNeededBy_4 : decode cX8_paperNeededBy 4 = .ok (.getfield 216, 3) := by decide +kernel
theorem dX8_paperNeededBy_7 : decode cX8_paperNeededBy 7 = .ok (.istore_n 2, 1) := by decide +kernel
theorem dX8_paperNeededBy_8 : decode cX8_paperNeededBy 8 = .ok (.iconst 0, 1) := by decide +kernel
theorem dX8_paperNeededBy_9 : decode cX8_paperNeededBy 9 = .ok (.istore_n 3, 1) := by decide +kernel
theorem dX8_paperNeededBy_10 : decode cX8_paperNeededBy 10 = .ok (.iconst 0, 1) := by decide +kernel
theorem dX8_paperNeededBy_11 : decode cX8_paperNeededBy 11 = .ok (.istore 4, 2) := by decide +kernel
theorem dX8_paperNeededBy_13 : decode cX8_paperNeededBy 13 = .ok (.iload 4, 2) := by decide +kernel
theorem dX8_paperNeededBy_15 : decode cX8_paperNeededBy 15 = .ok (.iload_n 2, 1) := by decide +kernel
theorem dX8_paperNeededBy_16 : decode cX8_paperNeededBy 16 = .ok (.if_icmp .ge 25, 3) := by decide +kernel
theorem dX8_paperNeededBy_19 : decode cX8_paperNeededBy 19 = .ok (.aload_n 0, 1) := by decide +kernel
theorem dX8_paperNeededBy_20 : decode cX8_paperNeededBy 20 = .ok (.aload_n 1, 1) := by decide +kernel
theorem dX8_paperNeededBy_21 : decode cX8_paperNeededBy 21 = .ok (.iload 4, 2) := by decide +kernel
theorem dX8_paperNeededBy_23 : decode cX8_paperNeededBy 23 = .ok (.invokevirtual 286, 3) := by decide +kernel
theorem dX8_paperNeededBy_26 : decode cX8_paperNeededBy 26 = .ok (.invokestatic 305, 3) := by decide +kernel
theorem dX8_paperNeededBy_29 : decode cX8_paperNeededBy 29 = .ok (.ifCond .eq 6, 3) := by decide +kernel
theorem dX8_paperNeededBy_32 : decode cX8_paperNeededBy 32 = .ok (.iinc 3 1, 3) := by decide +kernel
theorem dX8_paperNeededBy_35 : decode cX8_paperNeededBy 35 = .ok (.iinc 4 1, 3) := by decide +kernel
theorem dX8_paperNeededBy_38 : decode cX8_paperNeededBy 38 = .ok (.goto (-25), 3) := by decide +kernel
theorem dX8_paperNeededBy_41 : decode cX8_paperNeededBy 41 = .ok (.aload_n 1, 1) := by decide +kernel
theorem dX8_paperNeededBy_42 : decode cX8_paperNeededBy 42 = .ok (.getfield 332, 3) := by decide +kernel
theorem dX8_paperNeededBy_45 : decode cX8_paperNeededBy 45 = .ok (.iload_n 3, 1) := by decide +kernel
theorem dX8_paperNeededBy_46 : decode cX8_paperNeededBy 46 = .ok (.imul, 1) := by decide +kernel
theorem dX8_paperNeededBy_47 : decode cX8_paperNeededBy 47 = .ok (.ireturn, 1) := by decide +kernel
theorem dX8_print_0 : decode cX8_print 0 = .ok (.aload_n 0, 1) := by decide +kernel
theorem dX8_print_1 : decode cX8_print 1 = .ok (.iload_n 1, 1) := by decide +kernel
theorem dX8_print_2 : decode cX8_print 2 = .ok (.invokevirtual 277, 3) := by decide +kernel
theorem dX8_print_5 : decode cX8_print 5 = .ok (.astore_n 3, 1) := by decide +kernel
theorem dX8_print_6 : decode cX8_print 6 = .ok (.aload_n 3, 1) := by decide +kernel
theorem dX8_print_7 : decode cX8_print 7 = .ok (.getfield 285, 3) := by decide +kernel
theorem dX8_print_10 : decode cX8_print 10 = .ok (.iload_n 2, 1) := by decide +kernel
theorem dX8_print_11 : decode cX8_print 11 = .ok (.invokestatic 222, 3) := by decide +kernel
theorem dX8_print_14 : decode cX8_print 14 = .ok (.aload_n 0, 1) := by decide +kernel
theorem dX8_print_15 : decode cX8_print 15 = .ok (.getfield 37, 3) := by decide +kernel
theorem dX8_print_18 : decode cX8_print 18 = .ok (.getfield 335, 3) := by decide +kernel
theorem dX8_print_21 : decode cX8_print 21 = .ok (.ifnonnull 14, 3) := by decide +kernel
theorem dX8_print_24 : decode cX8_print 24 = .ok (.aload_n 0, 1) := by decide +kernel
theorem dX8_print_25 : decode cX8_print 25 = .ok (.aload_n 3, 1) := by decide +kernel
theorem dX8_print_26 : decode cX8_print 26 = .ok (.iload_n 2, 1) := by decide +kernel
theorem dX8_print_27 : decode cX8_print 27 = .ok (.invokevirtual 286, 3) := by decide +kernel
theorem dX8_print_30 : decode cX8_print 30 = .ok (.bipush 112, 2) := by decide +kernel
theorem dX8_print_32 : decode cX8_print 32 = .ok (.if_icmp .ne 14, 3) := by decide +kernel
theorem dX8_print_35 : decode cX8_print 35 = .ok (.new 45, 3) := by decide +kernel
theorem dX8_print_38 : decode cX8_print 38 = .ok (.dup, 1) := by decide +kernel
theorem dX8_print_39 : decode cX8_print 39 = .ok (.ldc_w 339, 3) := by decide +kernel
theorem dX8_print_42 : decode cX8_print 42 = .ok (.invokespecial 49, 3) := by decide +kernel
theorem dX8_print_45 : decode cX8_print 45 = .ok (.athrow, 1) := by decide +kernel
theorem dX8_print_46 : decode cX8_print 46 = .ok (.aload_n 3, 1) := by decide +kernel
theorem dX8_print_47 : decode cX8_print 47 = .ok (.getfield 317, 3) := by decide +kernel
theorem dX8_print_50 : decode cX8_print 50 = .ok (.iload_n 2, 1) := by decide +kernel
theorem dX8_print_51 : decode cX8_print 51 = .ok (.aaload, 1) := by decide +kernel
theorem dX8_print_52 : decode cX8_print 52 = .ok (.astore 4, 2) := by decide +kernel
theorem dX8_print_54 : decode cX8_print 54 = .ok (.aload 4, 2) := by decide +kernel
theorem dX8_print_56 : decode cX8_print 56 = .ok (.aload_n 3, 1) := by decide +kernel
theorem dX8_print_57 : decode cX8_print 57 = .ok (.getfield 285, 3) := by decide +kernel
theorem dX8_print_60 : decode cX8_print 60 = .ok (.iload_n 2, 1) := by decide +kernel
theorem dX8_print_61 : decode cX8_print 61 = .ok (.invokevirtual 341, 3) := by decide +kernel
theorem dX8_print_64 : decode cX8_print 64 = .ok (.ifCond .ne 7, 3) := by decide +kernel
theorem dX8_print_67 : decode cX8_print 67 = .ok (.iconst 1, 1) := by decide +kernel
theorem dX8_print_68 : decode cX8_print 68 = .ok (.goto 4, 3) := by decide +kernel
theorem dX8_print_71 : decode cX8_print 71 = .ok (.iconst 0, 1) := by decide +kernel
theorem dX8_print_72 : decode cX8_print 72 = .ok (.istore 5, 2) := by decide +kernel
theorem dX8_print_74 : decode cX8_print 74 = .ok (.aload_n 0, 1) := by decide +kernel
theorem dX8_print_75 : decode cX8_print 75 = .ok (.getfield 254, 3) := by decide +kernel
theorem dX8_print_78 : decode cX8_print 78 = .ok (.aload_n 3, 1) := by decide +kernel
theorem dX8_print_79 : decode cX8_print 79 = .ok (.getfield 332, 3) := by decide +kernel
theorem dX8_print_82 : decode cX8_print 82 = .ok (.if_icmp .lt 16, 3) := by decide +kernel
theorem dX8_print_85 : decode cX8_print 85 = .ok (.iload 5, 2) := by decide +kernel
theorem dX8_print_87 : decode cX8_print 87 = .ok (.ifCond .eq 22, 3) := by decide +kernel
theorem dX8_print_90 : decode cX8_print 90 = .ok (.aload_n 0, 1) := by decide +kernel
theorem dX8_print_91 : decode cX8_print 91 = .ok (.getfield 258, 3) := by decide +kernel
theorem dX8_print_94 : decode cX8_print 94 = .ok (.iconst 1, 1) := by decide +kernel
theorem dX8_print_95 : decode cX8_print 95 = .ok (.if_icmp .ge 14, 3) := by decide +kernel
theorem dX8_print_98 : decode cX8_print 98 = .ok (.new 135, 3) := by decide +kernel
theorem dX8_print_101 : decode cX8_print 101 = .ok (.dup, 1) := by decide +kernel
theorem dX8_print_102 : decode cX8_print 102 = .ok (.ldc_w 344, 3) := by decide +kernel
theorem dX8_print_105 : decode cX8_print 105 = .ok (.invokespecial 139, 3) := by decide +kernel
theorem dX8_print_108 : decode cX8_print 108 = .ok (.athrow, 1) := by decide +kernel
theorem dX8_print_109 : decode cX8_print 109 = .ok (.aload_n 0, 1) := by decide +kernel
theorem dX8_print_110 : decode cX8_print 110 = .ok (.dup, 1) := by decide +kernel
theorem dX8_print_111 : decode cX8_print 111 = .ok (.getfield 254, 3) := by decide +kernel
theorem dX8_print_114 : decode cX8_print 114 = .ok (.aload_n 3, 1) := by decide +kernel
theorem dX8_print_115 : decode cX8_print 115 = .ok (.getfield 332, 3) := by decide +kernel
theorem dX8_print_118 : decode cX8_print 118 = .ok (.isub, 1) := by decide +kernel
theorem dX8_print_119 : decode cX8_print 119 = .ok (.putfield 254, 3) := by decide +kernel
theorem dX8_print_122 : decode cX8_print 122 = .ok (.aload_n 3, 1) := by decide +kernel
theorem dX8_print_123 : decode cX8_print 123 = .ok (.dup, 1) := by decide +kernel
theorem dX8_print_124 : decode cX8_print 124 = .ok (.getfield 346, 3) := by decide +kernel
theorem dX8_print_127 : decode cX8_print 127 = .ok (.aload_n 3, 1) := by decide +kernel
theorem dX8_print_128 : decode cX8_print 128 = .ok (.getfield 332, 3) := by decide +kernel
theorem dX8_print_131 : decode cX8_print 131 = .ok (.iadd, 1) := by decide +kernel
theorem dX8_print_132 : decode cX8_print 132 = .ok (.putfield 346, 3) := by decide +kernel
theorem dX8_print_135 : decode cX8_print 135 = .ok (.iload 5, 2) := by decide +kernel
theorem dX8_print_137 : decode cX8_print 137 = .ok (.ifCond .eq 33, 3) := by decide +kernel
theorem dX8_print_140 : decode cX8_print 140 = .ok (.aload_n 0, 1) := by decide +kernel
theorem dX8_print_141 : decode cX8_print 141 = .ok (.dup, 1) := by decide +kernel
theorem dX8_print_142 : decode cX8_print 142 = .ok (.getfield 258, 3) := by decide +kernel
theorem dX8_print_145 : decode cX8_print 145 = .ok (.iconst 1, 1) := by decide +kernel
theorem dX8_print_146 : decode cX8_print 146 = .ok (.isub, 1) := by decide +kernel
theorem dX8_print_147 : decode cX8_print 147 = .ok (.putfield 258, 3) := by decide +kernel
theorem dX8_print_150 : decode cX8_print 150 = .ok (.aload_n 3, 1) := by decide +kernel
theorem dX8_print_151 : decode cX8_print 151 = .ok (.dup, 1) := by decide +kernel
theorem dX8_print_152 : decode cX8_print 152 = .ok (.getfield 349, 3) := by decide +kernel
theorem dX8_print_155 : decode cX8_print 155 = .ok (.iconst 1, 1) := by decide +kernel
theorem dX8_print_156 : decode cX8_print 156 = .ok (.iadd, 1) := by decide +kernel
theorem dX8_print_157 : decode cX8_print 157 = .ok (.putfield 349, 3) := by decide +kernel
theorem dX8_print_160 : decode cX8_print 160 = .ok (.aload 4, 2) := by decide +kernel
theorem dX8_print_162 : decode cX8_print 162 = .ok (.aload_n 3, 1) := by decide +kernel
theorem dX8_print_163 : decode cX8_print 163 = .ok (.getfield 285, 3) := by decide +kernel
theorem dX8_print_166 : decode cX8_print 166 = .ok (.iload_n 2, 1) := by decide +kernel
theorem dX8_print_167 : decode cX8_print 167 = .ok (.invokevirtual 352, 3) := by decide +kernel
theorem dX8_print_170 : decode cX8_print 170 = .ok (.aload_n 0, 1) := by decide +kernel
theorem dX8_print_171 : decode cX8_print 171 = .ok (.getfield 37, 3) := by decide +kernel
theorem dX8_print_174 : decode cX8_print 174 = .ok (.aload_n 3, 1) := by decide +kernel
theorem dX8_print_175 : decode cX8_print 175 = .ok (.iload_n 2, 1) := by decide +kernel
theorem dX8_print_176 : decode cX8_print 176 = .ok (.aload_n 0, 1) := by decide +kernel
theorem dX8_print_177 : decode cX8_print 177 = .ok (.getfield 140, 3) := by decide +kernel
theorem dX8_print_180 : decode cX8_print 180 = .ok (.iconst 1, 1) := by decide +kernel
theorem dX8_print_181 : decode cX8_print 181 = .ok (.iadd, 1) := by decide +kernel
theorem dX8_print_182 : decode cX8_print 182 = .ok (.aload_n 3, 1) := by decide +kernel
theorem dX8_print_183 : decode cX8_print 183 = .ok (.getfield 332, 3) := by decide +kernel
theorem dX8_print_186 : decode cX8_print 186 = .ok (.bipush 100, 2) := by decide +kernel
theorem dX8_print_188 : decode cX8_print 188 = .ok (.idiv, 1) := by decide +kernel
theorem dX8_print_189 : decode cX8_print 189 = .ok (.iadd, 1) := by decide +kernel
theorem dX8_print_190 : decode cX8_print 190 = .ok (.invokevirtual 355, 3) := by decide +kernel
theorem dX8_print_193 : decode cX8_print 193 = .ok (.aload_n 0, 1) := by decide +kernel
theorem dX8_print_194 : decode cX8_print 194 = .ok (.getfield 37, 3) := by decide +kernel
theorem dX8_print_197 : decode cX8_print 197 = .ok (.getfield 359, 3) := by decide +kernel
theorem dX8_print_200 : decode cX8_print 200 = .ok (.ireturn, 1) := by decide +kernel
theorem dX8_onPress_0 : decode cX8_onPress 0 = .ok (.aload_n 0, 1) := by decide +kernel
theorem dX8_onPress_1 : decode cX8_onPress 1 = .ok (.getfield 37, 3) := by decide +kernel
theorem dX8_onPress_4 : decode cX8_onPress 4 = .ok (.getfield 335, 3) := by decide +kernel
theorem dX8_onPress_7 : decode cX8_onPress 7 = .ok (.ifnonnull 7, 3) := by decide +kernel
theorem dX8_onPress_10 : decode cX8_onPress 10 = .ok (.iconst (-1), 1) := by decide +kernel
theorem dX8_onPress_11 : decode cX8_onPress 11 = .ok (.goto 13, 3) := by decide +kernel
theorem dX8_onPress_14 : decode cX8_onPress 14 = .ok (.aload_n 0, 1) := by decide +kernel
theorem dX8_onPress_15 : decode cX8_onPress 15 = .ok (.getfield 37, 3) := by decide +kernel
theorem dX8_onPress_18 : decode cX8_onPress 18 = .ok (.getfield 335, 3) := by decide +kernel
theorem dX8_onPress_21 : decode cX8_onPress 21 = .ok (.getfield 302, 3) := by decide +kernel
theorem dX8_onPress_24 : decode cX8_onPress 24 = .ok (.ireturn, 1) := by decide +kernel
theorem dX8_pass_0 : decode cX8_pass 0 = .ok (.iload_n 1, 1) := by decide +kernel
theorem dX8_pass_1 : decode cX8_pass 1 = .ok (.iconst 1, 1) := by decide +kernel
theorem dX8_pass_2 : decode cX8_pass 2 = .ok (.if_icmp .lt 9, 3) := by decide +kernel
theorem dX8_pass_5 : decode cX8_pass 5 = .ok (.iload_n 1, 1) := by decide +kernel
theorem dX8_pass_6 : decode cX8_pass 6 = .ok (.bipush 100, 2) := by decide +kernel
theorem dX8_pass_8 : decode cX8_pass 8 = .ok (.if_icmp .le 14, 3) := by decide +kernel
theorem dX8_pass_11 : decode cX8_pass 11 = .ok (.new 67, 3) := by decide +kernel
theorem dX8_pass_14 : decode cX8_pass 14 = .ok (.dup, 1) := by decide +kernel
theorem dX8_pass_15 : decode cX8_pass 15 = .ok (.ldc_w 362, 3) := by decide +kernel
theorem dX8_pass_18 : decode cX8_pass 18 = .ok (.invokespecial 71, 3) := by decide +kernel
theorem dX8_pass_21 : decode cX8_pass 21 = .ok (.athrow, 1) := by decide +kernel
theorem dX8_pass_22 : decode cX8_pass 22 = .ok (.aload_n 0, 1) := by decide +kernel
theorem dX8_pass_23 : decode cX8_pass 23 = .ok (.getfield 140, 3) := by decide +kernel
theorem dX8_pass_26 : decode cX8_pass 26 = .ok (.iload_n 1, 1) := by decide +kernel
theorem dX8_pass_27 : decode cX8_pass 27 = .ok (.iadd, 1) := by decide +kernel
theorem dX8_pass_28 : decode cX8_pass 28 = .ok (.sipush 999, 3) := by decide +kernel
theorem dX8_pass_31 : decode cX8_pass 31 = .ok (.if_icmp .le 14, 3) := by decide +kernel
theorem dX8_pass_34 : decode cX8_pass 34 = .ok (.new 45, 3) := by decide +kernel
theorem dX8_pass_37 : decode cX8_pass 37 = .ok (.dup, 1) := by decide +kernel
theorem dX8_pass_38 : decode cX8_pass 38 = .ok (.ldc_w 364, 3) := by decide +kernel
theorem dX8_pass_41 : decode cX8_pass 41 = .ok (.invokespecial 49, 3) := by decide +kernel
theorem dX8_pass_44 : decode cX8_pass 44 = .ok (.athrow, 1) := by decide +kernel
theorem dX8_pass_45 : decode cX8_pass 45 = .ok (.aload_n 0, 1) := by decide +kernel
theorem dX8_pass_46 : decode cX8_pass 46 = .ok (.dup, 1) := by decide +kernel
theorem dX8_pass_47 : decode cX8_pass 47 = .ok (.getfield 140, 3) := by decide +kernel
theorem dX8_pass_50 : decode cX8_pass 50 = .ok (.iload_n 1, 1) := by decide +kernel
theorem dX8_pass_51 : decode cX8_pass 51 = .ok (.iadd, 1) := by decide +kernel
theorem dX8_pass_52 : decode cX8_pass 52 = .ok (.putfield 140, 3) := by decide +kernel
theorem dX8_pass_55 : decode cX8_pass 55 = .ok (.aload_n 0, 1) := by decide +kernel
theorem dX8_pass_56 : decode cX8_pass 56 = .ok (.getfield 37, 3) := by decide +kernel
theorem dX8_pass_59 : decode cX8_pass 59 = .ok (.getfield 335, 3) := by decide +kernel
theorem dX8_pass_62 : decode cX8_pass 62 = .ok (.ifnull 17, 3) := by decide +kernel
theorem dX8_pass_65 : decode cX8_pass 65 = .ok (.aload_n 0, 1) := by decide +kernel
theorem dX8_pass_66 : decode cX8_pass 66 = .ok (.getfield 37, 3) := by decide +kernel
theorem dX8_pass_69 : decode cX8_pass 69 = .ok (.getfield 359, 3) := by decide +kernel
theorem dX8_pass_72 : decode cX8_pass 72 = .ok (.aload_n 0, 1) := by decide +kernel
theorem dX8_pass_73 : decode cX8_pass 73 = .ok (.getfield 140, 3) := by decide +kernel
theorem dX8_pass_76 : decode cX8_pass 76 = .ok (.if_icmp .le 5, 3) := by decide +kernel
theorem dX8_pass_79 : decode cX8_pass 79 = .ok (.iconst 0, 1) := by decide +kernel
theorem dX8_pass_80 : decode cX8_pass 80 = .ok (.ireturn, 1) := by decide +kernel
theorem dX8_pass_81 : decode cX8_pass 81 = .ok (.aload_n 0, 1) := by decide +kernel
theorem dX8_pass_82 : decode cX8_pass 82 = .ok (.getfield 37, 3) := by decide +kernel
theorem dX8_pass_85 : decode cX8_pass 85 = .ok (.invokevirtual 366, 3) := by decide +kernel
theorem dX8_pass_88 : decode cX8_pass 88 = .ok (.iconst 1, 1) := by decide +kernel
theorem dX8_pass_89 : decode cX8_pass 89 = .ok (.ireturn, 1) := by decide +kernel
theorem dX8_hour_0 : decode cX8_hour 0 = .ok (.aload_n 0, 1) := by decide +kernel
theorem dX8_hour_1 : decode cX8_hour 1 = .ok (.getfield 140, 3) := by decide +kernel
theorem dX8_hour_4 : decode cX8_hour 4 = .ok (.ireturn, 1) := by decide +kernel
theorem dX8_plateLength_0 : decode cX8_plateLength 0 = .ok (.aload_n 0, 1) := by decide +kernel
theorem dX8_plateLength_1 : decode cX8_plateLength 1 = .ok (.iload_n 1, 1) := by decide +kernel
theorem dX8_plateLength_2 : decode cX8_plateLength 2 = .ok (.iload_n 2, 1) := by decide +kernel
theorem dX8_plateLength_3 : decode cX8_plateLength 3 = .ok (.invokevirtual 369, 3) := by decide +kernel
theorem dX8_plateLength_6 : decode cX8_plateLength 6 = .ok (.getfield 373, 3) := by decide +kernel
theorem dX8_plateLength_9 : decode cX8_plateLength 9 = .ok (.ireturn, 1) := by decide +kernel
theorem dX8_plateAt_0 : decode cX8_plateAt 0 = .ok (.aload_n 0, 1) := by decide +kernel
theorem dX8_plateAt_1 : decode cX8_plateAt 1 = .ok (.iload_n 1, 1) := by decide +kernel
theorem dX8_plateAt_2 : decode cX8_plateAt 2 = .ok (.iload_n 2, 1) := by decide +kernel
theorem dX8_plateAt_3 : decode cX8_plateAt 3 = .ok (.invokevirtual 369, 3) := by decide +kernel
theorem dX8_plateAt_6 : decode cX8_plateAt 6 = .ok (.astore 4, 2) := by decide +kernel
theorem dX8_plateAt_8 : decode cX8_plateAt 8 = .ok (.iload_n 3, 1) := by decide +kernel
theorem dX8_plateAt_9 : decode cX8_plateAt 9 = .ok (.ifCond .lt 12, 3) := by decide +kernel
theorem dX8_plateAt_12 : decode cX8_plateAt 12 = .ok (.iload_n 3, 1) := by decide +kernel
theorem dX8_plateAt_13 : decode cX8_plateAt 13 = .ok (.aload 4, 2) := by decide +kernel
theorem dX8_plateAt_15 : decode cX8_plateAt 15 = .ok (.getfield 373, 3) := by decide +kernel
theorem dX8_plateAt_18 : decode cX8_plateAt 18 = .ok (.if_icmp .lt 13, 3) := by decide +kernel
theorem dX8_plateAt_21 : decode cX8_plateAt 21 = .ok (.new 45, 3) := by decide +kernel
theorem dX8_plateAt_24 : decode cX8_plateAt 24 = .ok (.dup, 1) := by decide +kernel
theorem dX8_plateAt_25 : decode cX8_plateAt 25 = .ok (.ldc 250, 2) := by decide +kernel
theorem dX8_plateAt_27 : decode cX8_plateAt 27 = .ok (.invokespecial 49, 3) := by decide +kernel
theorem dX8_plateAt_30 : decode cX8_plateAt 30 = .ok (.athrow, 1) := by decide +kernel
theorem dX8_plateAt_31 : decode cX8_plateAt 31 = .ok (.aload 4, 2) := by decide +kernel
theorem dX8_plateAt_33 : decode cX8_plateAt 33 = .ok (.getfield 376, 3) := by decide +kernel
theorem dX8_plateAt_36 : decode cX8_plateAt 36 = .ok (.iload_n 3, 1) := by decide +kernel
theorem dX8_plateAt_37 : decode cX8_plateAt 37 = .ok (.iaload, 1) := by decide +kernel
theorem dX8_plateAt_38 : decode cX8_plateAt 38 = .ok (.ireturn, 1) := by decide +kernel
theorem dX8_platedRecordOf_0 : decode cX8_platedRecordOf 0 = .ok (.aload_n 0, 1) := by decide +kernel
theorem dX8_platedRecordOf_1 : decode cX8_platedRecordOf 1 = .ok (.iload_n 1, 1) := by decide +kernel
theorem dX8_platedRecordOf_2 : decode cX8_platedRecordOf 2 = .ok (.invokevirtual 277, 3) := by decide +kernel
theorem dX8_platedRecordOf_5 : decode cX8_platedRecordOf 5 = .ok (.astore_n 3, 1) := by decide +kernel
theorem dX8_platedRecordOf_6 : decode cX8_platedRecordOf 6 = .ok (.aload_n 3, 1) := by decide +kernel
theorem dX8_platedRecordOf_7 : decode cX8_platedRecordOf 7 = .ok (.getfield 285, 3) := by decide +kernel
theorem dX8_platedRecordOf_10 : decode cX8_platedRecordOf 10 = .ok (.iload_n 2, 1) := by decide +kernel
theorem dX8_platedRecordOf_11 : decode cX8_platedRecordOf 11 = .ok (.invokestatic 222, 3) := by decide +kernel
theorem dX8_platedRecordOf_14 : decode cX8_platedRecordOf 14 = .ok (.aload_n 3, 1) := by decide +kernel
theorem dX8_platedRecordOf_15 : decode cX8_platedRecordOf 15 = .ok (.getfield 317, 3) := by decide +kernel
theorem dX8_platedRecordOf_18 : decode cX8_platedRecordOf 18 = .ok (.iload_n 2, 1) := by decide +kernel
theorem dX8_platedRecordOf_19 : decode cX8_platedRecordOf 19 = .ok (.aaload, 1) := by decide +kernel
theorem dX8_platedRecordOf_20 : decode cX8_platedRecordOf 20 = .ok (.astore 4, 2) := by decide +kernel
theorem dX8_platedRecordOf_22 : decode cX8_platedRecordOf 22 = .ok (.aload 4, 2) := by decide +kernel
theorem dX8_platedRecordOf_24 : decode cX8_platedRecordOf 24 = .ok (.getfield 380, 3) := by decide +kernel
theorem dX8_platedRecordOf_27 : decode cX8_platedRecordOf 27 = .ok (.ifCond .ne 14, 3) := by decide +kernel
theorem dX8_platedRecordOf_30 : decode cX8_platedRecordOf 30 = .ok (.new 45, 3) := by decide +kernel
theorem dX8_platedRecordOf_33 : decode cX8_platedRecordOf 33 = .ok (.dup, 1) := by decide +kernel
theorem dX8_platedRecordOf_34 : decode cX8_platedRecordOf 34 = .ok (.ldc_w 383, 3) := by decide +kernel
theorem dX8_platedRecordOf_37 : decode cX8_platedRecordOf 37 = .ok (.invokespecial 49, 3) := by decide +kernel
theorem dX8_platedRecordOf_40 : decode cX8_platedRecordOf 40 = .ok (.athrow, 1) := by decide +kernel
theorem dX8_platedRecordOf_41 : decode cX8_platedRecordOf 41 = .ok (.aload 4, 2) := by decide +kernel
theorem dX8_platedRecordOf_43 : decode cX8_platedRecordOf 43 = .ok (.areturn, 1) := by decide +kernel
theorem dX8_platesFor_0 : decode cX8_platesFor 0 = .ok (.aload_n 0, 1) := by decide +kernel
theorem dX8_platesFor_1 : decode cX8_platesFor 1 = .ok (.iload_n 1, 1) := by decide +kernel
theorem dX8_platesFor_2 : decode cX8_platesFor 2 = .ok (.invokevirtual 277, 3) := by decide +kernel
theorem dX8_platesFor_5 : decode cX8_platesFor 5 = .ok (.getfield 349, 3) := by decide +kernel
theorem dX8_platesFor_8 : decode cX8_platesFor 8 = .ok (.ireturn, 1) := by decide +kernel
theorem dX8_wasted_0 : decode cX8_wasted 0 = .ok (.aload_n 0, 1) := by decide +kernel
theorem dX8_wasted_1 : decode cX8_wasted 1 = .ok (.iload_n 1, 1) := by decide +kernel
theorem dX8_wasted_2 : decode cX8_wasted 2 = .ok (.invokevirtual 277, 3) := by decide +kernel
theorem dX8_wasted_5 : decode cX8_wasted 5 = .ok (.getfield 385, 3) := by decide +kernel
theorem dX8_wasted_8 : decode cX8_wasted 8 = .ok (.ireturn, 1) := by decide +kernel
theorem dX8_cost_0 : decode cX8_cost 0 = .ok (.aload_n 0, 1) := by decide +kernel
theorem dX8_cost_1 : decode cX8_cost 1 = .ok (.iload_n 1, 1) := by decide +kernel
theorem dX8_cost_2 : decode cX8_cost 2 = .ok (.invokevirtual 277, 3) := by decide +kernel
theorem dX8_cost_5 : decode cX8_cost 5 = .ok (.astore_n 2, 1) := by decide +kernel
theorem dX8_cost_6 : decode cX8_cost 6 = .ok (.ldc2_w 388, 3) := by decide +kernel
theorem dX8_cost_9 : decode cX8_cost 9 = .ok (.aload_n 2, 1) := by decide +kernel
theorem dX8_cost_10 : decode cX8_cost 10 = .ok (.getfield 346, 3) := by decide +kernel
theorem dX8_cost_13 : decode cX8_cost 13 = .ok (.i2l, 1) := by decide +kernel
theorem dX8_cost_14 : decode cX8_cost 14 = .ok (.lmul, 1) := by decide +kernel
theorem dX8_cost_15 : decode cX8_cost 15 = .ok (.ldc2_w 390, 3) := by decide +kernel
theorem dX8_cost_18 : decode cX8_cost 18 = .ok (.aload_n 2, 1) := by decide +kernel
theorem dX8_cost_19 : decode cX8_cost 19 = .ok (.getfield 349, 3) := by decide +kernel
theorem dX8_cost_22 : decode cX8_cost 22 = .ok (.i2l, 1) := by decide +kernel
theorem dX8_cost_23 : decode cX8_cost 23 = .ok (.lmul, 1) := by decide +kernel
theorem dX8_cost_24 : decode cX8_cost 24 = .ok (.ladd, 1) := by decide +kernel
theorem dX8_cost_25 : decode cX8_cost 25 = .ok (.lreturn, 1) := by decide +kernel
theorem dX8_goodShare_0 : decode cX8_goodShare 0 = .ok (.iconst 0, 1) := by decide +kernel
theorem dX8_goodShare_1 : decode cX8_goodShare 1 = .ok (.istore_n 1, 1) := by decide +kernel
theorem dX8_goodShare_2 : decode cX8_goodShare 2 = .ok (.iconst 0, 1) := by decide +kernel
theorem dX8_goodShare_3 : decode cX8_goodShare 3 = .ok (.istore_n 2, 1) := by decide +kernel
theorem dX8_goodShare_4 : decode cX8_goodShare 4 = .ok (.iconst 0, 1) := by decide +kernel
theorem dX8_goodShare_5 : decode cX8_goodShare 5 = .ok (.istore_n 3, 1) := by decide +kernel
theorem dX8_goodShare_6 : decode cX8_goodShare 6 = .ok (.iload_n 3, 1) := by decide +kernel
theorem dX8_goodShare_7 : decode cX8_goodShare 7 = .ok (.aload_n 0, 1) := by decide +kernel
theorem dX8_goodShare_8 : decode cX8_goodShare 8 = .ok (.getfield 263, 3) := by decide +kernel
theorem dX8_goodShare_11 : decode cX8_goodShare 11 = .ok (.if_icmp .ge 37, 3) := by decide +kernel
theorem dX8_goodShare_14 : decode cX8_goodShare 14 = .ok (.iload_n 1, 1) := by decide +kernel
theorem dX8_goodShare_15 : decode cX8_goodShare 15 = .ok (.aload_n 0, 1) := by decide +kernel
theorem dX8_goodShare_16 : decode cX8_goodShare 16 = .ok (.aload_n 0, 1) := by decide +kernel
theorem dX8_goodShare_17 : decode cX8_goodShare 17 = .ok (.getfield 23, 3) := by decide +kernel
theorem dX8_goodShare_20 : decode cX8_goodShare 20 = .ok (.iload_n 3, 1) := by decide +kernel
theorem dX8_goodShare_21 : decode cX8_goodShare 21 = .ok (.aaload, 1) := by decide +kernel
theorem dX8_goodShare_22 : decode cX8_goodShare 22 = .ok (.invokevirtual 329, 3) := by decide +kernel
theorem dX8_goodShare_25 : decode cX8_goodShare 25 = .ok (.iadd, 1) := by decide +kernel
theorem dX8_goodShare_26 : decode cX8_goodShare 26 = .ok (.istore_n 1, 1) := by decide +kernel
theorem dX8_goodShare_27 : decode cX8_goodShare 27 = .ok (.iload_n 2, 1) := by decide +kernel
theorem dX8_goodShare_28 : decode cX8_goodShare 28 = .ok (.aload_n 0, 1) := by decide +kernel
theorem dX8_goodShare_29 : decode cX8_goodShare 29 = .ok (.getfield 23, 3) := by decide +kernel
theorem dX8_goodShare_32 : decode cX8_goodShare 32 = .ok (.iload_n 3, 1) := by decide +kernel
theorem dX8_goodShare_33 : decode cX8_goodShare 33 = .ok (.aaload, 1) := by decide +kernel
theorem dX8_goodShare_34 : decode cX8_goodShare 34 = .ok (.getfield 285, 3) := by decide +kernel
theorem dX8_goodShare_37 : decode cX8_goodShare 37 = .ok (.getfield 216, 3) := by decide +kernel
theorem dX8_goodShare_40 : decode cX8_goodShare 40 = .ok (.iadd, 1) := by decide +kernel
theorem dX8_goodShare_41 : decode cX8_goodShare 41 = .ok (.istore_n 2, 1) := by decide +kernel
theorem dX8_goodShare_42 : decode cX8_goodShare 42 = .ok (.iinc 3 1, 3) := by decide +kernel
theorem dX8_goodShare_45 : decode cX8_goodShare 45 = .ok (.goto (-39), 3) := by decide +kernel
theorem dX8_goodShare_48 : decode cX8_goodShare 48 = .ok (.iload_n 2, 1) := by decide +kernel
theorem dX8_goodShare_49 : decode cX8_goodShare 49 = .ok (.ifCond .ne 14, 3) := by decide +kernel
theorem dX8_goodShare_52 : decode cX8_goodShare 52 = .ok (.new 392, 3) := by decide +kernel
theorem dX8_goodShare_55 : decode cX8_goodShare 55 = .ok (.dup, 1) := by decide +kernel
theorem dX8_goodShare_56 : decode cX8_goodShare 56 = .ok (.ldc_w 394, 3) := by decide +kernel
theorem dX8_goodShare_59 : decode cX8_goodShare 59 = .ok (.invokespecial 396, 3) := by decide +kernel
theorem dX8_goodShare_62 : decode cX8_goodShare 62 = .ok (.athrow, 1) := by decide +kernel
theorem dX8_goodShare_63 : decode cX8_goodShare 63 = .ok (.iload_n 1, 1) := by decide +kernel
theorem dX8_goodShare_64 : decode cX8_goodShare 64 = .ok (.i2f, 1) := by decide +kernel
theorem dX8_goodShare_65 : decode cX8_goodShare 65 = .ok (.iload_n 2, 1) := by decide +kernel
theorem dX8_goodShare_66 : decode cX8_goodShare 66 = .ok (.i2f, 1) := by decide +kernel
theorem dX8_goodShare_67 : decode cX8_goodShare 67 = .ok (.fdiv, 1) := by decide +kernel
theorem dX8_goodShare_68 : decode cX8_goodShare 68 = .ok (.freturn, 1) := by decide +kernel
theorem dX8_meanLength_0 : decode cX8_meanLength 0 = .ok (.aload_n 0, 1) := by decide +kernel
theorem dX8_meanLength_1 : decode cX8_meanLength 1 = .ok (.getfield 41, 3) := by decide +kernel
theorem dX8_meanLength_4 : decode cX8_meanLength 4 = .ok (.ifCond .ne 14, 3) := by decide +kernel
theorem dX8_meanLength_7 : decode cX8_meanLength 7 = .ok (.new 392, 3) := by decide +kernel
theorem dX8_meanLength_10 : decode cX8_meanLength 10 = .ok (.dup, 1) := by decide +kernel
theorem dX8_meanLength_11 : decode cX8_meanLength 11 = .ok (.ldc_w 397, 3) := by decide +kernel
theorem dX8_meanLength_14 : decode cX8_meanLength 14 = .ok (.invokespecial 396, 3) := by decide +kernel
theorem dX8_meanLength_17 : decode cX8_meanLength 17 = .ok (.athrow, 1) := by decide +kernel
theorem dX8_meanLength_18 : decode cX8_meanLength 18 = .ok (.iconst 0, 1) := by decide +kernel
theorem dX8_meanLength_19 : decode cX8_meanLength 19 = .ok (.istore_n 1, 1) := by decide +kernel
theorem dX8_meanLength_20 : decode cX8_meanLength 20 = .ok (.iconst 0, 1) := by decide +kernel
theorem dX8_meanLength_21 : decode cX8_meanLength 21 = .ok (.istore_n 2, 1) := by decide +kernel
theorem dX8_meanLength_22 : decode cX8_meanLength 22 = .ok (.iload_n 2, 1) := by decide +kernel
theorem dX8_meanLength_23 : decode cX8_meanLength 23 = .ok (.aload_n 0, 1) := by decide +kernel
theorem dX8_meanLength_24 : decode cX8_meanLength 24 = .ok (.getfield 41, 3) := by decide +kernel
theorem dX8_meanLength_27 : decode cX8_meanLength 27 = .ok (.if_icmp .ge 24, 3) := by decide +kernel
theorem dX8_meanLength_30 : decode cX8_meanLength 30 = .ok (.iload_n 1, 1) := by decide +kernel
theorem dX8_meanLength_31 : decode cX8_meanLength 31 = .ok (.aload_n 0, 1) := by decide +kernel
theorem dX8_meanLength_32 : decode cX8_meanLength 32 = .ok (.getfield 11, 3) := by decide +kernel
theorem dX8_meanLength_35 : decode cX8_meanLength 35 = .ok (.iload_n 2, 1) := by decide +kernel
theorem dX8_meanLength_36 : decode cX8_meanLength 36 = .ok (.aaload, 1) := by decide +kernel
theorem dX8_meanLength_37 : decode cX8_meanLength 37 = .ok (.getfield 72, 3) := by decide +kernel
theorem dX8_meanLength_40 : decode cX8_meanLength 40 = .ok (.getfield 76, 3) := by decide +kernel
theorem dX8_meanLength_43 : decode cX8_meanLength 43 = .ok (.iadd, 1) := by decide +kernel
theorem dX8_meanLength_44 : decode cX8_meanLength 44 = .ok (.istore_n 1, 1) := by decide +kernel
theorem dX8_meanLength_45 : decode cX8_meanLength 45 = .ok (.iinc 2 1, 3) := by decide +kernel
theorem dX8_meanLength_48 : decode cX8_meanLength 48 = .ok (.goto (-26), 3) := by decide +kernel
theorem dX8_meanLength_51 : decode cX8_meanLength 51 = .ok (.iload_n 1, 1) := by decide +kernel
theorem dX8_meanLength_52 : decode cX8_meanLength 52 = .ok (.i2d, 1) := by decide +kernel
theorem dX8_meanLength_53 : decode cX8_meanLength 53 = .ok (.aload_n 0, 1) := by decide +kernel
theorem dX8_meanLength_54 : decode cX8_meanLength 54 = .ok (.getfield 41, 3) := by decide +kernel
theorem dX8_meanLength_57 : decode cX8_meanLength 57 = .ok (.i2d, 1) := by decide +kernel
theorem dX8_meanLength_58 : decode cX8_meanLength 58 = .ok (.ddiv, 1) := by decide +kernel
theorem dX8_meanLength_59 : decode cX8_meanLength 59 = .ok (.dreturn, 1) := by decide +kernel
theorem dX9_init_0 : decode cX9_init 0 = .ok (.aload_n 0, 1) := by decide +kernel
theorem dX9_init_1 : decode cX9_init 1 = .ok (.invokespecial 1, 3) := by decide +kernel
theorem dX9_init_4 : decode cX9_init 4 = .ok (.aload_n 0, 1) := by decide +kernel
theorem dX9_init_5 : decode cX9_init 5 = .ok (.sipush 240, 3) := by decide +kernel
theorem dX9_init_8 : decode cX9_init 8 = .ok (.newarray .int, 2) := by decide +kernel
theorem dX9_init_10 : decode cX9_init 10 = .ok (.putfield 7, 3) := by decide +kernel
theorem dX9_init_13 : decode cX9_init 13 = .ok (.aload_n 0, 1) := by decide +kernel
theorem dX9_init_14 : decode cX9_init 14 = .ok (.iconst 3, 1) := by decide +kernel
theorem dX9_init_15 : decode cX9_init 15 = .ok (.newarray .int, 2) := by decide +kernel
theorem dX9_init_17 : decode cX9_init 17 = .ok (.putfield 13, 3) := by decide +kernel
theorem dX9_init_20 : decode cX9_init 20 = .ok (.aload_n 0, 1) := by decide +kernel
theorem dX9_init_21 : decode cX9_init 21 = .ok (.iconst 3, 1) := by decide +kernel
theorem dX9_init_22 : decode cX9_init 22 = .ok (.newarray .int, 2) := by decide +kernel
theorem dX9_init_24 : decode cX9_init 24 = .ok (.putfield 16, 3) := by decide +kernel
theorem dX9_init_27 : decode cX9_init 27 = .ok (.aload_n 0, 1) := by decide +kernel
theorem dX9_init_28 : decode cX9_init 28 = .ok (.iconst 3, 1) := by decide +kernel
theorem dX9_init_29 : decode cX9_init 29 = .ok (.newarray .int, 2) := by decide +kernel
theorem dX9_init_31 : decode cX9_init 31 = .ok (.putfield 19, 3) := by decide +kernel
theorem dX9_init_34 : decode cX9_init 34 = .ok (.aload_n 0, 1) := by decide +kernel
theorem dX9_init_35 : decode cX9_init 35 = .ok (.sipush 240, 3) := by decide +kernel
theorem dX9_init_38 : decode cX9_init 38 = .ok (.newarray .int, 2) := by decide +kernel
theorem dX9_init_40 : decode cX9_init 40 = .ok (.putfield 22, 3) := by decide +kernel
theorem dX9_init_43 : decode cX9_init 43 = .ok (.aload_n 0, 1) := by decide +kernel
theorem dX9_init_44 : decode cX9_init 44 = .ok (.iconst 3, 1) := by decide +kernel
theorem dX9_init_45 : decode cX9_init 45 = .ok (.newarray .int, 2) := by decide +kernel
theorem dX9_init_47 : decode cX9_init 47 = .ok (.putfield 25, 3) := by decide +kernel
theorem dX9_init_50 : decode cX9_init 50 = .ok (.aload_n 0, 1) := by decide +kernel
theorem dX9_init_51 : decode cX9_init 51 = .ok (.iconst 3, 1) := by decide +kernel
theorem dX9_init_52 : decode cX9_init 52 = .ok (.newarray .int, 2) := by decide +kernel
theorem dX9_init_54 : decode cX9_init 54 = .ok (.putfield 28, 3) := by decide +kernel
theorem dX9_init_57 : decode cX9_init 57 = .ok (.aload_n 0, 1) := by decide +kernel
theorem dX9_init_58 : decode cX9_init 58 = .ok (.bipush 8, 2) := by decide +kernel
theorem dX9_init_60 : decode cX9_init 60 = .ok (.newarray .int, 2) := by decide +kernel
theorem dX9_init_62 : decode cX9_init 62 = .ok (.putfield 31, 3) := by decide +kernel
theorem dX9_init_65 : decode cX9_init 65 = .ok (.aload_n 0, 1) := by decide +kernel
theorem dX9_init_66 : decode cX9_init 66 = .ok (.bipush 8, 2) := by decide +kernel
theorem dX9_init_68 : decode cX9_init 68 = .ok (.newarray .int, 2) := by decide +kernel
theorem dX9_init_70 : decode cX9_init 70 = .ok (.putfield 34, 3) := by decide +kernel
theorem dX9_init_73 : decode cX9_init 73 = .ok (.aload_n 0, 1) := by decide +kernel
theorem dX9_init_74 : decode cX9_init 74 = .ok (.bipush 8, 2) := by decide +kernel
theorem dX9_init_76 : decode cX9_init 76 = .ok (.newarray .int, 2) := by decide +kernel
theorem dX9_init_78 : decode cX9_init 78 = .ok (.putfield 37, 3) := by decide +kernel
theorem dX9_init_81 : decode cX9_init 81 = .ok (.aload_n 0, 1) := by decide +kernel
theorem dX9_init_82 : decode cX9_init 82 = .ok (.bipush 8, 2) := by decide +kernel
theorem dX9_init_84 : decode cX9_init 84 = .ok (.newarray .boolean, 2) := by decide +kernel
theorem dX9_init_86 : decode cX9_init 86 = .ok (.putfield 40, 3) := by decide +kernel
theorem dX9_init_89 : decode cX9_init 89 = .ok (.aload_n 0, 1) := by decide +kernel
theorem dX9_init_90 : decode cX9_init 90 = .ok (.bipush 6, 2) := by decide +kernel
theorem dX9_init_92 : decode cX9_init 92 = .ok (.newarray .int, 2) := by decide +kernel
theorem dX9_init_94 : decode cX9_init 94 = .ok (.putfield 44, 3) := by decide +kernel
theorem dX9_init_97 : decode cX9_init 97 = .ok (.aload_n 0, 1) := by decide +kernel
theorem dX9_init_98 : decode cX9_init 98 = .ok (.bipush 6, 2) := by decide +kernel
theorem dX9_init_100 : decode cX9_init 100 = .ok (.newarray .int, 2) := by decide +kernel
theorem dX9_init_102 : decode cX9_init 102 = .ok (.putfield 47, 3) := by decide +kernel
theorem dX9_init_105 : decode cX9_init 105 = .ok (.aload_n 0, 1) := by decide +kernel
theorem dX9_init_106 : decode cX9_init 106 = .ok (.bipush 6, 2) := by decide +kernel
theorem dX9_init_108 : decode cX9_init 108 = .ok (.newarray .int, 2) := by decide +kernel
theorem dX9_init_110 : decode cX9_init 110 = .ok (.putfield 50, 3) := by decide +kernel
theorem dX9_init_113 : decode cX9_init 113 = .ok (.aload_n 0, 1) := by decide +kernel
theorem dX9_init_114 : decode cX9_init 114 = .ok (.bipush 6, 2) := by decide +kernel
theorem dX9_init_116 : decode cX9_init 116 = .ok (.newarray .int, 2) := by decide +kernel
theorem dX9_init_118 : decode cX9_init 118 = .ok (.putfield 53, 3) := by decide +kernel
theorem dX9_init_121 : decode cX9_init 121 = .ok (.aload_n 0, 1) := by decide +kernel
theorem dX9_init_122 : decode cX9_init 122 = .ok (.bipush 6, 2) := by decide +kernel
theorem dX9_init_124 : decode cX9_init 124 = .ok (.newarray .int, 2) := by decide +kernel
theorem dX9_init_126 : decode cX9_init 126 = .ok (.putfield 56, 3) := by decide +kernel
theorem dX9_init_129 : decode cX9_init 129 = .ok (.aload_n 0, 1) := by decide +kernel
theorem dX9_init_130 : decode cX9_init 130 = .ok (.bipush 18, 2) := by decide +kernel
theorem dX9_init_132 : decode cX9_init 132 = .ok (.newarray .int, 2) := by decide +kernel
theorem dX9_init_134 : decode cX9_init 134 = .ok (.putfield 59, 3) := by decide +kernel
theorem dX9_init_137 : decode cX9_init 137 = .ok (.aload_n 0, 1) := by decide +kernel
theorem dX9_init_138 : decode cX9_init 138 = .ok (.bipush 18, 2) := by decide +kernel
theorem dX9_init_140 : decode cX9_init 140 = .ok (.newarray .int, 2) := by decide +kernel
theorem dX9_init_142 : decode cX9_init 142 = .ok (.putfield 62, 3) := by decide +kernel
theorem dX9_init_145 : decode cX9_init 145 = .ok (.aload_n 0, 1) := by decide +kernel
theorem dX9_init_146 : decode cX9_init 146 = .ok (.sipush 576, 3) := by decide +kernel
theorem dX9_init_149 : decode cX9_init 149 = .ok (.newarray .int, 2) := by decide +kernel
theorem dX9_init_151 : decode cX9_init 151 = .ok (.putfield 65, 3) := by decide +kernel
theorem dX9_init_154 : decode cX9_init 154 = .ok (.aload_n 0, 1) := by decide +kernel
theorem dX9_init_155 : decode cX9_init 155 = .ok (.sipush 576, 3) := by decide +kernel
theorem dX9_init_158 : decode cX9_init 158 = .ok (.newarray .int, 2) := by decide +kernel
theorem dX9_init_160 : decode cX9_init 160 = .ok (.putfield 68, 3) := by decide +kernel
theorem dX9_init_163 : decode cX9_init 163 = .ok (.aload_n 0, 1) := by decide +kernel
theorem dX9_init_164 : decode cX9_init 164 = .ok (.iconst (-1), 1) := by decide +kernel
theorem dX9_init_165 : decode cX9_init 165 = .ok (.putfield 71, 3) := by decide +kernel
theorem dX9_init_168 : decode cX9_init 168 = .ok (.aload_n 0, 1) := by decide +kernel
theorem dX9_init_169 : decode cX9_init 169 = .ok (.bipush 32, 2) := by decide +kernel
theorem dX9_init_171 : decode cX9_init 171 = .ok (.newarray .int, 2) := by decide +kernel
theorem dX9_init_173 : decode cX9_init 173 = .ok (.putfield 75, 3) := by decide +kernel
theorem dX9_init_176 : decode cX9_init 176 = .ok (.return_, 1) := by decide +kernel
theorem dX9_thrown_0 : decode cX9_thrown 0 = .ok (.aload_n 0, 1) := by decide +kernel
theorem dX9_thrown_1 : decode cX9_thrown 1 = .ok (.getfield 78, 3) := by decide +kernel
theorem dX9_thrown_4 : decode cX9_thrown 4 = .ok (.ireturn, 1) := by decide +kernel
theorem dX9_in_0 : decode cX9_in 0 = .ok (.lload_n 0, 1) := by decide +kernel
theorem dX9_in_1 : decode cX9_in 1 = .ok (.lload_n 2, 1) := by decide +kernel
theorem dX9_in_2 : decode cX9_in 2 = .ok (.lcmp, 1) := by decide +kernel
theorem dX9_in_3 : decode cX9_in 3 = .ok (.ifCond .lt 14, 3) := by decide +kernel
theorem dX9_in_6 : decode cX9_in 6 = .ok (.lload_n 0, 1) := by decide +kernel
theorem dX9_in_7 : decode cX9_in 7 = .ok (.lload 4, 2) := by decide +kernel
theorem dX9_in_9 : decode cX9_in 9 = .ok (.lcmp, 1) := by decide +kernel
theorem dX9_in_10 : decode cX9_in 10 = .ok (.ifCond .gt 7, 3) := by decide +kernel
theorem dX9_in_13 : decode cX9_in 13 = .ok (.iconst 1, 1) := by decide +kernel
theorem dX9_in_14 : decode cX9_in 14 = .ok (.goto 4, 3) := by decide +kernel
theorem dX9_in_17 : decode cX9_in 17 = .ok (.iconst 0, 1) := by decide +kernel
theorem dX9_in_18 : decode cX9_in 18 = .ok (.ireturn, 1) := by decide +kernel
theorem dX9_isDocument_0 : decode cX9_isDocument 0 = .ok (.iload_n 1, 1) := by decide +kernel
theorem dX9_isDocument_1 : decode cX9_isDocument 1 = .ok (.i2l, 1) := by decide +kernel
theorem dX9_isDocument_2 : decode cX9_isDocument 2 = .ok (.lconst 0, 1) := by decide +kernel
theorem dX9_isDocument_3 : decode cX9_isDocument 3 = .ok (.aload_n 0, 1) := by decide +kernel
theorem dX9_isDocument_4 : decode cX9_isDocument 4 = .ok (.getfield 81, 3) := by decide +kernel
theorem dX9_isDocument_7 : decode cX9_isDocument 7 = .ok (.iconst 1, 1) := by decide +kernel
theorem dX9_isDocument_8 : decode cX9_isDocument 8 = .ok (.isub, 1) := by decide +kernel
theorem dX9_isDocument_9 : decode cX9_isDocument 9 = .ok (.i2l, 1) := by decide +kernel
theorem dX9_isDocument_10 : decode cX9_isDocument 10 = .ok (.invokestatic 84, 3) := by decide +kernel
theorem dX9_isDocument_13 : decode cX9_isDocument 13 = .ok (.ireturn, 1) := by decide +kernel
theorem dX9_addDocument_0 : decode cX9_addDocument 0 = .ok (.aload_n 0, 1) := by decide +kernel
theorem dX9_addDocument_1 : decode cX9_addDocument 1 = .ok (.aload_n 0, 1) := by decide +kernel
theorem dX9_addDocument_2 : decode cX9_addDocument 2 = .ok (.getfield 81, 3) := by decide +kernel
theorem dX9_addDocument_5 : decode cX9_addDocument 5 = .ok (.iconst 3, 1) := by decide +kernel
theorem dX9_addDocument_6 : decode cX9_addDocument 6 = .ok (.if_icmp .ne 7, 3) := by decide +kernel
theorem dX9_addDocument_9 : decode cX9_addDocument 9 = .ok (.iconst 1, 1) := by decide +kernel
theorem dX9_addDocument_10 : decode cX9_addDocument 10 = .ok (.goto 4, 3) := by decide +kernel
theorem dX9_addDocument_13 : decode cX9_addDocument 13 = .ok (.iconst 0, 1) := by decide +kernel
theorem dX9_addDocument_14 : decode cX9_addDocument 14 = .ok (.putfield 78, 3) := by decide +kernel
theorem dX9_addDocument_17 : decode cX9_addDocument 17 = .ok (.aload_n 0, 1) := by decide +kernel
theorem dX9_addDocument_18 : decode cX9_addDocument 18 = .ok (.getfield 78, 3) := by decide +kernel
theorem dX9_addDocument_21 : decode cX9_addDocument 21 = .ok (.ifCond .le 5, 3) := by decide +kernel
theorem dX9_addDocument_24 : decode cX9_addDocument 24 = .ok (.iconst (-1), 1) := by decide +kernel
theorem dX9_addDocument_25 : decode cX9_addDocument 25 = .ok (.ireturn, 1) := by decide +kernel
theorem dX9_addDocument_26 : decode cX9_addDocument 26 = .ok (.aload_n 0, 1) := by decide +kernel
theorem dX9_addDocument_27 : decode cX9_addDocument 27 = .ok (.getfield 19, 3) := by decide +kernel
theorem dX9_addDocument_30 : decode cX9_addDocument 30 = .ok (.aload_n 0, 1) := by decide +kernel
theorem dX9_addDocument_31 : decode cX9_addDocument 31 = .ok (.getfield 81, 3) := by decide +kernel
theorem dX9_addDocument_34 : decode cX9_addDocument 34 = .ok (.sipush 999, 3) := by decide +kernel
theorem dX9_addDocument_37 : decode cX9_addDocument 37 = .ok (.iastore, 1) := by decide +kernel
theorem dX9_addDocument_38 : decode cX9_addDocument 38 = .ok (.aload_n 0, 1) := by decide +kernel
theorem dX9_addDocument_39 : decode cX9_addDocument 39 = .ok (.getfield 28, 3) := by decide +kernel
theorem dX9_addDocument_42 : decode cX9_addDocument 42 = .ok (.aload_n 0, 1) := by decide +kernel
theorem dX9_addDocument_43 : decode cX9_addDocument 43 = .ok (.getfield 81, 3) := by decide +kernel
theorem dX9_addDocument_46 : decode cX9_addDocument 46 = .ok (.iconst (-1), 1) := by decide +kernel
theorem dX9_addDocument_47 : decode cX9_addDocument 47 = .ok (.iastore, 1) := by decide +kernel
theorem dX9_addDocument_48 : decode cX9_addDocument 48 = .ok (.aload_n 0, 1) := by decide +kernel
theorem dX9_addDocument_49 : decode cX9_addDocument 49 = .ok (.dup, 1) := by decide +kernel
theorem dX9_addDocument_50 : decode cX9_addDocument 50 = .ok (.getfield 81, 3) := by decide +kernel
theorem dX9_addDocument_53 : decode cX9_addDocument 53 = .ok (.iconst 1, 1) := by decide +kernel
theorem dX9_addDocument_54 : decode cX9_addDocument 54 = .ok (.iadd, 1) := by decide +kernel
theorem dX9_addDocument_55 : decode cX9_addDocument 55 = .ok (.putfield 81, 3) := by decide +kernel
theorem dX9_addDocument_58 : decode cX9_addDocument 58 = .ok (.aload_n 0, 1) := by decide +kernel
theorem dX9_addDocument_59 : decode cX9_addDocument 59 = .ok (.getfield 81, 3) := by decide +kernel
theorem dX9_addDocument_62 : decode cX9_addDocument 62 = .ok (.iconst 1, 1) := by decide +kernel
theorem dX9_addDocument_63 : decode cX9_addDocument 63 = .ok (.isub, 1) := by decide +kernel
theorem dX9_addDocument_64 : decode cX9_addDocument 64 = .ok (.ireturn, 1) := by decide +kernel
theorem dX9_barOf_0 : decode cX9_barOf 0 = .ok (.aload_n 0, 1) := by decide +kernel
theorem dX9_barOf_1 : decode cX9_barOf 1 = .ok (.getfield 88, 3) := by decide +kernel
theorem dX9_barOf_4 : decode cX9_barOf 4 = .ok (.aload_n 0, 1) := by decide +kernel
theorem dX9_barOf_5 : decode cX9_barOf 5 = .ok (.getfield 19, 3) := by decide +kernel
theorem dX9_barOf_8 : decode cX9_barOf 8 = .ok (.iload_n 1, 1) := by decide +kernel
theorem dX9_barOf_9 : decode cX9_barOf 9 = .ok (.iaload, 1) := by decide +kernel
theorem dX9_barOf_10 : decode cX9_barOf 10 = .ok (.if_icmp .lt 6, 3) := by decide +kernel
theorem dX9_barOf_13 : decode cX9_barOf 13 = .ok (.bipush 99, 2) := by decide +kernel
theorem dX9_barOf_15 : decode cX9_barOf 15 = .ok (.ireturn, 1) := by decide +kernel
theorem dX9_barOf_16 : decode cX9_barOf 16 = .ok (.iconst 0, 1) := by decide +kernel
theorem dX9_barOf_17 : decode cX9_barOf 17 = .ok (.istore 4, 2) := by decide +kernel
theorem dX9_barOf_19 : decode cX9_barOf 19 = .ok (.iload 4, 2) := by decide +kernel
theorem dX9_barOf_21 : decode cX9_barOf 21 = .ok (.aload_n 0, 1) := by decide +kernel
theorem dX9_barOf_22 : decode cX9_barOf 22 = .ok (.getfield 91, 3) := by decide +kernel
theorem dX9_barOf_25 : decode cX9_barOf 25 = .ok (.if_icmp .ge 85, 3) := by decide +kernel
theorem dX9_barOf_28 : decode cX9_barOf 28 = .ok (.aload_n 0, 1) := by decide +kernel
theorem dX9_barOf_29 : decode cX9_barOf 29 = .ok (.getfield 40, 3) := by decide +kernel
theorem dX9_barOf_32 : decode cX9_barOf 32 = .ok (.iload 4, 2) := by decide +kernel
theorem dX9_barOf_34 : decode cX9_barOf 34 = .ok (.baload, 1) := by decide +kernel
theorem dX9_barOf_35 : decode cX9_barOf 35 = .ok (.ifCond .eq 18, 3) := by decide +kernel
theorem dX9_barOf_38 : decode cX9_barOf 38 = .ok (.aload_n 0, 1) := by decide +kernel
theorem dX9_barOf_39 : decode cX9_barOf 39 = .ok (.getfield 31, 3) := by decide +kernel
theorem dX9_barOf_42 : decode cX9_barOf 42 = .ok (.iload 4, 2) := by decide +kernel
theorem dX9_barOf_44 : decode cX9_barOf 44 = .ok (.iaload, 1) := by decide +kernel
theorem dX9_barOf_45 : decode cX9_barOf 45 = .ok (.iload_n 1, 1) := by decide +kernel
theorem dX9_barOf_46 : decode cX9_barOf 46 = .ok (.if_icmp .ne 7, 3) := by decide +kernel
theorem dX9_barOf_49 : decode cX9_barOf 49 = .ok (.iconst 1, 1) := by decide +kernel
theorem dX9_barOf_50 : decode cX9_barOf 50 = .ok (.goto 4, 3) := by decide +kernel
theorem dX9_barOf_53 : decode cX9_barOf 53 = .ok (.iconst 0, 1) := by decide +kernel
theorem dX9_barOf_54 : decode cX9_barOf 54 = .ok (.istore 5, 2) := by decide +kernel
theorem dX9_barOf_56 : decode cX9_barOf 56 = .ok (.aload_n 0, 1) := by decide +kernel
theorem dX9_barOf_57 : decode cX9_barOf 57 = .ok (.getfield 34, 3) := by decide +kernel
theorem dX9_barOf_60 : decode cX9_barOf 60 = .ok (.iload 4, 2) := by decide +kernel
theorem dX9_barOf_62 : decode cX9_barOf 62 = .ok (.iaload, 1) := by decide +kernel
theorem dX9_barOf_63 : decode cX9_barOf 63 = .ok (.iload_n 3, 1) := by decide +kernel
theorem dX9_barOf_64 : decode cX9_barOf 64 = .ok (.ifCond .eq 7, 3) := by decide +kernel
theorem dX9_barOf_67 : decode cX9_barOf 67 = .ok (.iconst 1, 1) := by decide +kernel
theorem dX9_barOf_68 : decode cX9_barOf 68 = .ok (.goto 4, 3) := by decide +kernel
theorem dX9_barOf_71 : decode cX9_barOf 71 = .ok (.iconst 0, 1) := by decide +kernel
theorem dX9_barOf_72 : decode cX9_barOf 72 = .ok (.iadd, 1) := by decide +kernel
theorem dX9_barOf_73 : decode cX9_barOf 73 = .ok (.istore 6, 2) := by decide +kernel
theorem dX9_barOf_75 : decode cX9_barOf 75 = .ok (.iload 5, 2) := by decide +kernel
theorem dX9_barOf_77 : decode cX9_barOf 77 = .ok (.ifCond .eq 27, 3) := by decide +kernel
theorem dX9_barOf_80 : decode cX9_barOf 80 = .ok (.iload_n 2, 1) := by decide +kernel
theorem dX9_barOf_81 : decode cX9_barOf 81 = .ok (.i2l, 1) := by decide +kernel
theorem dX9_barOf_82 : decode cX9_barOf 82 = .ok (.iload 6, 2) := by decide +kernel
theorem dX9_barOf_84 : decode cX9_barOf 84 = .ok (.i2l, 1) := by decide +kernel
theorem dX9_barOf_85 : decode cX9_barOf 85 = .ok (.aload_n 0, 1) := by decide +kernel
theorem dX9_barOf_86 : decode cX9_barOf 86 = .ok (.getfield 37, 3) := by decide +kernel
theorem dX9_barOf_89 : decode cX9_barOf 89 = .ok (.iload 4, 2) := by decide +kernel
theorem dX9_barOf_91 : decode cX9_barOf 91 = .ok (.iaload, 1) := by decide +kernel
theorem dX9_barOf_92 : decode cX9_barOf 92 = .ok (.iconst 1, 1) := by decide +kernel
theorem dX9_barOf_93 : decode cX9_barOf 93 = .ok (.isub, 1) := by decide +kernel
theorem dX9_barOf_94 : decode cX9_barOf 94 = .ok (.i2l, 1) := by decide +kernel
theorem dX9_barOf_95 : decode cX9_barOf 95 = .ok (.invokestatic 84, 3) := by decide +kernel
theorem dX9_barOf_98 : decode cX9_barOf 98 = .ok (.ifCond .eq 6, 3) := by decide +kernel
theorem dX9_barOf_101 : decode cX9_barOf 101 = .ok (.bipush 102, 2) := by decide +kernel
theorem dX9_barOf_103 : decode cX9_barOf 103 = .ok (.ireturn, 1) := by decide +kernel
theorem dX9_barOf_104 : decode cX9_barOf 104 = .ok (.iinc 4 1, 3) := by decide +kernel
theorem dX9_barOf_107 : decode cX9_barOf 107 = .ok (.goto (-88), 3) := by decide +kernel
theorem dX9_barOf_110 : decode cX9_barOf 110 = .ok (.aload_n 0, 1) := by decide +kernel
theorem dX9_barOf_111 : decode cX9_barOf 111 = .ok (.getfield 71, 3) := by decide +kernel
theorem dX9_barOf_114 : decode cX9_barOf 114 = .ok (.iconst (-1), 1) := by decide +kernel
theorem dX9_barOf_115 : decode cX9_barOf 115 = .ok (.if_icmp .eq 31, 3) := by decide +kernel
theorem dX9_barOf_118 : decode cX9_barOf 118 = .ok (.aload_n 0, 1) := by decide +kernel
theorem dX9_barOf_119 : decode cX9_barOf 119 = .ok (.getfield 44, 3) := by decide +kernel
theorem dX9_barOf_122 : decode cX9_barOf 122 = .ok (.aload_n 0, 1) := by decide +kernel
theorem dX9_barOf_123 : decode cX9_barOf 123 = .ok (.getfield 71, 3) := by decide +kernel
theorem dX9_barOf_126 : decode cX9_barOf 126 = .ok (.iaload, 1) := by decide +kernel
theorem dX9_barOf_127 : decode cX9_barOf 127 = .ok (.iload_n 1, 1) := by decide +kernel
theorem dX9_barOf_128 : decode cX9_barOf 128 = .ok (.if_icmp .ne 18, 3) := by decide +kernel
theorem dX9_barOf_131 : decode cX9_barOf 131 = .ok (.aload_n 0, 1) := by decide +kernel
theorem dX9_barOf_132 : decode cX9_barOf 132 = .ok (.getfield 94, 3) := by decide +kernel
theorem dX9_barOf_135 : decode cX9_barOf 135 = .ok (.iload_n 2, 1) := by decide +kernel
theorem dX9_barOf_136 : decode cX9_barOf 136 = .ok (.bipush 8, 2) := by decide +kernel
theorem dX9_barOf_138 : decode cX9_barOf 138 = .ok (.idiv, 1) := by decide +kernel
theorem dX9_barOf_139 : decode cX9_barOf 139 = .ok (.if_icmp .lt 7, 3) := by decide +kernel
theorem dX9_barOf_142 : decode cX9_barOf 142 = .ok (.iconst 1, 1) := by decide +kernel
theorem dX9_barOf_143 : decode cX9_barOf 143 = .ok (.goto 4, 3) := by decide +kernel
theorem dX9_barOf_146 : decode cX9_barOf 146 = .ok (.iconst 0, 1) := by decide +kernel
theorem dX9_barOf_147 : decode cX9_barOf 147 = .ok (.istore 4, 2) := by decide +kernel
theorem dX9_barOf_149 : decode cX9_barOf 149 = .ok (.iload 4, 2) := by decide +kernel
theorem dX9_barOf_151 : decode cX9_barOf 151 = .ok (.ifCond .eq 8, 3) := by decide +kernel
theorem dX9_barOf_154 : decode cX9_barOf 154 = .ok (.bipush 108, 2) := by decide +kernel
theorem dX9_barOf_156 : decode cX9_barOf 156 = .ok (.goto 5, 3) := by decide +kernel
theorem dX9_barOf_159 : decode cX9_barOf 159 = .ok (.bipush 45, 2) := by decide +kernel
theorem dX9_barOf_161 : decode cX9_barOf 161 = .ok (.ireturn, 1) := by decide +kernel
theorem dX9_isCode_0 : decode cX9_isCode 0 = .ok (.iload_n 0, 1) := by decide +kernel
theorem dX9_isCode_1 : decode cX9_isCode 1 = .ok (.i2l, 1) := by decide +kernel
theorem dX9_isCode_2 : decode cX9_isCode 2 = .ok (.ldc2_w 97, 3) := by decide +kernel
theorem dX9_isCode_5 : decode cX9_isCode 5 = .ok (.ldc2_w 99, 3) := by decide +kernel
theorem dX9_isCode_8 : decode cX9_isCode 8 = .ok (.invokestatic 84, 3) := by decide +kernel
theorem dX9_isCode_11 : decode cX9_isCode 11 = .ok (.ifCond .ne 23, 3) := by decide +kernel
theorem dX9_isCode_14 : decode cX9_isCode 14 = .ok (.iload_n 0, 1) := by decide +kernel
theorem dX9_isCode_15 : decode cX9_isCode 15 = .ok (.bipush 32, 2) := by decide +kernel
theorem dX9_isCode_17 : decode cX9_isCode 17 = .ok (.if_icmp .eq 17, 3) := by decide +kernel
theorem dX9_isCode_20 : decode cX9_isCode 20 = .ok (.iload_n 0, 1) := by decide +kernel
theorem dX9_isCode_21 : decode cX9_isCode 21 = .ok (.i2l, 1) := by decide +kernel
theorem dX9_isCode_22 : decode cX9_isCode 22 = .ok (.ldc2_w 101, 3) := by decide +kernel
theorem dX9_isCode_25 : decode cX9_isCode 25 = .ok (.ldc2_w 103, 3) := by decide +kernel
theorem dX9_isCode_28 : decode cX9_isCode 28 = .ok (.invokestatic 84, 3) := by decide +kernel
theorem dX9_isCode_31 : decode cX9_isCode 31 = .ok (.ifCond .eq 7, 3) := by decide +kernel
theorem dX9_isCode_34 : decode cX9_isCode 34 = .ok (.iconst 1, 1) := by decide +kernel
theorem dX9_isCode_35 : decode cX9_isCode 35 = .ok (.goto 4, 3) := by decide +kernel
theorem dX9_isCode_38 : decode cX9_isCode 38 = .ok (.iconst 0, 1) := by decide +kernel
theorem dX9_isCode_39 : decode cX9_isCode 39 = .ok (.ireturn, 1) := by decide +kernel
theorem dX9_moves_0 : decode cX9_moves 0 = .ok (.iconst 0, 1) := by decide +kernel
theorem dX9_moves_1 : decode cX9_moves 1 = .ok (.istore 4, 2) := by decide +kernel
theorem dX9_moves_3 : decode cX9_moves 3 = .ok (.iload 4, 2) := by decide +kernel
theorem dX9_moves_5 : decode cX9_moves 5 = .ok (.aload_n 0, 1) := by decide +kernel
theorem dX9_moves_6 : decode cX9_moves 6 = .ok (.getfield 91, 3) := by decide +kernel
theorem dX9_moves_9 : decode cX9_moves 9 = .ok (.if_icmp .ge 98, 3) := by decide +kernel
theorem dX9_moves_12 : decode cX9_moves 12 = .ok (.iload_n 3, 1) := by decide +kernel
theorem dX9_moves_13 : decode cX9_moves 13 = .ok (.ifCond .le 22, 3) := by decide +kernel
theorem dX9_moves_16 : decode cX9_moves 16 = .ok (.iload_n 2, 1) := by decide +kernel
theorem dX9_moves_17 : decode cX9_moves 17 = .ok (.aload_n 0, 1) := by decide +kernel
theorem dX9_moves_18 : decode cX9_moves 18 = .ok (.getfield 34, 3) := by decide +kernel
theorem dX9_moves_21 : decode cX9_moves 21 = .ok (.iload 4, 2) := by decide +kernel
theorem dX9_moves_23 : decode cX9_moves 23 = .ok (.iaload, 1) := by decide +kernel
theorem dX9_moves_24 : decode cX9_moves 24 = .ok (.if_icmp .gt 7, 3) := by decide +kernel
theorem dX9_moves_27 : decode cX9_moves 27 = .ok (.iconst 1, 1) := by decide +kernel
theorem dX9_moves_28 : decode cX9_moves 28 = .ok (.goto 23, 3) := by decide +kernel
theorem dX9_moves_31 : decode cX9_moves 31 = .ok (.iconst 0, 1) := by decide +kernel
theorem dX9_moves_32 : decode cX9_moves 32 = .ok (.goto 19, 3) := by decide +kernel
theorem dX9_moves_35 : decode cX9_moves 35 = .ok (.iload_n 2, 1) := by decide +kernel
theorem dX9_moves_36 : decode cX9_moves 36 = .ok (.aload_n 0, 1) := by decide +kernel
theorem dX9_moves_37 : decode cX9_moves 37 = .ok (.getfield 34, 3) := by decide +kernel
theorem dX9_moves_40 : decode cX9_moves 40 = .ok (.iload 4, 2) := by decide +kernel
theorem dX9_moves_42 : decode cX9_moves 42 = .ok (.iaload, 1) := by decide +kernel
theorem dX9_moves_43 : decode cX9_moves 43 = .ok (.if_icmp .ge 7, 3) := by decide +kernel
theorem dX9_moves_46 : decode cX9_moves 46 = .ok (.iconst 1, 1) := by decide +kernel
theorem dX9_moves_47 : decode cX9_moves 47 = .ok (.goto 4, 3) := by decide +kernel
theorem dX9_moves_50 : decode cX9_moves 50 = .ok (.iconst 0, 1) := by decide +kernel
theorem dX9_moves_51 : decode cX9_moves 51 = .ok (.istore 5, 2) := by decide +kernel
theorem dX9_moves_53 : decode cX9_moves 53 = .ok (.aload_n 0, 1) := by decide +kernel
theorem dX9_moves_54 : decode cX9_moves 54 = .ok (.getfield 40, 3) := by decide +kernel
theorem dX9_moves_57 : decode cX9_moves 57 = .ok (.iload 4, 2) := by decide +kernel
theorem dX9_moves_59 : decode cX9_moves 59 = .ok (.baload, 1) := by decide +kernel
theorem dX9_moves_60 : decode cX9_moves 60 = .ok (.ifCond .eq 41, 3) := by decide +kernel
theorem dX9_moves_63 : decode cX9_moves 63 = .ok (.aload_n 0, 1) := by decide +kernel
theorem dX9_moves_64 : decode cX9_moves 64 = .ok (.getfield 31, 3) := by decide +kernel
theorem dX9_moves_67 : decode cX9_moves 67 = .ok (.iload 4, 2) := by decide +kernel
theorem dX9_moves_69 : decode cX9_moves 69 = .ok (.iaload, 1) := by decide +kernel
theorem dX9_moves_70 : decode cX9_moves 70 = .ok (.iload_n 1, 1) := by decide +kernel
theorem dX9_moves_71 : decode cX9_moves 71 = .ok (.if_icmp .ne 30, 3) := by decide +kernel
theorem dX9_moves_74 : decode cX9_moves 74 = .ok (.iload 5, 2) := by decide +kernel
theorem dX9_moves_76 : decode cX9_moves 76 = .ok (.ifCond .eq 25, 3) := by decide +kernel
theorem dX9_moves_79 : decode cX9_moves 79 = .ok (.aload_n 0, 1) := by decide +kernel
theorem dX9_moves_80 : decode cX9_moves 80 = .ok (.getfield 34, 3) := by decide +kernel
theorem dX9_moves_83 : decode cX9_moves 83 = .ok (.iload 4, 2) := by decide +kernel
theorem dX9_moves_85 : decode cX9_moves 85 = .ok (.dup2, 1) := by decide +kernel
theorem dX9_moves_86 : decode cX9_moves 86 = .ok (.iaload, 1) := by decide +kernel
theorem dX9_moves_87 : decode cX9_moves 87 = .ok (.iload_n 3, 1) := by decide +kernel
theorem dX9_moves_88 : decode cX9_moves 88 = .ok (.iadd, 1) := by decide +kernel
theorem dX9_moves_89 : decode cX9_moves 89 = .ok (.iastore, 1) := by decide +kernel
theorem dX9_moves_90 : decode cX9_moves 90 = .ok (.aload_n 0, 1) := by decide +kernel
theorem dX9_moves_91 : decode cX9_moves 91 = .ok (.getfield 37, 3) := by decide +kernel
theorem dX9_moves_94 : decode cX9_moves 94 = .ok (.iload 4, 2) := by decide +kernel
theorem dX9_moves_96 : decode cX9_moves 96 = .ok (.dup2, 1) := by decide +kernel
theorem dX9_moves_97 : decode cX9_moves 97 = .ok (.iaload, 1) := by decide +kernel
theorem dX9_moves_98 : decode cX9_moves 98 = .ok (.iload_n 3, 1) := by decide +kernel
theorem dX9_moves_99 : decode cX9_moves 99 = .ok (.iadd, 1) := by decide +kernel
theorem dX9_moves_100 : decode cX9_moves 100 = .ok (.iastore, 1) := by decide +kernel
theorem dX9_moves_101 : decode cX9_moves 101 = .ok (.iinc 4 1, 3) := by decide +kernel
theorem dX9_moves_104 : decode cX9_moves 104 = .ok (.goto (-101), 3) := by decide +kernel
theorem dX9_moves_107 : decode cX9_moves 107 = .ok (.return_, 1) := by decide +kernel
theorem dX9_insert_0 : decode cX9_insert 0 = .ok (.aload_n 0, 1) := by decide +kernel
theorem dX9_insert_1 : decode cX9_insert 1 = .ok (.iload_n 1, 1) := by decide +kernel
theorem dX9_insert_2 : decode cX9_insert 2 = .ok (.invokevirtual 105, 3) := by decide +kernel
theorem dX9_insert_5 : decode cX9_insert 5 = .ok (.ifCond .eq 19, 3) := by decide +kernel
theorem dX9_insert_8 : decode cX9_insert 8 = .ok (.iload_n 2, 1) := by decide +kernel
theorem dX9_insert_9 : decode cX9_insert 9 = .ok (.i2l, 1) := by decide +kernel
theorem dX9_insert_10 : decode cX9_insert 10 = .ok (.lconst 0, 1) := by decide +kernel
theorem dX9_insert_11 : decode cX9_insert 11 = .ok (.aload_n 0, 1) := by decide +kernel
theorem dX9_insert_12 : decode cX9_insert 12 = .ok (.getfield 13, 3) := by decide +kernel
theorem dX9_insert_15 : decode cX9_insert 15 = .ok (.iload_n 1, 1) := by decide +kernel
theorem dX9_insert_16 : decode cX9_insert 16 = .ok (.iaload, 1) := by decide +kernel
theorem dX9_insert_17 : decode cX9_insert 17 = .ok (.i2l, 1) := by decide +kernel
theorem dX9_insert_18 : decode cX9_insert 18 = .ok (.invokestatic 84, 3) := by decide +kernel
theorem dX9_insert_21 : decode cX9_insert 21 = .ok (.ifCond .ne 22, 3) := by decide +kernel
theorem dX9_insert_24 : decode cX9_insert 24 = .ok (.aload_n 0, 1) := by decide +kernel
theorem dX9_insert_25 : decode cX9_insert 25 = .ok (.aload_n 0, 1) := by decide +kernel
theorem dX9_insert_26 : decode cX9_insert 26 = .ok (.iload_n 1, 1) := by decide +kernel
theorem dX9_insert_27 : decode cX9_insert 27 = .ok (.invokevirtual 105, 3) := by decide +kernel
theorem dX9_insert_30 : decode cX9_insert 30 = .ok (.ifCond .ne 7, 3) := by decide +kernel
theorem dX9_insert_33 : decode cX9_insert 33 = .ok (.iconst 1, 1) := by decide +kernel
theorem dX9_insert_34 : decode cX9_insert 34 = .ok (.goto 4, 3) := by decide +kernel
theorem dX9_insert_37 : decode cX9_insert 37 = .ok (.iconst 2, 1) := by decide +kernel
theorem dX9_insert_38 : decode cX9_insert 38 = .ok (.putfield 78, 3) := by decide +kernel
theorem dX9_insert_41 : decode cX9_insert 41 = .ok (.iconst (-1), 1) := by decide +kernel
theorem dX9_insert_42 : decode cX9_insert 42 = .ok (.ireturn, 1) := by decide +kernel
theorem dX9_insert_43 : decode cX9_insert 43 = .ok (.aload_n 0, 1) := by decide +kernel
theorem dX9_insert_44 : decode cX9_insert 44 = .ok (.iload_n 1, 1) := by decide +kernel
theorem dX9_insert_45 : decode cX9_insert 45 = .ok (.iload_n 2, 1) := by decide +kernel
theorem dX9_insert_46 : decode cX9_insert 46 = .ok (.iconst 1, 1) := by decide +kernel
theorem dX9_insert_47 : decode cX9_insert 47 = .ok (.invokevirtual 109, 3) := by decide +kernel
theorem dX9_insert_50 : decode cX9_insert 50 = .ok (.bipush 45, 2) := by decide +kernel
theorem dX9_insert_52 : decode cX9_insert 52 = .ok (.if_icmp .eq 7, 3) := by decide +kernel
theorem dX9_insert_55 : decode cX9_insert 55 = .ok (.iconst 1, 1) := by decide +kernel
theorem dX9_insert_56 : decode cX9_insert 56 = .ok (.goto 4, 3) := by decide +kernel
theorem dX9_insert_59 : decode cX9_insert 59 = .ok (.iconst 0, 1) := by decide +kernel
theorem dX9_insert_60 : decode cX9_insert 60 = .ok (.istore 4, 2) := by decide +kernel
theorem dX9_insert_62 : decode cX9_insert 62 = .ok (.aload_n 0, 1) := by decide +kernel
theorem dX9_insert_63 : decode cX9_insert 63 = .ok (.iload_n 3, 1) := by decide +kernel
theorem dX9_insert_64 : decode cX9_insert 64 = .ok (.invokestatic 113, 3) := by decide +kernel
theorem dX9_insert_67 : decode cX9_insert 67 = .ok (.ifCond .ne 7, 3) := by decide +kernel
theorem dX9_insert_70 : decode cX9_insert 70 = .ok (.iconst 3, 1) := by decide +kernel
theorem dX9_insert_71 : decode cX9_insert 71 = .ok (.goto 28, 3) := by decide +kernel
theorem dX9_insert_74 : decode cX9_insert 74 = .ok (.aload_n 0, 1) := by decide +kernel
theorem dX9_insert_75 : decode cX9_insert 75 = .ok (.getfield 13, 3) := by decide +kernel
theorem dX9_insert_78 : decode cX9_insert 78 = .ok (.iload_n 1, 1) := by decide +kernel
theorem dX9_insert_79 : decode cX9_insert 79 = .ok (.iaload, 1) := by decide +kernel
theorem dX9_insert_80 : decode cX9_insert 80 = .ok (.bipush 80, 2) := by decide +kernel
theorem dX9_insert_82 : decode cX9_insert 82 = .ok (.if_icmp .ne 7, 3) := by decide +kernel
theorem dX9_insert_85 : decode cX9_insert 85 = .ok (.iconst 4, 1) := by decide +kernel
theorem dX9_insert_86 : decode cX9_insert 86 = .ok (.goto 13, 3) := by decide +kernel
theorem dX9_insert_89 : decode cX9_insert 89 = .ok (.iload 4, 2) := by decide +kernel
theorem dX9_insert_91 : decode cX9_insert 91 = .ok (.ifCond .eq 7, 3) := by decide +kernel
theorem dX9_insert_94 : decode cX9_insert 94 = .ok (.iconst 5, 1) := by decide +kernel
theorem dX9_insert_95 : decode cX9_insert 95 = .ok (.goto 4, 3) := by decide +kernel
theorem dX9_insert_98 : decode cX9_insert 98 = .ok (.iconst 0, 1) := by decide +kernel
theorem dX9_insert_99 : decode cX9_insert 99 = .ok (.putfield 78, 3) := by decide +kernel
theorem dX9_insert_102 : decode cX9_insert 102 = .ok (.aload_n 0, 1) := by decide +kernel
theorem dX9_insert_103 : decode cX9_insert 103 = .ok (.getfield 78, 3) := by decide +kernel
theorem dX9_insert_106 : decode cX9_insert 106 = .ok (.ifCond .le 5, 3) := by decide +kernel
theorem dX9_insert_109 : decode cX9_insert 109 = .ok (.iconst (-1), 1) := by decide +kernel
theorem dX9_insert_110 : decode cX9_insert 110 = .ok (.ireturn, 1) := by decide +kernel
theorem dX9_insert_111 : decode cX9_insert 111 = .ok (.aload_n 0, 1) := by decide +kernel
theorem dX9_insert_112 : decode cX9_insert 112 = .ok (.getfield 13, 3) := by decide +kernel
theorem dX9_insert_115 : decode cX9_insert 115 = .ok (.iload_n 1, 1) := by decide +kernel
theorem dX9_insert_116 : decode cX9_insert 116 = .ok (.iaload, 1) := by decide +kernel
theorem dX9_insert_117 : decode cX9_insert 117 = .ok (.istore 5, 2) := by decide +kernel
theorem dX9_insert_119 : decode cX9_insert 119 = .ok (.iload 5, 2) := by decide +kernel
theorem dX9_insert_121 : decode cX9_insert 121 = .ok (.iload_n 2, 1) := by decide +kernel
theorem dX9_insert_122 : decode cX9_insert 122 = .ok (.if_icmp .le 35, 3) := by decide +kernel
theorem dX9_insert_125 : decode cX9_insert 125 = .ok (.aload_n 0, 1) := by decide +kernel
theorem dX9_insert_126 : decode cX9_insert 126 = .ok (.getfield 7, 3) := by decide +kernel
theorem dX9_insert_129 : decode cX9_insert 129 = .ok (.bipush 80, 2) := by decide +kernel
theorem dX9_insert_131 : decode cX9_insert 131 = .ok (.iload_n 1, 1) := by decide +kernel
theorem dX9_insert_132 : decode cX9_insert 132 = .ok (.imul, 1) := by decide +kernel
theorem dX9_insert_133 : decode cX9_insert 133 = .ok (.iload 5, 2) := by decide +kernel
theorem dX9_insert_135 : decode cX9_insert 135 = .ok (.iadd, 1) := by decide +kernel
theorem dX9_insert_136 : decode cX9_insert 136 = .ok (.aload_n 0, 1) := by decide +kernel
theorem dX9_insert_137 : decode cX9_insert 137 = .ok (.getfield 7, 3) := by decide +kernel
theorem dX9_insert_140 : decode cX9_insert 140 = .ok (.bipush 80, 2) := by decide +kernel
theorem dX9_insert_142 : decode cX9_insert 142 = .ok (.iload_n 1, 1) := by decide +kernel
theorem dX9_insert_143 : decode cX9_insert 143 = .ok (.imul, 1) := by decide +kernel
theorem dX9_insert_144 : decode cX9_insert 144 = .ok (.iload 5, 2) := by decide +kernel
theorem dX9_insert_146 : decode cX9_insert 146 = .ok (.iadd, 1) := by decide +kernel
theorem dX9_insert_147 : decode cX9_insert 147 = .ok (.iconst 1, 1) := by decide +kernel
theorem dX9_insert_148 : decode cX9_insert 148 = .ok (.isub, 1) := by decide +kernel
theorem dX9_insert_149 : decode cX9_insert 149 = .ok (.iaload, 1) := by decide +kernel
theorem dX9_insert_150 : decode cX9_insert 150 = .ok (.iastore, 1) := by decide +kernel
theorem dX9_insert_151 : decode cX9_insert 151 = .ok (.iinc 5 (-1), 3) := by decide +kernel
end
section
theorem dX9_insert_154 : decode cX9_insert 154 = .ok (.goto (-35), 3) := by decide +kernel
theorem dX9_insert_157 : decode cX9_insert 157 = .ok (.aload_n 0, 1) := by decide +kernel
theorem dX9_insert_158 : decode cX9_insert 158 = .ok (.getfield 7, 3) := by decide +kernel
theorem dX9_insert_161 : decode cX9_insert 161 = .ok (.bipush 80, 2) := by decide +kernel
theorem dX9_insert_163 : decode cX9_insert 163 = .ok (.iload_n 1, 1) := by decide +kernel
theorem dX9_insert_164 : decode cX9_insert 164 = .ok (.imul, 1) := by decide +kernel
theorem dX9_insert_165 : decode cX9_insert 165 = .ok (.iload_n 2, 1) := by decide +kernel
theorem dX9_insert_166 : decode cX9_insert 166 = .ok (.iadd, 1) := by decide +kernel
theorem dX9_insert_167 : decode cX9_insert 167 = .ok (.iload_n 3, 1) := by decide +kernel
theorem dX9_insert_168 : decode cX9_insert 168 = .ok (.iastore, 1) := by decide +kernel
theorem dX9_insert_169 : decode cX9_insert 169 = .ok (.aload_n 0, 1) := by decide +kernel
theorem dX9_insert_170 : decode cX9_insert 170 = .ok (.getfield 13, 3) := by decide +kernel
theorem dX9_insert_173 : decode cX9_insert 173 = .ok (.iload_n 1, 1) := by decide +kernel
theorem dX9_insert_174 : decode cX9_insert 174 = .ok (.dup2, 1) := by decide +kernel
theorem dX9_insert_175 : decode cX9_insert 175 = .ok (.iaload, 1) := by decide +kernel
theorem dX9_insert_176 : decode cX9_insert 176 = .ok (.iconst 1, 1) := by decide +kernel
theorem dX9_insert_177 : decode cX9_insert 177 = .ok (.iadd, 1) := by decide +kernel
theorem dX9_insert_178 : decode cX9_insert 178 = .ok (.iastore, 1) := by decide +kernel
theorem dX9_insert_179 : decode cX9_insert 179 = .ok (.aload_n 0, 1) := by decide +kernel
theorem dX9_insert_180 : decode cX9_insert 180 = .ok (.getfield 16, 3) := by decide +kernel
theorem dX9_insert_183 : decode cX9_insert 183 = .ok (.iload_n 1, 1) := by decide +kernel
theorem dX9_insert_184 : decode cX9_insert 184 = .ok (.dup2, 1) := by decide +kernel
theorem dX9_insert_185 : decode cX9_insert 185 = .ok (.iaload, 1) := by decide +kernel
theorem dX9_insert_186 : decode cX9_insert 186 = .ok (.iconst 1, 1) := by decide +kernel
theorem dX9_insert_187 : decode cX9_insert 187 = .ok (.iadd, 1) := by decide +kernel
theorem dX9_insert_188 : decode cX9_insert 188 = .ok (.iastore, 1) := by decide +kernel
theorem dX9_insert_189 : decode cX9_insert 189 = .ok (.aload_n 0, 1) := by decide +kernel
theorem dX9_insert_190 : decode cX9_insert 190 = .ok (.iload_n 1, 1) := by decide +kernel
theorem dX9_insert_191 : decode cX9_insert 191 = .ok (.iload_n 2, 1) := by decide +kernel
theorem dX9_insert_192 : decode cX9_insert 192 = .ok (.iconst 1, 1) := by decide +kernel
theorem dX9_insert_193 : decode cX9_insert 193 = .ok (.invokevirtual 116, 3) := by decide +kernel
theorem dX9_insert_196 : decode cX9_insert 196 = .ok (.aload_n 0, 1) := by decide +kernel
theorem dX9_insert_197 : decode cX9_insert 197 = .ok (.getfield 16, 3) := by decide +kernel
theorem dX9_insert_200 : decode cX9_insert 200 = .ok (.iload_n 1, 1) := by decide +kernel
theorem dX9_insert_201 : decode cX9_insert 201 = .ok (.iaload, 1) := by decide +kernel
theorem dX9_insert_202 : decode cX9_insert 202 = .ok (.ireturn, 1) := by decide +kernel
theorem dX9_delete_0 : decode cX9_delete 0 = .ok (.aload_n 0, 1) := by decide +kernel
theorem dX9_delete_1 : decode cX9_delete 1 = .ok (.iload_n 1, 1) := by decide +kernel
theorem dX9_delete_2 : decode cX9_delete 2 = .ok (.invokevirtual 105, 3) := by decide +kernel
theorem dX9_delete_5 : decode cX9_delete 5 = .ok (.ifCond .eq 21, 3) := by decide +kernel
theorem dX9_delete_8 : decode cX9_delete 8 = .ok (.iload_n 2, 1) := by decide +kernel
theorem dX9_delete_9 : decode cX9_delete 9 = .ok (.i2l, 1) := by decide +kernel
theorem dX9_delete_10 : decode cX9_delete 10 = .ok (.lconst 0, 1) := by decide +kernel
theorem dX9_delete_11 : decode cX9_delete 11 = .ok (.aload_n 0, 1) := by decide +kernel
theorem dX9_delete_12 : decode cX9_delete 12 = .ok (.getfield 13, 3) := by decide +kernel
theorem dX9_delete_15 : decode cX9_delete 15 = .ok (.iload_n 1, 1) := by decide +kernel
theorem dX9_delete_16 : decode cX9_delete 16 = .ok (.iaload, 1) := by decide +kernel
theorem dX9_delete_17 : decode cX9_delete 17 = .ok (.iconst 1, 1) := by decide +kernel
theorem dX9_delete_18 : decode cX9_delete 18 = .ok (.isub, 1) := by decide +kernel
theorem dX9_delete_19 : decode cX9_delete 19 = .ok (.i2l, 1) := by decide +kernel
theorem dX9_delete_20 : decode cX9_delete 20 = .ok (.invokestatic 84, 3) := by decide +kernel
theorem dX9_delete_23 : decode cX9_delete 23 = .ok (.ifCond .ne 22, 3) := by decide +kernel
theorem dX9_delete_26 : decode cX9_delete 26 = .ok (.aload_n 0, 1) := by decide +kernel
theorem dX9_delete_27 : decode cX9_delete 27 = .ok (.aload_n 0, 1) := by decide +kernel
theorem dX9_delete_28 : decode cX9_delete 28 = .ok (.iload_n 1, 1) := by decide +kernel
theorem dX9_delete_29 : decode cX9_delete 29 = .ok (.invokevirtual 105, 3) := by decide +kernel
theorem dX9_delete_32 : decode cX9_delete 32 = .ok (.ifCond .ne 7, 3) := by decide +kernel
theorem dX9_delete_35 : decode cX9_delete 35 = .ok (.iconst 1, 1) := by decide +kernel
theorem dX9_delete_36 : decode cX9_delete 36 = .ok (.goto 4, 3) := by decide +kernel
theorem dX9_delete_39 : decode cX9_delete 39 = .ok (.iconst 2, 1) := by decide +kernel
theorem dX9_delete_40 : decode cX9_delete 40 = .ok (.putfield 78, 3) := by decide +kernel
theorem dX9_delete_43 : decode cX9_delete 43 = .ok (.iconst (-1), 1) := by decide +kernel
theorem dX9_delete_44 : decode cX9_delete 44 = .ok (.ireturn, 1) := by decide +kernel
theorem dX9_delete_45 : decode cX9_delete 45 = .ok (.aload_n 0, 1) := by decide +kernel
theorem dX9_delete_46 : decode cX9_delete 46 = .ok (.aload_n 0, 1) := by decide +kernel
theorem dX9_delete_47 : decode cX9_delete 47 = .ok (.iload_n 1, 1) := by decide +kernel
theorem dX9_delete_48 : decode cX9_delete 48 = .ok (.iload_n 2, 1) := by decide +kernel
theorem dX9_delete_49 : decode cX9_delete 49 = .ok (.iconst 0, 1) := by decide +kernel
theorem dX9_delete_50 : decode cX9_delete 50 = .ok (.invokevirtual 109, 3) := by decide +kernel
theorem dX9_delete_53 : decode cX9_delete 53 = .ok (.bipush 45, 2) := by decide +kernel
theorem dX9_delete_55 : decode cX9_delete 55 = .ok (.if_icmp .eq 7, 3) := by decide +kernel
theorem dX9_delete_58 : decode cX9_delete 58 = .ok (.iconst 3, 1) := by decide +kernel
theorem dX9_delete_59 : decode cX9_delete 59 = .ok (.goto 4, 3) := by decide +kernel
theorem dX9_delete_62 : decode cX9_delete 62 = .ok (.iconst 0, 1) := by decide +kernel
theorem dX9_delete_63 : decode cX9_delete 63 = .ok (.putfield 78, 3) := by decide +kernel
theorem dX9_delete_66 : decode cX9_delete 66 = .ok (.aload_n 0, 1) := by decide +kernel
theorem dX9_delete_67 : decode cX9_delete 67 = .ok (.getfield 78, 3) := by decide +kernel
theorem dX9_delete_70 : decode cX9_delete 70 = .ok (.ifCond .le 5, 3) := by decide +kernel
theorem dX9_delete_73 : decode cX9_delete 73 = .ok (.iconst (-1), 1) := by decide +kernel
theorem dX9_delete_74 : decode cX9_delete 74 = .ok (.ireturn, 1) := by decide +kernel
theorem dX9_delete_75 : decode cX9_delete 75 = .ok (.aload_n 0, 1) := by decide +kernel
theorem dX9_delete_76 : decode cX9_delete 76 = .ok (.getfield 7, 3) := by decide +kernel
theorem dX9_delete_79 : decode cX9_delete 79 = .ok (.bipush 80, 2) := by decide +kernel
theorem dX9_delete_81 : decode cX9_delete 81 = .ok (.iload_n 1, 1) := by decide +kernel
theorem dX9_delete_82 : decode cX9_delete 82 = .ok (.imul, 1) := by decide +kernel
theorem dX9_delete_83 : decode cX9_delete 83 = .ok (.iload_n 2, 1) := by decide +kernel
theorem dX9_delete_84 : decode cX9_delete 84 = .ok (.iadd, 1) := by decide +kernel
theorem dX9_delete_85 : decode cX9_delete 85 = .ok (.iaload, 1) := by decide +kernel
theorem dX9_delete_86 : decode cX9_delete 86 = .ok (.istore_n 3, 1) := by decide +kernel
theorem dX9_delete_87 : decode cX9_delete 87 = .ok (.iload_n 2, 1) := by decide +kernel
theorem dX9_delete_88 : decode cX9_delete 88 = .ok (.istore 4, 2) := by decide +kernel
theorem dX9_delete_90 : decode cX9_delete 90 = .ok (.iload 4, 2) := by decide +kernel
theorem dX9_delete_92 : decode cX9_delete 92 = .ok (.aload_n 0, 1) := by decide +kernel
theorem dX9_delete_93 : decode cX9_delete 93 = .ok (.getfield 13, 3) := by decide +kernel
theorem dX9_delete_96 : decode cX9_delete 96 = .ok (.iload_n 1, 1) := by decide +kernel
theorem dX9_delete_97 : decode cX9_delete 97 = .ok (.iaload, 1) := by decide +kernel
theorem dX9_delete_98 : decode cX9_delete 98 = .ok (.iconst 1, 1) := by decide +kernel
theorem dX9_delete_99 : decode cX9_delete 99 = .ok (.isub, 1) := by decide +kernel
theorem dX9_delete_100 : decode cX9_delete 100 = .ok (.if_icmp .ge 35, 3) := by decide +kernel
theorem dX9_delete_103 : decode cX9_delete 103 = .ok (.aload_n 0, 1) := by decide +kernel
theorem dX9_delete_104 : decode cX9_delete 104 = .ok (.getfield 7, 3) := by decide +kernel
theorem dX9_delete_107 : decode cX9_delete 107 = .ok (.bipush 80, 2) := by decide +kernel
theorem dX9_delete_109 : decode cX9_delete 109 = .ok (.iload_n 1, 1) := by decide +kernel
theorem dX9_delete_110 : decode cX9_delete 110 = .ok (.imul, 1) := by decide +kernel
theorem dX9_delete_111 : decode cX9_delete 111 = .ok (.iload 4, 2) := by decide +kernel
theorem dX9_delete_113 : decode cX9_delete 113 = .ok (.iadd, 1) := by decide +kernel
theorem dX9_delete_114 : decode cX9_delete 114 = .ok (.aload_n 0, 1) := by decide +kernel
theorem dX9_delete_115 : decode cX9_delete 115 = .ok (.getfield 7, 3) := by decide +kernel
theorem dX9_delete_118 : decode cX9_delete 118 = .ok (.bipush 80, 2) := by decide +kernel
theorem dX9_delete_120 : decode cX9_delete 120 = .ok (.iload_n 1, 1) := by decide +kernel
theorem dX9_delete_121 : decode cX9_delete 121 = .ok (.imul, 1) := by decide +kernel
theorem dX9_delete_122 : decode cX9_delete 122 = .ok (.iload 4, 2) := by decide +kernel
theorem dX9_delete_124 : decode cX9_delete 124 = .ok (.iadd, 1) := by decide +kernel
theorem dX9_delete_125 : decode cX9_delete 125 = .ok (.iconst 1, 1) := by decide +kernel
theorem dX9_delete_126 : decode cX9_delete 126 = .ok (.iadd, 1) := by decide +kernel
theorem dX9_delete_127 : decode cX9_delete 127 = .ok (.iaload, 1) := by decide +kernel
theorem dX9_delete_128 : decode cX9_delete 128 = .ok (.iastore, 1) := by decide +kernel
theorem dX9_delete_129 : decode cX9_delete 129 = .ok (.iinc 4 1, 3) := by decide +kernel
theorem dX9_delete_132 : decode cX9_delete 132 = .ok (.goto (-42), 3) := by decide +kernel
theorem dX9_delete_135 : decode cX9_delete 135 = .ok (.aload_n 0, 1) := by decide +kernel
theorem dX9_delete_136 : decode cX9_delete 136 = .ok (.getfield 13, 3) := by decide +kernel
theorem dX9_delete_139 : decode cX9_delete 139 = .ok (.iload_n 1, 1) := by decide +kernel
theorem dX9_delete_140 : decode cX9_delete 140 = .ok (.dup2, 1) := by decide +kernel
theorem dX9_delete_141 : decode cX9_delete 141 = .ok (.iaload, 1) := by decide +kernel
theorem dX9_delete_142 : decode cX9_delete 142 = .ok (.iconst 1, 1) := by decide +kernel
theorem dX9_delete_143 : decode cX9_delete 143 = .ok (.isub, 1) := by decide +kernel
theorem dX9_delete_144 : decode cX9_delete 144 = .ok (.iastore, 1) := by decide +kernel
theorem dX9_delete_145 : decode cX9_delete 145 = .ok (.aload_n 0, 1) := by decide +kernel
theorem dX9_delete_146 : decode cX9_delete 146 = .ok (.getfield 16, 3) := by decide +kernel
theorem dX9_delete_149 : decode cX9_delete 149 = .ok (.iload_n 1, 1) := by decide +kernel
theorem dX9_delete_150 : decode cX9_delete 150 = .ok (.dup2, 1) := by decide +kernel
theorem dX9_delete_151 : decode cX9_delete 151 = .ok (.iaload, 1) := by decide +kernel
theorem dX9_delete_152 : decode cX9_delete 152 = .ok (.iconst 1, 1) := by decide +kernel
theorem dX9_delete_153 : decode cX9_delete 153 = .ok (.iadd, 1) := by decide +kernel
theorem dX9_delete_154 : decode cX9_delete 154 = .ok (.iastore, 1) := by decide +kernel
theorem dX9_delete_155 : decode cX9_delete 155 = .ok (.aload_n 0, 1) := by decide +kernel
theorem dX9_delete_156 : decode cX9_delete 156 = .ok (.iload_n 1, 1) := by decide +kernel
theorem dX9_delete_157 : decode cX9_delete 157 = .ok (.iload_n 2, 1) := by decide +kernel
theorem dX9_delete_158 : decode cX9_delete 158 = .ok (.iconst (-1), 1) := by decide +kernel
theorem dX9_delete_159 : decode cX9_delete 159 = .ok (.invokevirtual 116, 3) := by decide +kernel
theorem dX9_delete_162 : decode cX9_delete 162 = .ok (.iload_n 3, 1) := by decide +kernel
theorem dX9_delete_163 : decode cX9_delete 163 = .ok (.ireturn, 1) := by decide +kernel
theorem dX9_bar_0 : decode cX9_bar 0 = .ok (.aload_n 0, 1) := by decide +kernel
theorem dX9_bar_1 : decode cX9_bar 1 = .ok (.iload_n 1, 1) := by decide +kernel
theorem dX9_bar_2 : decode cX9_bar 2 = .ok (.invokevirtual 105, 3) := by decide +kernel
theorem dX9_bar_5 : decode cX9_bar 5 = .ok (.ifCond .ne 11, 3) := by decide +kernel
theorem dX9_bar_8 : decode cX9_bar 8 = .ok (.aload_n 0, 1) := by decide +kernel
theorem dX9_bar_9 : decode cX9_bar 9 = .ok (.iconst 1, 1) := by decide +kernel
theorem dX9_bar_10 : decode cX9_bar 10 = .ok (.putfield 78, 3) := by decide +kernel
theorem dX9_bar_13 : decode cX9_bar 13 = .ok (.bipush 32, 2) := by decide +kernel
theorem dX9_bar_15 : decode cX9_bar 15 = .ok (.ireturn, 1) := by decide +kernel
theorem dX9_bar_16 : decode cX9_bar 16 = .ok (.aload_n 0, 1) := by decide +kernel
theorem dX9_bar_17 : decode cX9_bar 17 = .ok (.iload_n 2, 1) := by decide +kernel
theorem dX9_bar_18 : decode cX9_bar 18 = .ok (.i2l, 1) := by decide +kernel
theorem dX9_bar_19 : decode cX9_bar 19 = .ok (.lconst 0, 1) := by decide +kernel
theorem dX9_bar_20 : decode cX9_bar 20 = .ok (.aload_n 0, 1) := by decide +kernel
theorem dX9_bar_21 : decode cX9_bar 21 = .ok (.getfield 13, 3) := by decide +kernel
theorem dX9_bar_24 : decode cX9_bar 24 = .ok (.iload_n 1, 1) := by decide +kernel
theorem dX9_bar_25 : decode cX9_bar 25 = .ok (.iaload, 1) := by decide +kernel
theorem dX9_bar_26 : decode cX9_bar 26 = .ok (.iload_n 3, 1) := by decide +kernel
theorem dX9_bar_27 : decode cX9_bar 27 = .ok (.ifCond .eq 7, 3) := by decide +kernel
theorem dX9_bar_30 : decode cX9_bar 30 = .ok (.iconst 0, 1) := by decide +kernel
theorem dX9_bar_31 : decode cX9_bar 31 = .ok (.goto 4, 3) := by decide +kernel
theorem dX9_bar_34 : decode cX9_bar 34 = .ok (.iconst 1, 1) := by decide +kernel
theorem dX9_bar_35 : decode cX9_bar 35 = .ok (.isub, 1) := by decide +kernel
theorem dX9_bar_36 : decode cX9_bar 36 = .ok (.i2l, 1) := by decide +kernel
theorem dX9_bar_37 : decode cX9_bar 37 = .ok (.invokestatic 84, 3) := by decide +kernel
theorem dX9_bar_40 : decode cX9_bar 40 = .ok (.ifCond .eq 7, 3) := by decide +kernel
theorem dX9_bar_43 : decode cX9_bar 43 = .ok (.iconst 0, 1) := by decide +kernel
theorem dX9_bar_44 : decode cX9_bar 44 = .ok (.goto 4, 3) := by decide +kernel
theorem dX9_bar_47 : decode cX9_bar 47 = .ok (.iconst 2, 1) := by decide +kernel
theorem dX9_bar_48 : decode cX9_bar 48 = .ok (.putfield 78, 3) := by decide +kernel
theorem dX9_bar_51 : decode cX9_bar 51 = .ok (.aload_n 0, 1) := by decide +kernel
theorem dX9_bar_52 : decode cX9_bar 52 = .ok (.getfield 78, 3) := by decide +kernel
theorem dX9_bar_55 : decode cX9_bar 55 = .ok (.ifCond .ne 13, 3) := by decide +kernel
theorem dX9_bar_58 : decode cX9_bar 58 = .ok (.aload_n 0, 1) := by decide +kernel
theorem dX9_bar_59 : decode cX9_bar 59 = .ok (.iload_n 1, 1) := by decide +kernel
theorem dX9_bar_60 : decode cX9_bar 60 = .ok (.iload_n 2, 1) := by decide +kernel
theorem dX9_bar_61 : decode cX9_bar 61 = .ok (.iload_n 3, 1) := by decide +kernel
theorem dX9_bar_62 : decode cX9_bar 62 = .ok (.invokevirtual 109, 3) := by decide +kernel
theorem dX9_bar_65 : decode cX9_bar 65 = .ok (.goto 5, 3) := by decide +kernel
theorem dX9_bar_68 : decode cX9_bar 68 = .ok (.bipush 32, 2) := by decide +kernel
theorem dX9_bar_70 : decode cX9_bar 70 = .ok (.ireturn, 1) := by decide +kernel
theorem dX9_close_0 : decode cX9_close 0 = .ok (.aload_n 0, 1) := by decide +kernel
theorem dX9_close_1 : decode cX9_close 1 = .ok (.aload_n 0, 1) := by decide +kernel
theorem dX9_close_2 : decode cX9_close 2 = .ok (.iload_n 1, 1) := by decide +kernel
theorem dX9_close_3 : decode cX9_close 3 = .ok (.invokevirtual 105, 3) := by decide +kernel
theorem dX9_close_6 : decode cX9_close 6 = .ok (.ifCond .ne 7, 3) := by decide +kernel
theorem dX9_close_9 : decode cX9_close 9 = .ok (.iconst 1, 1) := by decide +kernel
theorem dX9_close_10 : decode cX9_close 10 = .ok (.goto 20, 3) := by decide +kernel
theorem dX9_close_13 : decode cX9_close 13 = .ok (.iload_n 2, 1) := by decide +kernel
theorem dX9_close_14 : decode cX9_close 14 = .ok (.i2l, 1) := by decide +kernel
theorem dX9_close_15 : decode cX9_close 15 = .ok (.lconst 0, 1) := by decide +kernel
theorem dX9_close_16 : decode cX9_close 16 = .ok (.ldc2_w 120, 3) := by decide +kernel
theorem dX9_close_19 : decode cX9_close 19 = .ok (.invokestatic 84, 3) := by decide +kernel
theorem dX9_close_22 : decode cX9_close 22 = .ok (.ifCond .ne 7, 3) := by decide +kernel
theorem dX9_close_25 : decode cX9_close 25 = .ok (.iconst 2, 1) := by decide +kernel
theorem dX9_close_26 : decode cX9_close 26 = .ok (.goto 4, 3) := by decide +kernel
theorem dX9_close_29 : decode cX9_close 29 = .ok (.iconst 0, 1) := by decide +kernel
theorem dX9_close_30 : decode cX9_close 30 = .ok (.putfield 78, 3) := by decide +kernel
theorem dX9_close_33 : decode cX9_close 33 = .ok (.aload_n 0, 1) := by decide +kernel
theorem dX9_close_34 : decode cX9_close 34 = .ok (.getfield 78, 3) := by decide +kernel
theorem dX9_close_37 : decode cX9_close 37 = .ok (.ifCond .le 5, 3) := by decide +kernel
theorem dX9_close_40 : decode cX9_close 40 = .ok (.iconst (-1), 1) := by decide +kernel
theorem dX9_close_41 : decode cX9_close 41 = .ok (.ireturn, 1) := by decide +kernel
theorem dX9_close_42 : decode cX9_close 42 = .ok (.aload_n 0, 1) := by decide +kernel
theorem dX9_close_43 : decode cX9_close 43 = .ok (.getfield 19, 3) := by decide +kernel
theorem dX9_close_46 : decode cX9_close 46 = .ok (.iload_n 1, 1) := by decide +kernel
theorem dX9_close_47 : decode cX9_close 47 = .ok (.iaload, 1) := by decide +kernel
theorem dX9_close_48 : decode cX9_close 48 = .ok (.istore_n 3, 1) := by decide +kernel
theorem dX9_close_49 : decode cX9_close 49 = .ok (.aload_n 0, 1) := by decide +kernel
theorem dX9_close_50 : decode cX9_close 50 = .ok (.getfield 19, 3) := by decide +kernel
theorem dX9_close_53 : decode cX9_close 53 = .ok (.iload_n 1, 1) := by decide +kernel
theorem dX9_close_54 : decode cX9_close 54 = .ok (.iload_n 2, 1) := by decide +kernel
theorem dX9_close_55 : decode cX9_close 55 = .ok (.iastore, 1) := by decide +kernel
theorem dX9_close_56 : decode cX9_close 56 = .ok (.iload_n 3, 1) := by decide +kernel
theorem dX9_close_57 : decode cX9_close 57 = .ok (.ireturn, 1) := by decide +kernel
theorem dX9_asks_0 : decode cX9_asks 0 = .ok (.aload_n 0, 1) := by decide +kernel
theorem dX9_asks_1 : decode cX9_asks 1 = .ok (.aload_n 0, 1) := by decide +kernel
theorem dX9_asks_2 : decode cX9_asks 2 = .ok (.iload_n 1, 1) := by decide +kernel
theorem dX9_asks_3 : decode cX9_asks 3 = .ok (.invokevirtual 105, 3) := by decide +kernel
theorem dX9_asks_6 : decode cX9_asks 6 = .ok (.ifCond .eq 7, 3) := by decide +kernel
theorem dX9_asks_9 : decode cX9_asks 9 = .ok (.iconst 0, 1) := by decide +kernel
theorem dX9_asks_10 : decode cX9_asks 10 = .ok (.goto 4, 3) := by decide +kernel
theorem dX9_asks_13 : decode cX9_asks 13 = .ok (.iconst 1, 1) := by decide +kernel
theorem dX9_asks_14 : decode cX9_asks 14 = .ok (.putfield 78, 3) := by decide +kernel
theorem dX9_asks_17 : decode cX9_asks 17 = .ok (.aload_n 0, 1) := by decide +kernel
theorem dX9_asks_18 : decode cX9_asks 18 = .ok (.getfield 78, 3) := by decide +kernel
theorem dX9_asks_21 : decode cX9_asks 21 = .ok (.ifCond .ne 7, 3) := by decide +kernel
theorem dX9_asks_24 : decode cX9_asks 24 = .ok (.iconst 1, 1) := by decide +kernel
theorem dX9_asks_25 : decode cX9_asks 25 = .ok (.goto 4, 3) := by decide +kernel
theorem dX9_asks_28 : decode cX9_asks 28 = .ok (.iconst 0, 1) := by decide +kernel
theorem dX9_asks_29 : decode cX9_asks 29 = .ok (.ireturn, 1) := by decide +kernel
theorem dX9_length_0 : decode cX9_length 0 = .ok (.aload_n 0, 1) := by decide +kernel
theorem dX9_length_1 : decode cX9_length 1 = .ok (.iload_n 1, 1) := by decide +kernel
theorem dX9_length_2 : decode cX9_length 2 = .ok (.invokevirtual 122, 3) := by decide +kernel
theorem dX9_length_5 : decode cX9_length 5 = .ok (.ifCond .eq 12, 3) := by decide +kernel
theorem dX9_length_8 : decode cX9_length 8 = .ok (.aload_n 0, 1) := by decide +kernel
theorem dX9_length_9 : decode cX9_length 9 = .ok (.getfield 13, 3) := by decide +kernel
theorem dX9_length_12 : decode cX9_length 12 = .ok (.iload_n 1, 1) := by decide +kernel
theorem dX9_length_13 : decode cX9_length 13 = .ok (.iaload, 1) := by decide +kernel
theorem dX9_length_14 : decode cX9_length 14 = .ok (.goto 4, 3) := by decide +kernel
theorem dX9_length_17 : decode cX9_length 17 = .ok (.iconst (-1), 1) := by decide +kernel
theorem dX9_length_18 : decode cX9_length 18 = .ok (.ireturn, 1) := by decide +kernel
theorem dX9_codeAt_0 : decode cX9_codeAt 0 = .ok (.aload_n 0, 1) := by decide +kernel
theorem dX9_codeAt_1 : decode cX9_codeAt 1 = .ok (.aload_n 0, 1) := by decide +kernel
theorem dX9_codeAt_2 : decode cX9_codeAt 2 = .ok (.iload_n 1, 1) := by decide +kernel
theorem dX9_codeAt_3 : decode cX9_codeAt 3 = .ok (.invokevirtual 105, 3) := by decide +kernel
theorem dX9_codeAt_6 : decode cX9_codeAt 6 = .ok (.ifCond .ne 7, 3) := by decide +kernel
theorem dX9_codeAt_9 : decode cX9_codeAt 9 = .ok (.iconst 1, 1) := by decide +kernel
theorem dX9_codeAt_10 : decode cX9_codeAt 10 = .ok (.goto 26, 3) := by decide +kernel
theorem dX9_codeAt_13 : decode cX9_codeAt 13 = .ok (.iload_n 2, 1) := by decide +kernel
theorem dX9_codeAt_14 : decode cX9_codeAt 14 = .ok (.i2l, 1) := by decide +kernel
theorem dX9_codeAt_15 : decode cX9_codeAt 15 = .ok (.lconst 0, 1) := by decide +kernel
theorem dX9_codeAt_16 : decode cX9_codeAt 16 = .ok (.aload_n 0, 1) := by decide +kernel
theorem dX9_codeAt_17 : decode cX9_codeAt 17 = .ok (.getfield 13, 3) := by decide +kernel
theorem dX9_codeAt_20 : decode cX9_codeAt 20 = .ok (.iload_n 1, 1) := by decide +kernel
theorem dX9_codeAt_21 : decode cX9_codeAt 21 = .ok (.iaload, 1) := by decide +kernel
theorem dX9_codeAt_22 : decode cX9_codeAt 22 = .ok (.iconst 1, 1) := by decide +kernel
theorem dX9_codeAt_23 : decode cX9_codeAt 23 = .ok (.isub, 1) := by decide +kernel
theorem dX9_codeAt_24 : decode cX9_codeAt 24 = .ok (.i2l, 1) := by decide +kernel
theorem dX9_codeAt_25 : decode cX9_codeAt 25 = .ok (.invokestatic 84, 3) := by decide +kernel
theorem dX9_codeAt_28 : decode cX9_codeAt 28 = .ok (.ifCond .ne 7, 3) := by decide +kernel
theorem dX9_codeAt_31 : decode cX9_codeAt 31 = .ok (.iconst 2, 1) := by decide +kernel
theorem dX9_codeAt_32 : decode cX9_codeAt 32 = .ok (.goto 4, 3) := by decide +kernel
theorem dX9_codeAt_35 : decode cX9_codeAt 35 = .ok (.iconst 0, 1) := by decide +kernel
theorem dX9_codeAt_36 : decode cX9_codeAt 36 = .ok (.putfield 78, 3) := by decide +kernel
theorem dX9_codeAt_39 : decode cX9_codeAt 39 = .ok (.aload_n 0, 1) := by decide +kernel
theorem dX9_codeAt_40 : decode cX9_codeAt 40 = .ok (.getfield 78, 3) := by decide +kernel
theorem dX9_codeAt_43 : decode cX9_codeAt 43 = .ok (.ifCond .ne 17, 3) := by decide +kernel
theorem dX9_codeAt_46 : decode cX9_codeAt 46 = .ok (.aload_n 0, 1) := by decide +kernel
theorem dX9_codeAt_47 : decode cX9_codeAt 47 = .ok (.getfield 7, 3) := by decide +kernel
theorem dX9_codeAt_50 : decode cX9_codeAt 50 = .ok (.bipush 80, 2) := by decide +kernel
theorem dX9_codeAt_52 : decode cX9_codeAt 52 = .ok (.iload_n 1, 1) := by decide +kernel
theorem dX9_codeAt_53 : decode cX9_codeAt 53 = .ok (.imul, 1) := by decide +kernel
theorem dX9_codeAt_54 : decode cX9_codeAt 54 = .ok (.iload_n 2, 1) := by decide +kernel
theorem dX9_codeAt_55 : decode cX9_codeAt 55 = .ok (.iadd, 1) := by decide +kernel
theorem dX9_codeAt_56 : decode cX9_codeAt 56 = .ok (.iaload, 1) := by decide +kernel
theorem dX9_codeAt_57 : decode cX9_codeAt 57 = .ok (.goto 4, 3) := by decide +kernel
theorem dX9_codeAt_60 : decode cX9_codeAt 60 = .ok (.iconst (-1), 1) := by decide +kernel
theorem dX9_codeAt_61 : decode cX9_codeAt 61 = .ok (.ireturn, 1) := by decide +kernel
theorem dX9_version_0 : decode cX9_version 0 = .ok (.aload_n 0, 1) := by decide +kernel
theorem dX9_version_1 : decode cX9_version 1 = .ok (.iload_n 1, 1) := by decide +kernel
theorem dX9_version_2 : decode cX9_version 2 = .ok (.invokevirtual 122, 3) := by decide +kernel
theorem dX9_version_5 : decode cX9_version 5 = .ok (.ifCond .eq 12, 3) := by decide +kernel
theorem dX9_version_8 : decode cX9_version 8 = .ok (.aload_n 0, 1) := by decide +kernel
theorem dX9_version_9 : decode cX9_version 9 = .ok (.getfield 16, 3) := by decide +kernel
theorem dX9_version_12 : decode cX9_version 12 = .ok (.iload_n 1, 1) := by decide +kernel
theorem dX9_version_13 : decode cX9_version 13 = .ok (.iaload, 1) := by decide +kernel
theorem dX9_version_14 : decode cX9_version 14 = .ok (.goto 4, 3) := by decide +kernel
theorem dX9_version_17 : decode cX9_version 17 = .ok (.iconst (-1), 1) := by decide +kernel
theorem dX9_version_18 : decode cX9_version 18 = .ok (.ireturn, 1) := by decide +kernel
theorem dX9_comment_0 : decode cX9_comment 0 = .ok (.aload_n 0, 1) := by decide +kernel
theorem dX9_comment_1 : decode cX9_comment 1 = .ok (.iload_n 1, 1) := by decide +kernel
theorem dX9_comment_2 : decode cX9_comment 2 = .ok (.invokevirtual 105, 3) := by decide +kernel
theorem dX9_comment_5 : decode cX9_comment 5 = .ok (.ifCond .ne 10, 3) := by decide +kernel
theorem dX9_comment_8 : decode cX9_comment 8 = .ok (.aload_n 0, 1) := by decide +kernel
theorem dX9_comment_9 : decode cX9_comment 9 = .ok (.iconst 1, 1) := by decide +kernel
theorem dX9_comment_10 : decode cX9_comment 10 = .ok (.putfield 78, 3) := by decide +kernel
theorem dX9_comment_13 : decode cX9_comment 13 = .ok (.iconst (-1), 1) := by decide +kernel
theorem dX9_comment_14 : decode cX9_comment 14 = .ok (.ireturn, 1) := by decide +kernel
theorem dX9_comment_15 : decode cX9_comment 15 = .ok (.iload_n 2, 1) := by decide +kernel
theorem dX9_comment_16 : decode cX9_comment 16 = .ok (.i2l, 1) := by decide +kernel
theorem dX9_comment_17 : decode cX9_comment 17 = .ok (.lconst 0, 1) := by decide +kernel
theorem dX9_comment_18 : decode cX9_comment 18 = .ok (.aload_n 0, 1) := by decide +kernel
theorem dX9_comment_19 : decode cX9_comment 19 = .ok (.getfield 13, 3) := by decide +kernel
theorem dX9_comment_22 : decode cX9_comment 22 = .ok (.iload_n 1, 1) := by decide +kernel
theorem dX9_comment_23 : decode cX9_comment 23 = .ok (.iaload, 1) := by decide +kernel
theorem dX9_comment_24 : decode cX9_comment 24 = .ok (.iconst 1, 1) := by decide +kernel
theorem dX9_comment_25 : decode cX9_comment 25 = .ok (.isub, 1) := by decide +kernel
theorem dX9_comment_26 : decode cX9_comment 26 = .ok (.i2l, 1) := by decide +kernel
theorem dX9_comment_27 : decode cX9_comment 27 = .ok (.invokestatic 84, 3) := by decide +kernel
theorem dX9_comment_30 : decode cX9_comment 30 = .ok (.ifCond .eq 26, 3) := by decide +kernel
theorem dX9_comment_33 : decode cX9_comment 33 = .ok (.iload_n 3, 1) := by decide +kernel
theorem dX9_comment_34 : decode cX9_comment 34 = .ok (.i2l, 1) := by decide +kernel
theorem dX9_comment_35 : decode cX9_comment 35 = .ok (.iload_n 2, 1) := by decide +kernel
theorem dX9_comment_36 : decode cX9_comment 36 = .ok (.iconst 1, 1) := by decide +kernel
theorem dX9_comment_37 : decode cX9_comment 37 = .ok (.iadd, 1) := by decide +kernel
theorem dX9_comment_38 : decode cX9_comment 38 = .ok (.i2l, 1) := by decide +kernel
theorem dX9_comment_39 : decode cX9_comment 39 = .ok (.aload_n 0, 1) := by decide +kernel
theorem dX9_comment_40 : decode cX9_comment 40 = .ok (.getfield 13, 3) := by decide +kernel
theorem dX9_comment_43 : decode cX9_comment 43 = .ok (.iload_n 1, 1) := by decide +kernel
theorem dX9_comment_44 : decode cX9_comment 44 = .ok (.iaload, 1) := by decide +kernel
theorem dX9_comment_45 : decode cX9_comment 45 = .ok (.i2l, 1) := by decide +kernel
theorem dX9_comment_46 : decode cX9_comment 46 = .ok (.invokestatic 84, 3) := by decide +kernel
theorem dX9_comment_49 : decode cX9_comment 49 = .ok (.ifCond .eq 7, 3) := by decide +kernel
theorem dX9_comment_52 : decode cX9_comment 52 = .ok (.iconst 1, 1) := by decide +kernel
theorem dX9_comment_53 : decode cX9_comment 53 = .ok (.goto 4, 3) := by decide +kernel
theorem dX9_comment_56 : decode cX9_comment 56 = .ok (.iconst 0, 1) := by decide +kernel
theorem dX9_comment_57 : decode cX9_comment 57 = .ok (.istore 4, 2) := by decide +kernel
theorem dX9_comment_59 : decode cX9_comment 59 = .ok (.aload_n 0, 1) := by decide +kernel
theorem dX9_comment_60 : decode cX9_comment 60 = .ok (.iload 4, 2) := by decide +kernel
theorem dX9_comment_62 : decode cX9_comment 62 = .ok (.ifCond .ne 7, 3) := by decide +kernel
theorem dX9_comment_65 : decode cX9_comment 65 = .ok (.iconst 2, 1) := by decide +kernel
theorem dX9_comment_66 : decode cX9_comment 66 = .ok (.goto 17, 3) := by decide +kernel
theorem dX9_comment_69 : decode cX9_comment 69 = .ok (.aload_n 0, 1) := by decide +kernel
theorem dX9_comment_70 : decode cX9_comment 70 = .ok (.getfield 91, 3) := by decide +kernel
theorem dX9_comment_73 : decode cX9_comment 73 = .ok (.bipush 8, 2) := by decide +kernel
theorem dX9_comment_75 : decode cX9_comment 75 = .ok (.if_icmp .ne 7, 3) := by decide +kernel
theorem dX9_comment_78 : decode cX9_comment 78 = .ok (.iconst 3, 1) := by decide +kernel
theorem dX9_comment_79 : decode cX9_comment 79 = .ok (.goto 4, 3) := by decide +kernel
theorem dX9_comment_82 : decode cX9_comment 82 = .ok (.iconst 0, 1) := by decide +kernel
theorem dX9_comment_83 : decode cX9_comment 83 = .ok (.putfield 78, 3) := by decide +kernel
theorem dX9_comment_86 : decode cX9_comment 86 = .ok (.aload_n 0, 1) := by decide +kernel
theorem dX9_comment_87 : decode cX9_comment 87 = .ok (.getfield 78, 3) := by decide +kernel
theorem dX9_comment_90 : decode cX9_comment 90 = .ok (.ifCond .le 5, 3) := by decide +kernel
theorem dX9_comment_93 : decode cX9_comment 93 = .ok (.iconst (-1), 1) := by decide +kernel
theorem dX9_comment_94 : decode cX9_comment 94 = .ok (.ireturn, 1) := by decide +kernel
theorem dX9_comment_95 : decode cX9_comment 95 = .ok (.aload_n 0, 1) := by decide +kernel
theorem dX9_comment_96 : decode cX9_comment 96 = .ok (.getfield 31, 3) := by decide +kernel
theorem dX9_comment_99 : decode cX9_comment 99 = .ok (.aload_n 0, 1) := by decide +kernel
theorem dX9_comment_100 : decode cX9_comment 100 = .ok (.getfield 91, 3) := by decide +kernel
theorem dX9_comment_103 : decode cX9_comment 103 = .ok (.iload_n 1, 1) := by decide +kernel
theorem dX9_comment_104 : decode cX9_comment 104 = .ok (.iastore, 1) := by decide +kernel
theorem dX9_comment_105 : decode cX9_comment 105 = .ok (.aload_n 0, 1) := by decide +kernel
theorem dX9_comment_106 : decode cX9_comment 106 = .ok (.getfield 34, 3) := by decide +kernel
theorem dX9_comment_109 : decode cX9_comment 109 = .ok (.aload_n 0, 1) := by decide +kernel
theorem dX9_comment_110 : decode cX9_comment 110 = .ok (.getfield 91, 3) := by decide +kernel
theorem dX9_comment_113 : decode cX9_comment 113 = .ok (.iload_n 2, 1) := by decide +kernel
theorem dX9_comment_114 : decode cX9_comment 114 = .ok (.iastore, 1) := by decide +kernel
theorem dX9_comment_115 : decode cX9_comment 115 = .ok (.aload_n 0, 1) := by decide +kernel
theorem dX9_comment_116 : decode cX9_comment 116 = .ok (.getfield 37, 3) := by decide +kernel
theorem dX9_comment_119 : decode cX9_comment 119 = .ok (.aload_n 0, 1) := by decide +kernel
theorem dX9_comment_120 : decode cX9_comment 120 = .ok (.getfield 91, 3) := by decide +kernel
theorem dX9_comment_123 : decode cX9_comment 123 = .ok (.iload_n 3, 1) := by decide +kernel
theorem dX9_comment_124 : decode cX9_comment 124 = .ok (.iastore, 1) := by decide +kernel
theorem dX9_comment_125 : decode cX9_comment 125 = .ok (.aload_n 0, 1) := by decide +kernel
theorem dX9_comment_126 : decode cX9_comment 126 = .ok (.getfield 40, 3) := by decide +kernel
theorem dX9_comment_129 : decode cX9_comment 129 = .ok (.aload_n 0, 1) := by decide +kernel
theorem dX9_comment_130 : decode cX9_comment 130 = .ok (.getfield 91, 3) := by decide +kernel
theorem dX9_comment_133 : decode cX9_comment 133 = .ok (.iconst 1, 1) := by decide +kernel
theorem dX9_comment_134 : decode cX9_comment 134 = .ok (.bastore, 1) := by decide +kernel
theorem dX9_comment_135 : decode cX9_comment 135 = .ok (.aload_n 0, 1) := by decide +kernel
theorem dX9_comment_136 : decode cX9_comment 136 = .ok (.dup, 1) := by decide +kernel
theorem dX9_comment_137 : decode cX9_comment 137 = .ok (.getfield 91, 3) := by decide +kernel
theorem dX9_comment_140 : decode cX9_comment 140 = .ok (.iconst 1, 1) := by decide +kernel
theorem dX9_comment_141 : decode cX9_comment 141 = .ok (.iadd, 1) := by decide +kernel
theorem dX9_comment_142 : decode cX9_comment 142 = .ok (.putfield 91, 3) := by decide +kernel
theorem dX9_comment_145 : decode cX9_comment 145 = .ok (.aload_n 0, 1) := by decide +kernel
theorem dX9_comment_146 : decode cX9_comment 146 = .ok (.getfield 91, 3) := by decide +kernel
theorem dX9_comment_149 : decode cX9_comment 149 = .ok (.iconst 1, 1) := by decide +kernel
theorem dX9_comment_150 : decode cX9_comment 150 = .ok (.isub, 1) := by decide +kernel
theorem dX9_comment_151 : decode cX9_comment 151 = .ok (.ireturn, 1) := by decide +kernel
theorem dX9_openOn_0 : decode cX9_openOn 0 = .ok (.iconst 0, 1) := by decide +kernel
theorem dX9_openOn_1 : decode cX9_openOn 1 = .ok (.istore_n 2, 1) := by decide +kernel
theorem dX9_openOn_2 : decode cX9_openOn 2 = .ok (.iconst 0, 1) := by decide +kernel
theorem dX9_openOn_3 : decode cX9_openOn 3 = .ok (.istore_n 3, 1) := by decide +kernel
theorem dX9_openOn_4 : decode cX9_openOn 4 = .ok (.iload_n 3, 1) := by decide +kernel
theorem dX9_openOn_5 : decode cX9_openOn 5 = .ok (.aload_n 0, 1) := by decide +kernel
theorem dX9_openOn_6 : decode cX9_openOn 6 = .ok (.getfield 91, 3) := by decide +kernel
theorem dX9_openOn_9 : decode cX9_openOn 9 = .ok (.if_icmp .ge 36, 3) := by decide +kernel
theorem dX9_openOn_12 : decode cX9_openOn 12 = .ok (.iload_n 2, 1) := by decide +kernel
theorem dX9_openOn_13 : decode cX9_openOn 13 = .ok (.aload_n 0, 1) := by decide +kernel
theorem dX9_openOn_14 : decode cX9_openOn 14 = .ok (.getfield 40, 3) := by decide +kernel
theorem dX9_openOn_17 : decode cX9_openOn 17 = .ok (.iload_n 3, 1) := by decide +kernel
theorem dX9_openOn_18 : decode cX9_openOn 18 = .ok (.baload, 1) := by decide +kernel
theorem dX9_openOn_19 : decode cX9_openOn 19 = .ok (.ifCond .eq 17, 3) := by decide +kernel
theorem dX9_openOn_22 : decode cX9_openOn 22 = .ok (.aload_n 0, 1) := by decide +kernel
theorem dX9_openOn_23 : decode cX9_openOn 23 = .ok (.getfield 31, 3) := by decide +kernel
theorem dX9_openOn_26 : decode cX9_openOn 26 = .ok (.iload_n 3, 1) := by decide +kernel
theorem dX9_openOn_27 : decode cX9_openOn 27 = .ok (.iaload, 1) := by decide +kernel
theorem dX9_openOn_28 : decode cX9_openOn 28 = .ok (.iload_n 1, 1) := by decide +kernel
theorem dX9_openOn_29 : decode cX9_openOn 29 = .ok (.if_icmp .ne 7, 3) := by decide +kernel
theorem dX9_openOn_32 : decode cX9_openOn 32 = .ok (.iconst 1, 1) := by decide +kernel
theorem dX9_openOn_33 : decode cX9_openOn 33 = .ok (.goto 4, 3) := by decide +kernel
theorem dX9_openOn_36 : decode cX9_openOn 36 = .ok (.iconst 0, 1) := by decide +kernel
theorem dX9_openOn_37 : decode cX9_openOn 37 = .ok (.iadd, 1) := by decide +kernel
theorem dX9_openOn_38 : decode cX9_openOn 38 = .ok (.istore_n 2, 1) := by decide +kernel
theorem dX9_openOn_39 : decode cX9_openOn 39 = .ok (.iinc 3 1, 3) := by decide +kernel
theorem dX9_openOn_42 : decode cX9_openOn 42 = .ok (.goto (-38), 3) := by decide +kernel
theorem dX9_openOn_45 : decode cX9_openOn 45 = .ok (.iload_n 2, 1) := by decide +kernel
theorem dX9_openOn_46 : decode cX9_openOn 46 = .ok (.ireturn, 1) := by decide +kernel
theorem dX9_isComment_0 : decode cX9_isComment 0 = .ok (.iload_n 1, 1) := by decide +kernel
theorem dX9_isComment_1 : decode cX9_isComment 1 = .ok (.i2l, 1) := by decide +kernel
theorem dX9_isComment_2 : decode cX9_isComment 2 = .ok (.lconst 0, 1) := by decide +kernel
theorem dX9_isComment_3 : decode cX9_isComment 3 = .ok (.aload_n 0, 1) := by decide +kernel
theorem dX9_isComment_4 : decode cX9_isComment 4 = .ok (.getfield 91, 3) := by decide +kernel
theorem dX9_isComment_7 : decode cX9_isComment 7 = .ok (.iconst 1, 1) := by decide +kernel
theorem dX9_isComment_8 : decode cX9_isComment 8 = .ok (.isub, 1) := by decide +kernel
theorem dX9_isComment_9 : decode cX9_isComment 9 = .ok (.i2l, 1) := by decide +kernel
theorem dX9_isComment_10 : decode cX9_isComment 10 = .ok (.invokestatic 84, 3) := by decide +kernel
theorem dX9_isComment_13 : decode cX9_isComment 13 = .ok (.ireturn, 1) := by decide +kernel
theorem dX9_answer_0 : decode cX9_answer 0 = .ok (.aload_n 0, 1) := by decide +kernel
theorem dX9_answer_1 : decode cX9_answer 1 = .ok (.aload_n 0, 1) := by decide +kernel
theorem dX9_answer_2 : decode cX9_answer 2 = .ok (.iload_n 1, 1) := by decide +kernel
theorem dX9_answer_3 : decode cX9_answer 3 = .ok (.invokevirtual 125, 3) := by decide +kernel
theorem dX9_answer_6 : decode cX9_answer 6 = .ok (.ifCond .ne 7, 3) := by decide +kernel
theorem dX9_answer_9 : decode cX9_answer 9 = .ok (.iconst 1, 1) := by decide +kernel
theorem dX9_answer_10 : decode cX9_answer 10 = .ok (.goto 17, 3) := by decide +kernel
theorem dX9_answer_13 : decode cX9_answer 13 = .ok (.aload_n 0, 1) := by decide +kernel
theorem dX9_answer_14 : decode cX9_answer 14 = .ok (.getfield 40, 3) := by decide +kernel
theorem dX9_answer_17 : decode cX9_answer 17 = .ok (.iload_n 1, 1) := by decide +kernel
theorem dX9_answer_18 : decode cX9_answer 18 = .ok (.baload, 1) := by decide +kernel
theorem dX9_answer_19 : decode cX9_answer 19 = .ok (.ifCond .ne 7, 3) := by decide +kernel
theorem dX9_answer_22 : decode cX9_answer 22 = .ok (.iconst 2, 1) := by decide +kernel
theorem dX9_answer_23 : decode cX9_answer 23 = .ok (.goto 4, 3) := by decide +kernel
theorem dX9_answer_26 : decode cX9_answer 26 = .ok (.iconst 0, 1) := by decide +kernel
theorem dX9_answer_27 : decode cX9_answer 27 = .ok (.putfield 78, 3) := by decide +kernel
theorem dX9_answer_30 : decode cX9_answer 30 = .ok (.aload_n 0, 1) := by decide +kernel
theorem dX9_answer_31 : decode cX9_answer 31 = .ok (.getfield 78, 3) := by decide +kernel
theorem dX9_answer_34 : decode cX9_answer 34 = .ok (.ifCond .le 5, 3) := by decide +kernel
theorem dX9_answer_37 : decode cX9_answer 37 = .ok (.iconst (-1), 1) := by decide +kernel
theorem dX9_answer_38 : decode cX9_answer 38 = .ok (.ireturn, 1) := by decide +kernel
theorem dX9_answer_39 : decode cX9_answer 39 = .ok (.aload_n 0, 1) := by decide +kernel
theorem dX9_answer_40 : decode cX9_answer 40 = .ok (.getfield 40, 3) := by decide +kernel
theorem dX9_answer_43 : decode cX9_answer 43 = .ok (.iload_n 1, 1) := by decide +kernel
theorem dX9_answer_44 : decode cX9_answer 44 = .ok (.iconst 0, 1) := by decide +kernel
theorem dX9_answer_45 : decode cX9_answer 45 = .ok (.bastore, 1) := by decide +kernel
theorem dX9_answer_46 : decode cX9_answer 46 = .ok (.aload_n 0, 1) := by decide +kernel
theorem dX9_answer_47 : decode cX9_answer 47 = .ok (.aload_n 0, 1) := by decide +kernel
theorem dX9_answer_48 : decode cX9_answer 48 = .ok (.getfield 31, 3) := by decide +kernel
theorem dX9_answer_51 : decode cX9_answer 51 = .ok (.iload_n 1, 1) := by decide +kernel
theorem dX9_answer_52 : decode cX9_answer 52 = .ok (.iaload, 1) := by decide +kernel
theorem dX9_answer_53 : decode cX9_answer 53 = .ok (.invokevirtual 128, 3) := by decide +kernel
theorem dX9_answer_56 : decode cX9_answer 56 = .ok (.ireturn, 1) := by decide +kernel
theorem dX9_isOpen_0 : decode cX9_isOpen 0 = .ok (.aload_n 0, 1) := by decide +kernel
theorem dX9_isOpen_1 : decode cX9_isOpen 1 = .ok (.aload_n 0, 1) := by decide +kernel
theorem dX9_isOpen_2 : decode cX9_isOpen 2 = .ok (.iload_n 1, 1) := by decide +kernel
theorem dX9_isOpen_3 : decode cX9_isOpen 3 = .ok (.invokevirtual 125, 3) := by decide +kernel
theorem dX9_isOpen_6 : decode cX9_isOpen 6 = .ok (.ifCond .eq 7, 3) := by decide +kernel
theorem dX9_isOpen_9 : decode cX9_isOpen 9 = .ok (.iconst 0, 1) := by decide +kernel
theorem dX9_isOpen_10 : decode cX9_isOpen 10 = .ok (.goto 4, 3) := by decide +kernel
theorem dX9_isOpen_13 : decode cX9_isOpen 13 = .ok (.iconst 1, 1) := by decide +kernel
theorem dX9_isOpen_14 : decode cX9_isOpen 14 = .ok (.putfield 78, 3) := by decide +kernel
theorem dX9_isOpen_17 : decode cX9_isOpen 17 = .ok (.aload_n 0, 1) := by decide +kernel
theorem dX9_isOpen_18 : decode cX9_isOpen 18 = .ok (.getfield 78, 3) := by decide +kernel
theorem dX9_isOpen_21 : decode cX9_isOpen 21 = .ok (.ifCond .ne 16, 3) := by decide +kernel
theorem dX9_isOpen_24 : decode cX9_isOpen 24 = .ok (.aload_n 0, 1) := by decide +kernel
theorem dX9_isOpen_25 : decode cX9_isOpen 25 = .ok (.getfield 40, 3) := by decide +kernel
theorem dX9_isOpen_28 : decode cX9_isOpen 28 = .ok (.iload_n 1, 1) := by decide +kernel
theorem dX9_isOpen_29 : decode cX9_isOpen 29 = .ok (.baload, 1) := by decide +kernel
theorem dX9_isOpen_30 : decode cX9_isOpen 30 = .ok (.ifCond .eq 7, 3) := by decide +kernel
theorem dX9_isOpen_33 : decode cX9_isOpen 33 = .ok (.iconst 1, 1) := by decide +kernel
theorem dX9_isOpen_34 : decode cX9_isOpen 34 = .ok (.goto 4, 3) := by decide +kernel
theorem dX9_isOpen_37 : decode cX9_isOpen 37 = .ok (.iconst 0, 1) := by decide +kernel
theorem dX9_isOpen_38 : decode cX9_isOpen 38 = .ok (.ireturn, 1) := by decide +kernel
theorem dX9_spanFrom_0 : decode cX9_spanFrom 0 = .ok (.aload_n 0, 1) := by decide +kernel
theorem dX9_spanFrom_1 : decode cX9_spanFrom 1 = .ok (.aload_n 0, 1) := by decide +kernel
theorem dX9_spanFrom_2 : decode cX9_spanFrom 2 = .ok (.iload_n 1, 1) := by decide +kernel
theorem dX9_spanFrom_3 : decode cX9_spanFrom 3 = .ok (.invokevirtual 125, 3) := by decide +kernel
theorem dX9_spanFrom_6 : decode cX9_spanFrom 6 = .ok (.ifCond .ne 7, 3) := by decide +kernel
theorem dX9_spanFrom_9 : decode cX9_spanFrom 9 = .ok (.iconst 1, 1) := by decide +kernel
theorem dX9_spanFrom_10 : decode cX9_spanFrom 10 = .ok (.goto 17, 3) := by decide +kernel
theorem dX9_spanFrom_13 : decode cX9_spanFrom 13 = .ok (.aload_n 0, 1) := by decide +kernel
theorem dX9_spanFrom_14 : decode cX9_spanFrom 14 = .ok (.getfield 40, 3) := by decide +kernel
theorem dX9_spanFrom_17 : decode cX9_spanFrom 17 = .ok (.iload_n 1, 1) := by decide +kernel
theorem dX9_spanFrom_18 : decode cX9_spanFrom 18 = .ok (.baload, 1) := by decide +kernel
theorem dX9_spanFrom_19 : decode cX9_spanFrom 19 = .ok (.ifCond .ne 7, 3) := by decide +kernel
theorem dX9_spanFrom_22 : decode cX9_spanFrom 22 = .ok (.iconst 2, 1) := by decide +kernel
theorem dX9_spanFrom_23 : decode cX9_spanFrom 23 = .ok (.goto 4, 3) := by decide +kernel
theorem dX9_spanFrom_26 : decode cX9_spanFrom 26 = .ok (.iconst 0, 1) := by decide +kernel
theorem dX9_spanFrom_27 : decode cX9_spanFrom 27 = .ok (.putfield 78, 3) := by decide +kernel
theorem dX9_spanFrom_30 : decode cX9_spanFrom 30 = .ok (.aload_n 0, 1) := by decide +kernel
theorem dX9_spanFrom_31 : decode cX9_spanFrom 31 = .ok (.getfield 78, 3) := by decide +kernel
theorem dX9_spanFrom_34 : decode cX9_spanFrom 34 = .ok (.ifCond .ne 12, 3) := by decide +kernel
theorem dX9_spanFrom_37 : decode cX9_spanFrom 37 = .ok (.aload_n 0, 1) := by decide +kernel
theorem dX9_spanFrom_38 : decode cX9_spanFrom 38 = .ok (.getfield 34, 3) := by decide +kernel
theorem dX9_spanFrom_41 : decode cX9_spanFrom 41 = .ok (.iload_n 1, 1) := by decide +kernel
theorem dX9_spanFrom_42 : decode cX9_spanFrom 42 = .ok (.iaload, 1) := by decide +kernel
theorem dX9_spanFrom_43 : decode cX9_spanFrom 43 = .ok (.goto 4, 3) := by decide +kernel
theorem dX9_spanFrom_46 : decode cX9_spanFrom 46 = .ok (.iconst (-1), 1) := by decide +kernel
theorem dX9_spanFrom_47 : decode cX9_spanFrom 47 = .ok (.ireturn, 1) := by decide +kernel
theorem dX9_spanTo_0 : decode cX9_spanTo 0 = .ok (.aload_n 0, 1) := by decide +kernel
theorem dX9_spanTo_1 : decode cX9_spanTo 1 = .ok (.aload_n 0, 1) := by decide +kernel
theorem dX9_spanTo_2 : decode cX9_spanTo 2 = .ok (.iload_n 1, 1) := by decide +kernel
theorem dX9_spanTo_3 : decode cX9_spanTo 3 = .ok (.invokevirtual 125, 3) := by decide +kernel
theorem dX9_spanTo_6 : decode cX9_spanTo 6 = .ok (.ifCond .ne 7, 3) := by decide +kernel
theorem dX9_spanTo_9 : decode cX9_spanTo 9 = .ok (.iconst 1, 1) := by decide +kernel
theorem dX9_spanTo_10 : decode cX9_spanTo 10 = .ok (.goto 17, 3) := by decide +kernel
theorem dX9_spanTo_13 : decode cX9_spanTo 13 = .ok (.aload_n 0, 1) := by decide +kernel
theorem dX9_spanTo_14 : decode cX9_spanTo 14 = .ok (.getfield 40, 3) := by decide +kernel
theorem dX9_spanTo_17 : decode cX9_spanTo 17 = .ok (.iload_n 1, 1) := by decide +kernel
theorem dX9_spanTo_18 : decode cX9_spanTo 18 = .ok (.baload, 1) := by decide +kernel
theorem dX9_spanTo_19 : decode cX9_spanTo 19 = .ok (.ifCond .ne 7, 3) := by decide +kernel
theorem dX9_spanTo_22 : decode cX9_spanTo 22 = .ok (.iconst 2, 1) := by decide +kernel
theorem dX9_spanTo_23 : decode cX9_spanTo 23 = .ok (.goto 4, 3) := by decide +kernel
theorem dX9_spanTo_26 : decode cX9_spanTo 26 = .ok (.iconst 0, 1) := by decide +kernel
theorem dX9_spanTo_27 : decode cX9_spanTo 27 = .ok (.putfield 78, 3) := by decide +kernel
theorem dX9_spanTo_30 : decode cX9_spanTo 30 = .ok (.aload_n 0, 1) := by decide +kernel
theorem dX9_spanTo_31 : decode cX9_spanTo 31 = .ok (.getfield 78, 3) := by decide +kernel
theorem dX9_spanTo_34 : decode cX9_spanTo 34 = .ok (.ifCond .ne 12, 3) := by decide +kernel
theorem dX9_spanTo_37 : decode cX9_spanTo 37 = .ok (.aload_n 0, 1) := by decide +kernel
theorem dX9_spanTo_38 : decode cX9_spanTo 38 = .ok (.getfield 37, 3) := by decide +kernel
theorem dX9_spanTo_41 : decode cX9_spanTo 41 = .ok (.iload_n 1, 1) := by decide +kernel
theorem dX9_spanTo_42 : decode cX9_spanTo 42 = .ok (.iaload, 1) := by decide +kernel
theorem dX9_spanTo_43 : decode cX9_spanTo 43 = .ok (.goto 4, 3) := by decide +kernel
theorem dX9_spanTo_46 : decode cX9_spanTo 46 = .ok (.iconst (-1), 1) := by decide +kernel
theorem dX9_spanTo_47 : decode cX9_spanTo 47 = .ok (.ireturn, 1) := by decide +kernel
theorem dX9_sheetsOf_0 : decode cX9_sheetsOf 0 = .ok (.aload_n 0, 1) := by decide +kernel
theorem dX9_sheetsOf_1 : decode cX9_sheetsOf 1 = .ok (.getfield 25, 3) := by decide +kernel
theorem dX9_sheetsOf_4 : decode cX9_sheetsOf 4 = .ok (.iload_n 1, 1) := by decide +kernel
theorem dX9_sheetsOf_5 : decode cX9_sheetsOf 5 = .ok (.iaload, 1) := by decide +kernel
theorem dX9_sheetsOf_6 : decode cX9_sheetsOf 6 = .ok (.bipush 7, 2) := by decide +kernel
theorem dX9_sheetsOf_8 : decode cX9_sheetsOf 8 = .ok (.iadd, 1) := by decide +kernel
theorem dX9_sheetsOf_9 : decode cX9_sheetsOf 9 = .ok (.bipush 8, 2) := by decide +kernel
theorem dX9_sheetsOf_11 : decode cX9_sheetsOf 11 = .ok (.idiv, 1) := by decide +kernel
theorem dX9_sheetsOf_12 : decode cX9_sheetsOf 12 = .ok (.istore_n 2, 1) := by decide +kernel
theorem dX9_sheetsOf_13 : decode cX9_sheetsOf 13 = .ok (.iload_n 2, 1) := by decide +kernel
theorem dX9_sheetsOf_14 : decode cX9_sheetsOf 14 = .ok (.iconst 3, 1) := by decide +kernel
theorem dX9_sheetsOf_15 : decode cX9_sheetsOf 15 = .ok (.iadd, 1) := by decide +kernel
theorem dX9_sheetsOf_16 : decode cX9_sheetsOf 16 = .ok (.iconst 4, 1) := by decide +kernel
theorem dX9_sheetsOf_17 : decode cX9_sheetsOf 17 = .ok (.idiv, 1) := by decide +kernel
theorem dX9_sheetsOf_18 : decode cX9_sheetsOf 18 = .ok (.ireturn, 1) := by decide +kernel
theorem dX9_sign_0 : decode cX9_sign 0 = .ok (.aload_n 0, 1) := by decide +kernel
theorem dX9_sign_1 : decode cX9_sign 1 = .ok (.iload_n 1, 1) := by decide +kernel
theorem dX9_sign_2 : decode cX9_sign 2 = .ok (.invokevirtual 105, 3) := by decide +kernel
theorem dX9_sign_5 : decode cX9_sign 5 = .ok (.ifCond .ne 10, 3) := by decide +kernel
theorem dX9_sign_8 : decode cX9_sign 8 = .ok (.aload_n 0, 1) := by decide +kernel
theorem dX9_sign_9 : decode cX9_sign 9 = .ok (.iconst 1, 1) := by decide +kernel
theorem dX9_sign_10 : decode cX9_sign 10 = .ok (.putfield 78, 3) := by decide +kernel
theorem dX9_sign_13 : decode cX9_sign 13 = .ok (.iconst (-1), 1) := by decide +kernel
theorem dX9_sign_14 : decode cX9_sign 14 = .ok (.ireturn, 1) := by decide +kernel
theorem dX9_sign_15 : decode cX9_sign 15 = .ok (.aload_n 0, 1) := by decide +kernel
theorem dX9_sign_16 : decode cX9_sign 16 = .ok (.getfield 13, 3) := by decide +kernel
theorem dX9_sign_19 : decode cX9_sign 19 = .ok (.iload_n 1, 1) := by decide +kernel
theorem dX9_sign_20 : decode cX9_sign 20 = .ok (.iaload, 1) := by decide +kernel
theorem dX9_sign_21 : decode cX9_sign 21 = .ok (.ifCond .eq 26, 3) := by decide +kernel
theorem dX9_sign_24 : decode cX9_sign 24 = .ok (.aload_n 0, 1) := by decide +kernel
theorem dX9_sign_25 : decode cX9_sign 25 = .ok (.iload_n 1, 1) := by decide +kernel
theorem dX9_sign_26 : decode cX9_sign 26 = .ok (.invokevirtual 128, 3) := by decide +kernel
theorem dX9_sign_29 : decode cX9_sign 29 = .ok (.ifCond .gt 18, 3) := by decide +kernel
theorem dX9_sign_32 : decode cX9_sign 32 = .ok (.aload_n 0, 1) := by decide +kernel
theorem dX9_sign_33 : decode cX9_sign 33 = .ok (.getfield 16, 3) := by decide +kernel
theorem dX9_sign_36 : decode cX9_sign 36 = .ok (.iload_n 1, 1) := by decide +kernel
theorem dX9_sign_37 : decode cX9_sign 37 = .ok (.iaload, 1) := by decide +kernel
theorem dX9_sign_38 : decode cX9_sign 38 = .ok (.aload_n 0, 1) := by decide +kernel
theorem dX9_sign_39 : decode cX9_sign 39 = .ok (.getfield 28, 3) := by decide +kernel
theorem dX9_sign_42 : decode cX9_sign 42 = .ok (.iload_n 1, 1) := by decide +kernel
theorem dX9_sign_43 : decode cX9_sign 43 = .ok (.iaload, 1) := by decide +kernel
theorem dX9_sign_44 : decode cX9_sign 44 = .ok (.if_icmp .ne 7, 3) := by decide +kernel
theorem dX9_sign_47 : decode cX9_sign 47 = .ok (.iconst 1, 1) := by decide +kernel
theorem dX9_sign_48 : decode cX9_sign 48 = .ok (.goto 4, 3) := by decide +kernel
theorem dX9_sign_51 : decode cX9_sign 51 = .ok (.iconst 0, 1) := by decide +kernel
theorem dX9_sign_52 : decode cX9_sign 52 = .ok (.istore_n 2, 1) := by decide +kernel
theorem dX9_sign_53 : decode cX9_sign 53 = .ok (.aload_n 0, 1) := by decide +kernel
theorem dX9_sign_54 : decode cX9_sign 54 = .ok (.iload_n 2, 1) := by decide +kernel
theorem dX9_sign_55 : decode cX9_sign 55 = .ok (.ifCond .eq 7, 3) := by decide +kernel
theorem dX9_sign_58 : decode cX9_sign 58 = .ok (.iconst 2, 1) := by decide +kernel
theorem dX9_sign_59 : decode cX9_sign 59 = .ok (.goto 4, 3) := by decide +kernel
theorem dX9_sign_62 : decode cX9_sign 62 = .ok (.iconst 0, 1) := by decide +kernel
theorem dX9_sign_63 : decode cX9_sign 63 = .ok (.putfield 78, 3) := by decide +kernel
theorem dX9_sign_66 : decode cX9_sign 66 = .ok (.aload_n 0, 1) := by decide +kernel
theorem dX9_sign_67 : decode cX9_sign 67 = .ok (.getfield 78, 3) := by decide +kernel
theorem dX9_sign_70 : decode cX9_sign 70 = .ok (.ifCond .le 5, 3) := by decide +kernel
theorem dX9_sign_73 : decode cX9_sign 73 = .ok (.iconst (-1), 1) := by decide +kernel
theorem dX9_sign_74 : decode cX9_sign 74 = .ok (.ireturn, 1) := by decide +kernel
theorem dX9_sign_75 : decode cX9_sign 75 = .ok (.iconst 0, 1) := by decide +kernel
theorem dX9_sign_76 : decode cX9_sign 76 = .ok (.istore_n 3, 1) := by decide +kernel
theorem dX9_sign_77 : decode cX9_sign 77 = .ok (.iload_n 3, 1) := by decide +kernel
theorem dX9_sign_78 : decode cX9_sign 78 = .ok (.aload_n 0, 1) := by decide +kernel
theorem dX9_sign_79 : decode cX9_sign 79 = .ok (.getfield 13, 3) := by decide +kernel
theorem dX9_sign_82 : decode cX9_sign 82 = .ok (.iload_n 1, 1) := by decide +kernel
theorem dX9_sign_83 : decode cX9_sign 83 = .ok (.iaload, 1) := by decide +kernel
theorem dX9_sign_84 : decode cX9_sign 84 = .ok (.if_icmp .ge 31, 3) := by decide +kernel
theorem dX9_sign_87 : decode cX9_sign 87 = .ok (.aload_n 0, 1) := by decide +kernel
theorem dX9_sign_88 : decode cX9_sign 88 = .ok (.getfield 22, 3) := by decide +kernel
theorem dX9_sign_91 : decode cX9_sign 91 = .ok (.bipush 80, 2) := by decide +kernel
theorem dX9_sign_93 : decode cX9_sign 93 = .ok (.iload_n 1, 1) := by decide +kernel
theorem dX9_sign_94 : decode cX9_sign 94 = .ok (.imul, 1) := by decide +kernel
theorem dX9_sign_95 : decode cX9_sign 95 = .ok (.iload_n 3, 1) := by decide +kernel
theorem dX9_sign_96 : decode cX9_sign 96 = .ok (.iadd, 1) := by decide +kernel
theorem dX9_sign_97 : decode cX9_sign 97 = .ok (.aload_n 0, 1) := by decide +kernel
theorem dX9_sign_98 : decode cX9_sign 98 = .ok (.getfield 7, 3) := by decide +kernel
theorem dX9_sign_101 : decode cX9_sign 101 = .ok (.bipush 80, 2) := by decide +kernel
theorem dX9_sign_103 : decode cX9_sign 103 = .ok (.iload_n 1, 1) := by decide +kernel
theorem dX9_sign_104 : decode cX9_sign 104 = .ok (.imul, 1) := by decide +kernel
theorem dX9_sign_105 : decode cX9_sign 105 = .ok (.iload_n 3, 1) := by decide +kernel
theorem dX9_sign_106 : decode cX9_sign 106 = .ok (.iadd, 1) := by decide +kernel
theorem dX9_sign_107 : decode cX9_sign 107 = .ok (.iaload, 1) := by decide +kernel
theorem dX9_sign_108 : decode cX9_sign 108 = .ok (.iastore, 1) := by decide +kernel
theorem dX9_sign_109 : decode cX9_sign 109 = .ok (.iinc 3 1, 3) := by decide +kernel
theorem dX9_sign_112 : decode cX9_sign 112 = .ok (.goto (-35), 3) := by decide +kernel
theorem dX9_sign_115 : decode cX9_sign 115 = .ok (.aload_n 0, 1) := by decide +kernel
theorem dX9_sign_116 : decode cX9_sign 116 = .ok (.getfield 25, 3) := by decide +kernel
theorem dX9_sign_119 : decode cX9_sign 119 = .ok (.iload_n 1, 1) := by decide +kernel
theorem dX9_sign_120 : decode cX9_sign 120 = .ok (.aload_n 0, 1) := by decide +kernel
theorem dX9_sign_121 : decode cX9_sign 121 = .ok (.getfield 13, 3) := by decide +kernel
theorem dX9_sign_124 : decode cX9_sign 124 = .ok (.iload_n 1, 1) := by decide +kernel
theorem dX9_sign_125 : decode cX9_sign 125 = .ok (.iaload, 1) := by decide +kernel
theorem dX9_sign_126 : decode cX9_sign 126 = .ok (.iastore, 1) := by decide +kernel
theorem dX9_sign_127 : decode cX9_sign 127 = .ok (.aload_n 0, 1) := by decide +kernel
theorem dX9_sign_128 : decode cX9_sign 128 = .ok (.getfield 28, 3) := by decide +kernel
theorem dX9_sign_131 : decode cX9_sign 131 = .ok (.iload_n 1, 1) := by decide +kernel
theorem dX9_sign_132 : decode cX9_sign 132 = .ok (.aload_n 0, 1) := by decide +kernel
theorem dX9_sign_133 : decode cX9_sign 133 = .ok (.getfield 16, 3) := by decide +kernel
theorem dX9_sign_136 : decode cX9_sign 136 = .ok (.iload_n 1, 1) := by decide +kernel
theorem dX9_sign_137 : decode cX9_sign 137 = .ok (.iaload, 1) := by decide +kernel
theorem dX9_sign_138 : decode cX9_sign 138 = .ok (.iastore, 1) := by decide +kernel
theorem dX9_sign_139 : decode cX9_sign 139 = .ok (.aload_n 0, 1) := by decide +kernel
theorem dX9_sign_140 : decode cX9_sign 140 = .ok (.iload_n 1, 1) := by decide +kernel
theorem dX9_sign_141 : decode cX9_sign 141 = .ok (.invokevirtual 132, 3) := by decide +kernel
theorem dX9_sign_144 : decode cX9_sign 144 = .ok (.ireturn, 1) := by decide +kernel
theorem dX9_asksProof_0 : decode cX9_asksProof 0 = .ok (.aload_n 0, 1) := by decide +kernel
theorem dX9_asksProof_1 : decode cX9_asksProof 1 = .ok (.aload_n 0, 1) := by decide +kernel
theorem dX9_asksProof_2 : decode cX9_asksProof 2 = .ok (.iload_n 1, 1) := by decide +kernel
theorem dX9_asksProof_3 : decode cX9_asksProof 3 = .ok (.invokevirtual 105, 3) := by decide +kernel
theorem dX9_asksProof_6 : decode cX9_asksProof 6 = .ok (.ifCond .ne 7, 3) := by decide +kernel
theorem dX9_asksProof_9 : decode cX9_asksProof 9 = .ok (.iconst 1, 1) := by decide +kernel
theorem dX9_asksProof_10 : decode cX9_asksProof 10 = .ok (.goto 18, 3) := by decide +kernel
theorem dX9_asksProof_13 : decode cX9_asksProof 13 = .ok (.aload_n 0, 1) := by decide +kernel
theorem dX9_asksProof_14 : decode cX9_asksProof 14 = .ok (.getfield 28, 3) := by decide +kernel
theorem dX9_asksProof_17 : decode cX9_asksProof 17 = .ok (.iload_n 1, 1) := by decide +kernel
theorem dX9_asksProof_18 : decode cX9_asksProof 18 = .ok (.iaload, 1) := by decide +kernel
theorem dX9_asksProof_19 : decode cX9_asksProof 19 = .ok (.iconst (-1), 1) := by decide +kernel
theorem dX9_asksProof_20 : decode cX9_asksProof 20 = .ok (.if_icmp .ne 7, 3) := by decide +kernel
theorem dX9_asksProof_23 : decode cX9_asksProof 23 = .ok (.iconst 2, 1) := by decide +kernel
theorem dX9_asksProof_24 : decode cX9_asksProof 24 = .ok (.goto 4, 3) := by decide +kernel
theorem dX9_asksProof_27 : decode cX9_asksProof 27 = .ok (.iconst 0, 1) := by decide +kernel
theorem dX9_asksProof_28 : decode cX9_asksProof 28 = .ok (.putfield 78, 3) := by decide +kernel
theorem dX9_asksProof_31 : decode cX9_asksProof 31 = .ok (.aload_n 0, 1) := by decide +kernel
theorem dX9_asksProof_32 : decode cX9_asksProof 32 = .ok (.getfield 78, 3) := by decide +kernel
theorem dX9_asksProof_35 : decode cX9_asksProof 35 = .ok (.ifCond .ne 7, 3) := by decide +kernel
theorem dX9_asksProof_38 : decode cX9_asksProof 38 = .ok (.iconst 1, 1) := by decide +kernel
theorem dX9_asksProof_39 : decode cX9_asksProof 39 = .ok (.goto 4, 3) := by decide +kernel
theorem dX9_asksProof_42 : decode cX9_asksProof 42 = .ok (.iconst 0, 1) := by decide +kernel
theorem dX9_asksProof_43 : decode cX9_asksProof 43 = .ok (.ireturn, 1) := by decide +kernel
theorem dX9_signed_0 : decode cX9_signed 0 = .ok (.aload_n 0, 1) := by decide +kernel
theorem dX9_signed_1 : decode cX9_signed 1 = .ok (.iload_n 1, 1) := by decide +kernel
theorem dX9_signed_2 : decode cX9_signed 2 = .ok (.invokevirtual 135, 3) := by decide +kernel
theorem dX9_signed_5 : decode cX9_signed 5 = .ok (.ifCond .eq 12, 3) := by decide +kernel
theorem dX9_signed_8 : decode cX9_signed 8 = .ok (.aload_n 0, 1) := by decide +kernel
theorem dX9_signed_9 : decode cX9_signed 9 = .ok (.getfield 28, 3) := by decide +kernel
theorem dX9_signed_12 : decode cX9_signed 12 = .ok (.iload_n 1, 1) := by decide +kernel
theorem dX9_signed_13 : decode cX9_signed 13 = .ok (.iaload, 1) := by decide +kernel
theorem dX9_signed_14 : decode cX9_signed 14 = .ok (.goto 4, 3) := by decide +kernel
theorem dX9_signed_17 : decode cX9_signed 17 = .ok (.iconst (-1), 1) := by decide +kernel
theorem dX9_signed_18 : decode cX9_signed 18 = .ok (.ireturn, 1) := by decide +kernel
theorem dX9_sheets_0 : decode cX9_sheets 0 = .ok (.aload_n 0, 1) := by decide +kernel
theorem dX9_sheets_1 : decode cX9_sheets 1 = .ok (.iload_n 1, 1) := by decide +kernel
theorem dX9_sheets_2 : decode cX9_sheets 2 = .ok (.invokevirtual 135, 3) := by decide +kernel
theorem dX9_sheets_5 : decode cX9_sheets 5 = .ok (.ifCond .eq 11, 3) := by decide +kernel
theorem dX9_sheets_8 : decode cX9_sheets 8 = .ok (.aload_n 0, 1) := by decide +kernel
theorem dX9_sheets_9 : decode cX9_sheets 9 = .ok (.iload_n 1, 1) := by decide +kernel
theorem dX9_sheets_10 : decode cX9_sheets 10 = .ok (.invokevirtual 132, 3) := by decide +kernel
theorem dX9_sheets_13 : decode cX9_sheets 13 = .ok (.goto 4, 3) := by decide +kernel
theorem dX9_sheets_16 : decode cX9_sheets 16 = .ok (.iconst (-1), 1) := by decide +kernel
theorem dX9_sheets_17 : decode cX9_sheets 17 = .ok (.ireturn, 1) := by decide +kernel
theorem dX9_pageAt_0 : decode cX9_pageAt 0 = .ok (.iconst 4, 1) := by decide +kernel
theorem dX9_pageAt_1 : decode cX9_pageAt 1 = .ok (.aload_n 0, 1) := by decide +kernel
theorem dX9_pageAt_2 : decode cX9_pageAt 2 = .ok (.iload_n 1, 1) := by decide +kernel
theorem dX9_pageAt_3 : decode cX9_pageAt 3 = .ok (.invokevirtual 132, 3) := by decide +kernel
theorem dX9_pageAt_6 : decode cX9_pageAt 6 = .ok (.imul, 1) := by decide +kernel
theorem dX9_pageAt_7 : decode cX9_pageAt 7 = .ok (.istore 4, 2) := by decide +kernel
theorem dX9_pageAt_9 : decode cX9_pageAt 9 = .ok (.iload_n 3, 1) := by decide +kernel
theorem dX9_pageAt_10 : decode cX9_pageAt 10 = .ok (.ifCond .ne 14, 3) := by decide +kernel
theorem dX9_pageAt_13 : decode cX9_pageAt 13 = .ok (.iload 4, 2) := by decide +kernel
theorem dX9_pageAt_15 : decode cX9_pageAt 15 = .ok (.iconst 1, 1) := by decide +kernel
theorem dX9_pageAt_16 : decode cX9_pageAt 16 = .ok (.isub, 1) := by decide +kernel
theorem dX9_pageAt_17 : decode cX9_pageAt 17 = .ok (.iconst 2, 1) := by decide +kernel
theorem dX9_pageAt_18 : decode cX9_pageAt 18 = .ok (.iload_n 2, 1) := by decide +kernel
theorem dX9_pageAt_19 : decode cX9_pageAt 19 = .ok (.imul, 1) := by decide +kernel
theorem dX9_pageAt_20 : decode cX9_pageAt 20 = .ok (.isub, 1) := by decide +kernel
theorem dX9_pageAt_21 : decode cX9_pageAt 21 = .ok (.goto 35, 3) := by decide +kernel
theorem dX9_pageAt_24 : decode cX9_pageAt 24 = .ok (.iload_n 3, 1) := by decide +kernel
theorem dX9_pageAt_25 : decode cX9_pageAt 25 = .ok (.iconst 1, 1) := by decide +kernel
theorem dX9_pageAt_26 : decode cX9_pageAt 26 = .ok (.if_icmp .ne 9, 3) := by decide +kernel
theorem dX9_pageAt_29 : decode cX9_pageAt 29 = .ok (.iconst 2, 1) := by decide +kernel
theorem dX9_pageAt_30 : decode cX9_pageAt 30 = .ok (.iload_n 2, 1) := by decide +kernel
theorem dX9_pageAt_31 : decode cX9_pageAt 31 = .ok (.imul, 1) := by decide +kernel
theorem dX9_pageAt_32 : decode cX9_pageAt 32 = .ok (.goto 24, 3) := by decide +kernel
theorem dX9_pageAt_35 : decode cX9_pageAt 35 = .ok (.iload_n 3, 1) := by decide +kernel
theorem dX9_pageAt_36 : decode cX9_pageAt 36 = .ok (.iconst 2, 1) := by decide +kernel
theorem dX9_pageAt_37 : decode cX9_pageAt 37 = .ok (.if_icmp .ne 11, 3) := by decide +kernel
theorem dX9_pageAt_40 : decode cX9_pageAt 40 = .ok (.iconst 2, 1) := by decide +kernel
theorem dX9_pageAt_41 : decode cX9_pageAt 41 = .ok (.iload_n 2, 1) := by decide +kernel
theorem dX9_pageAt_42 : decode cX9_pageAt 42 = .ok (.imul, 1) := by decide +kernel
theorem dX9_pageAt_43 : decode cX9_pageAt 43 = .ok (.iconst 1, 1) := by decide +kernel
theorem dX9_pageAt_44 : decode cX9_pageAt 44 = .ok (.iadd, 1) := by decide +kernel
theorem dX9_pageAt_45 : decode cX9_pageAt 45 = .ok (.goto 11, 3) := by decide +kernel
theorem dX9_pageAt_48 : decode cX9_pageAt 48 = .ok (.iload 4, 2) := by decide +kernel
theorem dX9_pageAt_50 : decode cX9_pageAt 50 = .ok (.iconst 2, 1) := by decide +kernel
theorem dX9_pageAt_51 : decode cX9_pageAt 51 = .ok (.isub, 1) := by decide +kernel
theorem dX9_pageAt_52 : decode cX9_pageAt 52 = .ok (.iconst 2, 1) := by decide +kernel
theorem dX9_pageAt_53 : decode cX9_pageAt 53 = .ok (.iload_n 2, 1) := by decide +kernel
theorem dX9_pageAt_54 : decode cX9_pageAt 54 = .ok (.imul, 1) := by decide +kernel
theorem dX9_pageAt_55 : decode cX9_pageAt 55 = .ok (.isub, 1) := by decide +kernel
theorem dX9_pageAt_56 : decode cX9_pageAt 56 = .ok (.ireturn, 1) := by decide +kernel
theorem dX9_pageOn_0 : decode cX9_pageOn 0 = .ok (.aload_n 0, 1) := by decide +kernel
theorem dX9_pageOn_1 : decode cX9_pageOn 1 = .ok (.iload_n 1, 1) := by decide +kernel
theorem dX9_pageOn_2 : decode cX9_pageOn 2 = .ok (.invokevirtual 135, 3) := by decide +kernel
theorem dX9_pageOn_5 : decode cX9_pageOn 5 = .ok (.ifCond .ne 5, 3) := by decide +kernel
theorem dX9_pageOn_8 : decode cX9_pageOn 8 = .ok (.iconst (-1), 1) := by decide +kernel
theorem dX9_pageOn_9 : decode cX9_pageOn 9 = .ok (.ireturn, 1) := by decide +kernel
theorem dX9_pageOn_10 : decode cX9_pageOn 10 = .ok (.aload_n 0, 1) := by decide +kernel
theorem dX9_pageOn_11 : decode cX9_pageOn 11 = .ok (.iload_n 2, 1) := by decide +kernel
theorem dX9_pageOn_12 : decode cX9_pageOn 12 = .ok (.i2l, 1) := by decide +kernel
theorem dX9_pageOn_13 : decode cX9_pageOn 13 = .ok (.lconst 0, 1) := by decide +kernel
theorem dX9_pageOn_14 : decode cX9_pageOn 14 = .ok (.aload_n 0, 1) := by decide +kernel
theorem dX9_pageOn_15 : decode cX9_pageOn 15 = .ok (.iload_n 1, 1) := by decide +kernel
theorem dX9_pageOn_16 : decode cX9_pageOn 16 = .ok (.invokevirtual 132, 3) := by decide +kernel
theorem dX9_pageOn_19 : decode cX9_pageOn 19 = .ok (.iconst 1, 1) := by decide +kernel
theorem dX9_pageOn_20 : decode cX9_pageOn 20 = .ok (.isub, 1) := by decide +kernel
theorem dX9_pageOn_21 : decode cX9_pageOn 21 = .ok (.i2l, 1) := by decide +kernel
theorem dX9_pageOn_22 : decode cX9_pageOn 22 = .ok (.invokestatic 84, 3) := by decide +kernel
theorem dX9_pageOn_25 : decode cX9_pageOn 25 = .ok (.ifCond .eq 19, 3) := by decide +kernel
theorem dX9_pageOn_28 : decode cX9_pageOn 28 = .ok (.iload_n 3, 1) := by decide +kernel
theorem dX9_pageOn_29 : decode cX9_pageOn 29 = .ok (.i2l, 1) := by decide +kernel
theorem dX9_pageOn_30 : decode cX9_pageOn 30 = .ok (.lconst 0, 1) := by decide +kernel
theorem dX9_pageOn_31 : decode cX9_pageOn 31 = .ok (.ldc2_w 138, 3) := by decide +kernel
theorem dX9_pageOn_34 : decode cX9_pageOn 34 = .ok (.invokestatic 84, 3) := by decide +kernel
theorem dX9_pageOn_37 : decode cX9_pageOn 37 = .ok (.ifCond .eq 7, 3) := by decide +kernel
theorem dX9_pageOn_40 : decode cX9_pageOn 40 = .ok (.iconst 0, 1) := by decide +kernel
theorem dX9_pageOn_41 : decode cX9_pageOn 41 = .ok (.goto 4, 3) := by decide +kernel
theorem dX9_pageOn_44 : decode cX9_pageOn 44 = .ok (.iconst 3, 1) := by decide +kernel
theorem dX9_pageOn_45 : decode cX9_pageOn 45 = .ok (.putfield 78, 3) := by decide +kernel
theorem dX9_pageOn_48 : decode cX9_pageOn 48 = .ok (.aload_n 0, 1) := by decide +kernel
theorem dX9_pageOn_49 : decode cX9_pageOn 49 = .ok (.getfield 78, 3) := by decide +kernel
theorem dX9_pageOn_52 : decode cX9_pageOn 52 = .ok (.ifCond .ne 13, 3) := by decide +kernel
theorem dX9_pageOn_55 : decode cX9_pageOn 55 = .ok (.aload_n 0, 1) := by decide +kernel
theorem dX9_pageOn_56 : decode cX9_pageOn 56 = .ok (.iload_n 1, 1) := by decide +kernel
theorem dX9_pageOn_57 : decode cX9_pageOn 57 = .ok (.iload_n 2, 1) := by decide +kernel
theorem dX9_pageOn_58 : decode cX9_pageOn 58 = .ok (.iload_n 3, 1) := by decide +kernel
theorem dX9_pageOn_59 : decode cX9_pageOn 59 = .ok (.invokevirtual 140, 3) := by decide +kernel
theorem dX9_pageOn_62 : decode cX9_pageOn 62 = .ok (.goto 4, 3) := by decide +kernel
theorem dX9_pageOn_65 : decode cX9_pageOn 65 = .ok (.iconst (-1), 1) := by decide +kernel
theorem dX9_pageOn_66 : decode cX9_pageOn 66 = .ok (.ireturn, 1) := by decide +kernel
theorem dX9_codeOn_0 : decode cX9_codeOn 0 = .ok (.bipush 8, 2) := by decide +kernel
theorem dX9_codeOn_2 : decode cX9_codeOn 2 = .ok (.aload_n 0, 1) := by decide +kernel
theorem dX9_codeOn_3 : decode cX9_codeOn 3 = .ok (.iload_n 1, 1) := by decide +kernel
theorem dX9_codeOn_4 : decode cX9_codeOn 4 = .ok (.iload_n 2, 1) := by decide +kernel
theorem dX9_codeOn_5 : decode cX9_codeOn 5 = .ok (.iload_n 3, 1) := by decide +kernel
theorem dX9_codeOn_6 : decode cX9_codeOn 6 = .ok (.bipush 8, 2) := by decide +kernel
theorem dX9_codeOn_8 : decode cX9_codeOn 8 = .ok (.idiv, 1) := by decide +kernel
theorem dX9_codeOn_9 : decode cX9_codeOn 9 = .ok (.invokevirtual 140, 3) := by decide +kernel
theorem dX9_codeOn_12 : decode cX9_codeOn 12 = .ok (.imul, 1) := by decide +kernel
theorem dX9_codeOn_13 : decode cX9_codeOn 13 = .ok (.iload_n 3, 1) := by decide +kernel
theorem dX9_codeOn_14 : decode cX9_codeOn 14 = .ok (.bipush 8, 2) := by decide +kernel
theorem dX9_codeOn_16 : decode cX9_codeOn 16 = .ok (.irem, 1) := by decide +kernel
theorem dX9_codeOn_17 : decode cX9_codeOn 17 = .ok (.iadd, 1) := by decide +kernel
theorem dX9_codeOn_18 : decode cX9_codeOn 18 = .ok (.istore 4, 2) := by decide +kernel
theorem dX9_codeOn_20 : decode cX9_codeOn 20 = .ok (.iload 4, 2) := by decide +kernel
theorem dX9_codeOn_22 : decode cX9_codeOn 22 = .ok (.aload_n 0, 1) := by decide +kernel
theorem dX9_codeOn_23 : decode cX9_codeOn 23 = .ok (.getfield 25, 3) := by decide +kernel
theorem dX9_codeOn_26 : decode cX9_codeOn 26 = .ok (.iload_n 1, 1) := by decide +kernel
theorem dX9_codeOn_27 : decode cX9_codeOn 27 = .ok (.iaload, 1) := by decide +kernel
theorem dX9_codeOn_28 : decode cX9_codeOn 28 = .ok (.if_icmp .ge 18, 3) := by decide +kernel
theorem dX9_codeOn_31 : decode cX9_codeOn 31 = .ok (.aload_n 0, 1) := by decide +kernel
theorem dX9_codeOn_32 : decode cX9_codeOn 32 = .ok (.getfield 22, 3) := by decide +kernel
theorem dX9_codeOn_35 : decode cX9_codeOn 35 = .ok (.bipush 80, 2) := by decide +kernel
theorem dX9_codeOn_37 : decode cX9_codeOn 37 = .ok (.iload_n 1, 1) := by decide +kernel
theorem dX9_codeOn_38 : decode cX9_codeOn 38 = .ok (.imul, 1) := by decide +kernel
theorem dX9_codeOn_39 : decode cX9_codeOn 39 = .ok (.iload 4, 2) := by decide +kernel
theorem dX9_codeOn_41 : decode cX9_codeOn 41 = .ok (.iadd, 1) := by decide +kernel
theorem dX9_codeOn_42 : decode cX9_codeOn 42 = .ok (.iaload, 1) := by decide +kernel
theorem dX9_codeOn_43 : decode cX9_codeOn 43 = .ok (.goto 4, 3) := by decide +kernel
theorem dX9_codeOn_46 : decode cX9_codeOn 46 = .ok (.iconst (-1), 1) := by decide +kernel
theorem dX9_codeOn_47 : decode cX9_codeOn 47 = .ok (.ireturn, 1) := by decide +kernel
theorem dX9_shown_0 : decode cX9_shown 0 = .ok (.aload_n 0, 1) := by decide +kernel
theorem dX9_shown_1 : decode cX9_shown 1 = .ok (.iload_n 1, 1) := by decide +kernel
theorem dX9_shown_2 : decode cX9_shown 2 = .ok (.invokevirtual 135, 3) := by decide +kernel
theorem dX9_shown_5 : decode cX9_shown 5 = .ok (.ifCond .ne 5, 3) := by decide +kernel
theorem dX9_shown_8 : decode cX9_shown 8 = .ok (.iconst (-1), 1) := by decide +kernel
theorem dX9_shown_9 : decode cX9_shown 9 = .ok (.ireturn, 1) := by decide +kernel
theorem dX9_shown_10 : decode cX9_shown 10 = .ok (.aload_n 0, 1) := by decide +kernel
theorem dX9_shown_11 : decode cX9_shown 11 = .ok (.iload_n 2, 1) := by decide +kernel
theorem dX9_shown_12 : decode cX9_shown 12 = .ok (.i2l, 1) := by decide +kernel
theorem dX9_shown_13 : decode cX9_shown 13 = .ok (.lconst 0, 1) := by decide +kernel
theorem dX9_shown_14 : decode cX9_shown 14 = .ok (.aload_n 0, 1) := by decide +kernel
theorem dX9_shown_15 : decode cX9_shown 15 = .ok (.iload_n 1, 1) := by decide +kernel
theorem dX9_shown_16 : decode cX9_shown 16 = .ok (.invokevirtual 132, 3) := by decide +kernel
theorem dX9_shown_19 : decode cX9_shown 19 = .ok (.iconst 1, 1) := by decide +kernel
theorem dX9_shown_20 : decode cX9_shown 20 = .ok (.isub, 1) := by decide +kernel
theorem dX9_shown_21 : decode cX9_shown 21 = .ok (.i2l, 1) := by decide +kernel
theorem dX9_shown_22 : decode cX9_shown 22 = .ok (.invokestatic 84, 3) := by decide +kernel
theorem dX9_shown_25 : decode cX9_shown 25 = .ok (.ifCond .eq 19, 3) := by decide +kernel
theorem dX9_shown_28 : decode cX9_shown 28 = .ok (.iload_n 3, 1) := by decide +kernel
theorem dX9_shown_29 : decode cX9_shown 29 = .ok (.i2l, 1) := by decide +kernel
theorem dX9_shown_30 : decode cX9_shown 30 = .ok (.lconst 0, 1) := by decide +kernel
theorem dX9_shown_31 : decode cX9_shown 31 = .ok (.ldc2_w 144, 3) := by decide +kernel
theorem dX9_shown_34 : decode cX9_shown 34 = .ok (.invokestatic 84, 3) := by decide +kernel
theorem dX9_shown_37 : decode cX9_shown 37 = .ok (.ifCond .eq 7, 3) := by decide +kernel
theorem dX9_shown_40 : decode cX9_shown 40 = .ok (.iconst 0, 1) := by decide +kernel
theorem dX9_shown_41 : decode cX9_shown 41 = .ok (.goto 4, 3) := by decide +kernel
theorem dX9_shown_44 : decode cX9_shown 44 = .ok (.iconst 3, 1) := by decide +kernel
theorem dX9_shown_45 : decode cX9_shown 45 = .ok (.putfield 78, 3) := by decide +kernel
theorem dX9_shown_48 : decode cX9_shown 48 = .ok (.aload_n 0, 1) := by decide +kernel
theorem dX9_shown_49 : decode cX9_shown 49 = .ok (.getfield 78, 3) := by decide +kernel
theorem dX9_shown_52 : decode cX9_shown 52 = .ok (.ifCond .ne 13, 3) := by decide +kernel
theorem dX9_shown_55 : decode cX9_shown 55 = .ok (.aload_n 0, 1) := by decide +kernel
theorem dX9_shown_56 : decode cX9_shown 56 = .ok (.iload_n 1, 1) := by decide +kernel
theorem dX9_shown_57 : decode cX9_shown 57 = .ok (.iload_n 2, 1) := by decide +kernel
theorem dX9_shown_58 : decode cX9_shown 58 = .ok (.iload_n 3, 1) := by decide +kernel
theorem dX9_shown_59 : decode cX9_shown 59 = .ok (.invokevirtual 146, 3) := by decide +kernel
theorem dX9_shown_62 : decode cX9_shown 62 = .ok (.goto 4, 3) := by decide +kernel
theorem dX9_shown_65 : decode cX9_shown 65 = .ok (.iconst (-1), 1) := by decide +kernel
theorem dX9_shown_66 : decode cX9_shown 66 = .ok (.ireturn, 1) := by decide +kernel
theorem dX9_shownByLog_0 : decode cX9_shownByLog 0 = .ok (.aload_n 0, 1) := by decide +kernel
theorem dX9_shownByLog_1 : decode cX9_shownByLog 1 = .ok (.iload_n 1, 1) := by decide +kernel
theorem dX9_shownByLog_2 : decode cX9_shownByLog 2 = .ok (.iload_n 2, 1) := by decide +kernel
theorem dX9_shownByLog_3 : decode cX9_shownByLog 3 = .ok (.iload_n 3, 1) := by decide +kernel
theorem dX9_shownByLog_4 : decode cX9_shownByLog 4 = .ok (.invokevirtual 149, 3) := by decide +kernel
theorem dX9_shownByLog_7 : decode cX9_shownByLog 7 = .ok (.ireturn, 1) := by decide +kernel
theorem dX9_supply_0 : decode cX9_supply 0 = .ok (.iload_n 1, 1) := by decide +kernel
theorem dX9_supply_1 : decode cX9_supply 1 = .ok (.i2l, 1) := by decide +kernel
theorem dX9_supply_2 : decode cX9_supply 2 = .ok (.lconst 0, 1) := by decide +kernel
theorem dX9_supply_3 : decode cX9_supply 3 = .ok (.ldc2_w 152, 3) := by decide +kernel
theorem dX9_supply_6 : decode cX9_supply 6 = .ok (.invokestatic 84, 3) := by decide +kernel
theorem dX9_supply_9 : decode cX9_supply 9 = .ok (.ifCond .eq 19, 3) := by decide +kernel
theorem dX9_supply_12 : decode cX9_supply 12 = .ok (.iload_n 2, 1) := by decide +kernel
theorem dX9_supply_13 : decode cX9_supply 13 = .ok (.i2l, 1) := by decide +kernel
theorem dX9_supply_14 : decode cX9_supply 14 = .ok (.lconst 0, 1) := by decide +kernel
theorem dX9_supply_15 : decode cX9_supply 15 = .ok (.ldc2_w 154, 3) := by decide +kernel
theorem dX9_supply_18 : decode cX9_supply 18 = .ok (.invokestatic 84, 3) := by decide +kernel
theorem dX9_supply_21 : decode cX9_supply 21 = .ok (.ifCond .eq 7, 3) := by decide +kernel
theorem dX9_supply_24 : decode cX9_supply 24 = .ok (.iconst 1, 1) := by decide +kernel
theorem dX9_supply_25 : decode cX9_supply 25 = .ok (.goto 4, 3) := by decide +kernel
theorem dX9_supply_28 : decode cX9_supply 28 = .ok (.iconst 0, 1) := by decide +kernel
theorem dX9_supply_29 : decode cX9_supply 29 = .ok (.istore_n 3, 1) := by decide +kernel
theorem dX9_supply_30 : decode cX9_supply 30 = .ok (.aload_n 0, 1) := by decide +kernel
theorem dX9_supply_31 : decode cX9_supply 31 = .ok (.getfield 156, 3) := by decide +kernel
theorem dX9_supply_34 : decode cX9_supply 34 = .ok (.iload_n 1, 1) := by decide +kernel
theorem dX9_supply_35 : decode cX9_supply 35 = .ok (.iadd, 1) := by decide +kernel
theorem dX9_supply_36 : decode cX9_supply 36 = .ok (.ldc 159, 2) := by decide +kernel
theorem dX9_supply_38 : decode cX9_supply 38 = .ok (.if_icmp .gt 15, 3) := by decide +kernel
theorem dX9_supply_41 : decode cX9_supply 41 = .ok (.aload_n 0, 1) := by decide +kernel
theorem dX9_supply_42 : decode cX9_supply 42 = .ok (.getfield 160, 3) := by decide +kernel
theorem dX9_supply_45 : decode cX9_supply 45 = .ok (.iload_n 2, 1) := by decide +kernel
theorem dX9_supply_46 : decode cX9_supply 46 = .ok (.iadd, 1) := by decide +kernel
theorem dX9_supply_47 : decode cX9_supply 47 = .ok (.sipush 999, 3) := by decide +kernel
theorem dX9_supply_50 : decode cX9_supply 50 = .ok (.if_icmp .le 7, 3) := by decide +kernel
theorem dX9_supply_53 : decode cX9_supply 53 = .ok (.iconst 1, 1) := by decide +kernel
theorem dX9_supply_54 : decode cX9_supply 54 = .ok (.goto 4, 3) := by decide +kernel
theorem dX9_supply_57 : decode cX9_supply 57 = .ok (.iconst 0, 1) := by decide +kernel
theorem dX9_supply_58 : decode cX9_supply 58 = .ok (.istore 4, 2) := by decide +kernel
theorem dX9_supply_60 : decode cX9_supply 60 = .ok (.aload_n 0, 1) := by decide +kernel
theorem dX9_supply_61 : decode cX9_supply 61 = .ok (.iload_n 3, 1) := by decide +kernel
theorem dX9_supply_62 : decode cX9_supply 62 = .ok (.ifCond .ne 7, 3) := by decide +kernel
theorem dX9_supply_65 : decode cX9_supply 65 = .ok (.iconst 1, 1) := by decide +kernel
theorem dX9_supply_66 : decode cX9_supply 66 = .ok (.goto 13, 3) := by decide +kernel
theorem dX9_supply_69 : decode cX9_supply 69 = .ok (.iload 4, 2) := by decide +kernel
theorem dX9_supply_71 : decode cX9_supply 71 = .ok (.ifCond .eq 7, 3) := by decide +kernel
theorem dX9_supply_74 : decode cX9_supply 74 = .ok (.iconst 2, 1) := by decide +kernel
theorem dX9_supply_75 : decode cX9_supply 75 = .ok (.goto 4, 3) := by decide +kernel
theorem dX9_supply_78 : decode cX9_supply 78 = .ok (.iconst 0, 1) := by decide +kernel
theorem dX9_supply_79 : decode cX9_supply 79 = .ok (.putfield 78, 3) := by decide +kernel
theorem dX9_supply_82 : decode cX9_supply 82 = .ok (.aload_n 0, 1) := by decide +kernel
theorem dX9_supply_83 : decode cX9_supply 83 = .ok (.getfield 78, 3) := by decide +kernel
theorem dX9_supply_86 : decode cX9_supply 86 = .ok (.ifCond .le 5, 3) := by decide +kernel
theorem dX9_supply_89 : decode cX9_supply 89 = .ok (.iconst (-1), 1) := by decide +kernel
theorem dX9_supply_90 : decode cX9_supply 90 = .ok (.ireturn, 1) := by decide +kernel
theorem dX9_supply_91 : decode cX9_supply 91 = .ok (.aload_n 0, 1) := by decide +kernel
theorem dX9_supply_92 : decode cX9_supply 92 = .ok (.dup, 1) := by decide +kernel
theorem dX9_supply_93 : decode cX9_supply 93 = .ok (.getfield 156, 3) := by decide +kernel
theorem dX9_supply_96 : decode cX9_supply 96 = .ok (.iload_n 1, 1) := by decide +kernel
theorem dX9_supply_97 : decode cX9_supply 97 = .ok (.iadd, 1) := by decide +kernel
theorem dX9_supply_98 : decode cX9_supply 98 = .ok (.putfield 156, 3) := by decide +kernel
theorem dX9_supply_101 : decode cX9_supply 101 = .ok (.aload_n 0, 1) := by decide +kernel
theorem dX9_supply_102 : decode cX9_supply 102 = .ok (.dup, 1) := by decide +kernel
theorem dX9_supply_103 : decode cX9_supply 103 = .ok (.getfield 160, 3) := by decide +kernel
theorem dX9_supply_106 : decode cX9_supply 106 = .ok (.iload_n 2, 1) := by decide +kernel
theorem dX9_supply_107 : decode cX9_supply 107 = .ok (.iadd, 1) := by decide +kernel
theorem dX9_supply_108 : decode cX9_supply 108 = .ok (.putfield 160, 3) := by decide +kernel
theorem dX9_supply_111 : decode cX9_supply 111 = .ok (.aload_n 0, 1) := by decide +kernel
theorem dX9_supply_112 : decode cX9_supply 112 = .ok (.getfield 156, 3) := by decide +kernel
theorem dX9_supply_115 : decode cX9_supply 115 = .ok (.ireturn, 1) := by decide +kernel
theorem dX9_paper_0 : decode cX9_paper 0 = .ok (.aload_n 0, 1) := by decide +kernel
theorem dX9_paper_1 : decode cX9_paper 1 = .ok (.iconst 0, 1) := by decide +kernel
theorem dX9_paper_2 : decode cX9_paper 2 = .ok (.putfield 78, 3) := by decide +kernel
theorem dX9_paper_5 : decode cX9_paper 5 = .ok (.aload_n 0, 1) := by decide +kernel
theorem dX9_paper_6 : decode cX9_paper 6 = .ok (.getfield 156, 3) := by decide +kernel
theorem dX9_paper_9 : decode cX9_paper 9 = .ok (.ireturn, 1) := by decide +kernel
theorem dX9_plates_0 : decode cX9_plates 0 = .ok (.aload_n 0, 1) := by decide +kernel
theorem dX9_plates_1 : decode cX9_plates 1 = .ok (.iconst 0, 1) := by decide +kernel
theorem dX9_plates_2 : decode cX9_plates 2 = .ok (.putfield 78, 3) := by decide +kernel
theorem dX9_plates_5 : decode cX9_plates 5 = .ok (.aload_n 0, 1) := by decide +kernel
theorem dX9_plates_6 : decode cX9_plates 6 = .ok (.getfield 160, 3) := by decide +kernel
theorem dX9_plates_9 : decode cX9_plates 9 = .ok (.ireturn, 1) := by decide +kernel
theorem dX9_order_0 : decode cX9_order 0 = .ok (.iload_n 2, 1) := by decide +kernel
theorem dX9_order_1 : decode cX9_order 1 = .ok (.i2l, 1) := by decide +kernel
theorem dX9_order_2 : decode cX9_order 2 = .ok (.lconst 1, 1) := by decide +kernel
theorem dX9_order_3 : decode cX9_order 3 = .ok (.ldc2_w 163, 3) := by decide +kernel
theorem dX9_order_6 : decode cX9_order 6 = .ok (.invokestatic 84, 3) := by decide +kernel
theorem dX9_order_9 : decode cX9_order 9 = .ok (.ifCond .eq 19, 3) := by decide +kernel
theorem dX9_order_12 : decode cX9_order 12 = .ok (.iload_n 3, 1) := by decide +kernel
theorem dX9_order_13 : decode cX9_order 13 = .ok (.i2l, 1) := by decide +kernel
theorem dX9_order_14 : decode cX9_order 14 = .ok (.lconst 0, 1) := by decide +kernel
theorem dX9_order_15 : decode cX9_order 15 = .ok (.ldc2_w 120, 3) := by decide +kernel
theorem dX9_order_18 : decode cX9_order 18 = .ok (.invokestatic 84, 3) := by decide +kernel
theorem dX9_order_21 : decode cX9_order 21 = .ok (.ifCond .eq 7, 3) := by decide +kernel
theorem dX9_order_24 : decode cX9_order 24 = .ok (.iconst 1, 1) := by decide +kernel
theorem dX9_order_25 : decode cX9_order 25 = .ok (.goto 4, 3) := by decide +kernel
theorem dX9_order_28 : decode cX9_order 28 = .ok (.iconst 0, 1) := by decide +kernel
theorem dX9_order_29 : decode cX9_order 29 = .ok (.istore 4, 2) := by decide +kernel
theorem dX9_order_31 : decode cX9_order 31 = .ok (.aload_n 0, 1) := by decide +kernel
theorem dX9_order_32 : decode cX9_order 32 = .ok (.iload_n 1, 1) := by decide +kernel
theorem dX9_order_33 : decode cX9_order 33 = .ok (.invokevirtual 105, 3) := by decide +kernel
theorem dX9_order_36 : decode cX9_order 36 = .ok (.ifCond .eq 8, 3) := by decide +kernel
theorem dX9_order_39 : decode cX9_order 39 = .ok (.iload 4, 2) := by decide +kernel
theorem dX9_order_41 : decode cX9_order 41 = .ok (.ifCond .ne 22, 3) := by decide +kernel
theorem dX9_order_44 : decode cX9_order 44 = .ok (.aload_n 0, 1) := by decide +kernel
theorem dX9_order_45 : decode cX9_order 45 = .ok (.aload_n 0, 1) := by decide +kernel
theorem dX9_order_46 : decode cX9_order 46 = .ok (.iload_n 1, 1) := by decide +kernel
theorem dX9_order_47 : decode cX9_order 47 = .ok (.invokevirtual 105, 3) := by decide +kernel
theorem dX9_order_50 : decode cX9_order 50 = .ok (.ifCond .ne 7, 3) := by decide +kernel
theorem dX9_order_53 : decode cX9_order 53 = .ok (.iconst 1, 1) := by decide +kernel
theorem dX9_order_54 : decode cX9_order 54 = .ok (.goto 4, 3) := by decide +kernel
theorem dX9_order_57 : decode cX9_order 57 = .ok (.iconst 2, 1) := by decide +kernel
theorem dX9_order_58 : decode cX9_order 58 = .ok (.putfield 78, 3) := by decide +kernel
theorem dX9_order_61 : decode cX9_order 61 = .ok (.iconst (-1), 1) := by decide +kernel
theorem dX9_order_62 : decode cX9_order 62 = .ok (.ireturn, 1) := by decide +kernel
theorem dX9_order_63 : decode cX9_order 63 = .ok (.aload_n 0, 1) := by decide +kernel
theorem dX9_order_64 : decode cX9_order 64 = .ok (.getfield 28, 3) := by decide +kernel
theorem dX9_order_67 : decode cX9_order 67 = .ok (.iload_n 1, 1) := by decide +kernel
theorem dX9_order_68 : decode cX9_order 68 = .ok (.iaload, 1) := by decide +kernel
theorem dX9_order_69 : decode cX9_order 69 = .ok (.iconst (-1), 1) := by decide +kernel
theorem dX9_order_70 : decode cX9_order 70 = .ok (.if_icmp .eq 12, 3) := by decide +kernel
theorem dX9_order_73 : decode cX9_order 73 = .ok (.aload_n 0, 1) := by decide +kernel
theorem dX9_order_74 : decode cX9_order 74 = .ok (.getfield 165, 3) := by decide +kernel
theorem dX9_order_77 : decode cX9_order 77 = .ok (.bipush 6, 2) := by decide +kernel
theorem dX9_order_79 : decode cX9_order 79 = .ok (.if_icmp .ne 7, 3) := by decide +kernel
theorem dX9_order_82 : decode cX9_order 82 = .ok (.iconst 1, 1) := by decide +kernel
theorem dX9_order_83 : decode cX9_order 83 = .ok (.goto 4, 3) := by decide +kernel
theorem dX9_order_86 : decode cX9_order 86 = .ok (.iconst 0, 1) := by decide +kernel
theorem dX9_order_87 : decode cX9_order 87 = .ok (.istore 5, 2) := by decide +kernel
theorem dX9_order_89 : decode cX9_order 89 = .ok (.aload_n 0, 1) := by decide +kernel
theorem dX9_order_90 : decode cX9_order 90 = .ok (.iload 5, 2) := by decide +kernel
theorem dX9_order_92 : decode cX9_order 92 = .ok (.ifCond .eq 7, 3) := by decide +kernel
theorem dX9_order_95 : decode cX9_order 95 = .ok (.iconst 3, 1) := by decide +kernel
theorem dX9_order_96 : decode cX9_order 96 = .ok (.goto 22, 3) := by decide +kernel
theorem dX9_order_99 : decode cX9_order 99 = .ok (.iload_n 2, 1) := by decide +kernel
theorem dX9_order_100 : decode cX9_order 100 = .ok (.aload_n 0, 1) := by decide +kernel
theorem dX9_order_101 : decode cX9_order 101 = .ok (.iload_n 1, 1) := by decide +kernel
theorem dX9_order_102 : decode cX9_order 102 = .ok (.invokevirtual 132, 3) := by decide +kernel
theorem dX9_order_105 : decode cX9_order 105 = .ok (.imul, 1) := by decide +kernel
theorem dX9_order_106 : decode cX9_order 106 = .ok (.aload_n 0, 1) := by decide +kernel
theorem dX9_order_107 : decode cX9_order 107 = .ok (.invokevirtual 168, 3) := by decide +kernel
theorem dX9_order_110 : decode cX9_order 110 = .ok (.if_icmp .le 7, 3) := by decide +kernel
theorem dX9_order_113 : decode cX9_order 113 = .ok (.iconst 4, 1) := by decide +kernel
theorem dX9_order_114 : decode cX9_order 114 = .ok (.goto 4, 3) := by decide +kernel
theorem dX9_order_117 : decode cX9_order 117 = .ok (.iconst 0, 1) := by decide +kernel
theorem dX9_order_118 : decode cX9_order 118 = .ok (.putfield 78, 3) := by decide +kernel
theorem dX9_order_121 : decode cX9_order 121 = .ok (.aload_n 0, 1) := by decide +kernel
theorem dX9_order_122 : decode cX9_order 122 = .ok (.getfield 78, 3) := by decide +kernel
theorem dX9_order_125 : decode cX9_order 125 = .ok (.ifCond .le 5, 3) := by decide +kernel
theorem dX9_order_128 : decode cX9_order 128 = .ok (.iconst (-1), 1) := by decide +kernel
theorem dX9_order_129 : decode cX9_order 129 = .ok (.ireturn, 1) := by decide +kernel
theorem dX9_order_130 : decode cX9_order 130 = .ok (.aload_n 0, 1) := by decide +kernel
theorem dX9_order_131 : decode cX9_order 131 = .ok (.getfield 44, 3) := by decide +kernel
theorem dX9_order_134 : decode cX9_order 134 = .ok (.aload_n 0, 1) := by decide +kernel
theorem dX9_order_135 : decode cX9_order 135 = .ok (.getfield 165, 3) := by decide +kernel
theorem dX9_order_138 : decode cX9_order 138 = .ok (.iload_n 1, 1) := by decide +kernel
theorem dX9_order_139 : decode cX9_order 139 = .ok (.iastore, 1) := by decide +kernel
theorem dX9_order_140 : decode cX9_order 140 = .ok (.aload_n 0, 1) := by decide +kernel
theorem dX9_order_141 : decode cX9_order 141 = .ok (.getfield 47, 3) := by decide +kernel
theorem dX9_order_144 : decode cX9_order 144 = .ok (.aload_n 0, 1) := by decide +kernel
theorem dX9_order_145 : decode cX9_order 145 = .ok (.getfield 165, 3) := by decide +kernel
theorem dX9_order_148 : decode cX9_order 148 = .ok (.iload_n 2, 1) := by decide +kernel
theorem dX9_order_149 : decode cX9_order 149 = .ok (.iastore, 1) := by decide +kernel
theorem dX9_order_150 : decode cX9_order 150 = .ok (.aload_n 0, 1) := by decide +kernel
theorem dX9_order_151 : decode cX9_order 151 = .ok (.getfield 50, 3) := by decide +kernel
theorem dX9_order_154 : decode cX9_order 154 = .ok (.aload_n 0, 1) := by decide +kernel
theorem dX9_order_155 : decode cX9_order 155 = .ok (.getfield 165, 3) := by decide +kernel
theorem dX9_order_158 : decode cX9_order 158 = .ok (.iload_n 3, 1) := by decide +kernel
theorem dX9_order_159 : decode cX9_order 159 = .ok (.iastore, 1) := by decide +kernel
theorem dX9_order_160 : decode cX9_order 160 = .ok (.iconst 0, 1) := by decide +kernel
theorem dX9_order_161 : decode cX9_order 161 = .ok (.istore 6, 2) := by decide +kernel
theorem dX9_order_163 : decode cX9_order 163 = .ok (.iload 6, 2) := by decide +kernel
theorem dX9_order_165 : decode cX9_order 165 = .ok (.iconst 3, 1) := by decide +kernel
theorem dX9_order_166 : decode cX9_order 166 = .ok (.if_icmp .ge 24, 3) := by decide +kernel
theorem dX9_order_169 : decode cX9_order 169 = .ok (.aload_n 0, 1) := by decide +kernel
theorem dX9_order_170 : decode cX9_order 170 = .ok (.getfield 62, 3) := by decide +kernel
theorem dX9_order_173 : decode cX9_order 173 = .ok (.iconst 3, 1) := by decide +kernel
theorem dX9_order_174 : decode cX9_order 174 = .ok (.aload_n 0, 1) := by decide +kernel
theorem dX9_order_175 : decode cX9_order 175 = .ok (.getfield 165, 3) := by decide +kernel
theorem dX9_order_178 : decode cX9_order 178 = .ok (.imul, 1) := by decide +kernel
theorem dX9_order_179 : decode cX9_order 179 = .ok (.iload 6, 2) := by decide +kernel
theorem dX9_order_181 : decode cX9_order 181 = .ok (.iadd, 1) := by decide +kernel
theorem dX9_order_182 : decode cX9_order 182 = .ok (.iconst (-1), 1) := by decide +kernel
theorem dX9_order_183 : decode cX9_order 183 = .ok (.iastore, 1) := by decide +kernel
theorem dX9_order_184 : decode cX9_order 184 = .ok (.iinc 6 1, 3) := by decide +kernel
theorem dX9_order_187 : decode cX9_order 187 = .ok (.goto (-24), 3) := by decide +kernel
theorem dX9_order_190 : decode cX9_order 190 = .ok (.aload_n 0, 1) := by decide +kernel
theorem dX9_order_191 : decode cX9_order 191 = .ok (.dup, 1) := by decide +kernel
theorem dX9_order_192 : decode cX9_order 192 = .ok (.getfield 165, 3) := by decide +kernel
theorem dX9_order_195 : decode cX9_order 195 = .ok (.iconst 1, 1) := by decide +kernel
theorem dX9_order_196 : decode cX9_order 196 = .ok (.iadd, 1) := by decide +kernel
theorem dX9_order_197 : decode cX9_order 197 = .ok (.putfield 165, 3) := by decide +kernel
theorem dX9_order_200 : decode cX9_order 200 = .ok (.aload_n 0, 1) := by decide +kernel
theorem dX9_order_201 : decode cX9_order 201 = .ok (.getfield 165, 3) := by decide +kernel
theorem dX9_order_204 : decode cX9_order 204 = .ok (.iconst 1, 1) := by decide +kernel
theorem dX9_order_205 : decode cX9_order 205 = .ok (.isub, 1) := by decide +kernel
theorem dX9_order_206 : decode cX9_order 206 = .ok (.ireturn, 1) := by decide +kernel
theorem dX9_isOrder_0 : decode cX9_isOrder 0 = .ok (.iload_n 1, 1) := by decide +kernel
theorem dX9_isOrder_1 : decode cX9_isOrder 1 = .ok (.i2l, 1) := by decide +kernel
theorem dX9_isOrder_2 : decode cX9_isOrder 2 = .ok (.lconst 0, 1) := by decide +kernel
theorem dX9_isOrder_3 : decode cX9_isOrder 3 = .ok (.aload_n 0, 1) := by decide +kernel
theorem dX9_isOrder_4 : decode cX9_isOrder 4 = .ok (.getfield 165, 3) := by decide +kernel
theorem dX9_isOrder_7 : decode cX9_isOrder 7 = .ok (.iconst 1, 1) := by decide +kernel
theorem dX9_isOrder_8 : decode cX9_isOrder 8 = .ok (.isub, 1) := by decide +kernel
theorem dX9_isOrder_9 : decode cX9_isOrder 9 = .ok (.i2l, 1) := by decide +kernel
theorem dX9_isOrder_10 : decode cX9_isOrder 10 = .ok (.invokestatic 84, 3) := by decide +kernel
theorem dX9_isOrder_13 : decode cX9_isOrder 13 = .ok (.ireturn, 1) := by decide +kernel
theorem dX9_sheetsIn_0 : decode cX9_sheetsIn 0 = .ok (.aload_n 0, 1) := by decide +kernel
theorem dX9_sheetsIn_1 : decode cX9_sheetsIn 1 = .ok (.aload_n 0, 1) := by decide +kernel
theorem dX9_sheetsIn_2 : decode cX9_sheetsIn 2 = .ok (.getfield 44, 3) := by decide +kernel
theorem dX9_sheetsIn_5 : decode cX9_sheetsIn 5 = .ok (.iload_n 1, 1) := by decide +kernel
theorem dX9_sheetsIn_6 : decode cX9_sheetsIn 6 = .ok (.iaload, 1) := by decide +kernel
theorem dX9_sheetsIn_7 : decode cX9_sheetsIn 7 = .ok (.invokevirtual 132, 3) := by decide +kernel
theorem dX9_sheetsIn_10 : decode cX9_sheetsIn 10 = .ok (.ireturn, 1) := by decide +kernel
theorem dX9_stateNow_0 : decode cX9_stateNow 0 = .ok (.aload_n 0, 1) := by decide +kernel
theorem dX9_stateNow_1 : decode cX9_stateNow 1 = .ok (.getfield 71, 3) := by decide +kernel
theorem dX9_stateNow_4 : decode cX9_stateNow 4 = .ok (.iload_n 1, 1) := by decide +kernel
theorem dX9_stateNow_5 : decode cX9_stateNow 5 = .ok (.if_icmp .ne 14, 3) := by decide +kernel
theorem dX9_stateNow_8 : decode cX9_stateNow 8 = .ok (.aload_n 0, 1) := by decide +kernel
theorem dX9_stateNow_9 : decode cX9_stateNow 9 = .ok (.getfield 172, 3) := by decide +kernel
theorem dX9_stateNow_12 : decode cX9_stateNow 12 = .ok (.iload_n 2, 1) := by decide +kernel
theorem dX9_stateNow_13 : decode cX9_stateNow 13 = .ok (.if_icmp .ne 6, 3) := by decide +kernel
theorem dX9_stateNow_16 : decode cX9_stateNow 16 = .ok (.bipush 111, 2) := by decide +kernel
theorem dX9_stateNow_18 : decode cX9_stateNow 18 = .ok (.ireturn, 1) := by decide +kernel
theorem dX9_stateNow_19 : decode cX9_stateNow 19 = .ok (.aload_n 0, 1) := by decide +kernel
theorem dX9_stateNow_20 : decode cX9_stateNow 20 = .ok (.getfield 59, 3) := by decide +kernel
theorem dX9_stateNow_23 : decode cX9_stateNow 23 = .ok (.iconst 3, 1) := by decide +kernel
theorem dX9_stateNow_24 : decode cX9_stateNow 24 = .ok (.iload_n 1, 1) := by decide +kernel
theorem dX9_stateNow_25 : decode cX9_stateNow 25 = .ok (.imul, 1) := by decide +kernel
theorem dX9_stateNow_26 : decode cX9_stateNow 26 = .ok (.iload_n 2, 1) := by decide +kernel
theorem dX9_stateNow_27 : decode cX9_stateNow 27 = .ok (.iadd, 1) := by decide +kernel
theorem dX9_stateNow_28 : decode cX9_stateNow 28 = .ok (.iaload, 1) := by decide +kernel
theorem dX9_stateNow_29 : decode cX9_stateNow 29 = .ok (.ifCond .ne 6, 3) := by decide +kernel
theorem dX9_stateNow_32 : decode cX9_stateNow 32 = .ok (.bipush 119, 2) := by decide +kernel
theorem dX9_stateNow_34 : decode cX9_stateNow 34 = .ok (.ireturn, 1) := by decide +kernel
theorem dX9_stateNow_35 : decode cX9_stateNow 35 = .ok (.iconst 1, 1) := by decide +kernel
theorem dX9_stateNow_36 : decode cX9_stateNow 36 = .ok (.istore_n 3, 1) := by decide +kernel
theorem dX9_stateNow_37 : decode cX9_stateNow 37 = .ok (.iconst 0, 1) := by decide +kernel
theorem dX9_stateNow_38 : decode cX9_stateNow 38 = .ok (.istore 4, 2) := by decide +kernel
theorem dX9_stateNow_40 : decode cX9_stateNow 40 = .ok (.iload 4, 2) := by decide +kernel
theorem dX9_stateNow_42 : decode cX9_stateNow 42 = .ok (.bipush 32, 2) := by decide +kernel
theorem dX9_stateNow_44 : decode cX9_stateNow 44 = .ok (.if_icmp .ge 51, 3) := by decide +kernel
theorem dX9_stateNow_47 : decode cX9_stateNow 47 = .ok (.iload_n 3, 1) := by decide +kernel
theorem dX9_stateNow_48 : decode cX9_stateNow 48 = .ok (.ifCond .eq 39, 3) := by decide +kernel
theorem dX9_stateNow_51 : decode cX9_stateNow 51 = .ok (.aload_n 0, 1) := by decide +kernel
theorem dX9_stateNow_52 : decode cX9_stateNow 52 = .ok (.getfield 65, 3) := by decide +kernel
theorem dX9_stateNow_55 : decode cX9_stateNow 55 = .ok (.bipush 32, 2) := by decide +kernel
theorem dX9_stateNow_57 : decode cX9_stateNow 57 = .ok (.iconst 3, 1) := by decide +kernel
theorem dX9_stateNow_58 : decode cX9_stateNow 58 = .ok (.iload_n 1, 1) := by decide +kernel
theorem dX9_stateNow_59 : decode cX9_stateNow 59 = .ok (.imul, 1) := by decide +kernel
theorem dX9_stateNow_60 : decode cX9_stateNow 60 = .ok (.iload_n 2, 1) := by decide +kernel
theorem dX9_stateNow_61 : decode cX9_stateNow 61 = .ok (.iadd, 1) := by decide +kernel
theorem dX9_stateNow_62 : decode cX9_stateNow 62 = .ok (.imul, 1) := by decide +kernel
theorem dX9_stateNow_63 : decode cX9_stateNow 63 = .ok (.iload 4, 2) := by decide +kernel
theorem dX9_stateNow_65 : decode cX9_stateNow 65 = .ok (.iadd, 1) := by decide +kernel
theorem dX9_stateNow_66 : decode cX9_stateNow 66 = .ok (.iaload, 1) := by decide +kernel
theorem dX9_stateNow_67 : decode cX9_stateNow 67 = .ok (.aload_n 0, 1) := by decide +kernel
theorem dX9_stateNow_68 : decode cX9_stateNow 68 = .ok (.aload_n 0, 1) := by decide +kernel
theorem dX9_stateNow_69 : decode cX9_stateNow 69 = .ok (.getfield 44, 3) := by decide +kernel
theorem dX9_stateNow_72 : decode cX9_stateNow 72 = .ok (.iload_n 1, 1) := by decide +kernel
theorem dX9_stateNow_73 : decode cX9_stateNow 73 = .ok (.iaload, 1) := by decide +kernel
theorem dX9_stateNow_74 : decode cX9_stateNow 74 = .ok (.iload_n 2, 1) := by decide +kernel
theorem dX9_stateNow_75 : decode cX9_stateNow 75 = .ok (.iload 4, 2) := by decide +kernel
theorem dX9_stateNow_77 : decode cX9_stateNow 77 = .ok (.invokevirtual 146, 3) := by decide +kernel
theorem dX9_stateNow_80 : decode cX9_stateNow 80 = .ok (.if_icmp .ne 7, 3) := by decide +kernel
theorem dX9_stateNow_83 : decode cX9_stateNow 83 = .ok (.iconst 1, 1) := by decide +kernel
theorem dX9_stateNow_84 : decode cX9_stateNow 84 = .ok (.goto 4, 3) := by decide +kernel
theorem dX9_stateNow_87 : decode cX9_stateNow 87 = .ok (.iconst 0, 1) := by decide +kernel
theorem dX9_stateNow_88 : decode cX9_stateNow 88 = .ok (.istore_n 3, 1) := by decide +kernel
theorem dX9_stateNow_89 : decode cX9_stateNow 89 = .ok (.iinc 4 1, 3) := by decide +kernel
theorem dX9_stateNow_92 : decode cX9_stateNow 92 = .ok (.goto (-52), 3) := by decide +kernel
theorem dX9_stateNow_95 : decode cX9_stateNow 95 = .ok (.iload_n 3, 1) := by decide +kernel
theorem dX9_stateNow_96 : decode cX9_stateNow 96 = .ok (.ifCond .eq 8, 3) := by decide +kernel
theorem dX9_stateNow_99 : decode cX9_stateNow 99 = .ok (.bipush 112, 2) := by decide +kernel
theorem dX9_stateNow_101 : decode cX9_stateNow 101 = .ok (.goto 5, 3) := by decide +kernel
theorem dX9_stateNow_104 : decode cX9_stateNow 104 = .ok (.bipush 115, 2) := by decide +kernel
theorem dX9_stateNow_106 : decode cX9_stateNow 106 = .ok (.ireturn, 1) := by decide +kernel
theorem dX9_count_0 : decode cX9_count 0 = .ok (.iconst 0, 1) := by decide +kernel
theorem dX9_count_1 : decode cX9_count 1 = .ok (.istore_n 3, 1) := by decide +kernel
theorem dX9_count_2 : decode cX9_count 2 = .ok (.iconst 0, 1) := by decide +kernel
theorem dX9_count_3 : decode cX9_count 3 = .ok (.istore 4, 2) := by decide +kernel
theorem dX9_count_5 : decode cX9_count 5 = .ok (.iload 4, 2) := by decide +kernel
theorem dX9_count_7 : decode cX9_count 7 = .ok (.aload_n 0, 1) := by decide +kernel
theorem dX9_count_8 : decode cX9_count 8 = .ok (.iload_n 1, 1) := by decide +kernel
theorem dX9_count_9 : decode cX9_count 9 = .ok (.invokevirtual 175, 3) := by decide +kernel
theorem dX9_count_12 : decode cX9_count 12 = .ok (.if_icmp .ge 28, 3) := by decide +kernel
theorem dX9_count_15 : decode cX9_count 15 = .ok (.iload_n 3, 1) := by decide +kernel
theorem dX9_count_16 : decode cX9_count 16 = .ok (.aload_n 0, 1) := by decide +kernel
theorem dX9_count_17 : decode cX9_count 17 = .ok (.iload_n 1, 1) := by decide +kernel
theorem dX9_count_18 : decode cX9_count 18 = .ok (.iload 4, 2) := by decide +kernel
theorem dX9_count_20 : decode cX9_count 20 = .ok (.invokevirtual 178, 3) := by decide +kernel
theorem dX9_count_23 : decode cX9_count 23 = .ok (.iload_n 2, 1) := by decide +kernel
theorem dX9_count_24 : decode cX9_count 24 = .ok (.if_icmp .ne 7, 3) := by decide +kernel
theorem dX9_count_27 : decode cX9_count 27 = .ok (.iconst 1, 1) := by decide +kernel
theorem dX9_count_28 : decode cX9_count 28 = .ok (.goto 4, 3) := by decide +kernel
theorem dX9_count_31 : decode cX9_count 31 = .ok (.iconst 0, 1) := by decide +kernel
theorem dX9_count_32 : decode cX9_count 32 = .ok (.iadd, 1) := by decide +kernel
theorem dX9_count_33 : decode cX9_count 33 = .ok (.istore_n 3, 1) := by decide +kernel
theorem dX9_count_34 : decode cX9_count 34 = .ok (.iinc 4 1, 3) := by decide +kernel
theorem dX9_count_37 : decode cX9_count 37 = .ok (.goto (-32), 3) := by decide +kernel
theorem dX9_count_40 : decode cX9_count 40 = .ok (.iload_n 3, 1) := by decide +kernel
theorem dX9_count_41 : decode cX9_count 41 = .ok (.ireturn, 1) := by decide +kernel
theorem dX9_needed_0 : decode cX9_needed 0 = .ok (.aload_n 0, 1) := by decide +kernel
theorem dX9_needed_1 : decode cX9_needed 1 = .ok (.getfield 47, 3) := by decide +kernel
theorem dX9_needed_4 : decode cX9_needed 4 = .ok (.iload_n 1, 1) := by decide +kernel
theorem dX9_needed_5 : decode cX9_needed 5 = .ok (.iaload, 1) := by decide +kernel
theorem dX9_needed_6 : decode cX9_needed 6 = .ok (.aload_n 0, 1) := by decide +kernel
theorem dX9_needed_7 : decode cX9_needed 7 = .ok (.iload_n 1, 1) := by decide +kernel
theorem dX9_needed_8 : decode cX9_needed 8 = .ok (.bipush 119, 2) := by decide +kernel
theorem dX9_needed_10 : decode cX9_needed 10 = .ok (.invokevirtual 182, 3) := by decide +kernel
theorem dX9_needed_13 : decode cX9_needed 13 = .ok (.aload_n 0, 1) := by decide +kernel
theorem dX9_needed_14 : decode cX9_needed 14 = .ok (.iload_n 1, 1) := by decide +kernel
theorem dX9_needed_15 : decode cX9_needed 15 = .ok (.bipush 115, 2) := by decide +kernel
theorem dX9_needed_17 : decode cX9_needed 17 = .ok (.invokevirtual 182, 3) := by decide +kernel
theorem dX9_needed_20 : decode cX9_needed 20 = .ok (.iadd, 1) := by decide +kernel
theorem dX9_needed_21 : decode cX9_needed 21 = .ok (.imul, 1) := by decide +kernel
theorem dX9_needed_22 : decode cX9_needed 22 = .ok (.ireturn, 1) := by decide +kernel
theorem dX9_free_0 : decode cX9_free 0 = .ok (.aload_n 0, 1) := by decide +kernel
theorem dX9_free_1 : decode cX9_free 1 = .ok (.getfield 156, 3) := by decide +kernel
theorem dX9_free_4 : decode cX9_free 4 = .ok (.istore_n 1, 1) := by decide +kernel
theorem dX9_free_5 : decode cX9_free 5 = .ok (.iconst 0, 1) := by decide +kernel
theorem dX9_free_6 : decode cX9_free 6 = .ok (.istore_n 2, 1) := by decide +kernel
theorem dX9_free_7 : decode cX9_free 7 = .ok (.iload_n 2, 1) := by decide +kernel
theorem dX9_free_8 : decode cX9_free 8 = .ok (.aload_n 0, 1) := by decide +kernel
theorem dX9_free_9 : decode cX9_free 9 = .ok (.getfield 165, 3) := by decide +kernel
theorem dX9_free_12 : decode cX9_free 12 = .ok (.if_icmp .ge 17, 3) := by decide +kernel
theorem dX9_free_15 : decode cX9_free 15 = .ok (.iload_n 1, 1) := by decide +kernel
theorem dX9_free_16 : decode cX9_free 16 = .ok (.aload_n 0, 1) := by decide +kernel
theorem dX9_free_17 : decode cX9_free 17 = .ok (.iload_n 2, 1) := by decide +kernel
theorem dX9_free_18 : decode cX9_free 18 = .ok (.invokevirtual 186, 3) := by decide +kernel
theorem dX9_free_21 : decode cX9_free 21 = .ok (.isub, 1) := by decide +kernel
theorem dX9_free_22 : decode cX9_free 22 = .ok (.istore_n 1, 1) := by decide +kernel
theorem dX9_free_23 : decode cX9_free 23 = .ok (.iinc 2 1, 3) := by decide +kernel
theorem dX9_free_26 : decode cX9_free 26 = .ok (.goto (-19), 3) := by decide +kernel
theorem dX9_free_29 : decode cX9_free 29 = .ok (.iload_n 1, 1) := by decide +kernel
theorem dX9_free_30 : decode cX9_free 30 = .ok (.ireturn, 1) := by decide +kernel
theorem dX9_asksOrder_0 : decode cX9_asksOrder 0 = .ok (.aload_n 0, 1) := by decide +kernel
theorem dX9_asksOrder_1 : decode cX9_asksOrder 1 = .ok (.aload_n 0, 1) := by decide +kernel
theorem dX9_asksOrder_2 : decode cX9_asksOrder 2 = .ok (.iload_n 1, 1) := by decide +kernel
theorem dX9_asksOrder_3 : decode cX9_asksOrder 3 = .ok (.invokevirtual 189, 3) := by decide +kernel
theorem dX9_asksOrder_6 : decode cX9_asksOrder 6 = .ok (.ifCond .eq 7, 3) := by decide +kernel
theorem dX9_asksOrder_9 : decode cX9_asksOrder 9 = .ok (.iconst 0, 1) := by decide +kernel
theorem dX9_asksOrder_10 : decode cX9_asksOrder 10 = .ok (.goto 4, 3) := by decide +kernel
theorem dX9_asksOrder_13 : decode cX9_asksOrder 13 = .ok (.iconst 1, 1) := by decide +kernel
theorem dX9_asksOrder_14 : decode cX9_asksOrder 14 = .ok (.putfield 78, 3) := by decide +kernel
theorem dX9_asksOrder_17 : decode cX9_asksOrder 17 = .ok (.aload_n 0, 1) := by decide +kernel
theorem dX9_asksOrder_18 : decode cX9_asksOrder 18 = .ok (.getfield 78, 3) := by decide +kernel
theorem dX9_asksOrder_21 : decode cX9_asksOrder 21 = .ok (.ifCond .ne 7, 3) := by decide +kernel
theorem dX9_asksOrder_24 : decode cX9_asksOrder 24 = .ok (.iconst 1, 1) := by decide +kernel
theorem dX9_asksOrder_25 : decode cX9_asksOrder 25 = .ok (.goto 4, 3) := by decide +kernel
theorem dX9_asksOrder_28 : decode cX9_asksOrder 28 = .ok (.iconst 0, 1) := by decide +kernel
theorem dX9_asksOrder_29 : decode cX9_asksOrder 29 = .ok (.ireturn, 1) := by decide +kernel
theorem dX9_needs_0 : decode cX9_needs 0 = .ok (.aload_n 0, 1) := by decide +kernel
theorem dX9_needs_1 : decode cX9_needs 1 = .ok (.iload_n 1, 1) := by decide +kernel
theorem dX9_needs_2 : decode cX9_needs 2 = .ok (.invokevirtual 192, 3) := by decide +kernel
theorem dX9_needs_5 : decode cX9_needs 5 = .ok (.ifCond .eq 11, 3) := by decide +kernel
theorem dX9_needs_8 : decode cX9_needs 8 = .ok (.aload_n 0, 1) := by decide +kernel
theorem dX9_needs_9 : decode cX9_needs 9 = .ok (.iload_n 1, 1) := by decide +kernel
theorem dX9_needs_10 : decode cX9_needs 10 = .ok (.invokevirtual 186, 3) := by decide +kernel
theorem dX9_needs_13 : decode cX9_needs 13 = .ok (.goto 4, 3) := by decide +kernel
theorem dX9_needs_16 : decode cX9_needs 16 = .ok (.iconst (-1), 1) := by decide +kernel
theorem dX9_needs_17 : decode cX9_needs 17 = .ok (.ireturn, 1) := by decide +kernel
theorem dX9_freePaper_0 : decode cX9_freePaper 0 = .ok (.aload_n 0, 1) := by decide +kernel
theorem dX9_freePaper_1 : decode cX9_freePaper 1 = .ok (.iconst 0, 1) := by decide +kernel
theorem dX9_freePaper_2 : decode cX9_freePaper 2 = .ok (.putfield 78, 3) := by decide +kernel
theorem dX9_freePaper_5 : decode cX9_freePaper 5 = .ok (.aload_n 0, 1) := by decide +kernel
theorem dX9_freePaper_6 : decode cX9_freePaper 6 = .ok (.invokevirtual 168, 3) := by decide +kernel
theorem dX9_freePaper_9 : decode cX9_freePaper 9 = .ok (.ireturn, 1) := by decide +kernel
theorem dX9_asksSheet_0 : decode cX9_asksSheet 0 = .ok (.aload_n 0, 1) := by decide +kernel
theorem dX9_asksSheet_1 : decode cX9_asksSheet 1 = .ok (.iload_n 1, 1) := by decide +kernel
theorem dX9_asksSheet_2 : decode cX9_asksSheet 2 = .ok (.invokevirtual 192, 3) := by decide +kernel
theorem dX9_asksSheet_5 : decode cX9_asksSheet 5 = .ok (.ifCond .eq 29, 3) := by decide +kernel
theorem dX9_asksSheet_8 : decode cX9_asksSheet 8 = .ok (.aload_n 0, 1) := by decide +kernel
theorem dX9_asksSheet_9 : decode cX9_asksSheet 9 = .ok (.iload_n 2, 1) := by decide +kernel
theorem dX9_asksSheet_10 : decode cX9_asksSheet 10 = .ok (.i2l, 1) := by decide +kernel
theorem dX9_asksSheet_11 : decode cX9_asksSheet 11 = .ok (.lconst 0, 1) := by decide +kernel
theorem dX9_asksSheet_12 : decode cX9_asksSheet 12 = .ok (.aload_n 0, 1) := by decide +kernel
theorem dX9_asksSheet_13 : decode cX9_asksSheet 13 = .ok (.iload_n 1, 1) := by decide +kernel
theorem dX9_asksSheet_14 : decode cX9_asksSheet 14 = .ok (.invokevirtual 175, 3) := by decide +kernel
theorem dX9_asksSheet_17 : decode cX9_asksSheet 17 = .ok (.iconst 1, 1) := by decide +kernel
theorem dX9_asksSheet_18 : decode cX9_asksSheet 18 = .ok (.isub, 1) := by decide +kernel
theorem dX9_asksSheet_19 : decode cX9_asksSheet 19 = .ok (.i2l, 1) := by decide +kernel
theorem dX9_asksSheet_20 : decode cX9_asksSheet 20 = .ok (.invokestatic 84, 3) := by decide +kernel
theorem dX9_asksSheet_23 : decode cX9_asksSheet 23 = .ok (.ifCond .eq 7, 3) := by decide +kernel
theorem dX9_asksSheet_26 : decode cX9_asksSheet 26 = .ok (.iconst 0, 1) := by decide +kernel
theorem dX9_asksSheet_27 : decode cX9_asksSheet 27 = .ok (.goto 4, 3) := by decide +kernel
theorem dX9_asksSheet_30 : decode cX9_asksSheet 30 = .ok (.iconst 2, 1) := by decide +kernel
theorem dX9_asksSheet_31 : decode cX9_asksSheet 31 = .ok (.putfield 78, 3) := by decide +kernel
theorem dX9_asksSheet_34 : decode cX9_asksSheet 34 = .ok (.aload_n 0, 1) := by decide +kernel
theorem dX9_asksSheet_35 : decode cX9_asksSheet 35 = .ok (.getfield 78, 3) := by decide +kernel
theorem dX9_asksSheet_38 : decode cX9_asksSheet 38 = .ok (.ifCond .ne 7, 3) := by decide +kernel
theorem dX9_asksSheet_41 : decode cX9_asksSheet 41 = .ok (.iconst 1, 1) := by decide +kernel
theorem dX9_asksSheet_42 : decode cX9_asksSheet 42 = .ok (.goto 4, 3) := by decide +kernel
theorem dX9_asksSheet_45 : decode cX9_asksSheet 45 = .ok (.iconst 0, 1) := by decide +kernel
theorem dX9_asksSheet_46 : decode cX9_asksSheet 46 = .ok (.ireturn, 1) := by decide +kernel
theorem dX9_stateOf_0 : decode cX9_stateOf 0 = .ok (.aload_n 0, 1) := by decide +kernel
theorem dX9_stateOf_1 : decode cX9_stateOf 1 = .ok (.iload_n 1, 1) := by decide +kernel
theorem dX9_stateOf_2 : decode cX9_stateOf 2 = .ok (.iload_n 2, 1) := by decide +kernel
theorem dX9_stateOf_3 : decode cX9_stateOf 3 = .ok (.invokevirtual 195, 3) := by decide +kernel
theorem dX9_stateOf_6 : decode cX9_stateOf 6 = .ok (.ifCond .eq 12, 3) := by decide +kernel
theorem dX9_stateOf_9 : decode cX9_stateOf 9 = .ok (.aload_n 0, 1) := by decide +kernel
theorem dX9_stateOf_10 : decode cX9_stateOf 10 = .ok (.iload_n 1, 1) := by decide +kernel
theorem dX9_stateOf_11 : decode cX9_stateOf 11 = .ok (.iload_n 2, 1) := by decide +kernel
theorem dX9_stateOf_12 : decode cX9_stateOf 12 = .ok (.invokevirtual 178, 3) := by decide +kernel
theorem dX9_stateOf_15 : decode cX9_stateOf 15 = .ok (.goto 5, 3) := by decide +kernel
theorem dX9_stateOf_18 : decode cX9_stateOf 18 = .ok (.bipush 32, 2) := by decide +kernel
theorem dX9_stateOf_20 : decode cX9_stateOf 20 = .ok (.ireturn, 1) := by decide +kernel
theorem dX9_isAll_0 : decode cX9_isAll 0 = .ok (.aload_n 0, 1) := by decide +kernel
theorem dX9_isAll_1 : decode cX9_isAll 1 = .ok (.iload_n 1, 1) := by decide +kernel
theorem dX9_isAll_2 : decode cX9_isAll 2 = .ok (.bipush 112, 2) := by decide +kernel
theorem dX9_isAll_4 : decode cX9_isAll 4 = .ok (.invokevirtual 182, 3) := by decide +kernel
theorem dX9_isAll_7 : decode cX9_isAll 7 = .ok (.aload_n 0, 1) := by decide +kernel
theorem dX9_isAll_8 : decode cX9_isAll 8 = .ok (.iload_n 1, 1) := by decide +kernel
theorem dX9_isAll_9 : decode cX9_isAll 9 = .ok (.invokevirtual 175, 3) := by decide +kernel
theorem dX9_isAll_12 : decode cX9_isAll 12 = .ok (.if_icmp .ne 7, 3) := by decide +kernel
theorem dX9_isAll_15 : decode cX9_isAll 15 = .ok (.iconst 1, 1) := by decide +kernel
theorem dX9_isAll_16 : decode cX9_isAll 16 = .ok (.goto 4, 3) := by decide +kernel
theorem dX9_isAll_19 : decode cX9_isAll 19 = .ok (.iconst 0, 1) := by decide +kernel
theorem dX9_isAll_20 : decode cX9_isAll 20 = .ok (.ireturn, 1) := by decide +kernel
theorem dX9_isDone_0 : decode cX9_isDone 0 = .ok (.aload_n 0, 1) := by decide +kernel
theorem dX9_isDone_1 : decode cX9_isDone 1 = .ok (.iload_n 1, 1) := by decide +kernel
theorem dX9_isDone_2 : decode cX9_isDone 2 = .ok (.invokevirtual 192, 3) := by decide +kernel
theorem dX9_isDone_5 : decode cX9_isDone 5 = .ok (.ifCond .eq 15, 3) := by decide +kernel
theorem dX9_isDone_8 : decode cX9_isDone 8 = .ok (.aload_n 0, 1) := by decide +kernel
theorem dX9_isDone_9 : decode cX9_isDone 9 = .ok (.iload_n 1, 1) := by decide +kernel
theorem dX9_isDone_10 : decode cX9_isDone 10 = .ok (.invokevirtual 199, 3) := by decide +kernel
theorem dX9_isDone_13 : decode cX9_isDone 13 = .ok (.ifCond .eq 7, 3) := by decide +kernel
theorem dX9_isDone_16 : decode cX9_isDone 16 = .ok (.iconst 1, 1) := by decide +kernel
theorem dX9_isDone_17 : decode cX9_isDone 17 = .ok (.goto 4, 3) := by decide +kernel
theorem dX9_isDone_20 : decode cX9_isDone 20 = .ok (.iconst 0, 1) := by decide +kernel
theorem dX9_isDone_21 : decode cX9_isDone 21 = .ok (.ireturn, 1) := by decide +kernel
theorem dX9_lateBy_0 : decode cX9_lateBy 0 = .ok (.aload_n 0, 1) := by decide +kernel
theorem dX9_lateBy_1 : decode cX9_lateBy 1 = .ok (.iload_n 1, 1) := by decide +kernel
theorem dX9_lateBy_2 : decode cX9_lateBy 2 = .ok (.invokevirtual 192, 3) := by decide +kernel
theorem dX9_lateBy_5 : decode cX9_lateBy 5 = .ok (.ifCond .ne 5, 3) := by decide +kernel
theorem dX9_lateBy_8 : decode cX9_lateBy 8 = .ok (.iconst (-1), 1) := by decide +kernel
theorem dX9_lateBy_9 : decode cX9_lateBy 9 = .ok (.ireturn, 1) := by decide +kernel
theorem dX9_lateBy_10 : decode cX9_lateBy 10 = .ok (.aload_n 0, 1) := by decide +kernel
theorem dX9_lateBy_11 : decode cX9_lateBy 11 = .ok (.iload_n 1, 1) := by decide +kernel
theorem dX9_lateBy_12 : decode cX9_lateBy 12 = .ok (.invokevirtual 199, 3) := by decide +kernel
theorem dX9_lateBy_15 : decode cX9_lateBy 15 = .ok (.ifCond .ne 16, 3) := by decide +kernel
theorem dX9_lateBy_18 : decode cX9_lateBy 18 = .ok (.aload_n 0, 1) := by decide +kernel
theorem dX9_lateBy_19 : decode cX9_lateBy 19 = .ok (.getfield 88, 3) := by decide +kernel
theorem dX9_lateBy_22 : decode cX9_lateBy 22 = .ok (.aload_n 0, 1) := by decide +kernel
theorem dX9_lateBy_23 : decode cX9_lateBy 23 = .ok (.getfield 50, 3) := by decide +kernel
theorem dX9_lateBy_26 : decode cX9_lateBy 26 = .ok (.iload_n 1, 1) := by decide +kernel
theorem dX9_lateBy_27 : decode cX9_lateBy 27 = .ok (.iaload, 1) := by decide +kernel
theorem dX9_lateBy_28 : decode cX9_lateBy 28 = .ok (.if_icmp .ge 7, 3) := by decide +kernel
theorem dX9_lateBy_31 : decode cX9_lateBy 31 = .ok (.iconst 0, 1) := by decide +kernel
theorem dX9_lateBy_32 : decode cX9_lateBy 32 = .ok (.goto 14, 3) := by decide +kernel
theorem dX9_lateBy_35 : decode cX9_lateBy 35 = .ok (.aload_n 0, 1) := by decide +kernel
theorem dX9_lateBy_36 : decode cX9_lateBy 36 = .ok (.getfield 88, 3) := by decide +kernel
theorem dX9_lateBy_39 : decode cX9_lateBy 39 = .ok (.aload_n 0, 1) := by decide +kernel
theorem dX9_lateBy_40 : decode cX9_lateBy 40 = .ok (.getfield 50, 3) := by decide +kernel
theorem dX9_lateBy_43 : decode cX9_lateBy 43 = .ok (.iload_n 1, 1) := by decide +kernel
theorem dX9_lateBy_44 : decode cX9_lateBy 44 = .ok (.iaload, 1) := by decide +kernel
theorem dX9_lateBy_45 : decode cX9_lateBy 45 = .ok (.isub, 1) := by decide +kernel
theorem dX9_lateBy_46 : decode cX9_lateBy 46 = .ok (.ireturn, 1) := by decide +kernel
theorem dX9_nextOrder_0 : decode cX9_nextOrder 0 = .ok (.iconst (-1), 1) := by decide +kernel
theorem dX9_nextOrder_1 : decode cX9_nextOrder 1 = .ok (.istore_n 1, 1) := by decide +kernel
theorem dX9_nextOrder_2 : decode cX9_nextOrder 2 = .ok (.iconst 0, 1) := by decide +kernel
theorem dX9_nextOrder_3 : decode cX9_nextOrder 3 = .ok (.istore_n 2, 1) := by decide +kernel
theorem dX9_nextOrder_4 : decode cX9_nextOrder 4 = .ok (.iload_n 2, 1) := by decide +kernel
theorem dX9_nextOrder_5 : decode cX9_nextOrder 5 = .ok (.aload_n 0, 1) := by decide +kernel
theorem dX9_nextOrder_6 : decode cX9_nextOrder 6 = .ok (.getfield 165, 3) := by decide +kernel
theorem dX9_nextOrder_9 : decode cX9_nextOrder 9 = .ok (.if_icmp .ge 83, 3) := by decide +kernel
theorem dX9_nextOrder_12 : decode cX9_nextOrder 12 = .ok (.iload_n 1, 1) := by decide +kernel
theorem dX9_nextOrder_13 : decode cX9_nextOrder 13 = .ok (.iconst (-1), 1) := by decide +kernel
theorem dX9_nextOrder_14 : decode cX9_nextOrder 14 = .ok (.if_icmp .eq 48, 3) := by decide +kernel
theorem dX9_nextOrder_17 : decode cX9_nextOrder 17 = .ok (.aload_n 0, 1) := by decide +kernel
theorem dX9_nextOrder_18 : decode cX9_nextOrder 18 = .ok (.getfield 50, 3) := by decide +kernel
theorem dX9_nextOrder_21 : decode cX9_nextOrder 21 = .ok (.iload_n 2, 1) := by decide +kernel
theorem dX9_nextOrder_22 : decode cX9_nextOrder 22 = .ok (.iaload, 1) := by decide +kernel
theorem dX9_nextOrder_23 : decode cX9_nextOrder 23 = .ok (.aload_n 0, 1) := by decide +kernel
theorem dX9_nextOrder_24 : decode cX9_nextOrder 24 = .ok (.getfield 50, 3) := by decide +kernel
theorem dX9_nextOrder_27 : decode cX9_nextOrder 27 = .ok (.iload_n 1, 1) := by decide +kernel
theorem dX9_nextOrder_28 : decode cX9_nextOrder 28 = .ok (.iaload, 1) := by decide +kernel
theorem dX9_nextOrder_29 : decode cX9_nextOrder 29 = .ok (.if_icmp .lt 33, 3) := by decide +kernel
theorem dX9_nextOrder_32 : decode cX9_nextOrder 32 = .ok (.aload_n 0, 1) := by decide +kernel
theorem dX9_nextOrder_33 : decode cX9_nextOrder 33 = .ok (.getfield 50, 3) := by decide +kernel
theorem dX9_nextOrder_36 : decode cX9_nextOrder 36 = .ok (.iload_n 2, 1) := by decide +kernel
theorem dX9_nextOrder_37 : decode cX9_nextOrder 37 = .ok (.iaload, 1) := by decide +kernel
theorem dX9_nextOrder_38 : decode cX9_nextOrder 38 = .ok (.aload_n 0, 1) := by decide +kernel
theorem dX9_nextOrder_39 : decode cX9_nextOrder 39 = .ok (.getfield 50, 3) := by decide +kernel
theorem dX9_nextOrder_42 : decode cX9_nextOrder 42 = .ok (.iload_n 1, 1) := by decide +kernel
theorem dX9_nextOrder_43 : decode cX9_nextOrder 43 = .ok (.iaload, 1) := by decide +kernel
theorem dX9_nextOrder_44 : decode cX9_nextOrder 44 = .ok (.if_icmp .ne 22, 3) := by decide +kernel
theorem dX9_nextOrder_47 : decode cX9_nextOrder 47 = .ok (.aload_n 0, 1) := by decide +kernel
theorem dX9_nextOrder_48 : decode cX9_nextOrder 48 = .ok (.getfield 47, 3) := by decide +kernel
theorem dX9_nextOrder_51 : decode cX9_nextOrder 51 = .ok (.iload_n 2, 1) := by decide +kernel
theorem dX9_nextOrder_52 : decode cX9_nextOrder 52 = .ok (.iaload, 1) := by decide +kernel
theorem dX9_nextOrder_53 : decode cX9_nextOrder 53 = .ok (.aload_n 0, 1) := by decide +kernel
theorem dX9_nextOrder_54 : decode cX9_nextOrder 54 = .ok (.getfield 47, 3) := by decide +kernel
theorem dX9_nextOrder_57 : decode cX9_nextOrder 57 = .ok (.iload_n 1, 1) := by decide +kernel
theorem dX9_nextOrder_58 : decode cX9_nextOrder 58 = .ok (.iaload, 1) := by decide +kernel
theorem dX9_nextOrder_59 : decode cX9_nextOrder 59 = .ok (.if_icmp .le 7, 3) := by decide +kernel
theorem dX9_nextOrder_62 : decode cX9_nextOrder 62 = .ok (.iconst 1, 1) := by decide +kernel
theorem dX9_nextOrder_63 : decode cX9_nextOrder 63 = .ok (.goto 4, 3) := by decide +kernel
theorem dX9_nextOrder_66 : decode cX9_nextOrder 66 = .ok (.iconst 0, 1) := by decide +kernel
theorem dX9_nextOrder_67 : decode cX9_nextOrder 67 = .ok (.istore_n 3, 1) := by decide +kernel
theorem dX9_nextOrder_68 : decode cX9_nextOrder 68 = .ok (.aload_n 0, 1) := by decide +kernel
theorem dX9_nextOrder_69 : decode cX9_nextOrder 69 = .ok (.iload_n 2, 1) := by decide +kernel
theorem dX9_nextOrder_70 : decode cX9_nextOrder 70 = .ok (.invokevirtual 199, 3) := by decide +kernel
theorem dX9_nextOrder_73 : decode cX9_nextOrder 73 = .ok (.ifCond .ne 11, 3) := by decide +kernel
theorem dX9_nextOrder_76 : decode cX9_nextOrder 76 = .ok (.iload_n 3, 1) := by decide +kernel
theorem dX9_nextOrder_77 : decode cX9_nextOrder 77 = .ok (.ifCond .eq 7, 3) := by decide +kernel
theorem dX9_nextOrder_80 : decode cX9_nextOrder 80 = .ok (.iload_n 2, 1) := by decide +kernel
theorem dX9_nextOrder_81 : decode cX9_nextOrder 81 = .ok (.goto 4, 3) := by decide +kernel
theorem dX9_nextOrder_84 : decode cX9_nextOrder 84 = .ok (.iload_n 1, 1) := by decide +kernel
theorem dX9_nextOrder_85 : decode cX9_nextOrder 85 = .ok (.istore_n 1, 1) := by decide +kernel
theorem dX9_nextOrder_86 : decode cX9_nextOrder 86 = .ok (.iinc 2 1, 3) := by decide +kernel
theorem dX9_nextOrder_89 : decode cX9_nextOrder 89 = .ok (.goto (-85), 3) := by decide +kernel
theorem dX9_nextOrder_92 : decode cX9_nextOrder 92 = .ok (.aload_n 0, 1) := by decide +kernel
theorem dX9_nextOrder_93 : decode cX9_nextOrder 93 = .ok (.iload_n 1, 1) := by decide +kernel
theorem dX9_nextOrder_94 : decode cX9_nextOrder 94 = .ok (.iconst (-1), 1) := by decide +kernel
theorem dX9_nextOrder_95 : decode cX9_nextOrder 95 = .ok (.if_icmp .ne 7, 3) := by decide +kernel
theorem dX9_nextOrder_98 : decode cX9_nextOrder 98 = .ok (.iconst 1, 1) := by decide +kernel
theorem dX9_nextOrder_99 : decode cX9_nextOrder 99 = .ok (.goto 4, 3) := by decide +kernel
theorem dX9_nextOrder_102 : decode cX9_nextOrder 102 = .ok (.iconst 0, 1) := by decide +kernel
theorem dX9_nextOrder_103 : decode cX9_nextOrder 103 = .ok (.putfield 78, 3) := by decide +kernel
theorem dX9_nextOrder_106 : decode cX9_nextOrder 106 = .ok (.iload_n 1, 1) := by decide +kernel
theorem dX9_nextOrder_107 : decode cX9_nextOrder 107 = .ok (.ireturn, 1) := by decide +kernel
theorem dX9_nextSheet_0 : decode cX9_nextSheet 0 = .ok (.aload_n 0, 1) := by decide +kernel
theorem dX9_nextSheet_1 : decode cX9_nextSheet 1 = .ok (.iload_n 1, 1) := by decide +kernel
theorem dX9_nextSheet_2 : decode cX9_nextSheet 2 = .ok (.invokevirtual 192, 3) := by decide +kernel
theorem dX9_nextSheet_5 : decode cX9_nextSheet 5 = .ok (.ifCond .ne 5, 3) := by decide +kernel
theorem dX9_nextSheet_8 : decode cX9_nextSheet 8 = .ok (.iconst (-1), 1) := by decide +kernel
theorem dX9_nextSheet_9 : decode cX9_nextSheet 9 = .ok (.ireturn, 1) := by decide +kernel
theorem dX9_nextSheet_10 : decode cX9_nextSheet 10 = .ok (.iconst 0, 1) := by decide +kernel
theorem dX9_nextSheet_11 : decode cX9_nextSheet 11 = .ok (.istore_n 2, 1) := by decide +kernel
theorem dX9_nextSheet_12 : decode cX9_nextSheet 12 = .ok (.iload_n 2, 1) := by decide +kernel
theorem dX9_nextSheet_13 : decode cX9_nextSheet 13 = .ok (.aload_n 0, 1) := by decide +kernel
theorem dX9_nextSheet_14 : decode cX9_nextSheet 14 = .ok (.iload_n 1, 1) := by decide +kernel
theorem dX9_nextSheet_15 : decode cX9_nextSheet 15 = .ok (.invokevirtual 175, 3) := by decide +kernel
theorem dX9_nextSheet_18 : decode cX9_nextSheet 18 = .ok (.if_icmp .ge 33, 3) := by decide +kernel
theorem dX9_nextSheet_21 : decode cX9_nextSheet 21 = .ok (.aload_n 0, 1) := by decide +kernel
theorem dX9_nextSheet_22 : decode cX9_nextSheet 22 = .ok (.iload_n 1, 1) := by decide +kernel
theorem dX9_nextSheet_23 : decode cX9_nextSheet 23 = .ok (.iload_n 2, 1) := by decide +kernel
theorem dX9_nextSheet_24 : decode cX9_nextSheet 24 = .ok (.invokevirtual 178, 3) := by decide +kernel
theorem dX9_nextSheet_27 : decode cX9_nextSheet 27 = .ok (.bipush 119, 2) := by decide +kernel
theorem dX9_nextSheet_29 : decode cX9_nextSheet 29 = .ok (.if_icmp .eq 14, 3) := by decide +kernel
theorem dX9_nextSheet_32 : decode cX9_nextSheet 32 = .ok (.aload_n 0, 1) := by decide +kernel
theorem dX9_nextSheet_33 : decode cX9_nextSheet 33 = .ok (.iload_n 1, 1) := by decide +kernel
theorem dX9_nextSheet_34 : decode cX9_nextSheet 34 = .ok (.iload_n 2, 1) := by decide +kernel
theorem dX9_nextSheet_35 : decode cX9_nextSheet 35 = .ok (.invokevirtual 178, 3) := by decide +kernel
theorem dX9_nextSheet_38 : decode cX9_nextSheet 38 = .ok (.bipush 115, 2) := by decide +kernel
theorem dX9_nextSheet_40 : decode cX9_nextSheet 40 = .ok (.if_icmp .ne 5, 3) := by decide +kernel
theorem dX9_nextSheet_43 : decode cX9_nextSheet 43 = .ok (.iload_n 2, 1) := by decide +kernel
theorem dX9_nextSheet_44 : decode cX9_nextSheet 44 = .ok (.ireturn, 1) := by decide +kernel
theorem dX9_nextSheet_45 : decode cX9_nextSheet 45 = .ok (.iinc 2 1, 3) := by decide +kernel
theorem dX9_nextSheet_48 : decode cX9_nextSheet 48 = .ok (.goto (-36), 3) := by decide +kernel
theorem dX9_nextSheet_51 : decode cX9_nextSheet 51 = .ok (.aload_n 0, 1) := by decide +kernel
theorem dX9_nextSheet_52 : decode cX9_nextSheet 52 = .ok (.iconst 2, 1) := by decide +kernel
theorem dX9_nextSheet_53 : decode cX9_nextSheet 53 = .ok (.putfield 78, 3) := by decide +kernel
theorem dX9_nextSheet_56 : decode cX9_nextSheet 56 = .ok (.iconst (-1), 1) := by decide +kernel
theorem dX9_nextSheet_57 : decode cX9_nextSheet 57 = .ok (.ireturn, 1) := by decide +kernel
theorem dX9_made_0 : decode cX9_made 0 = .ok (.iconst 0, 1) := by decide +kernel
theorem dX9_made_1 : decode cX9_made 1 = .ok (.istore 4, 2) := by decide +kernel
theorem dX9_made_3 : decode cX9_made 3 = .ok (.bipush 31, 2) := by decide +kernel
theorem dX9_made_5 : decode cX9_made 5 = .ok (.istore 5, 2) := by decide +kernel
theorem dX9_made_7 : decode cX9_made 7 = .ok (.iload 5, 2) := by decide +kernel
theorem dX9_made_9 : decode cX9_made 9 = .ok (.ifCond .lt 39, 3) := by decide +kernel
theorem dX9_made_12 : decode cX9_made 12 = .ok (.aload_n 0, 1) := by decide +kernel
theorem dX9_made_13 : decode cX9_made 13 = .ok (.aload_n 0, 1) := by decide +kernel
theorem dX9_made_14 : decode cX9_made 14 = .ok (.getfield 44, 3) := by decide +kernel
theorem dX9_made_17 : decode cX9_made 17 = .ok (.iload_n 1, 1) := by decide +kernel
theorem dX9_made_18 : decode cX9_made 18 = .ok (.iaload, 1) := by decide +kernel
theorem dX9_made_19 : decode cX9_made 19 = .ok (.iload_n 2, 1) := by decide +kernel
theorem dX9_made_20 : decode cX9_made 20 = .ok (.iload 5, 2) := by decide +kernel
theorem dX9_made_22 : decode cX9_made 22 = .ok (.invokevirtual 146, 3) := by decide +kernel
theorem dX9_made_25 : decode cX9_made 25 = .ok (.istore 6, 2) := by decide +kernel
theorem dX9_made_27 : decode cX9_made 27 = .ok (.iload 6, 2) := by decide +kernel
theorem dX9_made_29 : decode cX9_made 29 = .ok (.iconst (-1), 1) := by decide +kernel
theorem dX9_made_30 : decode cX9_made 30 = .ok (.if_icmp .eq 12, 3) := by decide +kernel
theorem dX9_made_33 : decode cX9_made 33 = .ok (.aload_n 3, 1) := by decide +kernel
theorem dX9_made_34 : decode cX9_made 34 = .ok (.iload 4, 2) := by decide +kernel
theorem dX9_made_36 : decode cX9_made 36 = .ok (.iload 6, 2) := by decide +kernel
theorem dX9_made_38 : decode cX9_made 38 = .ok (.iastore, 1) := by decide +kernel
theorem dX9_made_39 : decode cX9_made 39 = .ok (.iinc 4 1, 3) := by decide +kernel
theorem dX9_made_42 : decode cX9_made 42 = .ok (.iinc 5 (-1), 3) := by decide +kernel
theorem dX9_made_45 : decode cX9_made 45 = .ok (.goto (-38), 3) := by decide +kernel
theorem dX9_made_48 : decode cX9_made 48 = .ok (.iload 4, 2) := by decide +kernel
theorem dX9_made_50 : decode cX9_made 50 = .ok (.ireturn, 1) := by decide +kernel
theorem dX9_print_0 : decode cX9_print 0 = .ok (.aload_n 0, 1) := by decide +kernel
theorem dX9_print_1 : decode cX9_print 1 = .ok (.iload_n 1, 1) := by decide +kernel
theorem dX9_print_2 : decode cX9_print 2 = .ok (.iload_n 2, 1) := by decide +kernel
theorem dX9_print_3 : decode cX9_print 3 = .ok (.invokevirtual 195, 3) := by decide +kernel
theorem dX9_print_6 : decode cX9_print 6 = .ok (.ifCond .ne 5, 3) := by decide +kernel
theorem dX9_print_9 : decode cX9_print 9 = .ok (.iconst (-1), 1) := by decide +kernel
theorem dX9_print_10 : decode cX9_print 10 = .ok (.ireturn, 1) := by decide +kernel
theorem dX9_print_11 : decode cX9_print 11 = .ok (.aload_n 0, 1) := by decide +kernel
theorem dX9_print_12 : decode cX9_print 12 = .ok (.getfield 71, 3) := by decide +kernel
theorem dX9_print_15 : decode cX9_print 15 = .ok (.iconst (-1), 1) := by decide +kernel
theorem dX9_print_16 : decode cX9_print 16 = .ok (.if_icmp .ne 14, 3) := by decide +kernel
theorem dX9_print_19 : decode cX9_print 19 = .ok (.aload_n 0, 1) := by decide +kernel
theorem dX9_print_20 : decode cX9_print 20 = .ok (.iload_n 1, 1) := by decide +kernel
theorem dX9_print_21 : decode cX9_print 21 = .ok (.iload_n 2, 1) := by decide +kernel
theorem dX9_print_22 : decode cX9_print 22 = .ok (.invokevirtual 178, 3) := by decide +kernel
theorem dX9_print_25 : decode cX9_print 25 = .ok (.bipush 112, 2) := by decide +kernel
theorem dX9_print_27 : decode cX9_print 27 = .ok (.if_icmp .ne 10, 3) := by decide +kernel
theorem dX9_print_30 : decode cX9_print 30 = .ok (.aload_n 0, 1) := by decide +kernel
theorem dX9_print_31 : decode cX9_print 31 = .ok (.iconst 3, 1) := by decide +kernel
theorem dX9_print_32 : decode cX9_print 32 = .ok (.putfield 78, 3) := by decide +kernel
theorem dX9_print_35 : decode cX9_print 35 = .ok (.iconst (-1), 1) := by decide +kernel
theorem dX9_print_36 : decode cX9_print 36 = .ok (.ireturn, 1) := by decide +kernel
theorem dX9_print_37 : decode cX9_print 37 = .ok (.iconst 3, 1) := by decide +kernel
theorem dX9_print_38 : decode cX9_print 38 = .ok (.iload_n 1, 1) := by decide +kernel
theorem dX9_print_39 : decode cX9_print 39 = .ok (.imul, 1) := by decide +kernel
theorem dX9_print_40 : decode cX9_print 40 = .ok (.iload_n 2, 1) := by decide +kernel
theorem dX9_print_41 : decode cX9_print 41 = .ok (.iadd, 1) := by decide +kernel
theorem dX9_print_42 : decode cX9_print 42 = .ok (.istore_n 3, 1) := by decide +kernel
theorem dX9_print_43 : decode cX9_print 43 = .ok (.bipush 32, 2) := by decide +kernel
theorem dX9_print_45 : decode cX9_print 45 = .ok (.newarray .int, 2) := by decide +kernel
theorem dX9_print_47 : decode cX9_print 47 = .ok (.astore 4, 2) := by decide +kernel
theorem dX9_print_49 : decode cX9_print 49 = .ok (.aload_n 0, 1) := by decide +kernel
theorem dX9_print_50 : decode cX9_print 50 = .ok (.iload_n 1, 1) := by decide +kernel
theorem dX9_print_51 : decode cX9_print 51 = .ok (.iload_n 2, 1) := by decide +kernel
theorem dX9_print_52 : decode cX9_print 52 = .ok (.aload 4, 2) := by decide +kernel
theorem dX9_print_54 : decode cX9_print 54 = .ok (.invokevirtual 202, 3) := by decide +kernel
theorem dX9_print_57 : decode cX9_print 57 = .ok (.istore 5, 2) := by decide +kernel
theorem dX9_print_59 : decode cX9_print 59 = .ok (.aload_n 0, 1) := by decide +kernel
theorem dX9_print_60 : decode cX9_print 60 = .ok (.getfield 62, 3) := by decide +kernel
theorem dX9_print_63 : decode cX9_print 63 = .ok (.iload_n 3, 1) := by decide +kernel
theorem dX9_print_64 : decode cX9_print 64 = .ok (.iaload, 1) := by decide +kernel
theorem dX9_print_65 : decode cX9_print 65 = .ok (.iload 5, 2) := by decide +kernel
theorem dX9_print_67 : decode cX9_print 67 = .ok (.if_icmp .ne 7, 3) := by decide +kernel
theorem dX9_print_70 : decode cX9_print 70 = .ok (.iconst 1, 1) := by decide +kernel
theorem dX9_print_71 : decode cX9_print 71 = .ok (.goto 4, 3) := by decide +kernel
theorem dX9_print_74 : decode cX9_print 74 = .ok (.iconst 0, 1) := by decide +kernel
theorem dX9_print_75 : decode cX9_print 75 = .ok (.istore 6, 2) := by decide +kernel
theorem dX9_print_77 : decode cX9_print 77 = .ok (.iconst 0, 1) := by decide +kernel
theorem dX9_print_78 : decode cX9_print 78 = .ok (.istore 7, 2) := by decide +kernel
theorem dX9_print_80 : decode cX9_print 80 = .ok (.iload 7, 2) := by decide +kernel
theorem dX9_print_82 : decode cX9_print 82 = .ok (.iload 5, 2) := by decide +kernel
theorem dX9_print_84 : decode cX9_print 84 = .ok (.if_icmp .ge 41, 3) := by decide +kernel
theorem dX9_print_87 : decode cX9_print 87 = .ok (.iload 6, 2) := by decide +kernel
theorem dX9_print_89 : decode cX9_print 89 = .ok (.ifCond .eq 27, 3) := by decide +kernel
theorem dX9_print_92 : decode cX9_print 92 = .ok (.aload_n 0, 1) := by decide +kernel
theorem dX9_print_93 : decode cX9_print 93 = .ok (.getfield 68, 3) := by decide +kernel
theorem dX9_print_96 : decode cX9_print 96 = .ok (.bipush 32, 2) := by decide +kernel
theorem dX9_print_98 : decode cX9_print 98 = .ok (.iload_n 3, 1) := by decide +kernel
theorem dX9_print_99 : decode cX9_print 99 = .ok (.imul, 1) := by decide +kernel
theorem dX9_print_100 : decode cX9_print 100 = .ok (.iload 7, 2) := by decide +kernel
theorem dX9_print_102 : decode cX9_print 102 = .ok (.iadd, 1) := by decide +kernel
theorem dX9_print_103 : decode cX9_print 103 = .ok (.iaload, 1) := by decide +kernel
theorem dX9_print_104 : decode cX9_print 104 = .ok (.aload 4, 2) := by decide +kernel
theorem dX9_print_106 : decode cX9_print 106 = .ok (.iload 7, 2) := by decide +kernel
theorem dX9_print_108 : decode cX9_print 108 = .ok (.iaload, 1) := by decide +kernel
theorem dX9_print_109 : decode cX9_print 109 = .ok (.if_icmp .ne 7, 3) := by decide +kernel
theorem dX9_print_112 : decode cX9_print 112 = .ok (.iconst 1, 1) := by decide +kernel
theorem dX9_print_113 : decode cX9_print 113 = .ok (.goto 4, 3) := by decide +kernel
theorem dX9_print_116 : decode cX9_print 116 = .ok (.iconst 0, 1) := by decide +kernel
theorem dX9_print_117 : decode cX9_print 117 = .ok (.istore 6, 2) := by decide +kernel
theorem dX9_print_119 : decode cX9_print 119 = .ok (.iinc 7 1, 3) := by decide +kernel
theorem dX9_print_122 : decode cX9_print 122 = .ok (.goto (-42), 3) := by decide +kernel
theorem dX9_print_125 : decode cX9_print 125 = .ok (.aload_n 0, 1) := by decide +kernel
theorem dX9_print_126 : decode cX9_print 126 = .ok (.aload_n 0, 1) := by decide +kernel
theorem dX9_print_127 : decode cX9_print 127 = .ok (.getfield 156, 3) := by decide +kernel
theorem dX9_print_130 : decode cX9_print 130 = .ok (.aload_n 0, 1) := by decide +kernel
theorem dX9_print_131 : decode cX9_print 131 = .ok (.getfield 47, 3) := by decide +kernel
theorem dX9_print_134 : decode cX9_print 134 = .ok (.iload_n 1, 1) := by decide +kernel
theorem dX9_print_135 : decode cX9_print 135 = .ok (.iaload, 1) := by decide +kernel
theorem dX9_print_136 : decode cX9_print 136 = .ok (.if_icmp .lt 15, 3) := by decide +kernel
theorem dX9_print_139 : decode cX9_print 139 = .ok (.iload 6, 2) := by decide +kernel
theorem dX9_print_141 : decode cX9_print 141 = .ok (.ifCond .ne 14, 3) := by decide +kernel
theorem dX9_print_144 : decode cX9_print 144 = .ok (.aload_n 0, 1) := by decide +kernel
theorem dX9_print_145 : decode cX9_print 145 = .ok (.getfield 160, 3) := by decide +kernel
theorem dX9_print_148 : decode cX9_print 148 = .ok (.ifCond .ne 7, 3) := by decide +kernel
theorem dX9_print_151 : decode cX9_print 151 = .ok (.iconst 4, 1) := by decide +kernel
theorem dX9_print_152 : decode cX9_print 152 = .ok (.goto 4, 3) := by decide +kernel
theorem dX9_print_155 : decode cX9_print 155 = .ok (.iconst 0, 1) := by decide +kernel
theorem dX9_print_156 : decode cX9_print 156 = .ok (.putfield 78, 3) := by decide +kernel
theorem dX9_print_159 : decode cX9_print 159 = .ok (.aload_n 0, 1) := by decide +kernel
theorem dX9_print_160 : decode cX9_print 160 = .ok (.getfield 78, 3) := by decide +kernel
theorem dX9_print_163 : decode cX9_print 163 = .ok (.ifCond .le 5, 3) := by decide +kernel
theorem dX9_print_166 : decode cX9_print 166 = .ok (.iconst (-1), 1) := by decide +kernel
theorem dX9_print_167 : decode cX9_print 167 = .ok (.ireturn, 1) := by decide +kernel
theorem dX9_print_168 : decode cX9_print 168 = .ok (.aload_n 0, 1) := by decide +kernel
theorem dX9_print_169 : decode cX9_print 169 = .ok (.dup, 1) := by decide +kernel
theorem dX9_print_170 : decode cX9_print 170 = .ok (.getfield 156, 3) := by decide +kernel
theorem dX9_print_173 : decode cX9_print 173 = .ok (.aload_n 0, 1) := by decide +kernel
theorem dX9_print_174 : decode cX9_print 174 = .ok (.getfield 47, 3) := by decide +kernel
theorem dX9_print_177 : decode cX9_print 177 = .ok (.iload_n 1, 1) := by decide +kernel
theorem dX9_print_178 : decode cX9_print 178 = .ok (.iaload, 1) := by decide +kernel
theorem dX9_print_179 : decode cX9_print 179 = .ok (.isub, 1) := by decide +kernel
theorem dX9_print_180 : decode cX9_print 180 = .ok (.putfield 156, 3) := by decide +kernel
theorem dX9_print_183 : decode cX9_print 183 = .ok (.aload_n 0, 1) := by decide +kernel
theorem dX9_print_184 : decode cX9_print 184 = .ok (.getfield 53, 3) := by decide +kernel
theorem dX9_print_187 : decode cX9_print 187 = .ok (.iload_n 1, 1) := by decide +kernel
theorem dX9_print_188 : decode cX9_print 188 = .ok (.dup2, 1) := by decide +kernel
theorem dX9_print_189 : decode cX9_print 189 = .ok (.iaload, 1) := by decide +kernel
theorem dX9_print_190 : decode cX9_print 190 = .ok (.aload_n 0, 1) := by decide +kernel
theorem dX9_print_191 : decode cX9_print 191 = .ok (.getfield 47, 3) := by decide +kernel
theorem dX9_print_194 : decode cX9_print 194 = .ok (.iload_n 1, 1) := by decide +kernel
theorem dX9_print_195 : decode cX9_print 195 = .ok (.iaload, 1) := by decide +kernel
theorem dX9_print_196 : decode cX9_print 196 = .ok (.iadd, 1) := by decide +kernel
theorem dX9_print_197 : decode cX9_print 197 = .ok (.iastore, 1) := by decide +kernel
theorem dX9_print_198 : decode cX9_print 198 = .ok (.aload_n 0, 1) := by decide +kernel
theorem dX9_print_199 : decode cX9_print 199 = .ok (.dup, 1) := by decide +kernel
theorem dX9_print_200 : decode cX9_print 200 = .ok (.getfield 160, 3) := by decide +kernel
theorem dX9_print_203 : decode cX9_print 203 = .ok (.iload 6, 2) := by decide +kernel
theorem dX9_print_205 : decode cX9_print 205 = .ok (.ifCond .eq 7, 3) := by decide +kernel
theorem dX9_print_208 : decode cX9_print 208 = .ok (.iconst 0, 1) := by decide +kernel
theorem dX9_print_209 : decode cX9_print 209 = .ok (.goto 4, 3) := by decide +kernel
theorem dX9_print_212 : decode cX9_print 212 = .ok (.iconst 1, 1) := by decide +kernel
theorem dX9_print_213 : decode cX9_print 213 = .ok (.isub, 1) := by decide +kernel
theorem dX9_print_214 : decode cX9_print 214 = .ok (.putfield 160, 3) := by decide +kernel
theorem dX9_print_217 : decode cX9_print 217 = .ok (.aload_n 0, 1) := by decide +kernel
theorem dX9_print_218 : decode cX9_print 218 = .ok (.getfield 56, 3) := by decide +kernel
theorem dX9_print_221 : decode cX9_print 221 = .ok (.iload_n 1, 1) := by decide +kernel
theorem dX9_print_222 : decode cX9_print 222 = .ok (.dup2, 1) := by decide +kernel
theorem dX9_print_223 : decode cX9_print 223 = .ok (.iaload, 1) := by decide +kernel
theorem dX9_print_224 : decode cX9_print 224 = .ok (.iload 6, 2) := by decide +kernel
theorem dX9_print_226 : decode cX9_print 226 = .ok (.ifCond .eq 7, 3) := by decide +kernel
theorem dX9_print_229 : decode cX9_print 229 = .ok (.iconst 0, 1) := by decide +kernel
theorem dX9_print_230 : decode cX9_print 230 = .ok (.goto 4, 3) := by decide +kernel
theorem dX9_print_233 : decode cX9_print 233 = .ok (.iconst 1, 1) := by decide +kernel
theorem dX9_print_234 : decode cX9_print 234 = .ok (.iadd, 1) := by decide +kernel
theorem dX9_print_235 : decode cX9_print 235 = .ok (.iastore, 1) := by decide +kernel
theorem dX9_print_236 : decode cX9_print 236 = .ok (.aload_n 0, 1) := by decide +kernel
theorem dX9_print_237 : decode cX9_print 237 = .ok (.getfield 62, 3) := by decide +kernel
theorem dX9_print_240 : decode cX9_print 240 = .ok (.iload_n 3, 1) := by decide +kernel
theorem dX9_print_241 : decode cX9_print 241 = .ok (.iload 5, 2) := by decide +kernel
theorem dX9_print_243 : decode cX9_print 243 = .ok (.iastore, 1) := by decide +kernel
theorem dX9_print_244 : decode cX9_print 244 = .ok (.iconst 0, 1) := by decide +kernel
theorem dX9_print_245 : decode cX9_print 245 = .ok (.istore 7, 2) := by decide +kernel
theorem dX9_print_247 : decode cX9_print 247 = .ok (.iload 7, 2) := by decide +kernel
theorem dX9_print_249 : decode cX9_print 249 = .ok (.iload 5, 2) := by decide +kernel
theorem dX9_print_251 : decode cX9_print 251 = .ok (.if_icmp .ge 26, 3) := by decide +kernel
theorem dX9_print_254 : decode cX9_print 254 = .ok (.aload_n 0, 1) := by decide +kernel
theorem dX9_print_255 : decode cX9_print 255 = .ok (.getfield 68, 3) := by decide +kernel
theorem dX9_print_258 : decode cX9_print 258 = .ok (.bipush 32, 2) := by decide +kernel
theorem dX9_print_260 : decode cX9_print 260 = .ok (.iload_n 3, 1) := by decide +kernel
theorem dX9_print_261 : decode cX9_print 261 = .ok (.imul, 1) := by decide +kernel
theorem dX9_print_262 : decode cX9_print 262 = .ok (.iload 7, 2) := by decide +kernel
theorem dX9_print_264 : decode cX9_print 264 = .ok (.iadd, 1) := by decide +kernel
theorem dX9_print_265 : decode cX9_print 265 = .ok (.aload 4, 2) := by decide +kernel
theorem dX9_print_267 : decode cX9_print 267 = .ok (.iload 7, 2) := by decide +kernel
theorem dX9_print_269 : decode cX9_print 269 = .ok (.iaload, 1) := by decide +kernel
theorem dX9_print_270 : decode cX9_print 270 = .ok (.iastore, 1) := by decide +kernel
theorem dX9_print_271 : decode cX9_print 271 = .ok (.iinc 7 1, 3) := by decide +kernel
theorem dX9_print_274 : decode cX9_print 274 = .ok (.goto (-27), 3) := by decide +kernel
theorem dX9_print_277 : decode cX9_print 277 = .ok (.iconst 0, 1) := by decide +kernel
theorem dX9_print_278 : decode cX9_print 278 = .ok (.istore 7, 2) := by decide +kernel
theorem dX9_print_280 : decode cX9_print 280 = .ok (.iload 7, 2) := by decide +kernel
theorem dX9_print_282 : decode cX9_print 282 = .ok (.bipush 32, 2) := by decide +kernel
theorem dX9_print_284 : decode cX9_print 284 = .ok (.if_icmp .ge 29, 3) := by decide +kernel
theorem dX9_print_287 : decode cX9_print 287 = .ok (.aload_n 0, 1) := by decide +kernel
theorem dX9_print_288 : decode cX9_print 288 = .ok (.getfield 75, 3) := by decide +kernel
theorem dX9_print_291 : decode cX9_print 291 = .ok (.iload 7, 2) := by decide +kernel
theorem dX9_print_293 : decode cX9_print 293 = .ok (.aload_n 0, 1) := by decide +kernel
theorem dX9_print_294 : decode cX9_print 294 = .ok (.aload_n 0, 1) := by decide +kernel
theorem dX9_print_295 : decode cX9_print 295 = .ok (.getfield 44, 3) := by decide +kernel
theorem dX9_print_298 : decode cX9_print 298 = .ok (.iload_n 1, 1) := by decide +kernel
theorem dX9_print_299 : decode cX9_print 299 = .ok (.iaload, 1) := by decide +kernel
theorem dX9_print_300 : decode cX9_print 300 = .ok (.iload_n 2, 1) := by decide +kernel
theorem dX9_print_301 : decode cX9_print 301 = .ok (.iload 7, 2) := by decide +kernel
theorem dX9_print_303 : decode cX9_print 303 = .ok (.invokevirtual 146, 3) := by decide +kernel
theorem dX9_print_306 : decode cX9_print 306 = .ok (.iastore, 1) := by decide +kernel
theorem dX9_print_307 : decode cX9_print 307 = .ok (.iinc 7 1, 3) := by decide +kernel
theorem dX9_print_310 : decode cX9_print 310 = .ok (.goto (-30), 3) := by decide +kernel
theorem dX9_print_313 : decode cX9_print 313 = .ok (.aload_n 0, 1) := by decide +kernel
theorem dX9_print_314 : decode cX9_print 314 = .ok (.iload_n 1, 1) := by decide +kernel
theorem dX9_print_315 : decode cX9_print 315 = .ok (.putfield 71, 3) := by decide +kernel
theorem dX9_print_318 : decode cX9_print 318 = .ok (.aload_n 0, 1) := by decide +kernel
theorem dX9_print_319 : decode cX9_print 319 = .ok (.iload_n 2, 1) := by decide +kernel
theorem dX9_print_320 : decode cX9_print 320 = .ok (.putfield 172, 3) := by decide +kernel
theorem dX9_print_323 : decode cX9_print 323 = .ok (.aload_n 0, 1) := by decide +kernel
theorem dX9_print_324 : decode cX9_print 324 = .ok (.aload_n 0, 1) := by decide +kernel
theorem dX9_print_325 : decode cX9_print 325 = .ok (.aload_n 0, 1) := by decide +kernel
theorem dX9_print_326 : decode cX9_print 326 = .ok (.getfield 44, 3) := by decide +kernel
theorem dX9_print_329 : decode cX9_print 329 = .ok (.iload_n 1, 1) := by decide +kernel
theorem dX9_print_330 : decode cX9_print 330 = .ok (.iaload, 1) := by decide +kernel
theorem dX9_print_331 : decode cX9_print 331 = .ok (.iload_n 2, 1) := by decide +kernel
theorem dX9_print_332 : decode cX9_print 332 = .ok (.iconst 0, 1) := by decide +kernel
theorem dX9_print_333 : decode cX9_print 333 = .ok (.invokevirtual 140, 3) := by decide +kernel
theorem dX9_print_336 : decode cX9_print 336 = .ok (.putfield 94, 3) := by decide +kernel
theorem dX9_print_339 : decode cX9_print 339 = .ok (.aload_n 0, 1) := by decide +kernel
theorem dX9_print_340 : decode cX9_print 340 = .ok (.aload_n 0, 1) := by decide +kernel
theorem dX9_print_341 : decode cX9_print 341 = .ok (.getfield 88, 3) := by decide +kernel
theorem dX9_print_344 : decode cX9_print 344 = .ok (.iconst 1, 1) := by decide +kernel
theorem dX9_print_345 : decode cX9_print 345 = .ok (.iadd, 1) := by decide +kernel
theorem dX9_print_346 : decode cX9_print 346 = .ok (.aload_n 0, 1) := by decide +kernel
theorem dX9_print_347 : decode cX9_print 347 = .ok (.getfield 47, 3) := by decide +kernel
theorem dX9_print_350 : decode cX9_print 350 = .ok (.iload_n 1, 1) := by decide +kernel
theorem dX9_print_351 : decode cX9_print 351 = .ok (.iaload, 1) := by decide +kernel
theorem dX9_print_352 : decode cX9_print 352 = .ok (.bipush 100, 2) := by decide +kernel
theorem dX9_print_354 : decode cX9_print 354 = .ok (.idiv, 1) := by decide +kernel
theorem dX9_print_355 : decode cX9_print 355 = .ok (.iadd, 1) := by decide +kernel
theorem dX9_print_356 : decode cX9_print 356 = .ok (.putfield 206, 3) := by decide +kernel
theorem dX9_print_359 : decode cX9_print 359 = .ok (.aload_n 0, 1) := by decide +kernel
theorem dX9_print_360 : decode cX9_print 360 = .ok (.getfield 206, 3) := by decide +kernel
theorem dX9_print_363 : decode cX9_print 363 = .ok (.ireturn, 1) := by decide +kernel
theorem dX9_onPress_0 : decode cX9_onPress 0 = .ok (.aload_n 0, 1) := by decide +kernel
theorem dX9_onPress_1 : decode cX9_onPress 1 = .ok (.iconst 0, 1) := by decide +kernel
theorem dX9_onPress_2 : decode cX9_onPress 2 = .ok (.putfield 78, 3) := by decide +kernel
theorem dX9_onPress_5 : decode cX9_onPress 5 = .ok (.aload_n 0, 1) := by decide +kernel
theorem dX9_onPress_6 : decode cX9_onPress 6 = .ok (.getfield 71, 3) := by decide +kernel
theorem dX9_onPress_9 : decode cX9_onPress 9 = .ok (.ireturn, 1) := by decide +kernel
theorem dX9_hours_0 : decode cX9_hours 0 = .ok (.aload_n 0, 1) := by decide +kernel
theorem dX9_hours_1 : decode cX9_hours 1 = .ok (.dup, 1) := by decide +kernel
theorem dX9_hours_2 : decode cX9_hours 2 = .ok (.getfield 88, 3) := by decide +kernel
theorem dX9_hours_5 : decode cX9_hours 5 = .ok (.iconst 1, 1) := by decide +kernel
theorem dX9_hours_6 : decode cX9_hours 6 = .ok (.iadd, 1) := by decide +kernel
theorem dX9_hours_7 : decode cX9_hours 7 = .ok (.putfield 88, 3) := by decide +kernel
theorem dX9_hours_10 : decode cX9_hours 10 = .ok (.aload_n 0, 1) := by decide +kernel
theorem dX9_hours_11 : decode cX9_hours 11 = .ok (.getfield 71, 3) := by decide +kernel
theorem dX9_hours_14 : decode cX9_hours 14 = .ok (.iconst (-1), 1) := by decide +kernel
theorem dX9_hours_15 : decode cX9_hours 15 = .ok (.if_icmp .eq 14, 3) := by decide +kernel
theorem dX9_hours_18 : decode cX9_hours 18 = .ok (.aload_n 0, 1) := by decide +kernel
theorem dX9_hours_19 : decode cX9_hours 19 = .ok (.getfield 88, 3) := by decide +kernel
theorem dX9_hours_22 : decode cX9_hours 22 = .ok (.aload_n 0, 1) := by decide +kernel
theorem dX9_hours_23 : decode cX9_hours 23 = .ok (.getfield 206, 3) := by decide +kernel
theorem dX9_hours_26 : decode cX9_hours 26 = .ok (.if_icmp .ge 5, 3) := by decide +kernel
theorem dX9_hours_29 : decode cX9_hours 29 = .ok (.iconst 0, 1) := by decide +kernel
theorem dX9_hours_30 : decode cX9_hours 30 = .ok (.ireturn, 1) := by decide +kernel
theorem dX9_hours_31 : decode cX9_hours 31 = .ok (.iconst 3, 1) := by decide +kernel
theorem dX9_hours_32 : decode cX9_hours 32 = .ok (.aload_n 0, 1) := by decide +kernel
theorem dX9_hours_33 : decode cX9_hours 33 = .ok (.getfield 71, 3) := by decide +kernel
theorem dX9_hours_36 : decode cX9_hours 36 = .ok (.imul, 1) := by decide +kernel
theorem dX9_hours_37 : decode cX9_hours 37 = .ok (.aload_n 0, 1) := by decide +kernel
theorem dX9_hours_38 : decode cX9_hours 38 = .ok (.getfield 172, 3) := by decide +kernel
theorem dX9_hours_41 : decode cX9_hours 41 = .ok (.iadd, 1) := by decide +kernel
theorem dX9_hours_42 : decode cX9_hours 42 = .ok (.istore_n 1, 1) := by decide +kernel
theorem dX9_hours_43 : decode cX9_hours 43 = .ok (.iconst 0, 1) := by decide +kernel
theorem dX9_hours_44 : decode cX9_hours 44 = .ok (.istore_n 2, 1) := by decide +kernel
theorem dX9_hours_45 : decode cX9_hours 45 = .ok (.iload_n 2, 1) := by decide +kernel
theorem dX9_hours_46 : decode cX9_hours 46 = .ok (.bipush 32, 2) := by decide +kernel
theorem dX9_hours_48 : decode cX9_hours 48 = .ok (.if_icmp .ge 26, 3) := by decide +kernel
theorem dX9_hours_51 : decode cX9_hours 51 = .ok (.aload_n 0, 1) := by decide +kernel
theorem dX9_hours_52 : decode cX9_hours 52 = .ok (.getfield 65, 3) := by decide +kernel
theorem dX9_hours_55 : decode cX9_hours 55 = .ok (.bipush 32, 2) := by decide +kernel
theorem dX9_hours_57 : decode cX9_hours 57 = .ok (.iload_n 1, 1) := by decide +kernel
theorem dX9_hours_58 : decode cX9_hours 58 = .ok (.imul, 1) := by decide +kernel
theorem dX9_hours_59 : decode cX9_hours 59 = .ok (.iload_n 2, 1) := by decide +kernel
theorem dX9_hours_60 : decode cX9_hours 60 = .ok (.iadd, 1) := by decide +kernel
theorem dX9_hours_61 : decode cX9_hours 61 = .ok (.aload_n 0, 1) := by decide +kernel
theorem dX9_hours_62 : decode cX9_hours 62 = .ok (.getfield 75, 3) := by decide +kernel
theorem dX9_hours_65 : decode cX9_hours 65 = .ok (.iload_n 2, 1) := by decide +kernel
theorem dX9_hours_66 : decode cX9_hours 66 = .ok (.iaload, 1) := by decide +kernel
theorem dX9_hours_67 : decode cX9_hours 67 = .ok (.iastore, 1) := by decide +kernel
theorem dX9_hours_68 : decode cX9_hours 68 = .ok (.iinc 2 1, 3) := by decide +kernel
theorem dX9_hours_71 : decode cX9_hours 71 = .ok (.goto (-26), 3) := by decide +kernel
theorem dX9_hours_74 : decode cX9_hours 74 = .ok (.aload_n 0, 1) := by decide +kernel
theorem dX9_hours_75 : decode cX9_hours 75 = .ok (.getfield 59, 3) := by decide +kernel
theorem dX9_hours_78 : decode cX9_hours 78 = .ok (.iload_n 1, 1) := by decide +kernel
theorem dX9_hours_79 : decode cX9_hours 79 = .ok (.dup2, 1) := by decide +kernel
theorem dX9_hours_80 : decode cX9_hours 80 = .ok (.iaload, 1) := by decide +kernel
theorem dX9_hours_81 : decode cX9_hours 81 = .ok (.iconst 1, 1) := by decide +kernel
theorem dX9_hours_82 : decode cX9_hours 82 = .ok (.iadd, 1) := by decide +kernel
theorem dX9_hours_83 : decode cX9_hours 83 = .ok (.iastore, 1) := by decide +kernel
theorem dX9_hours_84 : decode cX9_hours 84 = .ok (.aload_n 0, 1) := by decide +kernel
theorem dX9_hours_85 : decode cX9_hours 85 = .ok (.iconst (-1), 1) := by decide +kernel
theorem dX9_hours_86 : decode cX9_hours 86 = .ok (.putfield 71, 3) := by decide +kernel
theorem dX9_hours_89 : decode cX9_hours 89 = .ok (.iconst 1, 1) := by decide +kernel
theorem dX9_hours_90 : decode cX9_hours 90 = .ok (.ireturn, 1) := by decide +kernel
theorem dX9_pass_0 : decode cX9_pass 0 = .ok (.aload_n 0, 1) := by decide +kernel
theorem dX9_pass_1 : decode cX9_pass 1 = .ok (.iload_n 1, 1) := by decide +kernel
theorem dX9_pass_2 : decode cX9_pass 2 = .ok (.i2l, 1) := by decide +kernel
theorem dX9_pass_3 : decode cX9_pass 3 = .ok (.lconst 1, 1) := by decide +kernel
theorem dX9_pass_4 : decode cX9_pass 4 = .ok (.ldc2_w 209, 3) := by decide +kernel
theorem dX9_pass_7 : decode cX9_pass 7 = .ok (.invokestatic 84, 3) := by decide +kernel
theorem dX9_pass_10 : decode cX9_pass 10 = .ok (.ifCond .ne 7, 3) := by decide +kernel
theorem dX9_pass_13 : decode cX9_pass 13 = .ok (.iconst 1, 1) := by decide +kernel
theorem dX9_pass_14 : decode cX9_pass 14 = .ok (.goto 20, 3) := by decide +kernel
theorem dX9_pass_17 : decode cX9_pass 17 = .ok (.aload_n 0, 1) := by decide +kernel
theorem dX9_pass_18 : decode cX9_pass 18 = .ok (.getfield 88, 3) := by decide +kernel
theorem dX9_pass_21 : decode cX9_pass 21 = .ok (.iload_n 1, 1) := by decide +kernel
theorem dX9_pass_22 : decode cX9_pass 22 = .ok (.iadd, 1) := by decide +kernel
theorem dX9_pass_23 : decode cX9_pass 23 = .ok (.sipush 999, 3) := by decide +kernel
theorem dX9_pass_26 : decode cX9_pass 26 = .ok (.if_icmp .le 7, 3) := by decide +kernel
theorem dX9_pass_29 : decode cX9_pass 29 = .ok (.iconst 2, 1) := by decide +kernel
theorem dX9_pass_30 : decode cX9_pass 30 = .ok (.goto 4, 3) := by decide +kernel
theorem dX9_pass_33 : decode cX9_pass 33 = .ok (.iconst 0, 1) := by decide +kernel
theorem dX9_pass_34 : decode cX9_pass 34 = .ok (.putfield 78, 3) := by decide +kernel
theorem dX9_pass_37 : decode cX9_pass 37 = .ok (.aload_n 0, 1) := by decide +kernel
theorem dX9_pass_38 : decode cX9_pass 38 = .ok (.getfield 78, 3) := by decide +kernel
theorem dX9_pass_41 : decode cX9_pass 41 = .ok (.ifCond .le 5, 3) := by decide +kernel
theorem dX9_pass_44 : decode cX9_pass 44 = .ok (.iconst (-1), 1) := by decide +kernel
theorem dX9_pass_45 : decode cX9_pass 45 = .ok (.ireturn, 1) := by decide +kernel
theorem dX9_pass_46 : decode cX9_pass 46 = .ok (.iconst 0, 1) := by decide +kernel
theorem dX9_pass_47 : decode cX9_pass 47 = .ok (.istore_n 2, 1) := by decide +kernel
theorem dX9_pass_48 : decode cX9_pass 48 = .ok (.iconst 0, 1) := by decide +kernel
theorem dX9_pass_49 : decode cX9_pass 49 = .ok (.istore_n 3, 1) := by decide +kernel
theorem dX9_pass_50 : decode cX9_pass 50 = .ok (.iload_n 3, 1) := by decide +kernel
theorem dX9_pass_51 : decode cX9_pass 51 = .ok (.iload_n 1, 1) := by decide +kernel
theorem dX9_pass_52 : decode cX9_pass 52 = .ok (.if_icmp .ge 16, 3) := by decide +kernel
theorem dX9_pass_55 : decode cX9_pass 55 = .ok (.iload_n 2, 1) := by decide +kernel
theorem dX9_pass_56 : decode cX9_pass 56 = .ok (.aload_n 0, 1) := by decide +kernel
theorem dX9_pass_57 : decode cX9_pass 57 = .ok (.invokevirtual 211, 3) := by decide +kernel
theorem dX9_pass_60 : decode cX9_pass 60 = .ok (.iadd, 1) := by decide +kernel
theorem dX9_pass_61 : decode cX9_pass 61 = .ok (.istore_n 2, 1) := by decide +kernel
theorem dX9_pass_62 : decode cX9_pass 62 = .ok (.iinc 3 1, 3) := by decide +kernel
theorem dX9_pass_65 : decode cX9_pass 65 = .ok (.goto (-15), 3) := by decide +kernel
theorem dX9_pass_68 : decode cX9_pass 68 = .ok (.iload_n 2, 1) := by decide +kernel
theorem dX9_pass_69 : decode cX9_pass 69 = .ok (.ireturn, 1) := by decide +kernel
theorem dX9_hour_0 : decode cX9_hour 0 = .ok (.aload_n 0, 1) := by decide +kernel
theorem dX9_hour_1 : decode cX9_hour 1 = .ok (.iconst 0, 1) := by decide +kernel
theorem dX9_hour_2 : decode cX9_hour 2 = .ok (.putfield 78, 3) := by decide +kernel
theorem dX9_hour_5 : decode cX9_hour 5 = .ok (.aload_n 0, 1) := by decide +kernel
theorem dX9_hour_6 : decode cX9_hour 6 = .ok (.getfield 88, 3) := by decide +kernel
theorem dX9_hour_9 : decode cX9_hour 9 = .ok (.ireturn, 1) := by decide +kernel
theorem dX9_plateLength_0 : decode cX9_plateLength 0 = .ok (.aload_n 0, 1) := by decide +kernel
theorem dX9_plateLength_1 : decode cX9_plateLength 1 = .ok (.iload_n 1, 1) := by decide +kernel
theorem dX9_plateLength_2 : decode cX9_plateLength 2 = .ok (.iload_n 2, 1) := by decide +kernel
theorem dX9_plateLength_3 : decode cX9_plateLength 3 = .ok (.invokevirtual 195, 3) := by decide +kernel
theorem dX9_plateLength_6 : decode cX9_plateLength 6 = .ok (.ifCond .eq 26, 3) := by decide +kernel
theorem dX9_plateLength_9 : decode cX9_plateLength 9 = .ok (.aload_n 0, 1) := by decide +kernel
theorem dX9_plateLength_10 : decode cX9_plateLength 10 = .ok (.aload_n 0, 1) := by decide +kernel
theorem dX9_plateLength_11 : decode cX9_plateLength 11 = .ok (.getfield 62, 3) := by decide +kernel
theorem dX9_plateLength_14 : decode cX9_plateLength 14 = .ok (.iconst 3, 1) := by decide +kernel
theorem dX9_plateLength_15 : decode cX9_plateLength 15 = .ok (.iload_n 1, 1) := by decide +kernel
theorem dX9_plateLength_16 : decode cX9_plateLength 16 = .ok (.imul, 1) := by decide +kernel
theorem dX9_plateLength_17 : decode cX9_plateLength 17 = .ok (.iload_n 2, 1) := by decide +kernel
theorem dX9_plateLength_18 : decode cX9_plateLength 18 = .ok (.iadd, 1) := by decide +kernel
theorem dX9_plateLength_19 : decode cX9_plateLength 19 = .ok (.iaload, 1) := by decide +kernel
theorem dX9_plateLength_20 : decode cX9_plateLength 20 = .ok (.iconst (-1), 1) := by decide +kernel
theorem dX9_plateLength_21 : decode cX9_plateLength 21 = .ok (.if_icmp .ne 7, 3) := by decide +kernel
theorem dX9_plateLength_24 : decode cX9_plateLength 24 = .ok (.iconst 3, 1) := by decide +kernel
theorem dX9_plateLength_25 : decode cX9_plateLength 25 = .ok (.goto 4, 3) := by decide +kernel
theorem dX9_plateLength_28 : decode cX9_plateLength 28 = .ok (.iconst 0, 1) := by decide +kernel
theorem dX9_plateLength_29 : decode cX9_plateLength 29 = .ok (.putfield 78, 3) := by decide +kernel
theorem dX9_plateLength_32 : decode cX9_plateLength 32 = .ok (.aload_n 0, 1) := by decide +kernel
theorem dX9_plateLength_33 : decode cX9_plateLength 33 = .ok (.getfield 78, 3) := by decide +kernel
theorem dX9_plateLength_36 : decode cX9_plateLength 36 = .ok (.ifCond .ne 16, 3) := by decide +kernel
theorem dX9_plateLength_39 : decode cX9_plateLength 39 = .ok (.aload_n 0, 1) := by decide +kernel
theorem dX9_plateLength_40 : decode cX9_plateLength 40 = .ok (.getfield 62, 3) := by decide +kernel
theorem dX9_plateLength_43 : decode cX9_plateLength 43 = .ok (.iconst 3, 1) := by decide +kernel
theorem dX9_plateLength_44 : decode cX9_plateLength 44 = .ok (.iload_n 1, 1) := by decide +kernel
theorem dX9_plateLength_45 : decode cX9_plateLength 45 = .ok (.imul, 1) := by decide +kernel
theorem dX9_plateLength_46 : decode cX9_plateLength 46 = .ok (.iload_n 2, 1) := by decide +kernel
theorem dX9_plateLength_47 : decode cX9_plateLength 47 = .ok (.iadd, 1) := by decide +kernel
theorem dX9_plateLength_48 : decode cX9_plateLength 48 = .ok (.iaload, 1) := by decide +kernel
theorem dX9_plateLength_49 : decode cX9_plateLength 49 = .ok (.goto 4, 3) := by decide +kernel
theorem dX9_plateLength_52 : decode cX9_plateLength 52 = .ok (.iconst (-1), 1) := by decide +kernel
theorem dX9_plateLength_53 : decode cX9_plateLength 53 = .ok (.ireturn, 1) := by decide +kernel
theorem dX9_plateAt_0 : decode cX9_plateAt 0 = .ok (.aload_n 0, 1) := by decide +kernel
theorem dX9_plateAt_1 : decode cX9_plateAt 1 = .ok (.iload_n 1, 1) := by decide +kernel
theorem dX9_plateAt_2 : decode cX9_plateAt 2 = .ok (.iload_n 2, 1) := by decide +kernel
theorem dX9_plateAt_3 : decode cX9_plateAt 3 = .ok (.invokevirtual 195, 3) := by decide +kernel
theorem dX9_plateAt_6 : decode cX9_plateAt 6 = .ok (.ifCond .eq 34, 3) := by decide +kernel
theorem dX9_plateAt_9 : decode cX9_plateAt 9 = .ok (.aload_n 0, 1) := by decide +kernel
theorem dX9_plateAt_10 : decode cX9_plateAt 10 = .ok (.iload_n 3, 1) := by decide +kernel
theorem dX9_plateAt_11 : decode cX9_plateAt 11 = .ok (.i2l, 1) := by decide +kernel
theorem dX9_plateAt_12 : decode cX9_plateAt 12 = .ok (.lconst 0, 1) := by decide +kernel
theorem dX9_plateAt_13 : decode cX9_plateAt 13 = .ok (.aload_n 0, 1) := by decide +kernel
theorem dX9_plateAt_14 : decode cX9_plateAt 14 = .ok (.getfield 62, 3) := by decide +kernel
theorem dX9_plateAt_17 : decode cX9_plateAt 17 = .ok (.iconst 3, 1) := by decide +kernel
theorem dX9_plateAt_18 : decode cX9_plateAt 18 = .ok (.iload_n 1, 1) := by decide +kernel
theorem dX9_plateAt_19 : decode cX9_plateAt 19 = .ok (.imul, 1) := by decide +kernel
theorem dX9_plateAt_20 : decode cX9_plateAt 20 = .ok (.iload_n 2, 1) := by decide +kernel
theorem dX9_plateAt_21 : decode cX9_plateAt 21 = .ok (.iadd, 1) := by decide +kernel
theorem dX9_plateAt_22 : decode cX9_plateAt 22 = .ok (.iaload, 1) := by decide +kernel
theorem dX9_plateAt_23 : decode cX9_plateAt 23 = .ok (.iconst 1, 1) := by decide +kernel
theorem dX9_plateAt_24 : decode cX9_plateAt 24 = .ok (.isub, 1) := by decide +kernel
theorem dX9_plateAt_25 : decode cX9_plateAt 25 = .ok (.i2l, 1) := by decide +kernel
theorem dX9_plateAt_26 : decode cX9_plateAt 26 = .ok (.invokestatic 84, 3) := by decide +kernel
theorem dX9_plateAt_29 : decode cX9_plateAt 29 = .ok (.ifCond .eq 7, 3) := by decide +kernel
theorem dX9_plateAt_32 : decode cX9_plateAt 32 = .ok (.iconst 0, 1) := by decide +kernel
theorem dX9_plateAt_33 : decode cX9_plateAt 33 = .ok (.goto 4, 3) := by decide +kernel
theorem dX9_plateAt_36 : decode cX9_plateAt 36 = .ok (.iconst 3, 1) := by decide +kernel
theorem dX9_plateAt_37 : decode cX9_plateAt 37 = .ok (.putfield 78, 3) := by decide +kernel
theorem dX9_plateAt_40 : decode cX9_plateAt 40 = .ok (.aload_n 0, 1) := by decide +kernel
theorem dX9_plateAt_41 : decode cX9_plateAt 41 = .ok (.getfield 78, 3) := by decide +kernel
theorem dX9_plateAt_44 : decode cX9_plateAt 44 = .ok (.ifCond .ne 21, 3) := by decide +kernel
theorem dX9_plateAt_47 : decode cX9_plateAt 47 = .ok (.aload_n 0, 1) := by decide +kernel
theorem dX9_plateAt_48 : decode cX9_plateAt 48 = .ok (.getfield 68, 3) := by decide +kernel
theorem dX9_plateAt_51 : decode cX9_plateAt 51 = .ok (.bipush 32, 2) := by decide +kernel
theorem dX9_plateAt_53 : decode cX9_plateAt 53 = .ok (.iconst 3, 1) := by decide +kernel
theorem dX9_plateAt_54 : decode cX9_plateAt 54 = .ok (.iload_n 1, 1) := by decide +kernel
theorem dX9_plateAt_55 : decode cX9_plateAt 55 = .ok (.imul, 1) := by decide +kernel
theorem dX9_plateAt_56 : decode cX9_plateAt 56 = .ok (.iload_n 2, 1) := by decide +kernel
theorem dX9_plateAt_57 : decode cX9_plateAt 57 = .ok (.iadd, 1) := by decide +kernel
theorem dX9_plateAt_58 : decode cX9_plateAt 58 = .ok (.imul, 1) := by decide +kernel
theorem dX9_plateAt_59 : decode cX9_plateAt 59 = .ok (.iload_n 3, 1) := by decide +kernel
theorem dX9_plateAt_60 : decode cX9_plateAt 60 = .ok (.iadd, 1) := by decide +kernel
theorem dX9_plateAt_61 : decode cX9_plateAt 61 = .ok (.iaload, 1) := by decide +kernel
theorem dX9_plateAt_62 : decode cX9_plateAt 62 = .ok (.goto 4, 3) := by decide +kernel
theorem dX9_plateAt_65 : decode cX9_plateAt 65 = .ok (.iconst (-1), 1) := by decide +kernel
theorem dX9_plateAt_66 : decode cX9_plateAt 66 = .ok (.ireturn, 1) := by decide +kernel
theorem dX9_platesFor_0 : decode cX9_platesFor 0 = .ok (.aload_n 0, 1) := by decide +kernel
theorem dX9_platesFor_1 : decode cX9_platesFor 1 = .ok (.iload_n 1, 1) := by decide +kernel
theorem dX9_platesFor_2 : decode cX9_platesFor 2 = .ok (.invokevirtual 192, 3) := by decide +kernel
theorem dX9_platesFor_5 : decode cX9_platesFor 5 = .ok (.ifCond .eq 12, 3) := by decide +kernel
theorem dX9_platesFor_8 : decode cX9_platesFor 8 = .ok (.aload_n 0, 1) := by decide +kernel
theorem dX9_platesFor_9 : decode cX9_platesFor 9 = .ok (.getfield 56, 3) := by decide +kernel
theorem dX9_platesFor_12 : decode cX9_platesFor 12 = .ok (.iload_n 1, 1) := by decide +kernel
theorem dX9_platesFor_13 : decode cX9_platesFor 13 = .ok (.iaload, 1) := by decide +kernel
theorem dX9_platesFor_14 : decode cX9_platesFor 14 = .ok (.goto 4, 3) := by decide +kernel
theorem dX9_platesFor_17 : decode cX9_platesFor 17 = .ok (.iconst (-1), 1) := by decide +kernel
theorem dX9_platesFor_18 : decode cX9_platesFor 18 = .ok (.ireturn, 1) := by decide +kernel
theorem dX9_wasted_0 : decode cX9_wasted 0 = .ok (.aload_n 0, 1) := by decide +kernel
theorem dX9_wasted_1 : decode cX9_wasted 1 = .ok (.iload_n 1, 1) := by decide +kernel
theorem dX9_wasted_2 : decode cX9_wasted 2 = .ok (.invokevirtual 192, 3) := by decide +kernel
theorem dX9_wasted_5 : decode cX9_wasted 5 = .ok (.ifCond .eq 7, 3) := by decide +kernel
theorem dX9_wasted_8 : decode cX9_wasted 8 = .ok (.iconst 0, 1) := by decide +kernel
theorem dX9_wasted_9 : decode cX9_wasted 9 = .ok (.goto 4, 3) := by decide +kernel
theorem dX9_wasted_12 : decode cX9_wasted 12 = .ok (.iconst (-1), 1) := by decide +kernel
theorem dX9_wasted_13 : decode cX9_wasted 13 = .ok (.istore_n 2, 1) := by decide +kernel
theorem dX9_wasted_14 : decode cX9_wasted 14 = .ok (.iconst 0, 1) := by decide +kernel
theorem dX9_wasted_15 : decode cX9_wasted 15 = .ok (.istore_n 3, 1) := by decide +kernel
theorem dX9_wasted_16 : decode cX9_wasted 16 = .ok (.iload_n 3, 1) := by decide +kernel
theorem dX9_wasted_17 : decode cX9_wasted 17 = .ok (.iconst 3, 1) := by decide +kernel
theorem dX9_wasted_18 : decode cX9_wasted 18 = .ok (.if_icmp .ge 52, 3) := by decide +kernel
theorem dX9_wasted_21 : decode cX9_wasted 21 = .ok (.aload_n 0, 1) := by decide +kernel
theorem dX9_wasted_22 : decode cX9_wasted 22 = .ok (.getfield 78, 3) := by decide +kernel
theorem dX9_wasted_25 : decode cX9_wasted 25 = .ok (.ifCond .ne 45, 3) := by decide +kernel
theorem dX9_wasted_28 : decode cX9_wasted 28 = .ok (.aload_n 0, 1) := by decide +kernel
theorem dX9_wasted_29 : decode cX9_wasted 29 = .ok (.getfield 59, 3) := by decide +kernel
theorem dX9_wasted_32 : decode cX9_wasted 32 = .ok (.iconst 3, 1) := by decide +kernel
theorem dX9_wasted_33 : decode cX9_wasted 33 = .ok (.iload_n 1, 1) := by decide +kernel
theorem dX9_wasted_34 : decode cX9_wasted 34 = .ok (.imul, 1) := by decide +kernel
theorem dX9_wasted_35 : decode cX9_wasted 35 = .ok (.iload_n 3, 1) := by decide +kernel
theorem dX9_wasted_36 : decode cX9_wasted 36 = .ok (.iadd, 1) := by decide +kernel
theorem dX9_wasted_37 : decode cX9_wasted 37 = .ok (.iaload, 1) := by decide +kernel
theorem dX9_wasted_38 : decode cX9_wasted 38 = .ok (.istore 4, 2) := by decide +kernel
theorem dX9_wasted_40 : decode cX9_wasted 40 = .ok (.iload_n 2, 1) := by decide +kernel
theorem dX9_wasted_41 : decode cX9_wasted 41 = .ok (.iload 4, 2) := by decide +kernel
theorem dX9_wasted_43 : decode cX9_wasted 43 = .ok (.iconst 1, 1) := by decide +kernel
theorem dX9_wasted_44 : decode cX9_wasted 44 = .ok (.if_icmp .le 17, 3) := by decide +kernel
theorem dX9_wasted_47 : decode cX9_wasted 47 = .ok (.aload_n 0, 1) := by decide +kernel
theorem dX9_wasted_48 : decode cX9_wasted 48 = .ok (.getfield 47, 3) := by decide +kernel
theorem dX9_wasted_51 : decode cX9_wasted 51 = .ok (.iload_n 1, 1) := by decide +kernel
theorem dX9_wasted_52 : decode cX9_wasted 52 = .ok (.iaload, 1) := by decide +kernel
theorem dX9_wasted_53 : decode cX9_wasted 53 = .ok (.iload 4, 2) := by decide +kernel
theorem dX9_wasted_55 : decode cX9_wasted 55 = .ok (.iconst 1, 1) := by decide +kernel
theorem dX9_wasted_56 : decode cX9_wasted 56 = .ok (.isub, 1) := by decide +kernel
theorem dX9_wasted_57 : decode cX9_wasted 57 = .ok (.imul, 1) := by decide +kernel
theorem dX9_wasted_58 : decode cX9_wasted 58 = .ok (.goto 4, 3) := by decide +kernel
theorem dX9_wasted_61 : decode cX9_wasted 61 = .ok (.iconst 0, 1) := by decide +kernel
theorem dX9_wasted_62 : decode cX9_wasted 62 = .ok (.iadd, 1) := by decide +kernel
theorem dX9_wasted_63 : decode cX9_wasted 63 = .ok (.istore_n 2, 1) := by decide +kernel
theorem dX9_wasted_64 : decode cX9_wasted 64 = .ok (.iinc 3 1, 3) := by decide +kernel
theorem dX9_wasted_67 : decode cX9_wasted 67 = .ok (.goto (-51), 3) := by decide +kernel
theorem dX9_wasted_70 : decode cX9_wasted 70 = .ok (.iload_n 2, 1) := by decide +kernel
theorem dX9_wasted_71 : decode cX9_wasted 71 = .ok (.ireturn, 1) := by decide +kernel
theorem dX9_cost_0 : decode cX9_cost 0 = .ok (.aload_n 0, 1) := by decide +kernel
theorem dX9_cost_1 : decode cX9_cost 1 = .ok (.iload_n 1, 1) := by decide +kernel
theorem dX9_cost_2 : decode cX9_cost 2 = .ok (.invokevirtual 192, 3) := by decide +kernel
theorem dX9_cost_5 : decode cX9_cost 5 = .ok (.ifCond .eq 29, 3) := by decide +kernel
theorem dX9_cost_8 : decode cX9_cost 8 = .ok (.ldc2_w 214, 3) := by decide +kernel
theorem dX9_cost_11 : decode cX9_cost 11 = .ok (.aload_n 0, 1) := by decide +kernel
theorem dX9_cost_12 : decode cX9_cost 12 = .ok (.getfield 53, 3) := by decide +kernel
theorem dX9_cost_15 : decode cX9_cost 15 = .ok (.iload_n 1, 1) := by decide +kernel
theorem dX9_cost_16 : decode cX9_cost 16 = .ok (.iaload, 1) := by decide +kernel
theorem dX9_cost_17 : decode cX9_cost 17 = .ok (.i2l, 1) := by decide +kernel
theorem dX9_cost_18 : decode cX9_cost 18 = .ok (.lmul, 1) := by decide +kernel
theorem dX9_cost_19 : decode cX9_cost 19 = .ok (.ldc2_w 216, 3) := by decide +kernel
theorem dX9_cost_22 : decode cX9_cost 22 = .ok (.aload_n 0, 1) := by decide +kernel
theorem dX9_cost_23 : decode cX9_cost 23 = .ok (.getfield 56, 3) := by decide +kernel
theorem dX9_cost_26 : decode cX9_cost 26 = .ok (.iload_n 1, 1) := by decide +kernel
theorem dX9_cost_27 : decode cX9_cost 27 = .ok (.iaload, 1) := by decide +kernel
theorem dX9_cost_28 : decode cX9_cost 28 = .ok (.i2l, 1) := by decide +kernel
theorem dX9_cost_29 : decode cX9_cost 29 = .ok (.lmul, 1) := by decide +kernel
theorem dX9_cost_30 : decode cX9_cost 30 = .ok (.ladd, 1) := by decide +kernel
theorem dX9_cost_31 : decode cX9_cost 31 = .ok (.goto 6, 3) := by decide +kernel
theorem dX9_cost_34 : decode cX9_cost 34 = .ok (.ldc2_w 218, 3) := by decide +kernel
theorem dX9_cost_37 : decode cX9_cost 37 = .ok (.lreturn, 1) := by decide +kernel
theorem dX9_goodShare_0 : decode cX9_goodShare 0 = .ok (.iconst 0, 1) := by decide +kernel
theorem dX9_goodShare_1 : decode cX9_goodShare 1 = .ok (.istore_n 1, 1) := by decide +kernel
theorem dX9_goodShare_2 : decode cX9_goodShare 2 = .ok (.iconst 0, 1) := by decide +kernel
theorem dX9_goodShare_3 : decode cX9_goodShare 3 = .ok (.istore_n 2, 1) := by decide +kernel
theorem dX9_goodShare_4 : decode cX9_goodShare 4 = .ok (.iconst 0, 1) := by decide +kernel
theorem dX9_goodShare_5 : decode cX9_goodShare 5 = .ok (.istore_n 3, 1) := by decide +kernel
theorem dX9_goodShare_6 : decode cX9_goodShare 6 = .ok (.iload_n 3, 1) := by decide +kernel
theorem dX9_goodShare_7 : decode cX9_goodShare 7 = .ok (.aload_n 0, 1) := by decide +kernel
theorem dX9_goodShare_8 : decode cX9_goodShare 8 = .ok (.getfield 165, 3) := by decide +kernel
theorem dX9_goodShare_11 : decode cX9_goodShare 11 = .ok (.if_icmp .ge 27, 3) := by decide +kernel
theorem dX9_goodShare_14 : decode cX9_goodShare 14 = .ok (.iload_n 1, 1) := by decide +kernel
theorem dX9_goodShare_15 : decode cX9_goodShare 15 = .ok (.aload_n 0, 1) := by decide +kernel
theorem dX9_goodShare_16 : decode cX9_goodShare 16 = .ok (.iload_n 3, 1) := by decide +kernel
theorem dX9_goodShare_17 : decode cX9_goodShare 17 = .ok (.bipush 112, 2) := by decide +kernel
theorem dX9_goodShare_19 : decode cX9_goodShare 19 = .ok (.invokevirtual 182, 3) := by decide +kernel
theorem dX9_goodShare_22 : decode cX9_goodShare 22 = .ok (.iadd, 1) := by decide +kernel
theorem dX9_goodShare_23 : decode cX9_goodShare 23 = .ok (.istore_n 1, 1) := by decide +kernel
theorem dX9_goodShare_24 : decode cX9_goodShare 24 = .ok (.iload_n 2, 1) := by decide +kernel
theorem dX9_goodShare_25 : decode cX9_goodShare 25 = .ok (.aload_n 0, 1) := by decide +kernel
theorem dX9_goodShare_26 : decode cX9_goodShare 26 = .ok (.iload_n 3, 1) := by decide +kernel
theorem dX9_goodShare_27 : decode cX9_goodShare 27 = .ok (.invokevirtual 175, 3) := by decide +kernel
theorem dX9_goodShare_30 : decode cX9_goodShare 30 = .ok (.iadd, 1) := by decide +kernel
theorem dX9_goodShare_31 : decode cX9_goodShare 31 = .ok (.istore_n 2, 1) := by decide +kernel
theorem dX9_goodShare_32 : decode cX9_goodShare 32 = .ok (.iinc 3 1, 3) := by decide +kernel
theorem dX9_goodShare_35 : decode cX9_goodShare 35 = .ok (.goto (-29), 3) := by decide +kernel
theorem dX9_goodShare_38 : decode cX9_goodShare 38 = .ok (.aload_n 0, 1) := by decide +kernel
theorem dX9_goodShare_39 : decode cX9_goodShare 39 = .ok (.aload_n 0, 1) := by decide +kernel
theorem dX9_goodShare_40 : decode cX9_goodShare 40 = .ok (.getfield 165, 3) := by decide +kernel
theorem dX9_goodShare_43 : decode cX9_goodShare 43 = .ok (.ifCond .ne 7, 3) := by decide +kernel
theorem dX9_goodShare_46 : decode cX9_goodShare 46 = .ok (.iconst 1, 1) := by decide +kernel
theorem dX9_goodShare_47 : decode cX9_goodShare 47 = .ok (.goto 4, 3) := by decide +kernel
theorem dX9_goodShare_50 : decode cX9_goodShare 50 = .ok (.iconst 0, 1) := by decide +kernel
theorem dX9_goodShare_51 : decode cX9_goodShare 51 = .ok (.putfield 78, 3) := by decide +kernel
theorem dX9_goodShare_54 : decode cX9_goodShare 54 = .ok (.aload_n 0, 1) := by decide +kernel
theorem dX9_goodShare_55 : decode cX9_goodShare 55 = .ok (.getfield 78, 3) := by decide +kernel
theorem dX9_goodShare_58 : decode cX9_goodShare 58 = .ok (.ifCond .ne 11, 3) := by decide +kernel
theorem dX9_goodShare_61 : decode cX9_goodShare 61 = .ok (.iload_n 1, 1) := by decide +kernel
theorem dX9_goodShare_62 : decode cX9_goodShare 62 = .ok (.i2f, 1) := by decide +kernel
theorem dX9_goodShare_63 : decode cX9_goodShare 63 = .ok (.iload_n 2, 1) := by decide +kernel
theorem dX9_goodShare_64 : decode cX9_goodShare 64 = .ok (.i2f, 1) := by decide +kernel
theorem dX9_goodShare_65 : decode cX9_goodShare 65 = .ok (.fdiv, 1) := by decide +kernel
theorem dX9_goodShare_66 : decode cX9_goodShare 66 = .ok (.goto 4, 3) := by decide +kernel
theorem dX9_goodShare_69 : decode cX9_goodShare 69 = .ok (.fconst 0, 1) := by decide +kernel
theorem dX9_goodShare_70 : decode cX9_goodShare 70 = .ok (.freturn, 1) := by decide +kernel
theorem dX9_meanLength_0 : decode cX9_meanLength 0 = .ok (.iconst 0, 1) := by decide +kernel
theorem dX9_meanLength_1 : decode cX9_meanLength 1 = .ok (.istore_n 1, 1) := by decide +kernel
theorem dX9_meanLength_2 : decode cX9_meanLength 2 = .ok (.iconst 0, 1) := by decide +kernel
theorem dX9_meanLength_3 : decode cX9_meanLength 3 = .ok (.istore_n 2, 1) := by decide +kernel
theorem dX9_meanLength_4 : decode cX9_meanLength 4 = .ok (.iload_n 2, 1) := by decide +kernel
theorem dX9_meanLength_5 : decode cX9_meanLength 5 = .ok (.aload_n 0, 1) := by decide +kernel
theorem dX9_meanLength_6 : decode cX9_meanLength 6 = .ok (.getfield 81, 3) := by decide +kernel
theorem dX9_meanLength_9 : decode cX9_meanLength 9 = .ok (.if_icmp .ge 18, 3) := by decide +kernel
theorem dX9_meanLength_12 : decode cX9_meanLength 12 = .ok (.iload_n 1, 1) := by decide +kernel
theorem dX9_meanLength_13 : decode cX9_meanLength 13 = .ok (.aload_n 0, 1) := by decide +kernel
theorem dX9_meanLength_14 : decode cX9_meanLength 14 = .ok (.getfield 13, 3) := by decide +kernel
theorem dX9_meanLength_17 : decode cX9_meanLength 17 = .ok (.iload_n 2, 1) := by decide +kernel
theorem dX9_meanLength_18 : decode cX9_meanLength 18 = .ok (.iaload, 1) := by decide +kernel
theorem dX9_meanLength_19 : decode cX9_meanLength 19 = .ok (.iadd, 1) := by decide +kernel
theorem dX9_meanLength_20 : decode cX9_meanLength 20 = .ok (.istore_n 1, 1) := by decide +kernel
theorem dX9_meanLength_21 : decode cX9_meanLength 21 = .ok (.iinc 2 1, 3) := by decide +kernel
theorem dX9_meanLength_24 : decode cX9_meanLength 24 = .ok (.goto (-20), 3) := by decide +kernel
theorem dX9_meanLength_27 : decode cX9_meanLength 27 = .ok (.aload_n 0, 1) := by decide +kernel
theorem dX9_meanLength_28 : decode cX9_meanLength 28 = .ok (.aload_n 0, 1) := by decide +kernel
theorem dX9_meanLength_29 : decode cX9_meanLength 29 = .ok (.getfield 81, 3) := by decide +kernel
theorem dX9_meanLength_32 : decode cX9_meanLength 32 = .ok (.ifCond .ne 7, 3) := by decide +kernel
theorem dX9_meanLength_35 : decode cX9_meanLength 35 = .ok (.iconst 1, 1) := by decide +kernel
theorem dX9_meanLength_36 : decode cX9_meanLength 36 = .ok (.goto 4, 3) := by decide +kernel
theorem dX9_meanLength_39 : decode cX9_meanLength 39 = .ok (.iconst 0, 1) := by decide +kernel
theorem dX9_meanLength_40 : decode cX9_meanLength 40 = .ok (.putfield 78, 3) := by decide +kernel
theorem dX9_meanLength_43 : decode cX9_meanLength 43 = .ok (.aload_n 0, 1) := by decide +kernel
theorem dX9_meanLength_44 : decode cX9_meanLength 44 = .ok (.getfield 78, 3) := by decide +kernel
theorem dX9_meanLength_47 : decode cX9_meanLength 47 = .ok (.ifCond .ne 14, 3) := by decide +kernel
theorem dX9_meanLength_50 : decode cX9_meanLength 50 = .ok (.iload_n 1, 1) := by decide +kernel
theorem dX9_meanLength_51 : decode cX9_meanLength 51 = .ok (.i2d, 1) := by decide +kernel
theorem dX9_meanLength_52 : decode cX9_meanLength 52 = .ok (.aload_n 0, 1) := by decide +kernel
theorem dX9_meanLength_53 : decode cX9_meanLength 53 = .ok (.getfield 81, 3) := by decide +kernel
theorem dX9_meanLength_56 : decode cX9_meanLength 56 = .ok (.i2d, 1) := by decide +kernel
theorem dX9_meanLength_57 : decode cX9_meanLength 57 = .ok (.ddiv, 1) := by decide +kernel
theorem dX9_meanLength_58 : decode cX9_meanLength 58 = .ok (.goto 4, 3) := by decide +kernel
theorem dX9_meanLength_61 : decode cX9_meanLength 61 = .ok (.dconst 0, 1) := by decide +kernel
theorem dX9_meanLength_62 : decode cX9_meanLength 62 = .ok (.dreturn, 1) := by decide +kernel
theorem dJx00060_init_a7421_0 : decode cJx00060_init_a7421 0 = .ok (.aload_n 0, 1) := by decide +kernel
theorem dJx00060_init_a7421_1 : decode cJx00060_init_a7421 1 = .ok (.aload_n 1, 1) := by decide +kernel
theorem dJx00060_init_a7421_2 : decode cJx00060_init_a7421 2 = .ok (.invokespecial 7, 3) := by decide +kernel
theorem dJx00060_init_a7421_5 : decode cJx00060_init_a7421 5 = .ok (.return_, 1) := by decide +kernel
theorem dJ9_max_7cf53_0 : decode cJ9_max_7cf53 0 = .ok (.iload_n 0, 1) := by decide +kernel
theorem dJ9_max_7cf53_1 : decode cJ9_max_7cf53 1 = .ok (.iload_n 1, 1) := by decide +kernel
theorem dJ9_max_7cf53_2 : decode cJ9_max_7cf53 2 = .ok (.if_icmp .lt 7, 3) := by decide +kernel
theorem dJ9_max_7cf53_5 : decode cJ9_max_7cf53 5 = .ok (.iload_n 0, 1) := by decide +kernel
theorem dJ9_max_7cf53_6 : decode cJ9_max_7cf53 6 = .ok (.goto 4, 3) := by decide +kernel
theorem dJ9_max_7cf53_9 : decode cJ9_max_7cf53 9 = .ok (.iload_n 1, 1) := by decide +kernel
theorem dJ9_max_7cf53_10 : decode cJ9_max_7cf53 10 = .ok (.ireturn, 1) := by decide +kernel
theorem dL_addDocument_0 : decode cL_addDocument 0 = .ok (.aload_n 1, 1) := by decide +kernel
theorem dL_addDocument_1 : decode cL_addDocument 1 = .ok (.iconst 0, 1) := by decide +kernel
theorem dL_addDocument_2 : decode cL_addDocument 2 = .ok (.aload_n 0, 1) := by decide +kernel
theorem dL_addDocument_3 : decode cL_addDocument 3 = .ok (.invokevirtual 7, 3) := by decide +kernel
theorem dL_addDocument_6 : decode cL_addDocument 6 = .ok (.i2l, 1) := by decide +kernel
theorem dL_addDocument_7 : decode cL_addDocument 7 = .ok (.lastore, 1) := by decide +kernel
theorem dL_addDocument_8 : decode cL_addDocument 8 = .ok (.goto 6, 3) := by decide +kernel
theorem dL_addDocument_11 : decode cL_addDocument 11 = .ok (.astore_n 2, 1) := by decide +kernel
theorem dL_addDocument_12 : decode cL_addDocument 12 = .ok (.iconst 1, 1) := by decide +kernel
theorem dL_addDocument_13 : decode cL_addDocument 13 = .ok (.ireturn, 1) := by decide +kernel
theorem dL_addDocument_14 : decode cL_addDocument 14 = .ok (.iconst 0, 1) := by decide +kernel
theorem dL_addDocument_15 : decode cL_addDocument 15 = .ok (.ireturn, 1) := by decide +kernel
theorem dL_insert_0 : decode cL_insert 0 = .ok (.aload 4, 2) := by decide +kernel
theorem dL_insert_2 : decode cL_insert 2 = .ok (.iconst 0, 1) := by decide +kernel
theorem dL_insert_3 : decode cL_insert 3 = .ok (.aload_n 0, 1) := by decide +kernel
theorem dL_insert_4 : decode cL_insert 4 = .ok (.iload_n 1, 1) := by decide +kernel
theorem dL_insert_5 : decode cL_insert 5 = .ok (.iload_n 2, 1) := by decide +kernel
theorem dL_insert_6 : decode cL_insert 6 = .ok (.iload_n 3, 1) := by decide +kernel
theorem dL_insert_7 : decode cL_insert 7 = .ok (.invokevirtual 15, 3) := by decide +kernel
theorem dL_insert_10 : decode cL_insert 10 = .ok (.i2l, 1) := by decide +kernel
theorem dL_insert_11 : decode cL_insert 11 = .ok (.lastore, 1) := by decide +kernel
theorem dL_insert_12 : decode cL_insert 12 = .ok (.goto 23, 3) := by decide +kernel
theorem dL_insert_15 : decode cL_insert 15 = .ok (.astore 5, 2) := by decide +kernel
theorem dL_insert_17 : decode cL_insert 17 = .ok (.iconst 1, 1) := by decide +kernel
theorem dL_insert_18 : decode cL_insert 18 = .ok (.ireturn, 1) := by decide +kernel
theorem dL_insert_19 : decode cL_insert 19 = .ok (.astore 5, 2) := by decide +kernel
theorem dL_insert_21 : decode cL_insert 21 = .ok (.iconst 2, 1) := by decide +kernel
theorem dL_insert_22 : decode cL_insert 22 = .ok (.ireturn, 1) := by decide +kernel
theorem dL_insert_23 : decode cL_insert 23 = .ok (.astore 5, 2) := by decide +kernel
theorem dL_insert_25 : decode cL_insert 25 = .ok (.iconst 3, 1) := by decide +kernel
theorem dL_insert_26 : decode cL_insert 26 = .ok (.ireturn, 1) := by decide +kernel
theorem dL_insert_27 : decode cL_insert 27 = .ok (.astore 5, 2) := by decide +kernel
theorem dL_insert_29 : decode cL_insert 29 = .ok (.iconst 4, 1) := by decide +kernel
theorem dL_insert_30 : decode cL_insert 30 = .ok (.ireturn, 1) := by decide +kernel
theorem dL_insert_31 : decode cL_insert 31 = .ok (.astore 5, 2) := by decide +kernel
theorem dL_insert_33 : decode cL_insert 33 = .ok (.iconst 5, 1) := by decide +kernel
theorem dL_insert_34 : decode cL_insert 34 = .ok (.ireturn, 1) := by decide +kernel
theorem dL_insert_35 : decode cL_insert 35 = .ok (.iconst 0, 1) := by decide +kernel
theorem dL_insert_36 : decode cL_insert 36 = .ok (.ireturn, 1) := by decide +kernel
theorem dL_delete_0 : decode cL_delete 0 = .ok (.aload_n 3, 1) := by decide +kernel
theorem dL_delete_1 : decode cL_delete 1 = .ok (.iconst 0, 1) := by decide +kernel
theorem dL_delete_2 : decode cL_delete 2 = .ok (.aload_n 0, 1) := by decide +kernel
theorem dL_delete_3 : decode cL_delete 3 = .ok (.iload_n 1, 1) := by decide +kernel
theorem dL_delete_4 : decode cL_delete 4 = .ok (.iload_n 2, 1) := by decide +kernel
theorem dL_delete_5 : decode cL_delete 5 = .ok (.invokevirtual 27, 3) := by decide +kernel
theorem dL_delete_8 : decode cL_delete 8 = .ok (.i2l, 1) := by decide +kernel
theorem dL_delete_9 : decode cL_delete 9 = .ok (.lastore, 1) := by decide +kernel
theorem dL_delete_10 : decode cL_delete 10 = .ok (.goto 15, 3) := by decide +kernel
theorem dL_delete_13 : decode cL_delete 13 = .ok (.astore 4, 2) := by decide +kernel
theorem dL_delete_15 : decode cL_delete 15 = .ok (.iconst 1, 1) := by decide +kernel
theorem dL_delete_16 : decode cL_delete 16 = .ok (.ireturn, 1) := by decide +kernel
theorem dL_delete_17 : decode cL_delete 17 = .ok (.astore 4, 2) := by decide +kernel
theorem dL_delete_19 : decode cL_delete 19 = .ok (.iconst 2, 1) := by decide +kernel
theorem dL_delete_20 : decode cL_delete 20 = .ok (.ireturn, 1) := by decide +kernel
theorem dL_delete_21 : decode cL_delete 21 = .ok (.astore 4, 2) := by decide +kernel
theorem dL_delete_23 : decode cL_delete 23 = .ok (.iconst 3, 1) := by decide +kernel
theorem dL_delete_24 : decode cL_delete 24 = .ok (.ireturn, 1) := by decide +kernel
theorem dL_delete_25 : decode cL_delete 25 = .ok (.iconst 0, 1) := by decide +kernel
theorem dL_delete_26 : decode cL_delete 26 = .ok (.ireturn, 1) := by decide +kernel
theorem dL_bar_0 : decode cL_bar 0 = .ok (.aload 4, 2) := by decide +kernel
theorem dL_bar_2 : decode cL_bar 2 = .ok (.iconst 0, 1) := by decide +kernel
theorem dL_bar_3 : decode cL_bar 3 = .ok (.aload_n 0, 1) := by decide +kernel
theorem dL_bar_4 : decode cL_bar 4 = .ok (.iload_n 1, 1) := by decide +kernel
theorem dL_bar_5 : decode cL_bar 5 = .ok (.iload_n 2, 1) := by decide +kernel
theorem dL_bar_6 : decode cL_bar 6 = .ok (.iload_n 3, 1) := by decide +kernel
theorem dL_bar_7 : decode cL_bar 7 = .ok (.invokevirtual 31, 3) := by decide +kernel
theorem dL_bar_10 : decode cL_bar 10 = .ok (.i2l, 1) := by decide +kernel
theorem dL_bar_11 : decode cL_bar 11 = .ok (.lastore, 1) := by decide +kernel
theorem dL_bar_12 : decode cL_bar 12 = .ok (.goto 11, 3) := by decide +kernel
theorem dL_bar_15 : decode cL_bar 15 = .ok (.astore 5, 2) := by decide +kernel
theorem dL_bar_17 : decode cL_bar 17 = .ok (.iconst 1, 1) := by decide +kernel
theorem dL_bar_18 : decode cL_bar 18 = .ok (.ireturn, 1) := by decide +kernel
theorem dL_bar_19 : decode cL_bar 19 = .ok (.astore 5, 2) := by decide +kernel
theorem dL_bar_21 : decode cL_bar 21 = .ok (.iconst 2, 1) := by decide +kernel
theorem dL_bar_22 : decode cL_bar 22 = .ok (.ireturn, 1) := by decide +kernel
theorem dL_bar_23 : decode cL_bar 23 = .ok (.iconst 0, 1) := by decide +kernel
theorem dL_bar_24 : decode cL_bar 24 = .ok (.ireturn, 1) := by decide +kernel
theorem dL_close_0 : decode cL_close 0 = .ok (.aload_n 3, 1) := by decide +kernel
theorem dL_close_1 : decode cL_close 1 = .ok (.iconst 0, 1) := by decide +kernel
theorem dL_close_2 : decode cL_close 2 = .ok (.aload_n 0, 1) := by decide +kernel
theorem dL_close_3 : decode cL_close 3 = .ok (.iload_n 1, 1) := by decide +kernel
theorem dL_close_4 : decode cL_close 4 = .ok (.iload_n 2, 1) := by decide +kernel
theorem dL_close_5 : decode cL_close 5 = .ok (.invokevirtual 35, 3) := by decide +kernel
theorem dL_close_8 : decode cL_close 8 = .ok (.i2l, 1) := by decide +kernel
theorem dL_close_9 : decode cL_close 9 = .ok (.lastore, 1) := by decide +kernel
theorem dL_close_10 : decode cL_close 10 = .ok (.goto 11, 3) := by decide +kernel
theorem dL_close_13 : decode cL_close 13 = .ok (.astore 4, 2) := by decide +kernel
theorem dL_close_15 : decode cL_close 15 = .ok (.iconst 1, 1) := by decide +kernel
theorem dL_close_16 : decode cL_close 16 = .ok (.ireturn, 1) := by decide +kernel
theorem dL_close_17 : decode cL_close 17 = .ok (.astore 4, 2) := by decide +kernel
theorem dL_close_19 : decode cL_close 19 = .ok (.iconst 2, 1) := by decide +kernel
theorem dL_close_20 : decode cL_close 20 = .ok (.ireturn, 1) := by decide +kernel
theorem dL_close_21 : decode cL_close 21 = .ok (.iconst 0, 1) := by decide +kernel
theorem dL_close_22 : decode cL_close 22 = .ok (.ireturn, 1) := by decide +kernel
theorem dL_length_0 : decode cL_length 0 = .ok (.aload_n 2, 1) := by decide +kernel
theorem dL_length_1 : decode cL_length 1 = .ok (.iconst 0, 1) := by decide +kernel
theorem dL_length_2 : decode cL_length 2 = .ok (.aload_n 0, 1) := by decide +kernel
theorem dL_length_3 : decode cL_length 3 = .ok (.iload_n 1, 1) := by decide +kernel
theorem dL_length_4 : decode cL_length 4 = .ok (.invokevirtual 38, 3) := by decide +kernel
theorem dL_length_7 : decode cL_length 7 = .ok (.i2l, 1) := by decide +kernel
theorem dL_length_8 : decode cL_length 8 = .ok (.lastore, 1) := by decide +kernel
theorem dL_length_9 : decode cL_length 9 = .ok (.goto 6, 3) := by decide +kernel
theorem dL_length_12 : decode cL_length 12 = .ok (.astore_n 3, 1) := by decide +kernel
theorem dL_length_13 : decode cL_length 13 = .ok (.iconst 1, 1) := by decide +kernel
theorem dL_length_14 : decode cL_length 14 = .ok (.ireturn, 1) := by decide +kernel
theorem dL_length_15 : decode cL_length 15 = .ok (.iconst 0, 1) := by decide +kernel
theorem dL_length_16 : decode cL_length 16 = .ok (.ireturn, 1) := by decide +kernel
theorem dL_codeAt_0 : decode cL_codeAt 0 = .ok (.aload_n 3, 1) := by decide +kernel
theorem dL_codeAt_1 : decode cL_codeAt 1 = .ok (.iconst 0, 1) := by decide +kernel
theorem dL_codeAt_2 : decode cL_codeAt 2 = .ok (.aload_n 0, 1) := by decide +kernel
theorem dL_codeAt_3 : decode cL_codeAt 3 = .ok (.iload_n 1, 1) := by decide +kernel
theorem dL_codeAt_4 : decode cL_codeAt 4 = .ok (.iload_n 2, 1) := by decide +kernel
theorem dL_codeAt_5 : decode cL_codeAt 5 = .ok (.invokevirtual 42, 3) := by decide +kernel
theorem dL_codeAt_8 : decode cL_codeAt 8 = .ok (.i2l, 1) := by decide +kernel
theorem dL_codeAt_9 : decode cL_codeAt 9 = .ok (.lastore, 1) := by decide +kernel
theorem dL_codeAt_10 : decode cL_codeAt 10 = .ok (.goto 11, 3) := by decide +kernel
theorem dL_codeAt_13 : decode cL_codeAt 13 = .ok (.astore 4, 2) := by decide +kernel
theorem dL_codeAt_15 : decode cL_codeAt 15 = .ok (.iconst 1, 1) := by decide +kernel
theorem dL_codeAt_16 : decode cL_codeAt 16 = .ok (.ireturn, 1) := by decide +kernel
theorem dL_codeAt_17 : decode cL_codeAt 17 = .ok (.astore 4, 2) := by decide +kernel
theorem dL_codeAt_19 : decode cL_codeAt 19 = .ok (.iconst 2, 1) := by decide +kernel
theorem dL_codeAt_20 : decode cL_codeAt 20 = .ok (.ireturn, 1) := by decide +kernel
theorem dL_codeAt_21 : decode cL_codeAt 21 = .ok (.iconst 0, 1) := by decide +kernel
theorem dL_codeAt_22 : decode cL_codeAt 22 = .ok (.ireturn, 1) := by decide +kernel
theorem dL_version_0 : decode cL_version 0 = .ok (.aload_n 2, 1) := by decide +kernel
theorem dL_version_1 : decode cL_version 1 = .ok (.iconst 0, 1) := by decide +kernel
theorem dL_version_2 : decode cL_version 2 = .ok (.aload_n 0, 1) := by decide +kernel
theorem dL_version_3 : decode cL_version 3 = .ok (.iload_n 1, 1) := by decide +kernel
theorem dL_version_4 : decode cL_version 4 = .ok (.invokevirtual 45, 3) := by decide +kernel
theorem dL_version_7 : decode cL_version 7 = .ok (.i2l, 1) := by decide +kernel
theorem dL_version_8 : decode cL_version 8 = .ok (.lastore, 1) := by decide +kernel
theorem dL_version_9 : decode cL_version 9 = .ok (.goto 6, 3) := by decide +kernel
theorem dL_version_12 : decode cL_version 12 = .ok (.astore_n 3, 1) := by decide +kernel
theorem dL_version_13 : decode cL_version 13 = .ok (.iconst 1, 1) := by decide +kernel
theorem dL_version_14 : decode cL_version 14 = .ok (.ireturn, 1) := by decide +kernel
theorem dL_version_15 : decode cL_version 15 = .ok (.iconst 0, 1) := by decide +kernel
theorem dL_version_16 : decode cL_version 16 = .ok (.ireturn, 1) := by decide +kernel
theorem dL_comment_0 : decode cL_comment 0 = .ok (.aload 4, 2) := by decide +kernel
theorem dL_comment_2 : decode cL_comment 2 = .ok (.iconst 0, 1) := by decide +kernel
theorem dL_comment_3 : decode cL_comment 3 = .ok (.aload_n 0, 1) := by decide +kernel
theorem dL_comment_4 : decode cL_comment 4 = .ok (.iload_n 1, 1) := by decide +kernel
theorem dL_comment_5 : decode cL_comment 5 = .ok (.iload_n 2, 1) := by decide +kernel
theorem dL_comment_6 : decode cL_comment 6 = .ok (.iload_n 3, 1) := by decide +kernel
theorem dL_comment_7 : decode cL_comment 7 = .ok (.invokevirtual 48, 3) := by decide +kernel
theorem dL_comment_10 : decode cL_comment 10 = .ok (.i2l, 1) := by decide +kernel
theorem dL_comment_11 : decode cL_comment 11 = .ok (.lastore, 1) := by decide +kernel
theorem dL_comment_12 : decode cL_comment 12 = .ok (.goto 15, 3) := by decide +kernel
theorem dL_comment_15 : decode cL_comment 15 = .ok (.astore 5, 2) := by decide +kernel
theorem dL_comment_17 : decode cL_comment 17 = .ok (.iconst 1, 1) := by decide +kernel
theorem dL_comment_18 : decode cL_comment 18 = .ok (.ireturn, 1) := by decide +kernel
theorem dL_comment_19 : decode cL_comment 19 = .ok (.astore 5, 2) := by decide +kernel
theorem dL_comment_21 : decode cL_comment 21 = .ok (.iconst 2, 1) := by decide +kernel
theorem dL_comment_22 : decode cL_comment 22 = .ok (.ireturn, 1) := by decide +kernel
theorem dL_comment_23 : decode cL_comment 23 = .ok (.astore 5, 2) := by decide +kernel
theorem dL_comment_25 : decode cL_comment 25 = .ok (.iconst 3, 1) := by decide +kernel
theorem dL_comment_26 : decode cL_comment 26 = .ok (.ireturn, 1) := by decide +kernel
theorem dL_comment_27 : decode cL_comment 27 = .ok (.iconst 0, 1) := by decide +kernel
theorem dL_comment_28 : decode cL_comment 28 = .ok (.ireturn, 1) := by decide +kernel
theorem dL_answer_0 : decode cL_answer 0 = .ok (.aload_n 2, 1) := by decide +kernel
theorem dL_answer_1 : decode cL_answer 1 = .ok (.iconst 0, 1) := by decide +kernel
theorem dL_answer_2 : decode cL_answer 2 = .ok (.aload_n 0, 1) := by decide +kernel
theorem dL_answer_3 : decode cL_answer 3 = .ok (.iload_n 1, 1) := by decide +kernel
theorem dL_answer_4 : decode cL_answer 4 = .ok (.invokevirtual 51, 3) := by decide +kernel
theorem dL_answer_7 : decode cL_answer 7 = .ok (.i2l, 1) := by decide +kernel
theorem dL_answer_8 : decode cL_answer 8 = .ok (.lastore, 1) := by decide +kernel
theorem dL_answer_9 : decode cL_answer 9 = .ok (.goto 9, 3) := by decide +kernel
theorem dL_answer_12 : decode cL_answer 12 = .ok (.astore_n 3, 1) := by decide +kernel
theorem dL_answer_13 : decode cL_answer 13 = .ok (.iconst 1, 1) := by decide +kernel
theorem dL_answer_14 : decode cL_answer 14 = .ok (.ireturn, 1) := by decide +kernel
theorem dL_answer_15 : decode cL_answer 15 = .ok (.astore_n 3, 1) := by decide +kernel
theorem dL_answer_16 : decode cL_answer 16 = .ok (.iconst 2, 1) := by decide +kernel
theorem dL_answer_17 : decode cL_answer 17 = .ok (.ireturn, 1) := by decide +kernel
theorem dL_answer_18 : decode cL_answer 18 = .ok (.iconst 0, 1) := by decide +kernel
theorem dL_answer_19 : decode cL_answer 19 = .ok (.ireturn, 1) := by decide +kernel
theorem dL_isOpen_0 : decode cL_isOpen 0 = .ok (.aload_n 2, 1) := by decide +kernel
theorem dL_isOpen_1 : decode cL_isOpen 1 = .ok (.iconst 0, 1) := by decide +kernel
theorem dL_isOpen_2 : decode cL_isOpen 2 = .ok (.aload_n 0, 1) := by decide +kernel
theorem dL_isOpen_3 : decode cL_isOpen 3 = .ok (.iload_n 1, 1) := by decide +kernel
theorem dL_isOpen_4 : decode cL_isOpen 4 = .ok (.invokevirtual 54, 3) := by decide +kernel
theorem dL_isOpen_7 : decode cL_isOpen 7 = .ok (.ifCond .eq 7, 3) := by decide +kernel
theorem dL_isOpen_10 : decode cL_isOpen 10 = .ok (.lconst 1, 1) := by decide +kernel
theorem dL_isOpen_11 : decode cL_isOpen 11 = .ok (.goto 4, 3) := by decide +kernel
theorem dL_isOpen_14 : decode cL_isOpen 14 = .ok (.lconst 0, 1) := by decide +kernel
theorem dL_isOpen_15 : decode cL_isOpen 15 = .ok (.lastore, 1) := by decide +kernel
theorem dL_isOpen_16 : decode cL_isOpen 16 = .ok (.goto 6, 3) := by decide +kernel
theorem dL_isOpen_19 : decode cL_isOpen 19 = .ok (.astore_n 3, 1) := by decide +kernel
theorem dL_isOpen_20 : decode cL_isOpen 20 = .ok (.iconst 1, 1) := by decide +kernel
theorem dL_isOpen_21 : decode cL_isOpen 21 = .ok (.ireturn, 1) := by decide +kernel
theorem dL_isOpen_22 : decode cL_isOpen 22 = .ok (.iconst 0, 1) := by decide +kernel
theorem dL_isOpen_23 : decode cL_isOpen 23 = .ok (.ireturn, 1) := by decide +kernel
theorem dL_spanFrom_0 : decode cL_spanFrom 0 = .ok (.aload_n 2, 1) := by decide +kernel
theorem dL_spanFrom_1 : decode cL_spanFrom 1 = .ok (.iconst 0, 1) := by decide +kernel
theorem dL_spanFrom_2 : decode cL_spanFrom 2 = .ok (.aload_n 0, 1) := by decide +kernel
theorem dL_spanFrom_3 : decode cL_spanFrom 3 = .ok (.iload_n 1, 1) := by decide +kernel
theorem dL_spanFrom_4 : decode cL_spanFrom 4 = .ok (.invokevirtual 58, 3) := by decide +kernel
theorem dL_spanFrom_7 : decode cL_spanFrom 7 = .ok (.i2l, 1) := by decide +kernel
theorem dL_spanFrom_8 : decode cL_spanFrom 8 = .ok (.lastore, 1) := by decide +kernel
theorem dL_spanFrom_9 : decode cL_spanFrom 9 = .ok (.goto 9, 3) := by decide +kernel
theorem dL_spanFrom_12 : decode cL_spanFrom 12 = .ok (.astore_n 3, 1) := by decide +kernel
theorem dL_spanFrom_13 : decode cL_spanFrom 13 = .ok (.iconst 1, 1) := by decide +kernel
theorem dL_spanFrom_14 : decode cL_spanFrom 14 = .ok (.ireturn, 1) := by decide +kernel
theorem dL_spanFrom_15 : decode cL_spanFrom 15 = .ok (.astore_n 3, 1) := by decide +kernel
theorem dL_spanFrom_16 : decode cL_spanFrom 16 = .ok (.iconst 2, 1) := by decide +kernel
theorem dL_spanFrom_17 : decode cL_spanFrom 17 = .ok (.ireturn, 1) := by decide +kernel
theorem dL_spanFrom_18 : decode cL_spanFrom 18 = .ok (.iconst 0, 1) := by decide +kernel
theorem dL_spanFrom_19 : decode cL_spanFrom 19 = .ok (.ireturn, 1) := by decide +kernel
theorem dL_spanTo_0 : decode cL_spanTo 0 = .ok (.aload_n 2, 1) := by decide +kernel
theorem dL_spanTo_1 : decode cL_spanTo 1 = .ok (.iconst 0, 1) := by decide +kernel
theorem dL_spanTo_2 : decode cL_spanTo 2 = .ok (.aload_n 0, 1) := by decide +kernel
theorem dL_spanTo_3 : decode cL_spanTo 3 = .ok (.iload_n 1, 1) := by decide +kernel
theorem dL_spanTo_4 : decode cL_spanTo 4 = .ok (.invokevirtual 61, 3) := by decide +kernel
theorem dL_spanTo_7 : decode cL_spanTo 7 = .ok (.i2l, 1) := by decide +kernel
theorem dL_spanTo_8 : decode cL_spanTo 8 = .ok (.lastore, 1) := by decide +kernel
theorem dL_spanTo_9 : decode cL_spanTo 9 = .ok (.goto 9, 3) := by decide +kernel
theorem dL_spanTo_12 : decode cL_spanTo 12 = .ok (.astore_n 3, 1) := by decide +kernel
theorem dL_spanTo_13 : decode cL_spanTo 13 = .ok (.iconst 1, 1) := by decide +kernel
theorem dL_spanTo_14 : decode cL_spanTo 14 = .ok (.ireturn, 1) := by decide +kernel
theorem dL_spanTo_15 : decode cL_spanTo 15 = .ok (.astore_n 3, 1) := by decide +kernel
theorem dL_spanTo_16 : decode cL_spanTo 16 = .ok (.iconst 2, 1) := by decide +kernel
theorem dL_spanTo_17 : decode cL_spanTo 17 = .ok (.ireturn, 1) := by decide +kernel
theorem dL_spanTo_18 : decode cL_spanTo 18 = .ok (.iconst 0, 1) := by decide +kernel
theorem dL_spanTo_19 : decode cL_spanTo 19 = .ok (.ireturn, 1) := by decide +kernel
theorem dL_sign_0 : decode cL_sign 0 = .ok (.aload_n 2, 1) := by decide +kernel
theorem dL_sign_1 : decode cL_sign 1 = .ok (.iconst 0, 1) := by decide +kernel
theorem dL_sign_2 : decode cL_sign 2 = .ok (.aload_n 0, 1) := by decide +kernel
theorem dL_sign_3 : decode cL_sign 3 = .ok (.iload_n 1, 1) := by decide +kernel
theorem dL_sign_4 : decode cL_sign 4 = .ok (.invokevirtual 64, 3) := by decide +kernel
theorem dL_sign_7 : decode cL_sign 7 = .ok (.i2l, 1) := by decide +kernel
theorem dL_sign_8 : decode cL_sign 8 = .ok (.lastore, 1) := by decide +kernel
theorem dL_sign_9 : decode cL_sign 9 = .ok (.goto 9, 3) := by decide +kernel
theorem dL_sign_12 : decode cL_sign 12 = .ok (.astore_n 3, 1) := by decide +kernel
theorem dL_sign_13 : decode cL_sign 13 = .ok (.iconst 1, 1) := by decide +kernel
theorem dL_sign_14 : decode cL_sign 14 = .ok (.ireturn, 1) := by decide +kernel
theorem dL_sign_15 : decode cL_sign 15 = .ok (.astore_n 3, 1) := by decide +kernel
theorem dL_sign_16 : decode cL_sign 16 = .ok (.iconst 2, 1) := by decide +kernel
theorem dL_sign_17 : decode cL_sign 17 = .ok (.ireturn, 1) := by decide +kernel
theorem dL_sign_18 : decode cL_sign 18 = .ok (.iconst 0, 1) := by decide +kernel
theorem dL_sign_19 : decode cL_sign 19 = .ok (.ireturn, 1) := by decide +kernel
theorem dL_signed_0 : decode cL_signed 0 = .ok (.aload_n 2, 1) := by decide +kernel
theorem dL_signed_1 : decode cL_signed 1 = .ok (.iconst 0, 1) := by decide +kernel
theorem dL_signed_2 : decode cL_signed 2 = .ok (.aload_n 0, 1) := by decide +kernel
theorem dL_signed_3 : decode cL_signed 3 = .ok (.iload_n 1, 1) := by decide +kernel
theorem dL_signed_4 : decode cL_signed 4 = .ok (.invokevirtual 67, 3) := by decide +kernel
theorem dL_signed_7 : decode cL_signed 7 = .ok (.i2l, 1) := by decide +kernel
theorem dL_signed_8 : decode cL_signed 8 = .ok (.lastore, 1) := by decide +kernel
theorem dL_signed_9 : decode cL_signed 9 = .ok (.goto 9, 3) := by decide +kernel
theorem dL_signed_12 : decode cL_signed 12 = .ok (.astore_n 3, 1) := by decide +kernel
theorem dL_signed_13 : decode cL_signed 13 = .ok (.iconst 1, 1) := by decide +kernel
theorem dL_signed_14 : decode cL_signed 14 = .ok (.ireturn, 1) := by decide +kernel
theorem dL_signed_15 : decode cL_signed 15 = .ok (.astore_n 3, 1) := by decide +kernel
theorem dL_signed_16 : decode cL_signed 16 = .ok (.iconst 2, 1) := by decide +kernel
theorem dL_signed_17 : decode cL_signed 17 = .ok (.ireturn, 1) := by decide +kernel
theorem dL_signed_18 : decode cL_signed 18 = .ok (.iconst 0, 1) := by decide +kernel
theorem dL_signed_19 : decode cL_signed 19 = .ok (.ireturn, 1) := by decide +kernel
theorem dL_sheets_0 : decode cL_sheets 0 = .ok (.aload_n 2, 1) := by decide +kernel
theorem dL_sheets_1 : decode cL_sheets 1 = .ok (.iconst 0, 1) := by decide +kernel
theorem dL_sheets_2 : decode cL_sheets 2 = .ok (.aload_n 0, 1) := by decide +kernel
theorem dL_sheets_3 : decode cL_sheets 3 = .ok (.iload_n 1, 1) := by decide +kernel
theorem dL_sheets_4 : decode cL_sheets 4 = .ok (.invokevirtual 70, 3) := by decide +kernel
theorem dL_sheets_7 : decode cL_sheets 7 = .ok (.i2l, 1) := by decide +kernel
theorem dL_sheets_8 : decode cL_sheets 8 = .ok (.lastore, 1) := by decide +kernel
theorem dL_sheets_9 : decode cL_sheets 9 = .ok (.goto 9, 3) := by decide +kernel
theorem dL_sheets_12 : decode cL_sheets 12 = .ok (.astore_n 3, 1) := by decide +kernel
theorem dL_sheets_13 : decode cL_sheets 13 = .ok (.iconst 1, 1) := by decide +kernel
theorem dL_sheets_14 : decode cL_sheets 14 = .ok (.ireturn, 1) := by decide +kernel
theorem dL_sheets_15 : decode cL_sheets 15 = .ok (.astore_n 3, 1) := by decide +kernel
theorem dL_sheets_16 : decode cL_sheets 16 = .ok (.iconst 2, 1) := by decide +kernel
theorem dL_sheets_17 : decode cL_sheets 17 = .ok (.ireturn, 1) := by decide +kernel
theorem dL_sheets_18 : decode cL_sheets 18 = .ok (.iconst 0, 1) := by decide +kernel
theorem dL_sheets_19 : decode cL_sheets 19 = .ok (.ireturn, 1) := by decide +kernel
theorem dL_pageOn_0 : decode cL_pageOn 0 = .ok (.aload 4, 2) := by decide +kernel
theorem dL_pageOn_2 : decode cL_pageOn 2 = .ok (.iconst 0, 1) := by decide +kernel
theorem dL_pageOn_3 : decode cL_pageOn 3 = .ok (.aload_n 0, 1) := by decide +kernel
theorem dL_pageOn_4 : decode cL_pageOn 4 = .ok (.iload_n 1, 1) := by decide +kernel
theorem dL_pageOn_5 : decode cL_pageOn 5 = .ok (.iload_n 2, 1) := by decide +kernel
theorem dL_pageOn_6 : decode cL_pageOn 6 = .ok (.iload_n 3, 1) := by decide +kernel
theorem dL_pageOn_7 : decode cL_pageOn 7 = .ok (.invokevirtual 73, 3) := by decide +kernel
theorem dL_pageOn_10 : decode cL_pageOn 10 = .ok (.i2l, 1) := by decide +kernel
theorem dL_pageOn_11 : decode cL_pageOn 11 = .ok (.lastore, 1) := by decide +kernel
theorem dL_pageOn_12 : decode cL_pageOn 12 = .ok (.goto 15, 3) := by decide +kernel
theorem dL_pageOn_15 : decode cL_pageOn 15 = .ok (.astore 5, 2) := by decide +kernel
theorem dL_pageOn_17 : decode cL_pageOn 17 = .ok (.iconst 1, 1) := by decide +kernel
theorem dL_pageOn_18 : decode cL_pageOn 18 = .ok (.ireturn, 1) := by decide +kernel
theorem dL_pageOn_19 : decode cL_pageOn 19 = .ok (.astore 5, 2) := by decide +kernel
theorem dL_pageOn_21 : decode cL_pageOn 21 = .ok (.iconst 2, 1) := by decide +kernel
theorem dL_pageOn_22 : decode cL_pageOn 22 = .ok (.ireturn, 1) := by decide +kernel
theorem dL_pageOn_23 : decode cL_pageOn 23 = .ok (.astore 5, 2) := by decide +kernel
theorem dL_pageOn_25 : decode cL_pageOn 25 = .ok (.iconst 3, 1) := by decide +kernel
theorem dL_pageOn_26 : decode cL_pageOn 26 = .ok (.ireturn, 1) := by decide +kernel
theorem dL_pageOn_27 : decode cL_pageOn 27 = .ok (.iconst 0, 1) := by decide +kernel
theorem dL_pageOn_28 : decode cL_pageOn 28 = .ok (.ireturn, 1) := by decide +kernel
theorem dL_shown_0 : decode cL_shown 0 = .ok (.aload 4, 2) := by decide +kernel
theorem dL_shown_2 : decode cL_shown 2 = .ok (.iconst 0, 1) := by decide +kernel
theorem dL_shown_3 : decode cL_shown 3 = .ok (.aload_n 0, 1) := by decide +kernel
theorem dL_shown_4 : decode cL_shown 4 = .ok (.iload_n 1, 1) := by decide +kernel
theorem dL_shown_5 : decode cL_shown 5 = .ok (.iload_n 2, 1) := by decide +kernel
theorem dL_shown_6 : decode cL_shown 6 = .ok (.iload_n 3, 1) := by decide +kernel
theorem dL_shown_7 : decode cL_shown 7 = .ok (.invokevirtual 76, 3) := by decide +kernel
theorem dL_shown_10 : decode cL_shown 10 = .ok (.i2l, 1) := by decide +kernel
theorem dL_shown_11 : decode cL_shown 11 = .ok (.lastore, 1) := by decide +kernel
theorem dL_shown_12 : decode cL_shown 12 = .ok (.goto 15, 3) := by decide +kernel
theorem dL_shown_15 : decode cL_shown 15 = .ok (.astore 5, 2) := by decide +kernel
theorem dL_shown_17 : decode cL_shown 17 = .ok (.iconst 1, 1) := by decide +kernel
theorem dL_shown_18 : decode cL_shown 18 = .ok (.ireturn, 1) := by decide +kernel
theorem dL_shown_19 : decode cL_shown 19 = .ok (.astore 5, 2) := by decide +kernel
theorem dL_shown_21 : decode cL_shown 21 = .ok (.iconst 2, 1) := by decide +kernel
theorem dL_shown_22 : decode cL_shown 22 = .ok (.ireturn, 1) := by decide +kernel
theorem dL_shown_23 : decode cL_shown 23 = .ok (.astore 5, 2) := by decide +kernel
theorem dL_shown_25 : decode cL_shown 25 = .ok (.iconst 3, 1) := by decide +kernel
theorem dL_shown_26 : decode cL_shown 26 = .ok (.ireturn, 1) := by decide +kernel
theorem dL_shown_27 : decode cL_shown 27 = .ok (.iconst 0, 1) := by decide +kernel
theorem dL_shown_28 : decode cL_shown 28 = .ok (.ireturn, 1) := by decide +kernel
theorem dL_shownByLog_0 : decode cL_shownByLog 0 = .ok (.aload 4, 2) := by decide +kernel
theorem dL_shownByLog_2 : decode cL_shownByLog 2 = .ok (.iconst 0, 1) := by decide +kernel
theorem dL_shownByLog_3 : decode cL_shownByLog 3 = .ok (.aload_n 0, 1) := by decide +kernel
theorem dL_shownByLog_4 : decode cL_shownByLog 4 = .ok (.iload_n 1, 1) := by decide +kernel
theorem dL_shownByLog_5 : decode cL_shownByLog 5 = .ok (.iload_n 2, 1) := by decide +kernel
theorem dL_shownByLog_6 : decode cL_shownByLog 6 = .ok (.iload_n 3, 1) := by decide +kernel
theorem dL_shownByLog_7 : decode cL_shownByLog 7 = .ok (.invokevirtual 79, 3) := by decide +kernel
theorem dL_shownByLog_10 : decode cL_shownByLog 10 = .ok (.i2l, 1) := by decide +kernel
theorem dL_shownByLog_11 : decode cL_shownByLog 11 = .ok (.lastore, 1) := by decide +kernel
theorem dL_shownByLog_12 : decode cL_shownByLog 12 = .ok (.goto 15, 3) := by decide +kernel
theorem dL_shownByLog_15 : decode cL_shownByLog 15 = .ok (.astore 5, 2) := by decide +kernel
theorem dL_shownByLog_17 : decode cL_shownByLog 17 = .ok (.iconst 1, 1) := by decide +kernel
theorem dL_shownByLog_18 : decode cL_shownByLog 18 = .ok (.ireturn, 1) := by decide +kernel
theorem dL_shownByLog_19 : decode cL_shownByLog 19 = .ok (.astore 5, 2) := by decide +kernel
theorem dL_shownByLog_21 : decode cL_shownByLog 21 = .ok (.iconst 2, 1) := by decide +kernel
theorem dL_shownByLog_22 : decode cL_shownByLog 22 = .ok (.ireturn, 1) := by decide +kernel
theorem dL_shownByLog_23 : decode cL_shownByLog 23 = .ok (.astore 5, 2) := by decide +kernel
theorem dL_shownByLog_25 : decode cL_shownByLog 25 = .ok (.iconst 3, 1) := by decide +kernel
theorem dL_shownByLog_26 : decode cL_shownByLog 26 = .ok (.ireturn, 1) := by decide +kernel
theorem dL_shownByLog_27 : decode cL_shownByLog 27 = .ok (.iconst 0, 1) := by decide +kernel
theorem dL_shownByLog_28 : decode cL_shownByLog 28 = .ok (.ireturn, 1) := by decide +kernel
theorem dL_supply_0 : decode cL_supply 0 = .ok (.aload_n 3, 1) := by decide +kernel
theorem dL_supply_1 : decode cL_supply 1 = .ok (.iconst 0, 1) := by decide +kernel
theorem dL_supply_2 : decode cL_supply 2 = .ok (.aload_n 0, 1) := by decide +kernel
theorem dL_supply_3 : decode cL_supply 3 = .ok (.iload_n 1, 1) := by decide +kernel
theorem dL_supply_4 : decode cL_supply 4 = .ok (.iload_n 2, 1) := by decide +kernel
theorem dL_supply_5 : decode cL_supply 5 = .ok (.invokevirtual 82, 3) := by decide +kernel
theorem dL_supply_8 : decode cL_supply 8 = .ok (.i2l, 1) := by decide +kernel
theorem dL_supply_9 : decode cL_supply 9 = .ok (.lastore, 1) := by decide +kernel
theorem dL_supply_10 : decode cL_supply 10 = .ok (.goto 11, 3) := by decide +kernel
theorem dL_supply_13 : decode cL_supply 13 = .ok (.astore 4, 2) := by decide +kernel
theorem dL_supply_15 : decode cL_supply 15 = .ok (.iconst 1, 1) := by decide +kernel
theorem dL_supply_16 : decode cL_supply 16 = .ok (.ireturn, 1) := by decide +kernel
theorem dL_supply_17 : decode cL_supply 17 = .ok (.astore 4, 2) := by decide +kernel
theorem dL_supply_19 : decode cL_supply 19 = .ok (.iconst 2, 1) := by decide +kernel
theorem dL_supply_20 : decode cL_supply 20 = .ok (.ireturn, 1) := by decide +kernel
theorem dL_supply_21 : decode cL_supply 21 = .ok (.iconst 0, 1) := by decide +kernel
theorem dL_supply_22 : decode cL_supply 22 = .ok (.ireturn, 1) := by decide +kernel
theorem dL_order_0 : decode cL_order 0 = .ok (.aload 4, 2) := by decide +kernel
theorem dL_order_2 : decode cL_order 2 = .ok (.iconst 0, 1) := by decide +kernel
theorem dL_order_3 : decode cL_order 3 = .ok (.aload_n 0, 1) := by decide +kernel
theorem dL_order_4 : decode cL_order 4 = .ok (.iload_n 1, 1) := by decide +kernel
theorem dL_order_5 : decode cL_order 5 = .ok (.iload_n 2, 1) := by decide +kernel
theorem dL_order_6 : decode cL_order 6 = .ok (.iload_n 3, 1) := by decide +kernel
theorem dL_order_7 : decode cL_order 7 = .ok (.invokevirtual 85, 3) := by decide +kernel
theorem dL_order_10 : decode cL_order 10 = .ok (.i2l, 1) := by decide +kernel
theorem dL_order_11 : decode cL_order 11 = .ok (.lastore, 1) := by decide +kernel
theorem dL_order_12 : decode cL_order 12 = .ok (.goto 19, 3) := by decide +kernel
theorem dL_order_15 : decode cL_order 15 = .ok (.astore 5, 2) := by decide +kernel
theorem dL_order_17 : decode cL_order 17 = .ok (.iconst 1, 1) := by decide +kernel
theorem dL_order_18 : decode cL_order 18 = .ok (.ireturn, 1) := by decide +kernel
theorem dL_order_19 : decode cL_order 19 = .ok (.astore 5, 2) := by decide +kernel
theorem dL_order_21 : decode cL_order 21 = .ok (.iconst 2, 1) := by decide +kernel
theorem dL_order_22 : decode cL_order 22 = .ok (.ireturn, 1) := by decide +kernel
theorem dL_order_23 : decode cL_order 23 = .ok (.astore 5, 2) := by decide +kernel
theorem dL_order_25 : decode cL_order 25 = .ok (.iconst 3, 1) := by decide +kernel
theorem dL_order_26 : decode cL_order 26 = .ok (.ireturn, 1) := by decide +kernel
theorem dL_order_27 : decode cL_order 27 = .ok (.astore 5, 2) := by decide +kernel
theorem dL_order_29 : decode cL_order 29 = .ok (.iconst 4, 1) := by decide +kernel
theorem dL_order_30 : decode cL_order 30 = .ok (.ireturn, 1) := by decide +kernel
theorem dL_order_31 : decode cL_order 31 = .ok (.iconst 0, 1) := by decide +kernel
theorem dL_order_32 : decode cL_order 32 = .ok (.ireturn, 1) := by decide +kernel
theorem dL_needs_0 : decode cL_needs 0 = .ok (.aload_n 2, 1) := by decide +kernel
theorem dL_needs_1 : decode cL_needs 1 = .ok (.iconst 0, 1) := by decide +kernel
theorem dL_needs_2 : decode cL_needs 2 = .ok (.aload_n 0, 1) := by decide +kernel
theorem dL_needs_3 : decode cL_needs 3 = .ok (.iload_n 1, 1) := by decide +kernel
theorem dL_needs_4 : decode cL_needs 4 = .ok (.invokevirtual 88, 3) := by decide +kernel
theorem dL_needs_7 : decode cL_needs 7 = .ok (.i2l, 1) := by decide +kernel
theorem dL_needs_8 : decode cL_needs 8 = .ok (.lastore, 1) := by decide +kernel
theorem dL_needs_9 : decode cL_needs 9 = .ok (.goto 6, 3) := by decide +kernel
theorem dL_needs_12 : decode cL_needs 12 = .ok (.astore_n 3, 1) := by decide +kernel
theorem dL_needs_13 : decode cL_needs 13 = .ok (.iconst 1, 1) := by decide +kernel
theorem dL_needs_14 : decode cL_needs 14 = .ok (.ireturn, 1) := by decide +kernel
theorem dL_needs_15 : decode cL_needs 15 = .ok (.iconst 0, 1) := by decide +kernel
theorem dL_needs_16 : decode cL_needs 16 = .ok (.ireturn, 1) := by decide +kernel
theorem dL_stateOf_0 : decode cL_stateOf 0 = .ok (.aload_n 3, 1) := by decide +kernel
theorem dL_stateOf_1 : decode cL_stateOf 1 = .ok (.iconst 0, 1) := by decide +kernel
theorem dL_stateOf_2 : decode cL_stateOf 2 = .ok (.aload_n 0, 1) := by decide +kernel
theorem dL_stateOf_3 : decode cL_stateOf 3 = .ok (.iload_n 1, 1) := by decide +kernel
theorem dL_stateOf_4 : decode cL_stateOf 4 = .ok (.iload_n 2, 1) := by decide +kernel
theorem dL_stateOf_5 : decode cL_stateOf 5 = .ok (.invokevirtual 91, 3) := by decide +kernel
theorem dL_stateOf_8 : decode cL_stateOf 8 = .ok (.i2l, 1) := by decide +kernel
theorem dL_stateOf_9 : decode cL_stateOf 9 = .ok (.lastore, 1) := by decide +kernel
theorem dL_stateOf_10 : decode cL_stateOf 10 = .ok (.goto 11, 3) := by decide +kernel
theorem dL_stateOf_13 : decode cL_stateOf 13 = .ok (.astore 4, 2) := by decide +kernel
theorem dL_stateOf_15 : decode cL_stateOf 15 = .ok (.iconst 1, 1) := by decide +kernel
theorem dL_stateOf_16 : decode cL_stateOf 16 = .ok (.ireturn, 1) := by decide +kernel
theorem dL_stateOf_17 : decode cL_stateOf 17 = .ok (.astore 4, 2) := by decide +kernel
theorem dL_stateOf_19 : decode cL_stateOf 19 = .ok (.iconst 2, 1) := by decide +kernel
theorem dL_stateOf_20 : decode cL_stateOf 20 = .ok (.ireturn, 1) := by decide +kernel
theorem dL_stateOf_21 : decode cL_stateOf 21 = .ok (.iconst 0, 1) := by decide +kernel
theorem dL_stateOf_22 : decode cL_stateOf 22 = .ok (.ireturn, 1) := by decide +kernel
theorem dL_isDone_0 : decode cL_isDone 0 = .ok (.aload_n 2, 1) := by decide +kernel
theorem dL_isDone_1 : decode cL_isDone 1 = .ok (.iconst 0, 1) := by decide +kernel
theorem dL_isDone_2 : decode cL_isDone 2 = .ok (.aload_n 0, 1) := by decide +kernel
theorem dL_isDone_3 : decode cL_isDone 3 = .ok (.iload_n 1, 1) := by decide +kernel
theorem dL_isDone_4 : decode cL_isDone 4 = .ok (.invokevirtual 95, 3) := by decide +kernel
theorem dL_isDone_7 : decode cL_isDone 7 = .ok (.ifCond .eq 7, 3) := by decide +kernel
theorem dL_isDone_10 : decode cL_isDone 10 = .ok (.lconst 1, 1) := by decide +kernel
theorem dL_isDone_11 : decode cL_isDone 11 = .ok (.goto 4, 3) := by decide +kernel
theorem dL_isDone_14 : decode cL_isDone 14 = .ok (.lconst 0, 1) := by decide +kernel
theorem dL_isDone_15 : decode cL_isDone 15 = .ok (.lastore, 1) := by decide +kernel
theorem dL_isDone_16 : decode cL_isDone 16 = .ok (.goto 6, 3) := by decide +kernel
theorem dL_isDone_19 : decode cL_isDone 19 = .ok (.astore_n 3, 1) := by decide +kernel
theorem dL_isDone_20 : decode cL_isDone 20 = .ok (.iconst 1, 1) := by decide +kernel
theorem dL_isDone_21 : decode cL_isDone 21 = .ok (.ireturn, 1) := by decide +kernel
theorem dL_isDone_22 : decode cL_isDone 22 = .ok (.iconst 0, 1) := by decide +kernel
theorem dL_isDone_23 : decode cL_isDone 23 = .ok (.ireturn, 1) := by decide +kernel
theorem dL_lateBy_0 : decode cL_lateBy 0 = .ok (.aload_n 2, 1) := by decide +kernel
theorem dL_lateBy_1 : decode cL_lateBy 1 = .ok (.iconst 0, 1) := by decide +kernel
theorem dL_lateBy_2 : decode cL_lateBy 2 = .ok (.aload_n 0, 1) := by decide +kernel
theorem dL_lateBy_3 : decode cL_lateBy 3 = .ok (.iload_n 1, 1) := by decide +kernel
theorem dL_lateBy_4 : decode cL_lateBy 4 = .ok (.invokevirtual 98, 3) := by decide +kernel
theorem dL_lateBy_7 : decode cL_lateBy 7 = .ok (.i2l, 1) := by decide +kernel
theorem dL_lateBy_8 : decode cL_lateBy 8 = .ok (.lastore, 1) := by decide +kernel
theorem dL_lateBy_9 : decode cL_lateBy 9 = .ok (.goto 6, 3) := by decide +kernel
theorem dL_lateBy_12 : decode cL_lateBy 12 = .ok (.astore_n 3, 1) := by decide +kernel
theorem dL_lateBy_13 : decode cL_lateBy 13 = .ok (.iconst 1, 1) := by decide +kernel
theorem dL_lateBy_14 : decode cL_lateBy 14 = .ok (.ireturn, 1) := by decide +kernel
theorem dL_lateBy_15 : decode cL_lateBy 15 = .ok (.iconst 0, 1) := by decide +kernel
theorem dL_lateBy_16 : decode cL_lateBy 16 = .ok (.ireturn, 1) := by decide +kernel
theorem dL_nextOrder_0 : decode cL_nextOrder 0 = .ok (.aload_n 1, 1) := by decide +kernel
theorem dL_nextOrder_1 : decode cL_nextOrder 1 = .ok (.iconst 0, 1) := by decide +kernel
theorem dL_nextOrder_2 : decode cL_nextOrder 2 = .ok (.aload_n 0, 1) := by decide +kernel
theorem dL_nextOrder_3 : decode cL_nextOrder 3 = .ok (.invokevirtual 101, 3) := by decide +kernel
theorem dL_nextOrder_6 : decode cL_nextOrder 6 = .ok (.i2l, 1) := by decide +kernel
theorem dL_nextOrder_7 : decode cL_nextOrder 7 = .ok (.lastore, 1) := by decide +kernel
theorem dL_nextOrder_8 : decode cL_nextOrder 8 = .ok (.goto 6, 3) := by decide +kernel
theorem dL_nextOrder_11 : decode cL_nextOrder 11 = .ok (.astore_n 2, 1) := by decide +kernel
theorem dL_nextOrder_12 : decode cL_nextOrder 12 = .ok (.iconst 1, 1) := by decide +kernel
theorem dL_nextOrder_13 : decode cL_nextOrder 13 = .ok (.ireturn, 1) := by decide +kernel
theorem dL_nextOrder_14 : decode cL_nextOrder 14 = .ok (.iconst 0, 1) := by decide +kernel
theorem dL_nextOrder_15 : decode cL_nextOrder 15 = .ok (.ireturn, 1) := by decide +kernel
theorem dL_nextSheet_0 : decode cL_nextSheet 0 = .ok (.aload_n 2, 1) := by decide +kernel
theorem dL_nextSheet_1 : decode cL_nextSheet 1 = .ok (.iconst 0, 1) := by decide +kernel
theorem dL_nextSheet_2 : decode cL_nextSheet 2 = .ok (.aload_n 0, 1) := by decide +kernel
theorem dL_nextSheet_3 : decode cL_nextSheet 3 = .ok (.iload_n 1, 1) := by decide +kernel
theorem dL_nextSheet_4 : decode cL_nextSheet 4 = .ok (.invokevirtual 104, 3) := by decide +kernel
theorem dL_nextSheet_7 : decode cL_nextSheet 7 = .ok (.i2l, 1) := by decide +kernel
theorem dL_nextSheet_8 : decode cL_nextSheet 8 = .ok (.lastore, 1) := by decide +kernel
theorem dL_nextSheet_9 : decode cL_nextSheet 9 = .ok (.goto 9, 3) := by decide +kernel
theorem dL_nextSheet_12 : decode cL_nextSheet 12 = .ok (.astore_n 3, 1) := by decide +kernel
theorem dL_nextSheet_13 : decode cL_nextSheet 13 = .ok (.iconst 1, 1) := by decide +kernel
theorem dL_nextSheet_14 : decode cL_nextSheet 14 = .ok (.ireturn, 1) := by decide +kernel
theorem dL_nextSheet_15 : decode cL_nextSheet 15 = .ok (.astore_n 3, 1) := by decide +kernel
theorem dL_nextSheet_16 : decode cL_nextSheet 16 = .ok (.iconst 2, 1) := by decide +kernel
theorem dL_nextSheet_17 : decode cL_nextSheet 17 = .ok (.ireturn, 1) := by decide +kernel
theorem dL_nextSheet_18 : decode cL_nextSheet 18 = .ok (.iconst 0, 1) := by decide +kernel
theorem dL_nextSheet_19 : decode cL_nextSheet 19 = .ok (.ireturn, 1) := by decide +kernel
theorem dL_print_0 : decode cL_print 0 = .ok (.aload_n 3, 1) := by decide +kernel
theorem dL_print_1 : decode cL_print 1 = .ok (.iconst 0, 1) := by decide +kernel
theorem dL_print_2 : decode cL_print 2 = .ok (.aload_n 0, 1) := by decide +kernel
theorem dL_print_3 : decode cL_print 3 = .ok (.iload_n 1, 1) := by decide +kernel
theorem dL_print_4 : decode cL_print 4 = .ok (.iload_n 2, 1) := by decide +kernel
theorem dL_print_5 : decode cL_print 5 = .ok (.invokevirtual 107, 3) := by decide +kernel
theorem dL_print_8 : decode cL_print 8 = .ok (.i2l, 1) := by decide +kernel
theorem dL_print_9 : decode cL_print 9 = .ok (.lastore, 1) := by decide +kernel
theorem dL_print_10 : decode cL_print 10 = .ok (.goto 19, 3) := by decide +kernel
theorem dL_print_13 : decode cL_print 13 = .ok (.astore 4, 2) := by decide +kernel
theorem dL_print_15 : decode cL_print 15 = .ok (.iconst 1, 1) := by decide +kernel
theorem dL_print_16 : decode cL_print 16 = .ok (.ireturn, 1) := by decide +kernel
theorem dL_print_17 : decode cL_print 17 = .ok (.astore 4, 2) := by decide +kernel
theorem dL_print_19 : decode cL_print 19 = .ok (.iconst 2, 1) := by decide +kernel
theorem dL_print_20 : decode cL_print 20 = .ok (.ireturn, 1) := by decide +kernel
theorem dL_print_21 : decode cL_print 21 = .ok (.astore 4, 2) := by decide +kernel
theorem dL_print_23 : decode cL_print 23 = .ok (.iconst 3, 1) := by decide +kernel
theorem dL_print_24 : decode cL_print 24 = .ok (.ireturn, 1) := by decide +kernel
theorem dL_print_25 : decode cL_print 25 = .ok (.astore 4, 2) := by decide +kernel
theorem dL_print_27 : decode cL_print 27 = .ok (.iconst 4, 1) := by decide +kernel
theorem dL_print_28 : decode cL_print 28 = .ok (.ireturn, 1) := by decide +kernel
theorem dL_print_29 : decode cL_print 29 = .ok (.iconst 0, 1) := by decide +kernel
theorem dL_print_30 : decode cL_print 30 = .ok (.ireturn, 1) := by decide +kernel
theorem dL_pass_0 : decode cL_pass 0 = .ok (.aload_n 2, 1) := by decide +kernel
theorem dL_pass_1 : decode cL_pass 1 = .ok (.iconst 0, 1) := by decide +kernel
theorem dL_pass_2 : decode cL_pass 2 = .ok (.aload_n 0, 1) := by decide +kernel
theorem dL_pass_3 : decode cL_pass 3 = .ok (.iload_n 1, 1) := by decide +kernel
theorem dL_pass_4 : decode cL_pass 4 = .ok (.invokevirtual 110, 3) := by decide +kernel
theorem dL_pass_7 : decode cL_pass 7 = .ok (.i2l, 1) := by decide +kernel
theorem dL_pass_8 : decode cL_pass 8 = .ok (.lastore, 1) := by decide +kernel
theorem dL_pass_9 : decode cL_pass 9 = .ok (.goto 9, 3) := by decide +kernel
theorem dL_pass_12 : decode cL_pass 12 = .ok (.astore_n 3, 1) := by decide +kernel
theorem dL_pass_13 : decode cL_pass 13 = .ok (.iconst 1, 1) := by decide +kernel
theorem dL_pass_14 : decode cL_pass 14 = .ok (.ireturn, 1) := by decide +kernel
theorem dL_pass_15 : decode cL_pass 15 = .ok (.astore_n 3, 1) := by decide +kernel
theorem dL_pass_16 : decode cL_pass 16 = .ok (.iconst 2, 1) := by decide +kernel
theorem dL_pass_17 : decode cL_pass 17 = .ok (.ireturn, 1) := by decide +kernel
theorem dL_pass_18 : decode cL_pass 18 = .ok (.iconst 0, 1) := by decide +kernel
theorem dL_pass_19 : decode cL_pass 19 = .ok (.ireturn, 1) := by decide +kernel
theorem dL_plateLength_0 : decode cL_plateLength 0 = .ok (.aload_n 3, 1) := by decide +kernel
theorem dL_plateLength_1 : decode cL_plateLength 1 = .ok (.iconst 0, 1) := by decide +kernel
theorem dL_plateLength_2 : decode cL_plateLength 2 = .ok (.aload_n 0, 1) := by decide +kernel
theorem dL_plateLength_3 : decode cL_plateLength 3 = .ok (.iload_n 1, 1) := by decide +kernel
theorem dL_plateLength_4 : decode cL_plateLength 4 = .ok (.iload_n 2, 1) := by decide +kernel
theorem dL_plateLength_5 : decode cL_plateLength 5 = .ok (.invokevirtual 113, 3) := by decide +kernel
theorem dL_plateLength_8 : decode cL_plateLength 8 = .ok (.i2l, 1) := by decide +kernel
theorem dL_plateLength_9 : decode cL_plateLength 9 = .ok (.lastore, 1) := by decide +kernel
theorem dL_plateLength_10 : decode cL_plateLength 10 = .ok (.goto 15, 3) := by decide +kernel
theorem dL_plateLength_13 : decode cL_plateLength 13 = .ok (.astore 4, 2) := by decide +kernel
theorem dL_plateLength_15 : decode cL_plateLength 15 = .ok (.iconst 1, 1) := by decide +kernel
theorem dL_plateLength_16 : decode cL_plateLength 16 = .ok (.ireturn, 1) := by decide +kernel
theorem dL_plateLength_17 : decode cL_plateLength 17 = .ok (.astore 4, 2) := by decide +kernel
theorem dL_plateLength_19 : decode cL_plateLength 19 = .ok (.iconst 2, 1) := by decide +kernel
theorem dL_plateLength_20 : decode cL_plateLength 20 = .ok (.ireturn, 1) := by decide +kernel
theorem dL_plateLength_21 : decode cL_plateLength 21 = .ok (.astore 4, 2) := by decide +kernel
theorem dL_plateLength_23 : decode cL_plateLength 23 = .ok (.iconst 3, 1) := by decide +kernel
theorem dL_plateLength_24 : decode cL_plateLength 24 = .ok (.ireturn, 1) := by decide +kernel
theorem dL_plateLength_25 : decode cL_plateLength 25 = .ok (.iconst 0, 1) := by decide +kernel
theorem dL_plateLength_26 : decode cL_plateLength 26 = .ok (.ireturn, 1) := by decide +kernel
theorem dL_plateAt_0 : decode cL_plateAt 0 = .ok (.aload 4, 2) := by decide +kernel
theorem dL_plateAt_2 : decode cL_plateAt 2 = .ok (.iconst 0, 1) := by decide +kernel
theorem dL_plateAt_3 : decode cL_plateAt 3 = .ok (.aload_n 0, 1) := by decide +kernel
theorem dL_plateAt_4 : decode cL_plateAt 4 = .ok (.iload_n 1, 1) := by decide +kernel
theorem dL_plateAt_5 : decode cL_plateAt 5 = .ok (.iload_n 2, 1) := by decide +kernel
theorem dL_plateAt_6 : decode cL_plateAt 6 = .ok (.iload_n 3, 1) := by decide +kernel
theorem dL_plateAt_7 : decode cL_plateAt 7 = .ok (.invokevirtual 116, 3) := by decide +kernel
theorem dL_plateAt_10 : decode cL_plateAt 10 = .ok (.i2l, 1) := by decide +kernel
theorem dL_plateAt_11 : decode cL_plateAt 11 = .ok (.lastore, 1) := by decide +kernel
theorem dL_plateAt_12 : decode cL_plateAt 12 = .ok (.goto 15, 3) := by decide +kernel
theorem dL_plateAt_15 : decode cL_plateAt 15 = .ok (.astore 5, 2) := by decide +kernel
theorem dL_plateAt_17 : decode cL_plateAt 17 = .ok (.iconst 1, 1) := by decide +kernel
theorem dL_plateAt_18 : decode cL_plateAt 18 = .ok (.ireturn, 1) := by decide +kernel
theorem dL_plateAt_19 : decode cL_plateAt 19 = .ok (.astore 5, 2) := by decide +kernel
theorem dL_plateAt_21 : decode cL_plateAt 21 = .ok (.iconst 2, 1) := by decide +kernel
theorem dL_plateAt_22 : decode cL_plateAt 22 = .ok (.ireturn, 1) := by decide +kernel
theorem dL_plateAt_23 : decode cL_plateAt 23 = .ok (.astore 5, 2) := by decide +kernel
theorem dL_plateAt_25 : decode cL_plateAt 25 = .ok (.iconst 3, 1) := by decide +kernel
theorem dL_plateAt_26 : decode cL_plateAt 26 = .ok (.ireturn, 1) := by decide +kernel
theorem dL_plateAt_27 : decode cL_plateAt 27 = .ok (.iconst 0, 1) := by decide +kernel
theorem dL_plateAt_28 : decode cL_plateAt 28 = .ok (.ireturn, 1) := by decide +kernel
theorem dL_platesFor_0 : decode cL_platesFor 0 = .ok (.aload_n 2, 1) := by decide +kernel
theorem dL_platesFor_1 : decode cL_platesFor 1 = .ok (.iconst 0, 1) := by decide +kernel
theorem dL_platesFor_2 : decode cL_platesFor 2 = .ok (.aload_n 0, 1) := by decide +kernel
theorem dL_platesFor_3 : decode cL_platesFor 3 = .ok (.iload_n 1, 1) := by decide +kernel
theorem dL_platesFor_4 : decode cL_platesFor 4 = .ok (.invokevirtual 119, 3) := by decide +kernel
theorem dL_platesFor_7 : decode cL_platesFor 7 = .ok (.i2l, 1) := by decide +kernel
theorem dL_platesFor_8 : decode cL_platesFor 8 = .ok (.lastore, 1) := by decide +kernel
theorem dL_platesFor_9 : decode cL_platesFor 9 = .ok (.goto 6, 3) := by decide +kernel
theorem dL_platesFor_12 : decode cL_platesFor 12 = .ok (.astore_n 3, 1) := by decide +kernel
theorem dL_platesFor_13 : decode cL_platesFor 13 = .ok (.iconst 1, 1) := by decide +kernel
theorem dL_platesFor_14 : decode cL_platesFor 14 = .ok (.ireturn, 1) := by decide +kernel
theorem dL_platesFor_15 : decode cL_platesFor 15 = .ok (.iconst 0, 1) := by decide +kernel
theorem dL_platesFor_16 : decode cL_platesFor 16 = .ok (.ireturn, 1) := by decide +kernel
theorem dL_wasted_0 : decode cL_wasted 0 = .ok (.aload_n 2, 1) := by decide +kernel
theorem dL_wasted_1 : decode cL_wasted 1 = .ok (.iconst 0, 1) := by decide +kernel
theorem dL_wasted_2 : decode cL_wasted 2 = .ok (.aload_n 0, 1) := by decide +kernel
theorem dL_wasted_3 : decode cL_wasted 3 = .ok (.iload_n 1, 1) := by decide +kernel
theorem dL_wasted_4 : decode cL_wasted 4 = .ok (.invokevirtual 122, 3) := by decide +kernel
theorem dL_wasted_7 : decode cL_wasted 7 = .ok (.i2l, 1) := by decide +kernel
theorem dL_wasted_8 : decode cL_wasted 8 = .ok (.lastore, 1) := by decide +kernel
theorem dL_wasted_9 : decode cL_wasted 9 = .ok (.goto 6, 3) := by decide +kernel
theorem dL_wasted_12 : decode cL_wasted 12 = .ok (.astore_n 3, 1) := by decide +kernel
theorem dL_wasted_13 : decode cL_wasted 13 = .ok (.iconst 1, 1) := by decide +kernel
theorem dL_wasted_14 : decode cL_wasted 14 = .ok (.ireturn, 1) := by decide +kernel
theorem dL_wasted_15 : decode cL_wasted 15 = .ok (.iconst 0, 1) := by decide +kernel
theorem dL_wasted_16 : decode cL_wasted 16 = .ok (.ireturn, 1) := by decide +kernel
theorem dL_cost_0 : decode cL_cost 0 = .ok (.aload_n 2, 1) := by decide +kernel
theorem dL_cost_1 : decode cL_cost 1 = .ok (.iconst 0, 1) := by decide +kernel
theorem dL_cost_2 : decode cL_cost 2 = .ok (.aload_n 0, 1) := by decide +kernel
theorem dL_cost_3 : decode cL_cost 3 = .ok (.iload_n 1, 1) := by decide +kernel
theorem dL_cost_4 : decode cL_cost 4 = .ok (.invokevirtual 125, 3) := by decide +kernel
theorem dL_cost_7 : decode cL_cost 7 = .ok (.lastore, 1) := by decide +kernel
theorem dL_cost_8 : decode cL_cost 8 = .ok (.goto 6, 3) := by decide +kernel
theorem dL_cost_11 : decode cL_cost 11 = .ok (.astore_n 3, 1) := by decide +kernel
theorem dL_cost_12 : decode cL_cost 12 = .ok (.iconst 1, 1) := by decide +kernel
theorem dL_cost_13 : decode cL_cost 13 = .ok (.ireturn, 1) := by decide +kernel
theorem dL_cost_14 : decode cL_cost 14 = .ok (.iconst 0, 1) := by decide +kernel
theorem dL_cost_15 : decode cL_cost 15 = .ok (.ireturn, 1) := by decide +kernel
theorem dL_goodShare_0 : decode cL_goodShare 0 = .ok (.aload_n 1, 1) := by decide +kernel
theorem dL_goodShare_1 : decode cL_goodShare 1 = .ok (.iconst 0, 1) := by decide +kernel
theorem dL_goodShare_2 : decode cL_goodShare 2 = .ok (.aload_n 0, 1) := by decide +kernel
theorem dL_goodShare_3 : decode cL_goodShare 3 = .ok (.invokevirtual 129, 3) := by decide +kernel
theorem dL_goodShare_6 : decode cL_goodShare 6 = .ok (.f2d, 1) := by decide +kernel
theorem dL_goodShare_7 : decode cL_goodShare 7 = .ok (.dastore, 1) := by decide +kernel
theorem dL_goodShare_8 : decode cL_goodShare 8 = .ok (.goto 6, 3) := by decide +kernel
theorem dL_goodShare_11 : decode cL_goodShare 11 = .ok (.astore_n 2, 1) := by decide +kernel
theorem dL_goodShare_12 : decode cL_goodShare 12 = .ok (.iconst 1, 1) := by decide +kernel
theorem dL_goodShare_13 : decode cL_goodShare 13 = .ok (.ireturn, 1) := by decide +kernel
theorem dL_goodShare_14 : decode cL_goodShare 14 = .ok (.iconst 0, 1) := by decide +kernel
theorem dL_goodShare_15 : decode cL_goodShare 15 = .ok (.ireturn, 1) := by decide +kernel
theorem dL_meanLength_0 : decode cL_meanLength 0 = .ok (.aload_n 1, 1) := by decide +kernel
theorem dL_meanLength_1 : decode cL_meanLength 1 = .ok (.iconst 0, 1) := by decide +kernel
theorem dL_meanLength_2 : decode cL_meanLength 2 = .ok (.aload_n 0, 1) := by decide +kernel
theorem dL_meanLength_3 : decode cL_meanLength 3 = .ok (.invokevirtual 135, 3) := by decide +kernel
theorem dL_meanLength_6 : decode cL_meanLength 6 = .ok (.dastore, 1) := by decide +kernel
theorem dL_meanLength_7 : decode cL_meanLength 7 = .ok (.goto 6, 3) := by decide +kernel
theorem dL_meanLength_10 : decode cL_meanLength 10 = .ok (.astore_n 2, 1) := by decide +kernel
theorem dL_meanLength_11 : decode cL_meanLength 11 = .ok (.iconst 1, 1) := by decide +kernel
theorem dL_meanLength_12 : decode cL_meanLength 12 = .ok (.ireturn, 1) := by decide +kernel
theorem dL_meanLength_13 : decode cL_meanLength 13 = .ok (.iconst 0, 1) := by decide +kernel
theorem dL_meanLength_14 : decode cL_meanLength 14 = .ok (.ireturn, 1) := by decide +kernel
end
section
/-! X: a walk over a pure heap: cells by (kind, number), integers by Int -/
def gw : List Cond := lw_tbl.filter goodWord
theorem gwI {w : Cond} (i : Nat) (h : tables_1[i]? = some w) (hg : goodWord w = true) : w ∈ gw :=
  List.mem_filter.mpr ⟨List.mem_append_right _ (List.mem_of_getElem? h), hg⟩
theorem gwS {w : Cond} (i : Nat) (h : (k2_sels lw_privs)[i]? = some w) (hg : goodWord w = true) : w ∈ gw :=
  List.mem_filter.mpr ⟨List.mem_append_left _ (List.mem_of_getElem? h), hg⟩
theorem gwL {ws : List Cond} (h : ∀ w ∈ ws, w ∈ lw_tbl) (hg : ws.all goodWord = true) : ∀ w ∈ ws, w ∈ gw := fun w hw =>
  List.mem_filter.mpr ⟨h w hw, List.all_eq_true.mp hg w hw⟩
theorem gwP {ws : List Cond} (ps : List Nat) (hp : ws = ps.filterMap (fun i => tables_1[i]?)) (hg : ws.all goodWord = true) : ∀ w ∈ ws, w ∈ gw := by
  intro w hw
  refine List.mem_filter.mpr ⟨List.mem_append_right _ ?_, List.all_eq_true.mp hg w hw⟩
  rw [hp] at hw
  obtain ⟨i, -, hi⟩ := List.mem_filterMap.mp hw
  exact List.mem_of_getElem? hi
theorem gw_good {x y : Cond} (hy : y ∈ gw) : GoodIn (x :: gw) (y :: gw) := by
  intro w hw
  rcases List.mem_cons.mp hw with h | h
  · subst h
    exact ⟨List.mem_cons_of_mem _ hy, good_of_word (List.mem_filter.mp hy).2⟩
  · exact ⟨List.mem_cons_of_mem _ h, good_of_word (List.mem_filter.mp h).2⟩
theorem gw_goodG {y : Cond} (hy : y ∈ gw) : GoodIn gw (y :: gw) := by
  intro w hw
  rcases List.mem_cons.mp hw with h | h
  · subst h
    exact ⟨hy, good_of_word (List.mem_filter.mp hy).2⟩
  · exact ⟨h, good_of_word (List.mem_filter.mp h).2⟩
/-! integers -/
def iI (z : Int) : Int32 := Int32.ofInt z
def lI (z : Int) : Int64 := Int64.ofInt z
abbrev rg (z : Int) : Prop := -2147483648 ≤ z ∧ z ≤ 2147483647
theorem iI_toInt {z : Int} (h : rg z) : (iI z).toInt = z := Int32.toInt_ofInt_of_le (by have := h.1; omega) (by have := h.2; omega)
theorem iI_of (x : Int32) : x = iI x.toInt := (Int32.ofInt_toInt x).symm
theorem rg_of (x : Int32) : rg x.toInt := by
  have h1 := x.le_toInt
  have h2 := x.toInt_lt
  constructor <;> omega
theorem iI_ex (x : Int32) : ∃ z : Int, rg z ∧ x = iI z := ⟨x.toInt, rg_of x, iI_of x⟩
theorem iI_lt {a b : Int} (ha : rg a) (hb : rg b) : iI a < iI b ↔ a < b := by rw [Int32.lt_iff_toInt_lt, iI_toInt ha, iI_toInt hb]
theorem iI_le {a b : Int} (ha : rg a) (hb : rg b) : iI a ≤ iI b ↔ a ≤ b := by rw [Int32.le_iff_toInt_le, iI_toInt ha, iI_toInt hb]
theorem iI_eq {a b : Int} (ha : rg a) (hb : rg b) : iI a = iI b ↔ a = b := by rw [← Int32.toInt_inj, iI_toInt ha, iI_toInt hb]
theorem iI_0 : (0 : Int32) = iI 0 := rfl
theorem rg0 : rg 0 := by constructor <;> omega
theorem iI_div {a b : Int} (ha : rg a) (h0 : 0 ≤ a) (hb : rg b) (hb0 : 0 < b) : iI a / iI b = iI (a / b) := by
  rw [← Int.tdiv_eq_ediv_of_nonneg h0]
  exact (Int32.ofInt_tdiv (by rw [Int32.toInt_minValue]; have := ha.1; omega) (by rw [Int32.toInt_maxValue]; have := ha.2; omega) (by rw [Int32.toInt_minValue]; have := hb.1; omega) (by rw [Int32.toInt_maxValue]; have := hb.2; omega)).symm
theorem iI_rem {a b : Int} (ha : rg a) (h0 : 0 ≤ a) (hb : rg b) (hb0 : 0 < b) : iI a - iI a / iI b * iI b = iI (a % b) := by
  rw [iI_div ha h0 hb hb0]
  unfold iI
  rw [← Int32.ofInt_mul, ← Int32.ofInt_sub, Int.emod_def, Int.mul_comm]
theorem iI_clamp {z : Int} (h : rg z) : (iI z).toNatClampNeg = z.toNat := Int32.toNatClampNeg_ofInt_of_le (by have := h.1; omega) (by have := h.2; omega)
theorem iI_in {z : Int} {n : Nat} (h0 : 0 ≤ z) (h1 : z < n) (hn : n ≤ 2147483647) : vp_in (iI z) n := by
  have h : rg z := by constructor <;> omega
  rw [vp_in_iff, iI_toInt h]
  exact ⟨h0, h1⟩
theorem iI_l {z : Int} (h : rg z) : (iI z).toInt64 = lI z := by
  unfold iI lI
  exact Int32.toInt64_ofInt (by rw [Int32.toInt_minValue]; have := h.1; omega) (by rw [Int32.toInt_maxValue]; have := h.2; omega)
abbrev lg (z : Int) : Prop := -9223372036854775808 ≤ z ∧ z ≤ 9223372036854775807
theorem lI_toInt {z : Int} (h : lg z) : (lI z).toInt = z := Int64.toInt_ofInt_of_le (by have := h.1; omega) (by have := h.2; omega)
theorem lI_cmp {a b : Int} (ha : lg a) (hb : lg b) : lg_cmp (lI a) (lI b) = iI (if b < a then 1 else if a = b then 0 else -1) := by
  unfold lg_cmp
  have e1 : (lI a > lI b) ↔ b < a := by rw [gt_iff_lt, Int64.lt_iff_toInt_lt, lI_toInt ha, lI_toInt hb]
  have e2 : (lI a = lI b) ↔ a = b := by rw [← Int64.toInt_inj, lI_toInt ha, lI_toInt hb]
  by_cases h1 : b < a
  · rw [if_pos (e1.mpr h1), if_pos h1]; rfl
  · rw [if_neg (fun q => h1 (e1.mp q)), if_neg h1]
    by_cases h2 : a = b
    · rw [if_pos (e2.mpr h2), if_pos h2]; rfl
    · rw [if_neg (fun q => h2 (e2.mp q)), if_neg h2]; rfl
/-- a truth value as 0 or 1 -/
noncomputable def bI (p : Prop) : Int := @ite Int p (Classical.propDecidable p) 1 0
theorem bI_t {p : Prop} (h : p) : bI p = 1 := by unfold bI; rw [if_pos h]
theorem bI_f {p : Prop} (h : ¬ p) : bI p = 0 := by unfold bI; rw [if_neg h]
theorem bI_01 (p : Prop) : 0 ≤ bI p ∧ bI p ≤ 1 := by
  by_cases h : p
  · rw [bI_t h]; constructor <;> omega
  · rw [bI_f h]; constructor <;> omega
theorem bI_rg (p : Prop) : rg (bI p) := by have := bI_01 p; constructor <;> omega
theorem bI_eq0 {p : Prop} : bI p = 0 ↔ ¬ p := ⟨fun h q => by rw [bI_t q] at h; omega, bI_f⟩
theorem bI_c {p q : Prop} (h : p ↔ q) : bI p = bI q := by rw [propext h]
noncomputable def pk {α : Type} (p : Prop) (a b : α) : α := @ite α p (Classical.propDecidable p) a b
theorem pk_t {α : Type} {p : Prop} {a b : α} (h : p) : pk p a b = a := by unfold pk; rw [if_pos h]
theorem pk_f {α : Type} {p : Prop} {a b : α} (h : ¬ p) : pk p a b = b := by unfold pk; rw [if_neg h]
/-! the pure heap and its picture -/
abbrev xG : Type := Nat → Int → Option va_E
abbrev xL : Type := Nat → Int → Nat
def xHW (D : va_G) (A : Nat → Prop) (ad : xL) (g : xG) (H : Heap) : Prop :=
  (∀ k n e, g k n = some e → va_at D vwCl (ad k n, e) H ∧ A (ad k n)) ∧ ∀ k n e k' n' e', g k n = some e → g k' n' = some e' → ad k n = ad k' n' → k = k' ∧ n = n'
def xup (g : xG) (k : Nat) (n : Int) (e : va_E) : xG := fun k' n' => if k' = k ∧ n' = n then some e else g k' n'
def xua (ad : xL) (k : Nat) (n : Int) (q : Nat) : xL := fun k' n' => if k' = k ∧ n' = n then q else ad k' n'
theorem xup_s {g : xG} {k : Nat} {n : Int} {e : va_E} : xup g k n e k n = some e := by unfold xup; rw [if_pos ⟨rfl, rfl⟩]
theorem xup_n {g : xG} {k k' : Nat} {n n' : Int} {e : va_E} (h : ¬ (k' = k ∧ n' = n)) : xup g k n e k' n' = g k' n' := by unfold xup; rw [if_neg h]
theorem xua_s {ad : xL} {k : Nat} {n : Int} {q : Nat} : xua ad k n q k n = q := by unfold xua; rw [if_pos ⟨rfl, rfl⟩]
theorem xua_n {ad : xL} {k k' : Nat} {n n' : Int} {q : Nat} (h : ¬ (k' = k ∧ n' = n)) : xua ad k n q k' n' = ad k' n' := by unfold xua; rw [if_neg h]
theorem xHW.set {D : va_G} {A : Nat → Prop} {ad : xL} {g : xG} {H H1 : Heap} {k : Nat} {n : Int} {e0 e : va_E} (h : xHW D A ad g H) (hg : g k n = some e0) (he : va_at D vwCl (ad k n, e) H1) (oq : ∀ q : Nat, q ≠ ad k n → H1[q]? = H[q]?) : xHW D A ad (xup g k n e) H1 := by
  have f : ∀ k' n' e', xup g k n e k' n' = some e' → ∃ e'', g k' n' = some e'' := by
    intro k' n' e' h'
    by_cases c : k' = k ∧ n' = n
    · obtain ⟨rfl, rfl⟩ := c
      exact ⟨_, hg⟩
    · rw [xup_n c] at h'
      exact ⟨_, h'⟩
  refine ⟨fun k' n' e' h' => ?_, fun k1 n1 e1 k2 n2 e2 h1 h2 ha => ?_⟩
  · by_cases c : k' = k ∧ n' = n
    · obtain ⟨rfl, rfl⟩ := c
      rw [xup_s] at h'
      cases h'
      exact ⟨he, (h.1 _ _ _ hg).2⟩
    · rw [xup_n c] at h'
      exact ⟨(h.1 _ _ _ h').1.kept (oq _ fun q => c (h.2 _ _ _ _ _ _ h' hg q)), (h.1 _ _ _ h').2⟩
  · obtain ⟨f1, g1⟩ := f _ _ _ h1
    obtain ⟨f2, g2⟩ := f _ _ _ h2
    exact h.2 _ _ _ _ _ _ g1 g2 ha
theorem xHW.lt {D : va_G} {A : Nat → Prop} {ad : xL} {g : xG} {H : Heap} {k : Nat} {n : Int} {e : va_E} (h : xHW D A ad g H) (hg : g k n = some e) : ad k n < H.size := (h.1 _ _ _ hg).1.lt
theorem xHW.grow {D : va_G} {A : Nat → Prop} {ad : xL} {g : xG} {H H1 : Heap} (h : xHW D A ad g H) (o1 : ∀ a : Nat, a < H.size → H1[a]? = H[a]?) : xHW D A ad g H1 :=
  ⟨fun k n e hg => ⟨(h.1 _ _ _ hg).1.kept (o1 _ (h.lt hg)), (h.1 _ _ _ hg).2⟩, h.2⟩
theorem xHW.push {D : va_G} {A : Nat → Prop} {ad : xL} {g : xG} {H H1 : Heap} {k : Nat} {n : Int} {e : va_E} {q : Nat} (h : xHW D A ad g H) (hg : g k n = none) (he : va_at D vwCl (q, e) H1) (hq : q = H.size) (hA : A q) (o1 : ∀ a : Nat, a < H.size → H1[a]? = H[a]?) : xHW D A (xua ad k n q) (xup g k n e) H1 := by
  have f : ∀ k' n' e', xup g k n e k' n' = some e' → (k' = k ∧ n' = n ∧ e' = e ∧ xua ad k n q k' n' = q) ∨ (g k' n' = some e' ∧ xua ad k n q k' n' = ad k' n' ∧ ad k' n' < H.size) := by
    intro k' n' e' h'
    by_cases c : k' = k ∧ n' = n
    · left
      obtain ⟨rfl, rfl⟩ := c
      rw [xup_s] at h'
      exact ⟨rfl, rfl, (Option.some.inj h').symm, xua_s⟩
    · right
      rw [xup_n c] at h'
      exact ⟨h', xua_n c, h.lt h'⟩
  refine ⟨fun k' n' e' h' => ?_, fun k1 n1 e1 k2 n2 e2 h1 h2 ha => ?_⟩
  · rcases f _ _ _ h' with ⟨rfl, rfl, rfl, e4⟩ | ⟨e1, e2, -⟩
    · rw [e4]; exact ⟨he, hA⟩
    · rw [e2]; exact ⟨(h.1 _ _ _ e1).1.kept (o1 _ (h.lt e1)), (h.1 _ _ _ e1).2⟩
  · rcases f _ _ _ h1 with ⟨rfl, rfl, -, e4⟩ | ⟨a1, a2, a3⟩
    · rcases f _ _ _ h2 with ⟨rfl, rfl, -, f4⟩ | ⟨b1, b2, b3⟩
      · exact ⟨rfl, rfl⟩
      · rw [e4, b2] at ha; omega
    · rcases f _ _ _ h2 with ⟨rfl, rfl, -, f4⟩ | ⟨b1, b2, b3⟩
      · rw [a2, f4] at ha; omega
      · rw [a2, b2] at ha
        exact h.2 _ _ _ _ _ _ a1 b1 ha

/-! what every method may take as given of the tables, the statics and the constants -/
def xStrs : List (String × Nat × String) := [("Proofpress", 47, "there are 3 documents"), ("Proofpress", 130, "no such document"), ("Proofpress", 125, "no such place"), ("Proofpress", 69, "no such code"), ("Proofpress", 81, "the text has 80 characters"), ("Proofpress", 137, "the edit is barred"), ("Proofpress", 118, "the hour is out of range"), ("Proofpress", 168, "no such span"), ("Proofpress", 170, "there are 8 comments"), ("Proofpress", 197, "no such comment"), ("Proofpress", 199, "the comment is not open"), ("Proofpress", 201, "there is no text"), ("Proofpress", 203, "a comment is open"), ("Proofpress", 208, "this version is signed"), ("Proofpress", 246, "the document has no proof"), ("Proofpress", 248, "no such sheet"), ("Proofpress", 225, "no such position"), ("Proofpress", 250, "no such index"), ("Proofpress", 252, "a number is out of range"), ("Proofpress", 261, "the stock would be too large"), ("Proofpress", 266, "the document has no proof, or there are 6 orders"), ("Proofpress", 272, "there is not enough free paper"), ("Proofpress", 311, "no such order"), ("Proofpress", 300, "all orders are done"), ("Proofpress", 309, "no sheet waits or is stale"), ("Proofpress", 339, "a sheet is on the press, or this one is good"), ("Proofpress", 344, "there is not enough paper or no plate"), ("Proofpress", 362, "the number of hours is out of range"), ("Proofpress", 364, "the hour would be too great"), ("Proofpress", 383, "the sheet never had a plate"), ("Proofpress", 394, "there are no orders"), ("Proofpress", 397, "there are no documents")]
def xCasts : List (String × String) := [("java/lang/IllegalStateException", "java/lang/IllegalStateException"), ("java/lang/ArrayIndexOutOfBoundsException", "java/lang/ArrayIndexOutOfBoundsException"), ("java/util/NoSuchElementException", "java/util/NoSuchElementException"), ("java/lang/IndexOutOfBoundsException", "java/lang/IndexOutOfBoundsException"), ("java/lang/IllegalArgumentException", "java/lang/IllegalArgumentException"), ("java/lang/UnsupportedOperationException", "java/lang/UnsupportedOperationException"), ("java/lang/ArithmeticException", "java/lang/ArithmeticException"), ("java/lang/ArrayIndexOutOfBoundsException", "java/lang/IndexOutOfBoundsException"), ("Proofpress", "java/lang/Object"), ("Proofpress$Log", "java/lang/Object"), ("Proofpress$Press", "java/lang/Object"), ("ProofpressModel", "java/lang/Object"), ("java/lang/IllegalStateException", "java/lang/Object"), ("Proofpress$Document", "java/lang/Object"), ("Proofpress$Text", "java/lang/Object"), ("java/lang/ArrayIndexOutOfBoundsException", "java/lang/Object"), ("java/util/NoSuchElementException", "java/lang/Object"), ("java/lang/IndexOutOfBoundsException", "java/lang/Object"), ("java/lang/IllegalArgumentException", "java/lang/Object"), ("java/lang/UnsupportedOperationException", "java/lang/Object"), ("Proofpress$Comment", "java/lang/Object"), ("Proofpress$Order", "java/lang/Object"), ("Proofpress$SheetRecord", "java/lang/Object"), ("java/lang/ArithmeticException", "java/lang/Object"), ("java/lang/Throwable", "java/lang/Object"), ("java/lang/String", "java/lang/Object")]
def xNests : List (String × Nat × String × String × String × String) := [("Proofpress", 335, "Proofpress$Press", "order", "LProofpress$Order;", "Proofpress"), ("Proofpress", 359, "Proofpress$Press", "leavingHour", "I", "Proofpress"), ("Proofpress$Document", 38, "Proofpress$Text", "size", "I", "Proofpress"), ("Proofpress", 76, "Proofpress$Text", "size", "I", "Proofpress"), ("Proofpress", 72, "Proofpress$Document", "text", "LProofpress$Text;", "Proofpress"), ("Proofpress", 90, "Proofpress$Document", "version", "I", "Proofpress"), ("Proofpress", 205, "Proofpress$Document", "proofVersion", "I", "Proofpress"), ("Proofpress$Press", 35, "Proofpress$Document", "proofSheets", "I", "Proofpress"), ("Proofpress", 216, "Proofpress$Document", "proofSheets", "I", "Proofpress"), ("Proofpress", 120, "Proofpress$Document", "closingHour", "I", "Proofpress"), ("Proofpress", 183, "Proofpress$Comment", "document", "LProofpress$Document;", "Proofpress"), ("Proofpress", 162, "Proofpress$Comment", "from", "I", "Proofpress"), ("Proofpress", 194, "Proofpress$Comment", "to", "I", "Proofpress"), ("Proofpress", 179, "Proofpress$Comment", "open", "Z", "Proofpress"), ("Proofpress$Order", 32, "Proofpress$SheetRecord", "isPrinted", "Z", "Proofpress"), ("Proofpress", 321, "Proofpress$SheetRecord", "isPrinted", "Z", "Proofpress"), ("Proofpress", 376, "Proofpress$SheetRecord", "plate", "[I", "Proofpress"), ("Proofpress", 373, "Proofpress$SheetRecord", "plateSize", "I", "Proofpress"), ("Proofpress", 380, "Proofpress$SheetRecord", "hasPlate", "Z", "Proofpress"), ("Proofpress", 302, "Proofpress$Order", "number", "I", "Proofpress"), ("Proofpress$Press", 23, "Proofpress$Order", "document", "LProofpress$Document;", "Proofpress"), ("Proofpress", 285, "Proofpress$Order", "document", "LProofpress$Document;", "Proofpress"), ("Proofpress", 332, "Proofpress$Order", "copies", "I", "Proofpress"), ("Proofpress", 294, "Proofpress$Order", "due", "I", "Proofpress"), ("Proofpress", 317, "Proofpress$Order", "records", "[LProofpress$SheetRecord;", "Proofpress"), ("Proofpress", 346, "Proofpress$Order", "paperTaken", "I", "Proofpress"), ("Proofpress", 385, "Proofpress$Order", "paperWasted", "I", "Proofpress"), ("Proofpress", 349, "Proofpress$Order", "platesTaken", "I", "Proofpress")]
def xTys (Y : Nat → ClassId) : List (ClassId × FieldType) := [(Y 0, .int), (Y 1, .boolean), (Y 2, .long), (Y 3, .double), (Y 4, .object RX1), (Y 5, .object RX0), (Y 6, .object RX4), (Y 7, .object RX6)]
def xGE (D : va_G) (Y : Nat → ClassId) (A : Nat → Prop) (U : State) : Prop :=
  va_K D vwCl (xTys Y) U ∧ vx_Zq Bundle.tN "UNASSIGNED_STACK" Bundle.steD A U U.heap ∧ vx_Zq Bundle.tN "SUPPRESSED_SENTINEL" Bundle.listD A U U.heap ∧
  (∀ x ∈ xStrs, ∃ a : Nat, vk_R x.1 x.2.1 x.2.2 a U) ∧ (∀ x ∈ xCasts, va_Nw (.castable x.1 x.2) U) ∧ (∀ x ∈ xNests, va_Nw (.fieldLinkNest x.1 x.2.1 x.2.2.1 x.2.2.2.1 x.2.2.2.2.1 x.2.2.2.2.2) U) ∧
  va_AO RX1 U ∧ va_AO RX0 U ∧ va_AO RX4 U ∧ va_AO RX6 U
/-- it holds on behind what the method has done -/
theorem xGE.moved {D : va_G} {Y : Nat → ClassId} {A : Nat → Prop} {s U : State} {H : Heap} {locs : List Loc} (h : xGE D Y A s) (hS : va_S A s.heap H locs) (hU : U.heap = H) (hW : s.WarmedH U.vm) : xGE D Y A U := by
  obtain ⟨h1, h2, h3, h4, h5, h6, h7, h8, h9, h10⟩ := h
  have hk : ∀ a : Nat, a < s.heap.size → ¬ A a → U.heap[a]? = s.heap[a]? := fun a h1 h2 => by rw [hU]; exact hS.2.1 a h1 h2
  exact ⟨h1.moved hW.alike, (h2.moved hW.alike).kept hk, (h3.moved hW.alike).kept hk, fun x hx => (h4 x hx).elim fun a ha => ⟨a, ha.warm hW⟩, fun x hx => va_Nw.warmC hW (h5 x hx), fun x hx => va_Nw.warmF hW (h6 x hx), h7.moved hW.alike, h8.moved hW.alike, h9.moved hW.alike, h10.moved hW.alike⟩
theorem xGE.calling {D : va_G} {Y : Nat → ClassId} {A : Nat → Prop} {U : State} (g : JFrame) (mk : MethodId) (a : Array Value) (h : xGE D Y A U) : xGE D Y A (U.calling g mk a) := by
  obtain ⟨h1, h2, h3, h4, h5, h6, h7, h8, h9, h10⟩ := h
  have r : U.vm.Alike (U.calling g mk a).vm := Vm.Alike.refl U.vm
  exact ⟨h1.moved r, vx_Zq.moved (U := U.calling g mk a) r h2, vx_Zq.moved (U := U.calling g mk a) r h3, fun x hx => (h4 x hx).elim fun q hq => ⟨q, vk_R.same (U := U.calling g mk a) rfl hq⟩, fun x hx => va_Nw.same rfl (U := U.calling g mk a) rfl (h5 x hx), fun x hx => va_Nw.same rfl (U := U.calling g mk a) rfl (h6 x hx), h7.moved r, h8.moved r, h9.moved r, h10.moved r⟩
/-! the walk -/
abbrev xK : Type := Program × Launch × Env × Room × State × MethodId × Array Value × List Frame × Method × Code × (State → Prop)
def xlh (la : Array Slot) (nL : Nat) (l : List (Option Value)) : Prop := la.size = nL ∧ lv_wf la ∧ ∀ (i : Nat) (v : Value), l[i]? = some (some v) → la[i]? = some (.val v)
def X (κ : xK) (D : va_G) (A : Nat → Prop) (nL cells slots pc : Nat) (l : List (Option Value)) (st : List Value) (ad : xL) (g : xG) : Prop :=
  match κ with
  | (p, lc, e, R, s, m, args, below, meth, c, Q) => ∀ (H : Heap) (locs : List Loc) (la : Array Slot), xHW D A ad g H → va_S A s.heap H locs → xlh la nL l → W p lc e R s m args below meth c H locs cells slots Q (F0 m pc la st)
def XB (κ : xK) (D : va_G) (Y : Nat → ClassId) (A : Nat → Prop) (cc : ByteArray) (own : String) (nL : Nat) (R0 : Room) : Prop :=
  match κ with
  | (p, lc, _, R, s, m, args, _, meth, c, _) => p.tables.exec = Jvm.exec ∧ c.code = cc ∧ c.maxLocals = nL ∧ s.vm.findClass own = some m.cls ∧ (∀ w ∈ gw, w.before args s = true) ∧ xGE D Y A s ∧ (∀ q, s.heap.size ≤ q → A q) ∧ lc.stackTraces = false ∧ meth.locks = false ∧ R = R0
def cP (D : va_G) (Y : Nat → ClassId) (A : Nat → Prop) (ad : xL) (g : xG) (av : List Value) : Array Value → State → Prop := fun v U => v = av.toArray ∧ xGE D Y A U ∧ (∀ q, U.heap.size ≤ q → A q) ∧ xHW D A ad g U.heap
abbrev xPo : Type := Option Value → xL → xG → Prop
abbrev xPx : Type := String → xL → xG → Prop
def cQ (D : va_G) (A : Nat → Prop) (post : xPo) : Array Value → State → Outcome → State → Prop := fun _ st oc t => (∃ (r : Option Value) (ad' : xL) (g' : xG), oc = .returned r ∧ post r ad' g' ∧ xHW D A ad' g' t.heap) ∧ va_F A st t
def cX (D : va_G) (A : Nat → Prop) (px : xPx) : String → State → State → Prop := fun E st t => (∃ (ad' : xL) (g' : xG), px E ad' g' ∧ xHW D A ad' g' t.heap) ∧ va_F A st t
def XM (κ : xK) (D : va_G) (A : Nat → Prop) (nm : String) (rt : Option FieldType) (R0 : Room) (post : xPo) (px : xPx) : Prop :=
  match κ with
  | (_, _, _, R, s, _, args, below, meth, c, Q) => R = R0 ∧ meth.sig.returnType = rt ∧ meth.name = nm ∧ (∀ x ∈ c.exceptionTable.toList, False) ∧ Q = vx_MQ below (cQ D A post) (cX D A px) args s R0.cells R0.slots A
/-- a method's contract -/
def Ct (lc : Launch) (y : MethodName) (cc : ByteArray) (nL : Nat) (rt : Option FieldType) (rm : Room) (D : va_G) (Y : Nat → ClassId) (A : Nat → Prop) (ad : xL) (g : xG) (av : List Value) (post : xPo) (px : xPx) : Prop :=
  vx_Met lc y (Cond.code y cc nL rt :: gw) rm (cP D Y A ad g av) (cQ D A post) (cX D A px) rm.cells rm.slots A
def xso : Slot → Option Value
  | .val v => some v
  | _ => none
theorem cP_blind {D : va_G} {Y : Nat → ClassId} {A : Nat → Prop} {ad : xL} {g : xG} {av : List Value} : FrameBlind (cP D Y A ad g av) := fun a U f mk q => ⟨q.1, q.2.1.calling f mk a, q.2.2.1, q.2.2.2⟩
theorem xso_spec {L : List Slot} {i : Nat} {v : Value} (h : (L.map xso)[i]? = some (some v)) : L[i]? = some (.val v) := by
  rw [List.getElem?_map] at h
  cases hL : L[i]? with
  | none => rw [hL] at h; cases h
  | some q =>
    rw [hL] at h
    cases q with
    | val w => simp only [Option.map_some, xso, Option.some.injEq] at h; rw [h]
    | _ => simp [xso] at h
/-- a contract out of the walk of the body -/
theorem Ct_of {lc : Launch} (hlc : lc.stackTraces = false) {y : MethodName} {cc : ByteArray} {nL : Nat} {rt : Option FieldType} {rm : Room} {D : va_G} {Y : Nat → ClassId} {A : Nat → Prop} {ad : xL} {g : xG} {av : List Value} {post : xPo} {px : xPx} {own nm : String}
    (hy : plainName y.cls = true) (hown : y.cls = own) (hnm : y.name = nm) {l0 : List (Option Value)} (hl0 : (lg_sl av ++ List.replicate (nL - (lg_sl av).length) Slot.unset).map xso = l0) (hav : (lg_sl av).length ≤ nL)
    (body : ∀ κ : xK, XB κ D Y A cc own nL rm → XM κ D A nm rt rm post px → X κ D A nL 0 0 0 l0 [] ad g) : Ct lc y cc nL rt rm D Y A ad g av post px := by
  unfold Ct
  refine vx_ofW (cc := cc) (maxL := nL) (ret := rt) hy rfl ?_
  intro p e s m args below meth c s₁ B hml htab hP
  obtain ⟨rfl, hE, hA, hW⟩ := hP
  have hts := atoms_spec (ws := Cond.code y cc nL rt :: gw) B.pre
  have h := body (p, lc, e, (headSpec (Cond.code y cc nL rt :: gw) rm).room, s, m, av.toArray, below, meth, c, vx_MQ below (cQ D A post) (cX D A px) av.toArray s rm.cells rm.slots A)
    ⟨B.exec, B.bytes, hml, by rw [← hown]; exact findClass_of_methodNamed B.named, fun w hw => hts w (List.mem_cons_of_mem _ hw), hE, hA, hlc, B.notSynchronized, rfl⟩
    ⟨rfl, B.returns, by rw [← hnm]; exact (name_of_methodNamed B.named B.method).1, htab, rfl⟩
  have hl := lv_entry av (n := nL) hav
  rw [lg_entry_eq]
  exact h s.heap [] _ hW va_S.rf ⟨hl.1, hl.2.1, fun i v hv => by
    rw [← hl0] at hv
    rw [List.getElem?_toArray]
    exact xso_spec hv⟩
/-- a contract for one answer, one state behind it -/
def pE (r : Option Value) (ad : xL) (g : xG) : xPo := fun r' ad' g' => r' = r ∧ ad' = ad ∧ g' = g
def pF : xPx := fun _ _ _ => False
section XR
variable {κ : xK} {D : va_G} {Y : Nat → ClassId} {A : Nat → Prop} {cc : ByteArray} {own : String} {nL : Nat} {R0 : Room} {cells slots pc : Nat} {l : List (Option Value)} {st : List Value} {ad : xL} {g : xG}
theorem X.widen {k n : Nat} (h1 : cells ≤ k) (h2 : slots ≤ n) (kk : X κ D A nL k n pc l st ad g) : X κ D A nL cells slots pc l st ad g := by
  obtain ⟨p, lc, e, R, s, m, args, below, meth, c, Q⟩ := κ
  intro H locs la hW hS hl
  exact W.widen h1 h2 (kk H locs la hW hS hl)

theorem X_iconst (C : XB κ D Y A cc own nL R0) {n : Int} (hd : decode cc pc = .ok (.iconst n, 1)) (k : X κ D A nL cells slots (pc + 1) (l) (.int (iI n) :: st) (ad) (g)) : X κ D A nL cells slots (pc) (l) (st) (ad) (g) := by
  obtain ⟨p, lc, e, R, s, m, args, below, meth, c, Q⟩ := κ
  obtain ⟨hx, hb, hml, hown, hts, hE, hA, hlc, hlk, hR⟩ := C
  intro H locs la hW hS hl
  exact lv_iconst hx hb hd rfl (k H locs la hW hS hl)
theorem X_bipush (C : XB κ D Y A cc own nL R0) {n : Int} (hn : -128 ≤ n ∧ n ≤ 127) (hd : decode cc pc = .ok (.bipush n, 2)) (k : X κ D A nL cells slots (pc + 2) (l) (.int (iI n) :: st) (ad) (g)) : X κ D A nL cells slots (pc) (l) (st) (ad) (g) := by
  obtain ⟨p, lc, e, R, s, m, args, below, meth, c, Q⟩ := κ
  obtain ⟨hx, hb, hml, hown, hts, hE, hA, hlc, hlk, hR⟩ := C
  intro H locs la hW hS hl
  exact lv_bipush hx hb hd (Int8.toInt32_ofInt hn.1 hn.2) (k H locs la hW hS hl)
theorem X_sipush (C : XB κ D Y A cc own nL R0) {n : Int} (hn : -32768 ≤ n ∧ n ≤ 32767) (hd : decode cc pc = .ok (.sipush n, 3)) (k : X κ D A nL cells slots (pc + 3) (l) (.int (iI n) :: st) (ad) (g)) : X κ D A nL cells slots (pc) (l) (st) (ad) (g) := by
  obtain ⟨p, lc, e, R, s, m, args, below, meth, c, Q⟩ := κ
  obtain ⟨hx, hb, hml, hown, hts, hE, hA, hlc, hlk, hR⟩ := C
  intro H locs la hW hS hl
  exact lv_sipush hx hb hd (Int16.toInt32_ofInt hn.1 hn.2) (k H locs la hW hS hl)
theorem X_ldc (C : XB κ D Y A cc own nL R0) {i : Nat} {n : Int} {v : Int32} (hv : v = iI n) (hc : Cond.constant own i v ∈ gw) (hd : decode cc pc = .ok (.ldc i, 2)) (k : X κ D A nL cells slots (pc + 2) (l) (.int (iI n) :: st) (ad) (g)) : X κ D A nL cells slots (pc) (l) (st) (ad) (g) := by
  obtain ⟨p, lc, e, R, s, m, args, below, meth, c, Q⟩ := κ
  obtain ⟨hx, hb, hml, hown, hts, hE, hA, hlc, hlk, hR⟩ := C
  intro H locs la hW hS hl
  exact lv_ldc hx hb hown (hts _ hc) hd (hv ▸ k H locs la hW hS hl)
theorem X_ldc2 (C : XB κ D Y A cc own nL R0) {i : Nat} {n : Int} {v : Int64} (hv : v = lI n) (hc : Cond.constantLong own i v ∈ gw) (hd : decode cc pc = .ok (.ldc2_w i, 3)) (k : X κ D A nL cells slots (pc + 3) (l) (.long (lI n) :: st) (ad) (g)) : X κ D A nL cells slots (pc) (l) (st) (ad) (g) := by
  obtain ⟨p, lc, e, R, s, m, args, below, meth, c, Q⟩ := κ
  obtain ⟨hx, hb, hml, hown, hts, hE, hA, hlc, hlk, hR⟩ := C
  intro H locs la hW hS hl
  exact lv_ldc2 hx hb hown (hts _ hc) hd (hv ▸ k H locs la hW hS hl)
theorem X_lconst (C : XB κ D Y A cc own nL R0) {n : Fin 2} {v : Int} (hv : Int64.ofNat (n : Nat) = lI v) (hd : decode cc pc = .ok (.lconst n, 1)) (k : X κ D A nL cells slots (pc + 1) (l) (.long (lI v) :: st) (ad) (g)) : X κ D A nL cells slots (pc) (l) (st) (ad) (g) := by
  obtain ⟨p, lc, e, R, s, m, args, below, meth, c, Q⟩ := κ
  obtain ⟨hx, hb, hml, hown, hts, hE, hA, hlc, hlk, hR⟩ := C
  intro H locs la hW hS hl
  exact lv_lconst hx hb hd hv (k H locs la hW hS hl)
theorem X_null (C : XB κ D Y A cc own nL R0)  (hd : decode cc pc = .ok (.aconst_null, 1)) (k : X κ D A nL cells slots (pc + 1) (l) (va_rf none :: st) (ad) (g)) : X κ D A nL cells slots (pc) (l) (st) (ad) (g) := by
  obtain ⟨p, lc, e, R, s, m, args, below, meth, c, Q⟩ := κ
  obtain ⟨hx, hb, hml, hown, hts, hE, hA, hlc, hlk, hR⟩ := C
  intro H locs la hW hS hl
  exact lv_null hx hb hd (k H locs la hW hS hl)
theorem X_iload_n (C : XB κ D Y A cc own nL R0) {i : Fin 4} {x : Int32} (hv : l[(i : Nat)]? = some (some (.int x))) (hd : decode cc pc = .ok (.iload_n i, 1)) (k : X κ D A nL cells slots (pc + 1) (l) (.int x :: st) (ad) (g)) : X κ D A nL cells slots (pc) (l) (st) (ad) (g) := by
  obtain ⟨p, lc, e, R, s, m, args, below, meth, c, Q⟩ := κ
  obtain ⟨hx, hb, hml, hown, hts, hE, hA, hlc, hlk, hR⟩ := C
  intro H locs la hW hS hl
  exact lv_iload_n hx hb hd rfl (hl.2.2 _ _ hv) (k H locs la hW hS hl)
theorem X_iload (C : XB κ D Y A cc own nL R0) {i : Nat} {x : Int32} (hv : l[i]? = some (some (.int x))) (hd : decode cc pc = .ok (.iload i, 2)) (k : X κ D A nL cells slots (pc + 2) (l) (.int x :: st) (ad) (g)) : X κ D A nL cells slots (pc) (l) (st) (ad) (g) := by
  obtain ⟨p, lc, e, R, s, m, args, below, meth, c, Q⟩ := κ
  obtain ⟨hx, hb, hml, hown, hts, hE, hA, hlc, hlk, hR⟩ := C
  intro H locs la hW hS hl
  exact lv_iload hx hb hd (hl.2.2 _ _ hv) (k H locs la hW hS hl)
theorem X_aload_n (C : XB κ D Y A cc own nL R0) {i : Fin 4} {x : Nat} (hv : l[(i : Nat)]? = some (some (.ref x))) (hd : decode cc pc = .ok (.aload_n i, 1)) (k : X κ D A nL cells slots (pc + 1) (l) (.ref x :: st) (ad) (g)) : X κ D A nL cells slots (pc) (l) (st) (ad) (g) := by
  obtain ⟨p, lc, e, R, s, m, args, below, meth, c, Q⟩ := κ
  obtain ⟨hx, hb, hml, hown, hts, hE, hA, hlc, hlk, hR⟩ := C
  intro H locs la hW hS hl
  exact lv_aload_n hx hb hd rfl (hl.2.2 _ _ hv) (k H locs la hW hS hl)
theorem X_aload (C : XB κ D Y A cc own nL R0) {i : Nat} {x : Nat} (hv : l[i]? = some (some (.ref x))) (hd : decode cc pc = .ok (.aload i, 2)) (k : X κ D A nL cells slots (pc + 2) (l) (.ref x :: st) (ad) (g)) : X κ D A nL cells slots (pc) (l) (st) (ad) (g) := by
  obtain ⟨p, lc, e, R, s, m, args, below, meth, c, Q⟩ := κ
  obtain ⟨hx, hb, hml, hown, hts, hE, hA, hlc, hlk, hR⟩ := C
  intro H locs la hW hS hl
  exact lv_aload hx hb hd (hl.2.2 _ _ hv) (k H locs la hW hS hl)
theorem X_lload_n (C : XB κ D Y A cc own nL R0) {i : Fin 4} {x : Int64} (hv : l[(i : Nat)]? = some (some (.long x))) (hd : decode cc pc = .ok (.lload_n i, 1)) (k : X κ D A nL cells slots (pc + 1) (l) (.long x :: st) (ad) (g)) : X κ D A nL cells slots (pc) (l) (st) (ad) (g) := by
  obtain ⟨p, lc, e, R, s, m, args, below, meth, c, Q⟩ := κ
  obtain ⟨hx, hb, hml, hown, hts, hE, hA, hlc, hlk, hR⟩ := C
  intro H locs la hW hS hl
  exact lv_lload_n hx hb hd rfl (hl.2.2 _ _ hv) (k H locs la hW hS hl)
theorem X_lload (C : XB κ D Y A cc own nL R0) {i : Nat} {x : Int64} (hv : l[i]? = some (some (.long x))) (hd : decode cc pc = .ok (.lload i, 2)) (k : X κ D A nL cells slots (pc + 2) (l) (.long x :: st) (ad) (g)) : X κ D A nL cells slots (pc) (l) (st) (ad) (g) := by
  obtain ⟨p, lc, e, R, s, m, args, below, meth, c, Q⟩ := κ
  obtain ⟨hx, hb, hml, hown, hts, hE, hA, hlc, hlk, hR⟩ := C
  intro H locs la hW hS hl
  exact lv_lload hx hb hd (hl.2.2 _ _ hv) (k H locs la hW hS hl)
theorem X_fload_n (C : XB κ D Y A cc own nL R0) {i : Fin 4} {x : UInt32} (hv : l[(i : Nat)]? = some (some (.float x))) (hd : decode cc pc = .ok (.fload_n i, 1)) (k : X κ D A nL cells slots (pc + 1) (l) (.float x :: st) (ad) (g)) : X κ D A nL cells slots (pc) (l) (st) (ad) (g) := by
  obtain ⟨p, lc, e, R, s, m, args, below, meth, c, Q⟩ := κ
  obtain ⟨hx, hb, hml, hown, hts, hE, hA, hlc, hlk, hR⟩ := C
  intro H locs la hW hS hl
  exact lv_fload_n hx hb hd rfl (hl.2.2 _ _ hv) (k H locs la hW hS hl)
theorem X_fload (C : XB κ D Y A cc own nL R0) {i : Nat} {x : UInt32} (hv : l[i]? = some (some (.float x))) (hd : decode cc pc = .ok (.fload i, 2)) (k : X κ D A nL cells slots (pc + 2) (l) (.float x :: st) (ad) (g)) : X κ D A nL cells slots (pc) (l) (st) (ad) (g) := by
  obtain ⟨p, lc, e, R, s, m, args, below, meth, c, Q⟩ := κ
  obtain ⟨hx, hb, hml, hown, hts, hE, hA, hlc, hlk, hR⟩ := C
  intro H locs la hW hS hl
  exact lv_fload hx hb hd (hl.2.2 _ _ hv) (k H locs la hW hS hl)
theorem X_dload (C : XB κ D Y A cc own nL R0) {i : Nat} {x : UInt64} (hv : l[i]? = some (some (.double x))) (hd : decode cc pc = .ok (.dload i, 2)) (k : X κ D A nL cells slots (pc + 2) (l) (.double x :: st) (ad) (g)) : X κ D A nL cells slots (pc) (l) (st) (ad) (g) := by
  obtain ⟨p, lc, e, R, s, m, args, below, meth, c, Q⟩ := κ
  obtain ⟨hx, hb, hml, hown, hts, hE, hA, hlc, hlk, hR⟩ := C
  intro H locs la hW hS hl
  exact lv_dload hx hb hd (hl.2.2 _ _ hv) (k H locs la hW hS hl)
theorem X_aloadq_n (C : XB κ D Y A cc own nL R0) {i : Fin 4} {q : Option Nat} (hv : l[(i : Nat)]? = some (some (va_rf q))) (hd : decode cc pc = .ok (.aload_n i, 1)) (k : X κ D A nL cells slots (pc + 1) (l) (va_rf q :: st) (ad) (g)) : X κ D A nL cells slots (pc) (l) (st) (ad) (g) := by
  obtain ⟨p, lc, e, R, s, m, args, below, meth, c, Q⟩ := κ
  obtain ⟨hx, hb, hml, hown, hts, hE, hA, hlc, hlk, hR⟩ := C
  intro H locs la hW hS hl
  cases q with
  | none => exact lv_aload_nN hx hb hd rfl (hl.2.2 _ _ hv) (k H locs la hW hS hl)
  | some x => exact lv_aload_n hx hb hd rfl (hl.2.2 _ _ hv) (k H locs la hW hS hl)
def xas (l : List (Option Value)) : List (Nat × Value) := (List.range l.length).filterMap (fun i => match l[i]? with | some (some v) => some (i, v) | _ => none)
def xnw (l : List (Option Value)) (i : Nat) : Bool := match i with
  | 0 => true
  | j + 1 => match l[j]? with
    | some (some w) => w.category == 1
    | _ => true
theorem xas_of {l : List (Option Value)} {i : Nat} {v : Value} (h : l[i]? = some (some v)) : (i, v) ∈ xas l := by
  refine List.mem_filterMap.mpr ⟨i, List.mem_range.mpr (List.getElem?_eq_some_iff.mp h).1, ?_⟩
  rw [h]
theorem xas_to {l : List (Option Value)} {q : Nat × Value} (h : q ∈ xas l) : l[q.1]? = some (some q.2) := by
  obtain ⟨i, -, hi⟩ := List.mem_filterMap.mp h
  cases hl : l[i]? with
  | none => rw [hl] at hi; cases hi
  | some o =>
    rw [hl] at hi
    cases o with
    | none => cases hi
    | some v => cases hi; exact hl
theorem xlh.has {la : Array Slot} {nL : Nat} {l : List (Option Value)} (h : xlh la nL l) : lv_has la nL (xas l) := ⟨h.1, h.2.1, fun q hq => h.2.2 _ _ (xas_to hq)⟩
theorem xlh.set1 {la : Array Slot} {nL i : Nat} {l : List (Option Value)} {v : Value} (hw : xnw l i = true) (h : lv_has la nL ((i, v) :: (xas l).filter (fun q => !(q.1 == i) && !(q.1 + 1 == i && q.2.category == 2)))) : xlh la nL (l.set i (some v)) := by
  refine ⟨h.1, h.2.1, fun j w hj => ?_⟩
  by_cases e : j = i
  · subst e
    rw [List.getElem?_set] at hj
    simp only [if_true] at hj
    split at hj
    · cases hj
      exact h.2.2 (j, _) List.mem_cons_self
    · cases hj
  · rw [List.getElem?_set_ne (Ne.symm e)] at hj
    refine h.2.2 (j, w) (List.mem_cons_of_mem _ (List.mem_filter.mpr ⟨xas_of hj, ?_⟩))
    by_cases e2 : j + 1 = i
    · subst e2
      simp only [xnw, hj] at hw
      have hc : w.category = 1 := by simpa using hw
      simp [hc]
    · simp [e, e2]
theorem xlh.set2 {la : Array Slot} {nL i : Nat} {l : List (Option Value)} {v : Value} (hw : xnw l i = true) (h : lv_has la nL ((i, v) :: (xas l).filter (fun q => !(q.1 == i) && (!(q.1 == i + 1) && !(q.1 + 1 == i && q.2.category == 2))))) : xlh la nL ((l.set i (some v)).set (i + 1) none) := by
  refine ⟨h.1, h.2.1, fun j w hj => ?_⟩
  by_cases e1 : j = i + 1
  · subst e1
    rw [List.getElem?_set] at hj
    simp only [if_true] at hj
    split at hj
    · cases hj
    · cases hj
  rw [List.getElem?_set_ne (Ne.symm e1)] at hj
  by_cases e : j = i
  · subst e
    rw [List.getElem?_set] at hj
    simp only [if_true] at hj
    split at hj
    · cases hj
      exact h.2.2 (j, _) List.mem_cons_self
    · cases hj
  · rw [List.getElem?_set_ne (Ne.symm e)] at hj
    refine h.2.2 (j, w) (List.mem_cons_of_mem _ (List.mem_filter.mpr ⟨xas_of hj, ?_⟩))
    by_cases e2 : j + 1 = i
    · subst e2
      simp only [xnw, hj] at hw
      have hc : w.category = 1 := by simpa using hw
      simp [hc]
      try omega
    · simp [e, e1, e2]
theorem X_istore_0 (C : XB κ D Y A cc own nL R0) {x : Int32} {a0 : Option Value} {r : List (Option Value)} (hn : 0 < nL) (hw : xnw (a0 :: r) 0 = true) (hd : decode cc pc = .ok (.istore_n 0, 1)) (k : X κ D A nL cells slots (pc + 1) (some (.int x) :: r) (st) (ad) (g)) : X κ D A nL cells slots (pc) (a0 :: r) (.int x :: st) (ad) (g) := by
  obtain ⟨p, lc, e, R, s, m, args, below, meth, c, Q⟩ := κ
  obtain ⟨hx, hb, hml, hown, hts, hE, hA, hlc, hlk, hR⟩ := C
  intro H locs la hW hS hl
  exact lv_istore_n hx hb hd rfl hl.has hn rfl (fun la hl => k H locs la hW hS (xlh.set1 (l := a0 :: r) hw hl))
theorem X_istore_1 (C : XB κ D Y A cc own nL R0) {x : Int32} {a0 a1 : Option Value} {r : List (Option Value)} (hn : 1 < nL) (hw : xnw (a0 :: a1 :: r) 1 = true) (hd : decode cc pc = .ok (.istore_n 1, 1)) (k : X κ D A nL cells slots (pc + 1) (a0 :: some (.int x) :: r) (st) (ad) (g)) : X κ D A nL cells slots (pc) (a0 :: a1 :: r) (.int x :: st) (ad) (g) := by
  obtain ⟨p, lc, e, R, s, m, args, below, meth, c, Q⟩ := κ
  obtain ⟨hx, hb, hml, hown, hts, hE, hA, hlc, hlk, hR⟩ := C
  intro H locs la hW hS hl
  exact lv_istore_n hx hb hd rfl hl.has hn rfl (fun la hl => k H locs la hW hS (xlh.set1 (l := a0 :: a1 :: r) hw hl))
theorem X_istore_2 (C : XB κ D Y A cc own nL R0) {x : Int32} {a0 a1 a2 : Option Value} {r : List (Option Value)} (hn : 2 < nL) (hw : xnw (a0 :: a1 :: a2 :: r) 2 = true) (hd : decode cc pc = .ok (.istore_n 2, 1)) (k : X κ D A nL cells slots (pc + 1) (a0 :: a1 :: some (.int x) :: r) (st) (ad) (g)) : X κ D A nL cells slots (pc) (a0 :: a1 :: a2 :: r) (.int x :: st) (ad) (g) := by
  obtain ⟨p, lc, e, R, s, m, args, below, meth, c, Q⟩ := κ
  obtain ⟨hx, hb, hml, hown, hts, hE, hA, hlc, hlk, hR⟩ := C
  intro H locs la hW hS hl
  exact lv_istore_n hx hb hd rfl hl.has hn rfl (fun la hl => k H locs la hW hS (xlh.set1 (l := a0 :: a1 :: a2 :: r) hw hl))
theorem X_istore_3 (C : XB κ D Y A cc own nL R0) {x : Int32} {a0 a1 a2 a3 : Option Value} {r : List (Option Value)} (hn : 3 < nL) (hw : xnw (a0 :: a1 :: a2 :: a3 :: r) 3 = true) (hd : decode cc pc = .ok (.istore_n 3, 1)) (k : X κ D A nL cells slots (pc + 1) (a0 :: a1 :: a2 :: some (.int x) :: r) (st) (ad) (g)) : X κ D A nL cells slots (pc) (a0 :: a1 :: a2 :: a3 :: r) (.int x :: st) (ad) (g) := by
  obtain ⟨p, lc, e, R, s, m, args, below, meth, c, Q⟩ := κ
  obtain ⟨hx, hb, hml, hown, hts, hE, hA, hlc, hlk, hR⟩ := C
  intro H locs la hW hS hl
  exact lv_istore_n hx hb hd rfl hl.has hn rfl (fun la hl => k H locs la hW hS (xlh.set1 (l := a0 :: a1 :: a2 :: a3 :: r) hw hl))
theorem X_istore_4 (C : XB κ D Y A cc own nL R0) {x : Int32} {a0 a1 a2 a3 a4 : Option Value} {r : List (Option Value)} (hn : 4 < nL) (hw : xnw (a0 :: a1 :: a2 :: a3 :: a4 :: r) 4 = true) (hd : decode cc pc = .ok (.istore 4, 2)) (k : X κ D A nL cells slots (pc + 2) (a0 :: a1 :: a2 :: a3 :: some (.int x) :: r) (st) (ad) (g)) : X κ D A nL cells slots (pc) (a0 :: a1 :: a2 :: a3 :: a4 :: r) (.int x :: st) (ad) (g) := by
  obtain ⟨p, lc, e, R, s, m, args, below, meth, c, Q⟩ := κ
  obtain ⟨hx, hb, hml, hown, hts, hE, hA, hlc, hlk, hR⟩ := C
  intro H locs la hW hS hl
  exact lv_istore hx hb hd hl.has hn rfl (fun la hl => k H locs la hW hS (xlh.set1 (l := a0 :: a1 :: a2 :: a3 :: a4 :: r) hw hl))
theorem X_istore_5 (C : XB κ D Y A cc own nL R0) {x : Int32} {a0 a1 a2 a3 a4 a5 : Option Value} {r : List (Option Value)} (hn : 5 < nL) (hw : xnw (a0 :: a1 :: a2 :: a3 :: a4 :: a5 :: r) 5 = true) (hd : decode cc pc = .ok (.istore 5, 2)) (k : X κ D A nL cells slots (pc + 2) (a0 :: a1 :: a2 :: a3 :: a4 :: some (.int x) :: r) (st) (ad) (g)) : X κ D A nL cells slots (pc) (a0 :: a1 :: a2 :: a3 :: a4 :: a5 :: r) (.int x :: st) (ad) (g) := by
  obtain ⟨p, lc, e, R, s, m, args, below, meth, c, Q⟩ := κ
  obtain ⟨hx, hb, hml, hown, hts, hE, hA, hlc, hlk, hR⟩ := C
  intro H locs la hW hS hl
  exact lv_istore hx hb hd hl.has hn rfl (fun la hl => k H locs la hW hS (xlh.set1 (l := a0 :: a1 :: a2 :: a3 :: a4 :: a5 :: r) hw hl))
theorem X_istore_6 (C : XB κ D Y A cc own nL R0) {x : Int32} {a0 a1 a2 a3 a4 a5 a6 : Option Value} {r : List (Option Value)} (hn : 6 < nL) (hw : xnw (a0 :: a1 :: a2 :: a3 :: a4 :: a5 :: a6 :: r) 6 = true) (hd : decode cc pc = .ok (.istore 6, 2)) (k : X κ D A nL cells slots (pc + 2) (a0 :: a1 :: a2 :: a3 :: a4 :: a5 :: some (.int x) :: r) (st) (ad) (g)) : X κ D A nL cells slots (pc) (a0 :: a1 :: a2 :: a3 :: a4 :: a5 :: a6 :: r) (.int x :: st) (ad) (g) := by
  obtain ⟨p, lc, e, R, s, m, args, below, meth, c, Q⟩ := κ
  obtain ⟨hx, hb, hml, hown, hts, hE, hA, hlc, hlk, hR⟩ := C
  intro H locs la hW hS hl
  exact lv_istore hx hb hd hl.has hn rfl (fun la hl => k H locs la hW hS (xlh.set1 (l := a0 :: a1 :: a2 :: a3 :: a4 :: a5 :: a6 :: r) hw hl))
theorem X_istore_7 (C : XB κ D Y A cc own nL R0) {x : Int32} {a0 a1 a2 a3 a4 a5 a6 a7 : Option Value} {r : List (Option Value)} (hn : 7 < nL) (hw : xnw (a0 :: a1 :: a2 :: a3 :: a4 :: a5 :: a6 :: a7 :: r) 7 = true) (hd : decode cc pc = .ok (.istore 7, 2)) (k : X κ D A nL cells slots (pc + 2) (a0 :: a1 :: a2 :: a3 :: a4 :: a5 :: a6 :: some (.int x) :: r) (st) (ad) (g)) : X κ D A nL cells slots (pc) (a0 :: a1 :: a2 :: a3 :: a4 :: a5 :: a6 :: a7 :: r) (.int x :: st) (ad) (g) := by
  obtain ⟨p, lc, e, R, s, m, args, below, meth, c, Q⟩ := κ
  obtain ⟨hx, hb, hml, hown, hts, hE, hA, hlc, hlk, hR⟩ := C
  intro H locs la hW hS hl
  exact lv_istore hx hb hd hl.has hn rfl (fun la hl => k H locs la hW hS (xlh.set1 (l := a0 :: a1 :: a2 :: a3 :: a4 :: a5 :: a6 :: a7 :: r) hw hl))
theorem X_istore_8 (C : XB κ D Y A cc own nL R0) {x : Int32} {a0 a1 a2 a3 a4 a5 a6 a7 a8 : Option Value} {r : List (Option Value)} (hn : 8 < nL) (hw : xnw (a0 :: a1 :: a2 :: a3 :: a4 :: a5 :: a6 :: a7 :: a8 :: r) 8 = true) (hd : decode cc pc = .ok (.istore 8, 2)) (k : X κ D A nL cells slots (pc + 2) (a0 :: a1 :: a2 :: a3 :: a4 :: a5 :: a6 :: a7 :: some (.int x) :: r) (st) (ad) (g)) : X κ D A nL cells slots (pc) (a0 :: a1 :: a2 :: a3 :: a4 :: a5 :: a6 :: a7 :: a8 :: r) (.int x :: st) (ad) (g) := by
  obtain ⟨p, lc, e, R, s, m, args, below, meth, c, Q⟩ := κ
  obtain ⟨hx, hb, hml, hown, hts, hE, hA, hlc, hlk, hR⟩ := C
  intro H locs la hW hS hl
  exact lv_istore hx hb hd hl.has hn rfl (fun la hl => k H locs la hW hS (xlh.set1 (l := a0 :: a1 :: a2 :: a3 :: a4 :: a5 :: a6 :: a7 :: a8 :: r) hw hl))
theorem X_astore_0 (C : XB κ D Y A cc own nL R0) {x : Nat} {a0 : Option Value} {r : List (Option Value)} (hn : 0 < nL) (hw : xnw (a0 :: r) 0 = true) (hd : decode cc pc = .ok (.astore_n 0, 1)) (k : X κ D A nL cells slots (pc + 1) (some (.ref x) :: r) (st) (ad) (g)) : X κ D A nL cells slots (pc) (a0 :: r) (.ref x :: st) (ad) (g) := by
  obtain ⟨p, lc, e, R, s, m, args, below, meth, c, Q⟩ := κ
  obtain ⟨hx, hb, hml, hown, hts, hE, hA, hlc, hlk, hR⟩ := C
  intro H locs la hW hS hl
  exact lv_astore_n hx hb hd rfl hl.has hn rfl (fun la hl => k H locs la hW hS (xlh.set1 (l := a0 :: r) hw hl))
theorem X_astore_1 (C : XB κ D Y A cc own nL R0) {x : Nat} {a0 a1 : Option Value} {r : List (Option Value)} (hn : 1 < nL) (hw : xnw (a0 :: a1 :: r) 1 = true) (hd : decode cc pc = .ok (.astore_n 1, 1)) (k : X κ D A nL cells slots (pc + 1) (a0 :: some (.ref x) :: r) (st) (ad) (g)) : X κ D A nL cells slots (pc) (a0 :: a1 :: r) (.ref x :: st) (ad) (g) := by
  obtain ⟨p, lc, e, R, s, m, args, below, meth, c, Q⟩ := κ
  obtain ⟨hx, hb, hml, hown, hts, hE, hA, hlc, hlk, hR⟩ := C
  intro H locs la hW hS hl
  exact lv_astore_n hx hb hd rfl hl.has hn rfl (fun la hl => k H locs la hW hS (xlh.set1 (l := a0 :: a1 :: r) hw hl))
theorem X_astore_2 (C : XB κ D Y A cc own nL R0) {x : Nat} {a0 a1 a2 : Option Value} {r : List (Option Value)} (hn : 2 < nL) (hw : xnw (a0 :: a1 :: a2 :: r) 2 = true) (hd : decode cc pc = .ok (.astore_n 2, 1)) (k : X κ D A nL cells slots (pc + 1) (a0 :: a1 :: some (.ref x) :: r) (st) (ad) (g)) : X κ D A nL cells slots (pc) (a0 :: a1 :: a2 :: r) (.ref x :: st) (ad) (g) := by
  obtain ⟨p, lc, e, R, s, m, args, below, meth, c, Q⟩ := κ
  obtain ⟨hx, hb, hml, hown, hts, hE, hA, hlc, hlk, hR⟩ := C
  intro H locs la hW hS hl
  exact lv_astore_n hx hb hd rfl hl.has hn rfl (fun la hl => k H locs la hW hS (xlh.set1 (l := a0 :: a1 :: a2 :: r) hw hl))
theorem X_astore_3 (C : XB κ D Y A cc own nL R0) {x : Nat} {a0 a1 a2 a3 : Option Value} {r : List (Option Value)} (hn : 3 < nL) (hw : xnw (a0 :: a1 :: a2 :: a3 :: r) 3 = true) (hd : decode cc pc = .ok (.astore_n 3, 1)) (k : X κ D A nL cells slots (pc + 1) (a0 :: a1 :: a2 :: some (.ref x) :: r) (st) (ad) (g)) : X κ D A nL cells slots (pc) (a0 :: a1 :: a2 :: a3 :: r) (.ref x :: st) (ad) (g) := by
  obtain ⟨p, lc, e, R, s, m, args, below, meth, c, Q⟩ := κ
  obtain ⟨hx, hb, hml, hown, hts, hE, hA, hlc, hlk, hR⟩ := C
  intro H locs la hW hS hl
  exact lv_astore_n hx hb hd rfl hl.has hn rfl (fun la hl => k H locs la hW hS (xlh.set1 (l := a0 :: a1 :: a2 :: a3 :: r) hw hl))
theorem X_astore_4 (C : XB κ D Y A cc own nL R0) {x : Nat} {a0 a1 a2 a3 a4 : Option Value} {r : List (Option Value)} (hn : 4 < nL) (hw : xnw (a0 :: a1 :: a2 :: a3 :: a4 :: r) 4 = true) (hd : decode cc pc = .ok (.astore 4, 2)) (k : X κ D A nL cells slots (pc + 2) (a0 :: a1 :: a2 :: a3 :: some (.ref x) :: r) (st) (ad) (g)) : X κ D A nL cells slots (pc) (a0 :: a1 :: a2 :: a3 :: a4 :: r) (.ref x :: st) (ad) (g) := by
  obtain ⟨p, lc, e, R, s, m, args, below, meth, c, Q⟩ := κ
  obtain ⟨hx, hb, hml, hown, hts, hE, hA, hlc, hlk, hR⟩ := C
  intro H locs la hW hS hl
  exact lv_astore hx hb hd hl.has hn rfl (fun la hl => k H locs la hW hS (xlh.set1 (l := a0 :: a1 :: a2 :: a3 :: a4 :: r) hw hl))
theorem X_astore_5 (C : XB κ D Y A cc own nL R0) {x : Nat} {a0 a1 a2 a3 a4 a5 : Option Value} {r : List (Option Value)} (hn : 5 < nL) (hw : xnw (a0 :: a1 :: a2 :: a3 :: a4 :: a5 :: r) 5 = true) (hd : decode cc pc = .ok (.astore 5, 2)) (k : X κ D A nL cells slots (pc + 2) (a0 :: a1 :: a2 :: a3 :: a4 :: some (.ref x) :: r) (st) (ad) (g)) : X κ D A nL cells slots (pc) (a0 :: a1 :: a2 :: a3 :: a4 :: a5 :: r) (.ref x :: st) (ad) (g) := by
  obtain ⟨p, lc, e, R, s, m, args, below, meth, c, Q⟩ := κ
  obtain ⟨hx, hb, hml, hown, hts, hE, hA, hlc, hlk, hR⟩ := C
  intro H locs la hW hS hl
  exact lv_astore hx hb hd hl.has hn rfl (fun la hl => k H locs la hW hS (xlh.set1 (l := a0 :: a1 :: a2 :: a3 :: a4 :: a5 :: r) hw hl))
theorem X_astore_6 (C : XB κ D Y A cc own nL R0) {x : Nat} {a0 a1 a2 a3 a4 a5 a6 : Option Value} {r : List (Option Value)} (hn : 6 < nL) (hw : xnw (a0 :: a1 :: a2 :: a3 :: a4 :: a5 :: a6 :: r) 6 = true) (hd : decode cc pc = .ok (.astore 6, 2)) (k : X κ D A nL cells slots (pc + 2) (a0 :: a1 :: a2 :: a3 :: a4 :: a5 :: some (.ref x) :: r) (st) (ad) (g)) : X κ D A nL cells slots (pc) (a0 :: a1 :: a2 :: a3 :: a4 :: a5 :: a6 :: r) (.ref x :: st) (ad) (g) := by
  obtain ⟨p, lc, e, R, s, m, args, below, meth, c, Q⟩ := κ
  obtain ⟨hx, hb, hml, hown, hts, hE, hA, hlc, hlk, hR⟩ := C
  intro H locs la hW hS hl
  exact lv_astore hx hb hd hl.has hn rfl (fun la hl => k H locs la hW hS (xlh.set1 (l := a0 :: a1 :: a2 :: a3 :: a4 :: a5 :: a6 :: r) hw hl))
theorem X_astore_7 (C : XB κ D Y A cc own nL R0) {x : Nat} {a0 a1 a2 a3 a4 a5 a6 a7 : Option Value} {r : List (Option Value)} (hn : 7 < nL) (hw : xnw (a0 :: a1 :: a2 :: a3 :: a4 :: a5 :: a6 :: a7 :: r) 7 = true) (hd : decode cc pc = .ok (.astore 7, 2)) (k : X κ D A nL cells slots (pc + 2) (a0 :: a1 :: a2 :: a3 :: a4 :: a5 :: a6 :: some (.ref x) :: r) (st) (ad) (g)) : X κ D A nL cells slots (pc) (a0 :: a1 :: a2 :: a3 :: a4 :: a5 :: a6 :: a7 :: r) (.ref x :: st) (ad) (g) := by
  obtain ⟨p, lc, e, R, s, m, args, below, meth, c, Q⟩ := κ
  obtain ⟨hx, hb, hml, hown, hts, hE, hA, hlc, hlk, hR⟩ := C
  intro H locs la hW hS hl
  exact lv_astore hx hb hd hl.has hn rfl (fun la hl => k H locs la hW hS (xlh.set1 (l := a0 :: a1 :: a2 :: a3 :: a4 :: a5 :: a6 :: a7 :: r) hw hl))
theorem X_astore_8 (C : XB κ D Y A cc own nL R0) {x : Nat} {a0 a1 a2 a3 a4 a5 a6 a7 a8 : Option Value} {r : List (Option Value)} (hn : 8 < nL) (hw : xnw (a0 :: a1 :: a2 :: a3 :: a4 :: a5 :: a6 :: a7 :: a8 :: r) 8 = true) (hd : decode cc pc = .ok (.astore 8, 2)) (k : X κ D A nL cells slots (pc + 2) (a0 :: a1 :: a2 :: a3 :: a4 :: a5 :: a6 :: a7 :: some (.ref x) :: r) (st) (ad) (g)) : X κ D A nL cells slots (pc) (a0 :: a1 :: a2 :: a3 :: a4 :: a5 :: a6 :: a7 :: a8 :: r) (.ref x :: st) (ad) (g) := by
  obtain ⟨p, lc, e, R, s, m, args, below, meth, c, Q⟩ := κ
  obtain ⟨hx, hb, hml, hown, hts, hE, hA, hlc, hlk, hR⟩ := C
  intro H locs la hW hS hl
  exact lv_astore hx hb hd hl.has hn rfl (fun la hl => k H locs la hW hS (xlh.set1 (l := a0 :: a1 :: a2 :: a3 :: a4 :: a5 :: a6 :: a7 :: a8 :: r) hw hl))
theorem X_fstore_7 (C : XB κ D Y A cc own nL R0) {x : UInt32} {a0 a1 a2 a3 a4 a5 a6 a7 : Option Value} {r : List (Option Value)} (hn : 7 < nL) (hw : xnw (a0 :: a1 :: a2 :: a3 :: a4 :: a5 :: a6 :: a7 :: r) 7 = true) (hd : decode cc pc = .ok (.fstore 7, 2)) (k : X κ D A nL cells slots (pc + 2) (a0 :: a1 :: a2 :: a3 :: a4 :: a5 :: a6 :: some (.float x) :: r) (st) (ad) (g)) : X κ D A nL cells slots (pc) (a0 :: a1 :: a2 :: a3 :: a4 :: a5 :: a6 :: a7 :: r) (.float x :: st) (ad) (g) := by
  obtain ⟨p, lc, e, R, s, m, args, below, meth, c, Q⟩ := κ
  obtain ⟨hx, hb, hml, hown, hts, hE, hA, hlc, hlk, hR⟩ := C
  intro H locs la hW hS hl
  exact lv_fstore hx hb hd hl.has hn rfl (fun la hl => k H locs la hW hS (xlh.set1 (l := a0 :: a1 :: a2 :: a3 :: a4 :: a5 :: a6 :: a7 :: r) hw hl))
theorem X_astoreq_1 (C : XB κ D Y A cc own nL R0) {q : Option Nat} {a0 a1 : Option Value} {r : List (Option Value)} (hn : 1 < nL) (hw : xnw (a0 :: a1 :: r) 1 = true) (hd : decode cc pc = .ok (.astore_n 1, 1)) (k : X κ D A nL cells slots (pc + 1) (a0 :: some (va_rf q) :: r) (st) (ad) (g)) : X κ D A nL cells slots (pc) (a0 :: a1 :: r) (va_rf q :: st) (ad) (g) := by
  obtain ⟨p, lc, e, R, s, m, args, below, meth, c, Q⟩ := κ
  obtain ⟨hx, hb, hml, hown, hts, hE, hA, hlc, hlk, hR⟩ := C
  intro H locs la hW hS hl
  cases q with
  | none => exact lv_astore_nN hx hb hd rfl hl.has hn rfl (fun la hl => k H locs la hW hS (xlh.set1 (l := a0 :: a1 :: r) hw hl))
  | some x => exact lv_astore_n hx hb hd rfl hl.has hn rfl (fun la hl => k H locs la hW hS (xlh.set1 (l := a0 :: a1 :: r) hw hl))
theorem X_astoreq_2 (C : XB κ D Y A cc own nL R0) {q : Option Nat} {a0 a1 a2 : Option Value} {r : List (Option Value)} (hn : 2 < nL) (hw : xnw (a0 :: a1 :: a2 :: r) 2 = true) (hd : decode cc pc = .ok (.astore_n 2, 1)) (k : X κ D A nL cells slots (pc + 1) (a0 :: a1 :: some (va_rf q) :: r) (st) (ad) (g)) : X κ D A nL cells slots (pc) (a0 :: a1 :: a2 :: r) (va_rf q :: st) (ad) (g) := by
  obtain ⟨p, lc, e, R, s, m, args, below, meth, c, Q⟩ := κ
  obtain ⟨hx, hb, hml, hown, hts, hE, hA, hlc, hlk, hR⟩ := C
  intro H locs la hW hS hl
  cases q with
  | none => exact lv_astore_nN hx hb hd rfl hl.has hn rfl (fun la hl => k H locs la hW hS (xlh.set1 (l := a0 :: a1 :: a2 :: r) hw hl))
  | some x => exact lv_astore_n hx hb hd rfl hl.has hn rfl (fun la hl => k H locs la hW hS (xlh.set1 (l := a0 :: a1 :: a2 :: r) hw hl))
theorem X_astoreq_3 (C : XB κ D Y A cc own nL R0) {q : Option Nat} {a0 a1 a2 a3 : Option Value} {r : List (Option Value)} (hn : 3 < nL) (hw : xnw (a0 :: a1 :: a2 :: a3 :: r) 3 = true) (hd : decode cc pc = .ok (.astore_n 3, 1)) (k : X κ D A nL cells slots (pc + 1) (a0 :: a1 :: a2 :: some (va_rf q) :: r) (st) (ad) (g)) : X κ D A nL cells slots (pc) (a0 :: a1 :: a2 :: a3 :: r) (va_rf q :: st) (ad) (g) := by
  obtain ⟨p, lc, e, R, s, m, args, below, meth, c, Q⟩ := κ
  obtain ⟨hx, hb, hml, hown, hts, hE, hA, hlc, hlk, hR⟩ := C
  intro H locs la hW hS hl
  cases q with
  | none => exact lv_astore_nN hx hb hd rfl hl.has hn rfl (fun la hl => k H locs la hW hS (xlh.set1 (l := a0 :: a1 :: a2 :: a3 :: r) hw hl))
  | some x => exact lv_astore_n hx hb hd rfl hl.has hn rfl (fun la hl => k H locs la hW hS (xlh.set1 (l := a0 :: a1 :: a2 :: a3 :: r) hw hl))
theorem X_astoreq_4 (C : XB κ D Y A cc own nL R0) {q : Option Nat} {a0 a1 a2 a3 a4 : Option Value} {r : List (Option Value)} (hn : 4 < nL) (hw : xnw (a0 :: a1 :: a2 :: a3 :: a4 :: r) 4 = true) (hd : decode cc pc = .ok (.astore 4, 2)) (k : X κ D A nL cells slots (pc + 2) (a0 :: a1 :: a2 :: a3 :: some (va_rf q) :: r) (st) (ad) (g)) : X κ D A nL cells slots (pc) (a0 :: a1 :: a2 :: a3 :: a4 :: r) (va_rf q :: st) (ad) (g) := by
  obtain ⟨p, lc, e, R, s, m, args, below, meth, c, Q⟩ := κ
  obtain ⟨hx, hb, hml, hown, hts, hE, hA, hlc, hlk, hR⟩ := C
  intro H locs la hW hS hl
  cases q with
  | none => exact lv_astoreN hx hb hd hl.has hn rfl (fun la hl => k H locs la hW hS (xlh.set1 (l := a0 :: a1 :: a2 :: a3 :: a4 :: r) hw hl))
  | some x => exact lv_astore hx hb hd hl.has hn rfl (fun la hl => k H locs la hW hS (xlh.set1 (l := a0 :: a1 :: a2 :: a3 :: a4 :: r) hw hl))
theorem X_astoreq_5 (C : XB κ D Y A cc own nL R0) {q : Option Nat} {a0 a1 a2 a3 a4 a5 : Option Value} {r : List (Option Value)} (hn : 5 < nL) (hw : xnw (a0 :: a1 :: a2 :: a3 :: a4 :: a5 :: r) 5 = true) (hd : decode cc pc = .ok (.astore 5, 2)) (k : X κ D A nL cells slots (pc + 2) (a0 :: a1 :: a2 :: a3 :: a4 :: some (va_rf q) :: r) (st) (ad) (g)) : X κ D A nL cells slots (pc) (a0 :: a1 :: a2 :: a3 :: a4 :: a5 :: r) (va_rf q :: st) (ad) (g) := by
  obtain ⟨p, lc, e, R, s, m, args, below, meth, c, Q⟩ := κ
  obtain ⟨hx, hb, hml, hown, hts, hE, hA, hlc, hlk, hR⟩ := C
  intro H locs la hW hS hl
  cases q with
  | none => exact lv_astoreN hx hb hd hl.has hn rfl (fun la hl => k H locs la hW hS (xlh.set1 (l := a0 :: a1 :: a2 :: a3 :: a4 :: a5 :: r) hw hl))
  | some x => exact lv_astore hx hb hd hl.has hn rfl (fun la hl => k H locs la hW hS (xlh.set1 (l := a0 :: a1 :: a2 :: a3 :: a4 :: a5 :: r) hw hl))
theorem X_lstore_7 (C : XB κ D Y A cc own nL R0) {x : Int64} {a0 a1 a2 a3 a4 a5 a6 a7 a8 : Option Value} {r : List (Option Value)} (hn : 8 < nL) (hw : xnw (a0 :: a1 :: a2 :: a3 :: a4 :: a5 :: a6 :: a7 :: a8 :: r) 7 = true) (hd : decode cc pc = .ok (.lstore 7, 2)) (k : X κ D A nL cells slots (pc + 2) (a0 :: a1 :: a2 :: a3 :: a4 :: a5 :: a6 :: some (.long x) :: none :: r) (st) (ad) (g)) : X κ D A nL cells slots (pc) (a0 :: a1 :: a2 :: a3 :: a4 :: a5 :: a6 :: a7 :: a8 :: r) (.long x :: st) (ad) (g) := by
  obtain ⟨p, lc, e, R, s, m, args, below, meth, c, Q⟩ := κ
  obtain ⟨hx, hb, hml, hown, hts, hE, hA, hlc, hlk, hR⟩ := C
  intro H locs la hW hS hl
  exact lv_lstore hx hb hd hl.has hn rfl (fun la hl => k H locs la hW hS (xlh.set2 (l := a0 :: a1 :: a2 :: a3 :: a4 :: a5 :: a6 :: a7 :: a8 :: r) hw hl))
theorem X_dstore_7 (C : XB κ D Y A cc own nL R0) {x : UInt64} {a0 a1 a2 a3 a4 a5 a6 a7 a8 : Option Value} {r : List (Option Value)} (hn : 8 < nL) (hw : xnw (a0 :: a1 :: a2 :: a3 :: a4 :: a5 :: a6 :: a7 :: a8 :: r) 7 = true) (hd : decode cc pc = .ok (.dstore 7, 2)) (k : X κ D A nL cells slots (pc + 2) (a0 :: a1 :: a2 :: a3 :: a4 :: a5 :: a6 :: some (.double x) :: none :: r) (st) (ad) (g)) : X κ D A nL cells slots (pc) (a0 :: a1 :: a2 :: a3 :: a4 :: a5 :: a6 :: a7 :: a8 :: r) (.double x :: st) (ad) (g) := by
  obtain ⟨p, lc, e, R, s, m, args, below, meth, c, Q⟩ := κ
  obtain ⟨hx, hb, hml, hown, hts, hE, hA, hlc, hlk, hR⟩ := C
  intro H locs la hW hS hl
  exact lv_dstore hx hb hd hl.has hn rfl (fun la hl => k H locs la hW hS (xlh.set2 (l := a0 :: a1 :: a2 :: a3 :: a4 :: a5 :: a6 :: a7 :: a8 :: r) hw hl))
theorem X_iinc_0 (C : XB κ D Y A cc own nL R0) {n x : Int} {w9 : Nat} {r : List (Option Value)} (hn : 0 < nL) (hw : xnw (some (.int (iI x)) :: r) 0 = true) (hd : decode cc pc = .ok (.iinc 0 n, 3)) (k : X κ D A nL cells slots (pc + 3) (some (.int (iI (x + n))) :: r) (st) (ad) (g)) : X κ D A nL cells slots (pc) (some (.int (iI x)) :: r) (st) (ad) (g) := by
  obtain ⟨p, lc, e, R, s, m, args, below, meth, c, Q⟩ := κ
  obtain ⟨hx, hb, hml, hown, hts, hE, hA, hlc, hlk, hR⟩ := C
  intro H locs la hW hS hl
  have hh := hl.has
  have hm : (0, Value.int (iI x)) ∈ xas (some (.int (iI x)) :: r) := xas_of rfl
  obtain ⟨q, hq⟩ := List.mem_iff_getElem?.mp hm
  exact lv_iinc hx hb hd hh hq (Int32.ofInt_add x n).symm hn rfl (fun la hl => k H locs la hW hS (xlh.set1 (l := some (.int (iI x)) :: r) hw hl))
theorem X_iinc_1 (C : XB κ D Y A cc own nL R0) {n x : Int} {a0 : Option Value} {r : List (Option Value)} (hn : 1 < nL) (hw : xnw (a0 :: some (.int (iI x)) :: r) 1 = true) (hd : decode cc pc = .ok (.iinc 1 n, 3)) (k : X κ D A nL cells slots (pc + 3) (a0 :: some (.int (iI (x + n))) :: r) (st) (ad) (g)) : X κ D A nL cells slots (pc) (a0 :: some (.int (iI x)) :: r) (st) (ad) (g) := by
  obtain ⟨p, lc, e, R, s, m, args, below, meth, c, Q⟩ := κ
  obtain ⟨hx, hb, hml, hown, hts, hE, hA, hlc, hlk, hR⟩ := C
  intro H locs la hW hS hl
  have hh := hl.has
  have hm : (1, Value.int (iI x)) ∈ xas (a0 :: some (.int (iI x)) :: r) := xas_of rfl
  obtain ⟨q, hq⟩ := List.mem_iff_getElem?.mp hm
  exact lv_iinc hx hb hd hh hq (Int32.ofInt_add x n).symm hn rfl (fun la hl => k H locs la hW hS (xlh.set1 (l := a0 :: some (.int (iI x)) :: r) hw hl))
theorem X_iinc_2 (C : XB κ D Y A cc own nL R0) {n x : Int} {a0 a1 : Option Value} {r : List (Option Value)} (hn : 2 < nL) (hw : xnw (a0 :: a1 :: some (.int (iI x)) :: r) 2 = true) (hd : decode cc pc = .ok (.iinc 2 n, 3)) (k : X κ D A nL cells slots (pc + 3) (a0 :: a1 :: some (.int (iI (x + n))) :: r) (st) (ad) (g)) : X κ D A nL cells slots (pc) (a0 :: a1 :: some (.int (iI x)) :: r) (st) (ad) (g) := by
  obtain ⟨p, lc, e, R, s, m, args, below, meth, c, Q⟩ := κ
  obtain ⟨hx, hb, hml, hown, hts, hE, hA, hlc, hlk, hR⟩ := C
  intro H locs la hW hS hl
  have hh := hl.has
  have hm : (2, Value.int (iI x)) ∈ xas (a0 :: a1 :: some (.int (iI x)) :: r) := xas_of rfl
  obtain ⟨q, hq⟩ := List.mem_iff_getElem?.mp hm
  exact lv_iinc hx hb hd hh hq (Int32.ofInt_add x n).symm hn rfl (fun la hl => k H locs la hW hS (xlh.set1 (l := a0 :: a1 :: some (.int (iI x)) :: r) hw hl))
theorem X_iinc_3 (C : XB κ D Y A cc own nL R0) {n x : Int} {a0 a1 a2 : Option Value} {r : List (Option Value)} (hn : 3 < nL) (hw : xnw (a0 :: a1 :: a2 :: some (.int (iI x)) :: r) 3 = true) (hd : decode cc pc = .ok (.iinc 3 n, 3)) (k : X κ D A nL cells slots (pc + 3) (a0 :: a1 :: a2 :: some (.int (iI (x + n))) :: r) (st) (ad) (g)) : X κ D A nL cells slots (pc) (a0 :: a1 :: a2 :: some (.int (iI x)) :: r) (st) (ad) (g) := by
  obtain ⟨p, lc, e, R, s, m, args, below, meth, c, Q⟩ := κ
  obtain ⟨hx, hb, hml, hown, hts, hE, hA, hlc, hlk, hR⟩ := C
  intro H locs la hW hS hl
  have hh := hl.has
  have hm : (3, Value.int (iI x)) ∈ xas (a0 :: a1 :: a2 :: some (.int (iI x)) :: r) := xas_of rfl
  obtain ⟨q, hq⟩ := List.mem_iff_getElem?.mp hm
  exact lv_iinc hx hb hd hh hq (Int32.ofInt_add x n).symm hn rfl (fun la hl => k H locs la hW hS (xlh.set1 (l := a0 :: a1 :: a2 :: some (.int (iI x)) :: r) hw hl))
theorem X_iinc_4 (C : XB κ D Y A cc own nL R0) {n x : Int} {a0 a1 a2 a3 : Option Value} {r : List (Option Value)} (hn : 4 < nL) (hw : xnw (a0 :: a1 :: a2 :: a3 :: some (.int (iI x)) :: r) 4 = true) (hd : decode cc pc = .ok (.iinc 4 n, 3)) (k : X κ D A nL cells slots (pc + 3) (a0 :: a1 :: a2 :: a3 :: some (.int (iI (x + n))) :: r) (st) (ad) (g)) : X κ D A nL cells slots (pc) (a0 :: a1 :: a2 :: a3 :: some (.int (iI x)) :: r) (st) (ad) (g) := by
  obtain ⟨p, lc, e, R, s, m, args, below, meth, c, Q⟩ := κ
  obtain ⟨hx, hb, hml, hown, hts, hE, hA, hlc, hlk, hR⟩ := C
  intro H locs la hW hS hl
  have hh := hl.has
  have hm : (4, Value.int (iI x)) ∈ xas (a0 :: a1 :: a2 :: a3 :: some (.int (iI x)) :: r) := xas_of rfl
  obtain ⟨q, hq⟩ := List.mem_iff_getElem?.mp hm
  exact lv_iinc hx hb hd hh hq (Int32.ofInt_add x n).symm hn rfl (fun la hl => k H locs la hW hS (xlh.set1 (l := a0 :: a1 :: a2 :: a3 :: some (.int (iI x)) :: r) hw hl))
theorem X_iinc_5 (C : XB κ D Y A cc own nL R0) {n x : Int} {a0 a1 a2 a3 a4 : Option Value} {r : List (Option Value)} (hn : 5 < nL) (hw : xnw (a0 :: a1 :: a2 :: a3 :: a4 :: some (.int (iI x)) :: r) 5 = true) (hd : decode cc pc = .ok (.iinc 5 n, 3)) (k : X κ D A nL cells slots (pc + 3) (a0 :: a1 :: a2 :: a3 :: a4 :: some (.int (iI (x + n))) :: r) (st) (ad) (g)) : X κ D A nL cells slots (pc) (a0 :: a1 :: a2 :: a3 :: a4 :: some (.int (iI x)) :: r) (st) (ad) (g) := by
  obtain ⟨p, lc, e, R, s, m, args, below, meth, c, Q⟩ := κ
  obtain ⟨hx, hb, hml, hown, hts, hE, hA, hlc, hlk, hR⟩ := C
  intro H locs la hW hS hl
  have hh := hl.has
  have hm : (5, Value.int (iI x)) ∈ xas (a0 :: a1 :: a2 :: a3 :: a4 :: some (.int (iI x)) :: r) := xas_of rfl
  obtain ⟨q, hq⟩ := List.mem_iff_getElem?.mp hm
  exact lv_iinc hx hb hd hh hq (Int32.ofInt_add x n).symm hn rfl (fun la hl => k H locs la hW hS (xlh.set1 (l := a0 :: a1 :: a2 :: a3 :: a4 :: some (.int (iI x)) :: r) hw hl))
theorem X_iinc_6 (C : XB κ D Y A cc own nL R0) {n x : Int} {a0 a1 a2 a3 a4 a5 : Option Value} {r : List (Option Value)} (hn : 6 < nL) (hw : xnw (a0 :: a1 :: a2 :: a3 :: a4 :: a5 :: some (.int (iI x)) :: r) 6 = true) (hd : decode cc pc = .ok (.iinc 6 n, 3)) (k : X κ D A nL cells slots (pc + 3) (a0 :: a1 :: a2 :: a3 :: a4 :: a5 :: some (.int (iI (x + n))) :: r) (st) (ad) (g)) : X κ D A nL cells slots (pc) (a0 :: a1 :: a2 :: a3 :: a4 :: a5 :: some (.int (iI x)) :: r) (st) (ad) (g) := by
  obtain ⟨p, lc, e, R, s, m, args, below, meth, c, Q⟩ := κ
  obtain ⟨hx, hb, hml, hown, hts, hE, hA, hlc, hlk, hR⟩ := C
  intro H locs la hW hS hl
  have hh := hl.has
  have hm : (6, Value.int (iI x)) ∈ xas (a0 :: a1 :: a2 :: a3 :: a4 :: a5 :: some (.int (iI x)) :: r) := xas_of rfl
  obtain ⟨q, hq⟩ := List.mem_iff_getElem?.mp hm
  exact lv_iinc hx hb hd hh hq (Int32.ofInt_add x n).symm hn rfl (fun la hl => k H locs la hW hS (xlh.set1 (l := a0 :: a1 :: a2 :: a3 :: a4 :: a5 :: some (.int (iI x)) :: r) hw hl))
theorem X_iinc_7 (C : XB κ D Y A cc own nL R0) {n x : Int} {a0 a1 a2 a3 a4 a5 a6 : Option Value} {r : List (Option Value)} (hn : 7 < nL) (hw : xnw (a0 :: a1 :: a2 :: a3 :: a4 :: a5 :: a6 :: some (.int (iI x)) :: r) 7 = true) (hd : decode cc pc = .ok (.iinc 7 n, 3)) (k : X κ D A nL cells slots (pc + 3) (a0 :: a1 :: a2 :: a3 :: a4 :: a5 :: a6 :: some (.int (iI (x + n))) :: r) (st) (ad) (g)) : X κ D A nL cells slots (pc) (a0 :: a1 :: a2 :: a3 :: a4 :: a5 :: a6 :: some (.int (iI x)) :: r) (st) (ad) (g) := by
  obtain ⟨p, lc, e, R, s, m, args, below, meth, c, Q⟩ := κ
  obtain ⟨hx, hb, hml, hown, hts, hE, hA, hlc, hlk, hR⟩ := C
  intro H locs la hW hS hl
  have hh := hl.has
  have hm : (7, Value.int (iI x)) ∈ xas (a0 :: a1 :: a2 :: a3 :: a4 :: a5 :: a6 :: some (.int (iI x)) :: r) := xas_of rfl
  obtain ⟨q, hq⟩ := List.mem_iff_getElem?.mp hm
  exact lv_iinc hx hb hd hh hq (Int32.ofInt_add x n).symm hn rfl (fun la hl => k H locs la hW hS (xlh.set1 (l := a0 :: a1 :: a2 :: a3 :: a4 :: a5 :: a6 :: some (.int (iI x)) :: r) hw hl))
theorem X_iinc_8 (C : XB κ D Y A cc own nL R0) {n x : Int} {a0 a1 a2 a3 a4 a5 a6 a7 : Option Value} {r : List (Option Value)} (hn : 8 < nL) (hw : xnw (a0 :: a1 :: a2 :: a3 :: a4 :: a5 :: a6 :: a7 :: some (.int (iI x)) :: r) 8 = true) (hd : decode cc pc = .ok (.iinc 8 n, 3)) (k : X κ D A nL cells slots (pc + 3) (a0 :: a1 :: a2 :: a3 :: a4 :: a5 :: a6 :: a7 :: some (.int (iI (x + n))) :: r) (st) (ad) (g)) : X κ D A nL cells slots (pc) (a0 :: a1 :: a2 :: a3 :: a4 :: a5 :: a6 :: a7 :: some (.int (iI x)) :: r) (st) (ad) (g) := by
  obtain ⟨p, lc, e, R, s, m, args, below, meth, c, Q⟩ := κ
  obtain ⟨hx, hb, hml, hown, hts, hE, hA, hlc, hlk, hR⟩ := C
  intro H locs la hW hS hl
  have hh := hl.has
  have hm : (8, Value.int (iI x)) ∈ xas (a0 :: a1 :: a2 :: a3 :: a4 :: a5 :: a6 :: a7 :: some (.int (iI x)) :: r) := xas_of rfl
  obtain ⟨q, hq⟩ := List.mem_iff_getElem?.mp hm
  exact lv_iinc hx hb hd hh hq (Int32.ofInt_add x n).symm hn rfl (fun la hl => k H locs la hW hS (xlh.set1 (l := a0 :: a1 :: a2 :: a3 :: a4 :: a5 :: a6 :: a7 :: some (.int (iI x)) :: r) hw hl))
theorem X_iadd (C : XB κ D Y A cc own nL R0) {a b : Int} (hd : decode cc pc = .ok (.iadd, 1)) (k : X κ D A nL cells slots (pc + 1) (l) (.int (iI (a + b)) :: st) (ad) (g)) : X κ D A nL cells slots (pc) (l) (.int (iI b) :: .int (iI a) :: st) (ad) (g) := by
  obtain ⟨p, lc, e, R, s, m, args, below, meth, c, Q⟩ := κ
  obtain ⟨hx, hb, hml, hown, hts, hE, hA, hlc, hlk, hR⟩ := C
  intro H locs la hW hS hl
  exact lv_iadd hx hb hd ((Int32.ofInt_add a b) ▸ k H locs la hW hS hl)
theorem X_isub (C : XB κ D Y A cc own nL R0) {a b : Int} (hd : decode cc pc = .ok (.isub, 1)) (k : X κ D A nL cells slots (pc + 1) (l) (.int (iI (a - b)) :: st) (ad) (g)) : X κ D A nL cells slots (pc) (l) (.int (iI b) :: .int (iI a) :: st) (ad) (g) := by
  obtain ⟨p, lc, e, R, s, m, args, below, meth, c, Q⟩ := κ
  obtain ⟨hx, hb, hml, hown, hts, hE, hA, hlc, hlk, hR⟩ := C
  intro H locs la hW hS hl
  exact lv_isub hx hb hd ((Int32.ofInt_sub a b) ▸ k H locs la hW hS hl)
theorem X_imul (C : XB κ D Y A cc own nL R0) {a b : Int} (hd : decode cc pc = .ok (.imul, 1)) (k : X κ D A nL cells slots (pc + 1) (l) (.int (iI (a * b)) :: st) (ad) (g)) : X κ D A nL cells slots (pc) (l) (.int (iI b) :: .int (iI a) :: st) (ad) (g) := by
  obtain ⟨p, lc, e, R, s, m, args, below, meth, c, Q⟩ := κ
  obtain ⟨hx, hb, hml, hown, hts, hE, hA, hlc, hlk, hR⟩ := C
  intro H locs la hW hS hl
  exact lv_imul hx hb hd ((Int32.ofInt_mul a b) ▸ k H locs la hW hS hl)
theorem X_idiv (C : XB κ D Y A cc own nL R0) {a b : Int} (ha : rg a) (h0 : 0 ≤ a) (hbr : rg b) (hb0 : 0 < b) (hd : decode cc pc = .ok (.idiv, 1)) (k : X κ D A nL cells slots (pc + 1) (l) (.int (iI (a / b)) :: st) (ad) (g)) : X κ D A nL cells slots (pc) (l) (.int (iI b) :: .int (iI a) :: st) (ad) (g) := by
  obtain ⟨p, lc, e, R, s, m, args, below, meth, c, Q⟩ := κ
  obtain ⟨hx, hb, hml, hown, hts, hE, hA, hlc, hlk, hR⟩ := C
  intro H locs la hW hS hl
  exact lv_idiv hx hb hd (fun q => by rw [iI_0, iI_eq hbr rg0] at q; omega) ((iI_div ha h0 hbr hb0) ▸ k H locs la hW hS hl)
theorem X_irem (C : XB κ D Y A cc own nL R0) {a b : Int} (ha : rg a) (h0 : 0 ≤ a) (hbr : rg b) (hb0 : 0 < b) (hd : decode cc pc = .ok (.irem, 1)) (k : X κ D A nL cells slots (pc + 1) (l) (.int (iI (a % b)) :: st) (ad) (g)) : X κ D A nL cells slots (pc) (l) (.int (iI b) :: .int (iI a) :: st) (ad) (g) := by
  obtain ⟨p, lc, e, R, s, m, args, below, meth, c, Q⟩ := κ
  obtain ⟨hx, hb, hml, hown, hts, hE, hA, hlc, hlk, hR⟩ := C
  intro H locs la hW hS hl
  exact lv_irem hx hb hd (fun q => by rw [iI_0, iI_eq hbr rg0] at q; omega) ((iI_rem ha h0 hbr hb0) ▸ k H locs la hW hS hl)
theorem X_i2l (C : XB κ D Y A cc own nL R0) {a : Int} (ha : rg a) (hd : decode cc pc = .ok (.i2l, 1)) (k : X κ D A nL cells slots (pc + 1) (l) (.long (lI a) :: st) (ad) (g)) : X κ D A nL cells slots (pc) (l) (.int (iI a) :: st) (ad) (g) := by
  obtain ⟨p, lc, e, R, s, m, args, below, meth, c, Q⟩ := κ
  obtain ⟨hx, hb, hml, hown, hts, hE, hA, hlc, hlk, hR⟩ := C
  intro H locs la hW hS hl
  exact lv_i2l hx hb hd (iI_l ha) (k H locs la hW hS hl)
theorem X_ladd (C : XB κ D Y A cc own nL R0) {a b : Int} (hd : decode cc pc = .ok (.ladd, 1)) (k : X κ D A nL cells slots (pc + 1) (l) (.long (lI (a + b)) :: st) (ad) (g)) : X κ D A nL cells slots (pc) (l) (.long (lI b) :: .long (lI a) :: st) (ad) (g) := by
  obtain ⟨p, lc, e, R, s, m, args, below, meth, c, Q⟩ := κ
  obtain ⟨hx, hb, hml, hown, hts, hE, hA, hlc, hlk, hR⟩ := C
  intro H locs la hW hS hl
  exact lv_ladd hx hb hd ((Int64.ofInt_add a b) ▸ k H locs la hW hS hl)
theorem X_lmul (C : XB κ D Y A cc own nL R0) {a b : Int} (hd : decode cc pc = .ok (.lmul, 1)) (k : X κ D A nL cells slots (pc + 1) (l) (.long (lI (a * b)) :: st) (ad) (g)) : X κ D A nL cells slots (pc) (l) (.long (lI b) :: .long (lI a) :: st) (ad) (g) := by
  obtain ⟨p, lc, e, R, s, m, args, below, meth, c, Q⟩ := κ
  obtain ⟨hx, hb, hml, hown, hts, hE, hA, hlc, hlk, hR⟩ := C
  intro H locs la hW hS hl
  exact lv_lmul hx hb hd ((Int64.ofInt_mul a b) ▸ k H locs la hW hS hl)
theorem X_lcmp (C : XB κ D Y A cc own nL R0) {a b : Int} (ha : lg a) (hbr : lg b) (hd : decode cc pc = .ok (.lcmp, 1)) (k : X κ D A nL cells slots (pc + 1) (l) (.int (iI (if b < a then 1 else if a = b then 0 else -1)) :: st) (ad) (g)) : X κ D A nL cells slots (pc) (l) (.long (lI b) :: .long (lI a) :: st) (ad) (g) := by
  obtain ⟨p, lc, e, R, s, m, args, below, meth, c, Q⟩ := κ
  obtain ⟨hx, hb, hml, hown, hts, hE, hA, hlc, hlk, hR⟩ := C
  intro H locs la hW hS hl
  exact W.lcmp hx hb hd ((lI_cmp ha hbr) ▸ k H locs la hW hS hl)
theorem X_dup (C : XB κ D Y A cc own nL R0) {v : Value} (hv : v.category = 1) (hd : decode cc pc = .ok (.dup, 1)) (k : X κ D A nL cells slots (pc + 1) (l) (v :: v :: st) (ad) (g)) : X κ D A nL cells slots (pc) (l) (v :: st) (ad) (g) := by
  obtain ⟨p, lc, e, R, s, m, args, below, meth, c, Q⟩ := κ
  obtain ⟨hx, hb, hml, hown, hts, hE, hA, hlc, hlk, hR⟩ := C
  intro H locs la hW hS hl
  exact lv_dup hx hb hd hv (k H locs la hW hS hl)
theorem X_dup2 (C : XB κ D Y A cc own nL R0) {v w : Value} (hv : v.category = 1) (hw : w.category = 1) (hd : decode cc pc = .ok (.dup2, 1)) (k : X κ D A nL cells slots (pc + 1) (l) (v :: w :: v :: w :: st) (ad) (g)) : X κ D A nL cells slots (pc) (l) (v :: w :: st) (ad) (g) := by
  obtain ⟨p, lc, e, R, s, m, args, below, meth, c, Q⟩ := κ
  obtain ⟨hx, hb, hml, hown, hts, hE, hA, hlc, hlk, hR⟩ := C
  intro H locs la hW hS hl
  exact lv_dup2_11 hx hb hd hv hw (k H locs la hW hS hl)
theorem X_iand (C : XB κ D Y A cc own nL R0) {x y : Int32} (hd : decode cc pc = .ok (.iand, 1)) (k : X κ D A nL cells slots (pc + 1) (l) (.int (x &&& y) :: st) (ad) (g)) : X κ D A nL cells slots (pc) (l) (.int y :: .int x :: st) (ad) (g) := by
  obtain ⟨p, lc, e, R, s, m, args, below, meth, c, Q⟩ := κ
  obtain ⟨hx, hb, hml, hown, hts, hE, hA, hlc, hlk, hR⟩ := C
  intro H locs la hW hS hl
  exact lv_iand hx hb hd (k H locs la hW hS hl)
theorem X_i2f (C : XB κ D Y A cc own nL R0) {x : Int32} (hd : decode cc pc = .ok (.i2f, 1)) (k : X κ D A nL cells slots (pc + 1) (l) (.float (FP.i2f x) :: st) (ad) (g)) : X κ D A nL cells slots (pc) (l) (.int x :: st) (ad) (g) := by
  obtain ⟨p, lc, e, R, s, m, args, below, meth, c, Q⟩ := κ
  obtain ⟨hx, hb, hml, hown, hts, hE, hA, hlc, hlk, hR⟩ := C
  intro H locs la hW hS hl
  exact lv_i2f hx hb hd (k H locs la hW hS hl)
theorem X_i2d (C : XB κ D Y A cc own nL R0) {x : Int32} (hd : decode cc pc = .ok (.i2d, 1)) (k : X κ D A nL cells slots (pc + 1) (l) (.double (FP.i2d x) :: st) (ad) (g)) : X κ D A nL cells slots (pc) (l) (.int x :: st) (ad) (g) := by
  obtain ⟨p, lc, e, R, s, m, args, below, meth, c, Q⟩ := κ
  obtain ⟨hx, hb, hml, hown, hts, hE, hA, hlc, hlk, hR⟩ := C
  intro H locs la hW hS hl
  exact lv_i2d hx hb hd (k H locs la hW hS hl)
theorem X_fdiv (C : XB κ D Y A cc own nL R0) {x y : UInt32} (hne : vf_n32 (FP.fdiv x y)) (hd : decode cc pc = .ok (.fdiv, 1)) (k : X κ D A nL cells slots (pc + 1) (l) (.float (FP.fdiv x y) :: st) (ad) (g)) : X κ D A nL cells slots (pc) (l) (.float y :: .float x :: st) (ad) (g) := by
  obtain ⟨p, lc, e, R, s, m, args, below, meth, c, Q⟩ := κ
  obtain ⟨hx, hb, hml, hown, hts, hE, hA, hlc, hlk, hR⟩ := C
  intro H locs la hW hS hl
  exact lv_fdiv hx hb hd hne (k H locs la hW hS hl)
theorem X_ddiv (C : XB κ D Y A cc own nL R0) {x y : UInt64} (hne : vf_n64 (FP.ddiv x y)) (hd : decode cc pc = .ok (.ddiv, 1)) (k : X κ D A nL cells slots (pc + 1) (l) (.double (FP.ddiv x y) :: st) (ad) (g)) : X κ D A nL cells slots (pc) (l) (.double y :: .double x :: st) (ad) (g) := by
  obtain ⟨p, lc, e, R, s, m, args, below, meth, c, Q⟩ := κ
  obtain ⟨hx, hb, hml, hown, hts, hE, hA, hlc, hlk, hR⟩ := C
  intro H locs la hW hS hl
  exact lv_ddiv hx hb hd hne (k H locs la hW hS hl)
theorem X_f2d (C : XB κ D Y A cc own nL R0) {x : UInt32} (hne : vf_n64 (FP.f2d x)) (hd : decode cc pc = .ok (.f2d, 1)) (k : X κ D A nL cells slots (pc + 1) (l) (.double (FP.f2d x) :: st) (ad) (g)) : X κ D A nL cells slots (pc) (l) (.float x :: st) (ad) (g) := by
  obtain ⟨p, lc, e, R, s, m, args, below, meth, c, Q⟩ := κ
  obtain ⟨hx, hb, hml, hown, hts, hE, hA, hlc, hlk, hR⟩ := C
  intro H locs la hW hS hl
  exact lv_f2d hx hb hd hne (k H locs la hW hS hl)
theorem X_fconst0 (C : XB κ D Y A cc own nL R0)  (hd : decode cc pc = .ok (.fconst 0, 1)) (k : X κ D A nL cells slots (pc + 1) (l) (.float FP.fconst0 :: st) (ad) (g)) : X κ D A nL cells slots (pc) (l) (st) (ad) (g) := by
  obtain ⟨p, lc, e, R, s, m, args, below, meth, c, Q⟩ := κ
  obtain ⟨hx, hb, hml, hown, hts, hE, hA, hlc, hlk, hR⟩ := C
  intro H locs la hW hS hl
  exact lv_fconst0 hx hb hd (k H locs la hW hS hl)
theorem X_dconst0 (C : XB κ D Y A cc own nL R0)  (hd : decode cc pc = .ok (.dconst 0, 1)) (k : X κ D A nL cells slots (pc + 1) (l) (.double FP.dconst0 :: st) (ad) (g)) : X κ D A nL cells slots (pc) (l) (st) (ad) (g) := by
  obtain ⟨p, lc, e, R, s, m, args, below, meth, c, Q⟩ := κ
  obtain ⟨hx, hb, hml, hown, hts, hE, hA, hlc, hlk, hR⟩ := C
  intro H locs la hW hS hl
  exact lv_dconst0 hx hb hd (k H locs la hW hS hl)
theorem X_fcmp (C : XB κ D Y A cc own nL R0) {x y : UInt32} {op : CmpOp} (hd : decode cc pc = .ok (.fcmp op, 1)) (k : X κ D A nL cells slots (pc + 1) (l) (.int (Op.cmpValue (FP.fcmp x y) op) :: st) (ad) (g)) : X κ D A nL cells slots (pc) (l) (.float y :: .float x :: st) (ad) (g) := by
  obtain ⟨p, lc, e, R, s, m, args, below, meth, c, Q⟩ := κ
  obtain ⟨hx, hb, hml, hown, hts, hE, hA, hlc, hlk, hR⟩ := C
  intro H locs la hW hS hl
  exact lv_fcmp hx hb hd (k H locs la hW hS hl)
theorem X_dcmp (C : XB κ D Y A cc own nL R0) {x y : UInt64} {op : CmpOp} (hd : decode cc pc = .ok (.dcmp op, 1)) (k : X κ D A nL cells slots (pc + 1) (l) (.int (Op.cmpValue (FP.dcmp x y) op) :: st) (ad) (g)) : X κ D A nL cells slots (pc) (l) (.double y :: .double x :: st) (ad) (g) := by
  obtain ⟨p, lc, e, R, s, m, args, below, meth, c, Q⟩ := κ
  obtain ⟨hx, hb, hml, hown, hts, hE, hA, hlc, hlk, hR⟩ := C
  intro H locs la hW hS hl
  exact lv_dcmp hx hb hd (k H locs la hW hS hl)
theorem X_goto (C : XB κ D Y A cc own nL R0) {off : Int} {tgt : Nat} (hd : decode cc pc = .ok (.goto off, 3)) (ht : (pc : Int) + off = (tgt : Int)) (k : X κ D A nL cells slots (tgt) (l) (st) (ad) (g)) : X κ D A nL cells slots (pc) (l) (st) (ad) (g) := by
  obtain ⟨p, lc, e, R, s, m, args, below, meth, c, Q⟩ := κ
  obtain ⟨hx, hb, hml, hown, hts, hE, hA, hlc, hlk, hR⟩ := C
  intro H locs la hW hS hl
  exact lv_goto hx hb hd ht (k H locs la hW hS hl)
theorem X_icmp_eq (C : XB κ D Y A cc own nL R0) {a b : Int} {off : Int} {tgt : Nat} (hd : decode cc pc = .ok (.if_icmp .eq off, 3)) (ht : (pc : Int) + off = (tgt : Int)) (ha : rg a) (hbr : rg b) (kt : a = b → X κ D A nL cells slots (tgt) (l) (st) (ad) (g)) (kf : ¬ a = b → X κ D A nL cells slots (pc + 3) (l) (st) (ad) (g)) : X κ D A nL cells slots (pc) (l) (.int (iI b) :: .int (iI a) :: st) (ad) (g) := by
  obtain ⟨p, lc, e, R, s, m, args, below, meth, c, Q⟩ := κ
  obtain ⟨hx, hb, hml, hown, hts, hE, hA, hlc, hlk, hR⟩ := C
  intro H locs la hW hS hl
  exact lv_icmp_eq hx hb hd ht (fun q => kt ((iI_eq ha hbr).mp q) H locs la hW hS hl) (fun q => kf (fun z => q ((iI_eq ha hbr).mpr z)) H locs la hW hS hl)
theorem X_if_eq (C : XB κ D Y A cc own nL R0) {a : Int} {off : Int} {tgt : Nat} (hd : decode cc pc = .ok (.ifCond .eq off, 3)) (ht : (pc : Int) + off = (tgt : Int)) (ha : rg a) (kt : a = 0 → X κ D A nL cells slots (tgt) (l) (st) (ad) (g)) (kf : ¬ a = 0 → X κ D A nL cells slots (pc + 3) (l) (st) (ad) (g)) : X κ D A nL cells slots (pc) (l) (.int (iI a) :: st) (ad) (g) := by
  obtain ⟨p, lc, e, R, s, m, args, below, meth, c, Q⟩ := κ
  obtain ⟨hx, hb, hml, hown, hts, hE, hA, hlc, hlk, hR⟩ := C
  intro H locs la hW hS hl
  exact lv_if_eq hx hb hd ht (fun q => kt ((iI_eq ha rg0).mp q) H locs la hW hS hl) (fun q => kf (fun z => q ((iI_eq ha rg0).mpr z)) H locs la hW hS hl)
theorem X_icmp_ne (C : XB κ D Y A cc own nL R0) {a b : Int} {off : Int} {tgt : Nat} (hd : decode cc pc = .ok (.if_icmp .ne off, 3)) (ht : (pc : Int) + off = (tgt : Int)) (ha : rg a) (hbr : rg b) (kt : ¬ a = b → X κ D A nL cells slots (tgt) (l) (st) (ad) (g)) (kf : a = b → X κ D A nL cells slots (pc + 3) (l) (st) (ad) (g)) : X κ D A nL cells slots (pc) (l) (.int (iI b) :: .int (iI a) :: st) (ad) (g) := by
  obtain ⟨p, lc, e, R, s, m, args, below, meth, c, Q⟩ := κ
  obtain ⟨hx, hb, hml, hown, hts, hE, hA, hlc, hlk, hR⟩ := C
  intro H locs la hW hS hl
  exact lv_icmp_ne hx hb hd ht (fun q => kt (fun z => q ((iI_eq ha hbr).mpr z)) H locs la hW hS hl) (fun q => kf ((iI_eq ha hbr).mp q) H locs la hW hS hl)
theorem X_if_ne (C : XB κ D Y A cc own nL R0) {a : Int} {off : Int} {tgt : Nat} (hd : decode cc pc = .ok (.ifCond .ne off, 3)) (ht : (pc : Int) + off = (tgt : Int)) (ha : rg a) (kt : ¬ a = 0 → X κ D A nL cells slots (tgt) (l) (st) (ad) (g)) (kf : a = 0 → X κ D A nL cells slots (pc + 3) (l) (st) (ad) (g)) : X κ D A nL cells slots (pc) (l) (.int (iI a) :: st) (ad) (g) := by
  obtain ⟨p, lc, e, R, s, m, args, below, meth, c, Q⟩ := κ
  obtain ⟨hx, hb, hml, hown, hts, hE, hA, hlc, hlk, hR⟩ := C
  intro H locs la hW hS hl
  exact lv_if_ne hx hb hd ht (fun q => kt (fun z => q ((iI_eq ha rg0).mpr z)) H locs la hW hS hl) (fun q => kf ((iI_eq ha rg0).mp q) H locs la hW hS hl)
theorem X_icmp_lt (C : XB κ D Y A cc own nL R0) {a b : Int} {off : Int} {tgt : Nat} (hd : decode cc pc = .ok (.if_icmp .lt off, 3)) (ht : (pc : Int) + off = (tgt : Int)) (ha : rg a) (hbr : rg b) (kt : a < b → X κ D A nL cells slots (tgt) (l) (st) (ad) (g)) (kf : ¬ a < b → X κ D A nL cells slots (pc + 3) (l) (st) (ad) (g)) : X κ D A nL cells slots (pc) (l) (.int (iI b) :: .int (iI a) :: st) (ad) (g) := by
  obtain ⟨p, lc, e, R, s, m, args, below, meth, c, Q⟩ := κ
  obtain ⟨hx, hb, hml, hown, hts, hE, hA, hlc, hlk, hR⟩ := C
  intro H locs la hW hS hl
  exact lv_icmp_lt hx hb hd ht (fun q => kt ((iI_lt ha hbr).mp q) H locs la hW hS hl) (fun q => kf (fun z => q ((iI_lt ha hbr).mpr z)) H locs la hW hS hl)
theorem X_if_lt (C : XB κ D Y A cc own nL R0) {a : Int} {off : Int} {tgt : Nat} (hd : decode cc pc = .ok (.ifCond .lt off, 3)) (ht : (pc : Int) + off = (tgt : Int)) (ha : rg a) (kt : a < 0 → X κ D A nL cells slots (tgt) (l) (st) (ad) (g)) (kf : ¬ a < 0 → X κ D A nL cells slots (pc + 3) (l) (st) (ad) (g)) : X κ D A nL cells slots (pc) (l) (.int (iI a) :: st) (ad) (g) := by
  obtain ⟨p, lc, e, R, s, m, args, below, meth, c, Q⟩ := κ
  obtain ⟨hx, hb, hml, hown, hts, hE, hA, hlc, hlk, hR⟩ := C
  intro H locs la hW hS hl
  exact lv_if_lt hx hb hd ht (fun q => kt ((iI_lt ha rg0).mp q) H locs la hW hS hl) (fun q => kf (fun z => q ((iI_lt ha rg0).mpr z)) H locs la hW hS hl)
theorem X_icmp_le (C : XB κ D Y A cc own nL R0) {a b : Int} {off : Int} {tgt : Nat} (hd : decode cc pc = .ok (.if_icmp .le off, 3)) (ht : (pc : Int) + off = (tgt : Int)) (ha : rg a) (hbr : rg b) (kt : a ≤ b → X κ D A nL cells slots (tgt) (l) (st) (ad) (g)) (kf : ¬ a ≤ b → X κ D A nL cells slots (pc + 3) (l) (st) (ad) (g)) : X κ D A nL cells slots (pc) (l) (.int (iI b) :: .int (iI a) :: st) (ad) (g) := by
  obtain ⟨p, lc, e, R, s, m, args, below, meth, c, Q⟩ := κ
  obtain ⟨hx, hb, hml, hown, hts, hE, hA, hlc, hlk, hR⟩ := C
  intro H locs la hW hS hl
  exact lv_icmp_le hx hb hd ht (fun q => kt ((iI_le ha hbr).mp q) H locs la hW hS hl) (fun q => kf (fun z => q ((iI_le ha hbr).mpr z)) H locs la hW hS hl)
theorem X_if_le (C : XB κ D Y A cc own nL R0) {a : Int} {off : Int} {tgt : Nat} (hd : decode cc pc = .ok (.ifCond .le off, 3)) (ht : (pc : Int) + off = (tgt : Int)) (ha : rg a) (kt : a ≤ 0 → X κ D A nL cells slots (tgt) (l) (st) (ad) (g)) (kf : ¬ a ≤ 0 → X κ D A nL cells slots (pc + 3) (l) (st) (ad) (g)) : X κ D A nL cells slots (pc) (l) (.int (iI a) :: st) (ad) (g) := by
  obtain ⟨p, lc, e, R, s, m, args, below, meth, c, Q⟩ := κ
  obtain ⟨hx, hb, hml, hown, hts, hE, hA, hlc, hlk, hR⟩ := C
  intro H locs la hW hS hl
  exact lv_if_le hx hb hd ht (fun q => kt ((iI_le ha rg0).mp q) H locs la hW hS hl) (fun q => kf (fun z => q ((iI_le ha rg0).mpr z)) H locs la hW hS hl)
theorem X_icmp_gt (C : XB κ D Y A cc own nL R0) {a b : Int} {off : Int} {tgt : Nat} (hd : decode cc pc = .ok (.if_icmp .gt off, 3)) (ht : (pc : Int) + off = (tgt : Int)) (ha : rg a) (hbr : rg b) (kt : b < a → X κ D A nL cells slots (tgt) (l) (st) (ad) (g)) (kf : ¬ b < a → X κ D A nL cells slots (pc + 3) (l) (st) (ad) (g)) : X κ D A nL cells slots (pc) (l) (.int (iI b) :: .int (iI a) :: st) (ad) (g) := by
  obtain ⟨p, lc, e, R, s, m, args, below, meth, c, Q⟩ := κ
  obtain ⟨hx, hb, hml, hown, hts, hE, hA, hlc, hlk, hR⟩ := C
  intro H locs la hW hS hl
  exact lv_icmp_gt hx hb hd ht (fun q => kt ((iI_lt hbr ha).mp q) H locs la hW hS hl) (fun q => kf (fun z => q ((iI_lt hbr ha).mpr z)) H locs la hW hS hl)
theorem X_if_gt (C : XB κ D Y A cc own nL R0) {a : Int} {off : Int} {tgt : Nat} (hd : decode cc pc = .ok (.ifCond .gt off, 3)) (ht : (pc : Int) + off = (tgt : Int)) (ha : rg a) (kt : 0 < a → X κ D A nL cells slots (tgt) (l) (st) (ad) (g)) (kf : ¬ 0 < a → X κ D A nL cells slots (pc + 3) (l) (st) (ad) (g)) : X κ D A nL cells slots (pc) (l) (.int (iI a) :: st) (ad) (g) := by
  obtain ⟨p, lc, e, R, s, m, args, below, meth, c, Q⟩ := κ
  obtain ⟨hx, hb, hml, hown, hts, hE, hA, hlc, hlk, hR⟩ := C
  intro H locs la hW hS hl
  exact lv_if_gt hx hb hd ht (fun q => kt ((iI_lt rg0 ha).mp q) H locs la hW hS hl) (fun q => kf (fun z => q ((iI_lt rg0 ha).mpr z)) H locs la hW hS hl)
theorem X_icmp_ge (C : XB κ D Y A cc own nL R0) {a b : Int} {off : Int} {tgt : Nat} (hd : decode cc pc = .ok (.if_icmp .ge off, 3)) (ht : (pc : Int) + off = (tgt : Int)) (ha : rg a) (hbr : rg b) (kt : b ≤ a → X κ D A nL cells slots (tgt) (l) (st) (ad) (g)) (kf : ¬ b ≤ a → X κ D A nL cells slots (pc + 3) (l) (st) (ad) (g)) : X κ D A nL cells slots (pc) (l) (.int (iI b) :: .int (iI a) :: st) (ad) (g) := by
  obtain ⟨p, lc, e, R, s, m, args, below, meth, c, Q⟩ := κ
  obtain ⟨hx, hb, hml, hown, hts, hE, hA, hlc, hlk, hR⟩ := C
  intro H locs la hW hS hl
  exact lv_icmp_ge hx hb hd ht (fun q => kt ((iI_le hbr ha).mp q) H locs la hW hS hl) (fun q => kf (fun z => q ((iI_le hbr ha).mpr z)) H locs la hW hS hl)
theorem X_if_ge (C : XB κ D Y A cc own nL R0) {a : Int} {off : Int} {tgt : Nat} (hd : decode cc pc = .ok (.ifCond .ge off, 3)) (ht : (pc : Int) + off = (tgt : Int)) (ha : rg a) (kt : 0 ≤ a → X κ D A nL cells slots (tgt) (l) (st) (ad) (g)) (kf : ¬ 0 ≤ a → X κ D A nL cells slots (pc + 3) (l) (st) (ad) (g)) : X κ D A nL cells slots (pc) (l) (.int (iI a) :: st) (ad) (g) := by
  obtain ⟨p, lc, e, R, s, m, args, below, meth, c, Q⟩ := κ
  obtain ⟨hx, hb, hml, hown, hts, hE, hA, hlc, hlk, hR⟩ := C
  intro H locs la hW hS hl
  exact lv_if_ge hx hb hd ht (fun q => kt ((iI_le rg0 ha).mp q) H locs la hW hS hl) (fun q => kf (fun z => q ((iI_le rg0 ha).mpr z)) H locs la hW hS hl)
theorem X_if_eqB (C : XB κ D Y A cc own nL R0) {b : Prop} {off : Int} {tgt : Nat} (hd : decode cc pc = .ok (.ifCond .eq off, 3)) (ht : (pc : Int) + off = (tgt : Int)) (kt : ¬ b → X κ D A nL cells slots (tgt) (l) (st) (ad) (g)) (kf : b → X κ D A nL cells slots (pc + 3) (l) (st) (ad) (g)) : X κ D A nL cells slots (pc) (l) (.int (iI (bI b)) :: st) (ad) (g) := X_if_eq C hd ht (bI_rg b) (fun q => kt (bI_eq0.mp q)) (fun q => kf (Classical.byContradiction fun z => q (bI_f z)))
theorem X_if_neB (C : XB κ D Y A cc own nL R0) {b : Prop} {off : Int} {tgt : Nat} (hd : decode cc pc = .ok (.ifCond .ne off, 3)) (ht : (pc : Int) + off = (tgt : Int)) (kt : b → X κ D A nL cells slots (tgt) (l) (st) (ad) (g)) (kf : ¬ b → X κ D A nL cells slots (pc + 3) (l) (st) (ad) (g)) : X κ D A nL cells slots (pc) (l) (.int (iI (bI b)) :: st) (ad) (g) := X_if_ne C hd ht (bI_rg b) (fun q => kt (Classical.byContradiction fun z => q (bI_f z))) (fun q => kf (bI_eq0.mp q))
theorem X_ifnonnull (C : XB κ D Y A cc own nL R0) {q : Option Nat} {off : Int} {tgt : Nat} (hd : decode cc pc = .ok (.ifnonnull off, 3)) (ht : (pc : Int) + off = (tgt : Int)) (kt : q ≠ none → X κ D A nL cells slots (tgt) (l) (st) (ad) (g)) (kf : q = none → X κ D A nL cells slots (pc + 3) (l) (st) (ad) (g)) : X κ D A nL cells slots (pc) (l) (va_rf q :: st) (ad) (g) := by
  obtain ⟨p, lc, e, R, s, m, args, below, meth, c, Q⟩ := κ
  obtain ⟨hx, hb, hml, hown, hts, hE, hA, hlc, hlk, hR⟩ := C
  intro H locs la hW hS hl
  cases q with
  | none => exact lv_ifnonnullN hx hb hd (kf rfl H locs la hW hS hl)
  | some x => exact lv_ifnonnull hx hb hd ht (kt (fun z => by cases z) H locs la hW hS hl)
theorem X_ifnull (C : XB κ D Y A cc own nL R0) {q : Option Nat} {off : Int} {tgt : Nat} (hd : decode cc pc = .ok (.ifnull off, 3)) (ht : (pc : Int) + off = (tgt : Int)) (kt : q = none → X κ D A nL cells slots (tgt) (l) (st) (ad) (g)) (kf : q ≠ none → X κ D A nL cells slots (pc + 3) (l) (st) (ad) (g)) : X κ D A nL cells slots (pc) (l) (va_rf q :: st) (ad) (g) := by
  obtain ⟨p, lc, e, R, s, m, args, below, meth, c, Q⟩ := κ
  obtain ⟨hx, hb, hml, hown, hts, hE, hA, hlc, hlk, hR⟩ := C
  intro H locs la hW hS hl
  cases q with
  | none => exact lv_ifnullN hx hb hd ht (kt rfl H locs la hW hS hl)
  | some x => exact lv_ifnull hx hb hd (kf (fun z => by cases z) H locs la hW hS hl)
theorem X_acmp_ne (C : XB κ D Y A cc own nL R0) {k : Nat} {n n2 : Int} {e1 e2 : va_E} (h1 : g k n = some e1) (h2 : g k n2 = some e2) {off : Int} {tgt : Nat} (hd : decode cc pc = .ok (.if_acmp .ne off, 3)) (ht : (pc : Int) + off = (tgt : Int)) (kt : ¬ n = n2 → X κ D A nL cells slots (tgt) (l) (st) (ad) (g)) (kf : n = n2 → X κ D A nL cells slots (pc + 3) (l) (st) (ad) (g)) : X κ D A nL cells slots (pc) (l) (.ref (ad k n2) :: .ref (ad k n) :: st) (ad) (g) := by
  obtain ⟨p, lc, e, R, s, m, args, below, meth, c, Q⟩ := κ
  obtain ⟨hx, hb, hml, hown, hts, hE, hA, hlc, hlk, hR⟩ := C
  intro H locs la hW hS hl
  exact lv_acmp_ne (rx := some (ad k n)) (ry := some (ad k n2)) hx hb hd ht (fun q => kt (fun z => q (by rw [z])) H locs la hW hS hl) (fun q => kf (hW.2 _ _ _ _ _ _ h1 h2 (Option.some.inj q)).2 H locs la hW hS hl)
end XR
end
section
/-! heap rows, calls, ends -/
def xLk (own : String) (idx : Nat) (q : String × String × String × Bool) : Prop := Cond.fieldLink own idx q.1 q.2.1 q.2.2.1 ∈ gw ∨ ∃ host : String, (own, idx, q.1, q.2.1, q.2.2.1, host) ∈ xNests
def xCl (ci : Nat) (Cn : String) (T : u_T) (N : Nat) (ty0 : Nat → FieldType) : Prop :=
  vwCl[ci]? = some (Cn, T, N) ∧ (∀ w ∈ u_ws Cn T N, w ∈ gw) ∧ (∀ k, k < N → parseFieldDescriptor (T k).2.2.1 = some (ty0 k)) ∧ (∀ a, a < N → ∀ b, b < N → a ≠ b → (T a).2.1 ≠ (T b).2.1)
def xFL (own : String) (idx ci j : Nat) : Prop := ∃ (Cn : String) (T : u_T) (N : Nat) (ty0 : Nat → FieldType), xCl ci Cn T N ty0 ∧ j < N ∧ xLk own idx (T j)
def xFW (own : String) (idx ci j : Nat) (ty : FieldType) : Prop := ∃ (Cn : String) (T : u_T) (N : Nat) (ty0 : Nat → FieldType), xCl ci Cn T N ty0 ∧ j < N ∧ xLk own idx (T j) ∧ (T j).2.2.2 = false ∧ parseFieldDescriptor (T j).2.2.1 = some ty
def xFF (own : String) (idx ci j : Nat) (ty : FieldType) : Prop := ∃ (Cn : String) (T : u_T) (N : Nat) (ty0 : Nat → FieldType), xCl ci Cn T N ty0 ∧ j < N ∧ Cond.fieldLink own idx (T j).1 (T j).2.1 (T j).2.2.1 ∈ gw ∧ (T j).2.2.2 = true ∧ (T j).1 = own ∧ parseFieldDescriptor (T j).2.2.1 = some ty
section XH
variable {κ : xK} {D : va_G} {Y : Nat → ClassId} {A : Nat → Prop} {cc : ByteArray} {own : String} {nL : Nat} {R0 : Room} {cells slots pc : Nat} {l : List (Option Value)} {st : List Value} {ad : xL} {g : xG}
theorem XB.hlc (C : XB κ D Y A cc own nL R0) : κ.2.1.stackTraces = false := by
  obtain ⟨p, lc, e, R, s, m, args, below, meth, c, Q⟩ := κ
  exact C.2.2.2.2.2.2.2.1
theorem X_get (C : XB κ D Y A cc own nL R0) {k : Nat} {n : Int} {ci idx j : Nat} {fs : List Value} {v : Value} (hg : g k n = some (.inr (ci, fs))) (hf : xFL own idx ci j) (hv : fs[j]? = some v) (hd : decode cc pc = .ok (.getfield idx, 3))
    (kk : X κ D A nL cells slots (pc + 3) l (v :: st) ad g) : X κ D A nL cells slots pc l (.ref (ad k n) :: st) ad g := by
  obtain ⟨p, lc, e, R, s, m, args, below, meth, c, Q⟩ := κ
  obtain ⟨hx, hb, hml, hown, hts, hE, hA, hlc, hlk, hR⟩ := C
  obtain ⟨Cn, T, N, ty0, ⟨hc, hin, -, -⟩, hj, hlink⟩ := hf
  intro H locs la hW hS hl
  have hP : va_P D vwCl [(ad k n, .inr (ci, fs))] H := by
    intro i q hq
    have hz : i < 1 := (List.getElem?_eq_some_iff.mp hq).1
    rw [show i = 0 by omega] at hq
    cases hq
    exact (hW.1 _ _ _ hg).1
  rcases hlink with hlink | ⟨host, hlink⟩
  · exact va_get (D := D) (ci := ci) hx hb hts hin hown hE.1 hP 0 rfl hc j hj (hts _ hlink) (fun _ h => h) hv hd (kk H locs la hW hS hl)
  · exact va_getN (D := D) (ci := ci) (host := host) hx hb hts hin hown hE.1 hP 0 rfl hc j hj (va_Nw.use rfl (hE.2.2.2.2.2.1 _ hlink)) (fun _ h => h) hv hd (kk H locs la hW hS hl)
theorem X_put (C : XB κ D Y A cc own nL R0) {k : Nat} {n : Int} {ci idx j : Nat} {fs : List Value} {v : Value} {ty : FieldType} (hg : g k n = some (.inr (ci, fs))) (hf : xFW own idx ci j ty) (hn : narrow ty v = v) (hfit : fits ty v = true) (hlen : j < fs.length) (hd : decode cc pc = .ok (.putfield idx, 3))
    (kk : X κ D A nL cells slots (pc + 3) l st ad (xup g k n (.inr (ci, fs.set j v)))) : X κ D A nL cells slots pc l (v :: .ref (ad k n) :: st) ad g := by
  obtain ⟨p, lc, e, R, s, m, args, below, meth, c, Q⟩ := κ
  obtain ⟨hx, hb, hml, hown, hts, hE, hA, hlc, hlk, hR⟩ := C
  obtain ⟨Cn, T, N, ty0, ⟨hc, hin, hty, hnm⟩, hj, hlink, hfin, hd'⟩ := hf
  intro H locs la hW hS hl
  have hK := hE.1
  have hap := va_apart (own := own) (ci := ci) hts hin ty0 hty hnm hK hc
  obtain ⟨r, h1, cell, q1, q2, q3, q4⟩ := (hW.1 _ _ _ hg).1
  have hr : r = (Cn, T, N) := Option.some.inj (h1.symm.trans hc)
  subst hr
  obtain ⟨hS', hfc, kC, hkC, hkind⟩ := hK.1 ci _ hc
  obtain ⟨cf, kf, fi, f, hi, hsl⟩ := hS' j hj
  have hlay := hts _ (hin _ (u_in_lay hj))
  unfold u_lay at hlay
  rw [if_neg (by rw [hfin]; decide)] at hlay
  have hst := (u_facts hfc hkC (u_lays hts hin hj) hi).1
  have h6 := u_store hfc hkC hkind hlay hi hd' hn hfit
  rcases hlink with hlink | ⟨host, hlink⟩
  · refine W.putK hx hb (f := f) ⟨hown, hts _ hlink, ⟨_, _, _, hi⟩, hst⟩ (by rw [q2]; exact h6) q1 q3 (by rw [hsl]; exact k2_hasslot (q4 j hj)) rfl rfl hd fun H' e1 e2 e3 => ?_
    rw [hsl] at e1 ⊢
    exact kk H' _ la (hW.set hg ⟨_, hc, t_OB.to (V := updV (vp_V fs) j v) ⟨_, e1, q2, q3, t_set q4 hap hj v⟩ (fun i _ => vp_updV_set hlen v i)⟩ e3) (hS.put e2 e3 (hW.1 _ _ _ hg).2) hl
  · refine va_WputK hx hb (f := f) hown (va_Nw.use rfl (hE.2.2.2.2.2.1 _ hlink)) hi hst (by rw [q2]; exact h6) q1 q3 (by rw [hsl]; exact k2_hasslot (q4 j hj)) rfl rfl hd fun H' e1 e2 e3 => ?_
    rw [hsl] at e1 ⊢
    exact kk H' _ la (hW.set hg ⟨_, hc, t_OB.to (V := updV (vp_V fs) j v) ⟨_, e1, q2, q3, t_set q4 hap hj v⟩ (fun i _ => vp_updV_set hlen v i)⟩ e3) (hS.put e2 e3 (hW.1 _ _ _ hg).2) hl
theorem X_putF (C : XB κ D Y A cc own nL R0) {rt : Option FieldType} {post : xPo} {px : xPx} (M : XM κ D A "<init>" rt R0 post px) {k : Nat} {n : Int} {ci idx j : Nat} {fs : List Value} {v : Value} {ty : FieldType} (hg : g k n = some (.inr (ci, fs))) (hf : xFF own idx ci j ty) (hn : narrow ty v = v) (hfit : fits ty v = true) (hlen : j < fs.length) (hd : decode cc pc = .ok (.putfield idx, 3))
    (kk : X κ D A nL cells slots (pc + 3) l st ad (xup g k n (.inr (ci, fs.set j v)))) : X κ D A nL cells slots pc l (v :: .ref (ad k n) :: st) ad g := by
  obtain ⟨p, lc, e, R, s, m, args, below, meth, c, Q⟩ := κ
  obtain ⟨hx, hb, hml, hown, hts, hE, hA, hlc, hlk, hR⟩ := C
  obtain ⟨Cn, T, N, ty0, ⟨hc, hin, hty, hnm⟩, hj, hlink, hfin, hdecl, hd'⟩ := hf
  intro H locs la hW hS hl
  have hK := hE.1
  have hap := va_apart (own := own) (ci := ci) hts hin ty0 hty hnm hK hc
  obtain ⟨r, h1, cell, q1, q2, q3, q4⟩ := (hW.1 _ _ _ hg).1
  have hr : r = (Cn, T, N) := Option.some.inj (h1.symm.trans hc)
  subst hr
  obtain ⟨hS', hfc, kC, hkC, hkind⟩ := hK.1 ci _ hc
  obtain ⟨cf, kf, fi, f, hi, hsl⟩ := hS' j hj
  have hlay := hts _ (hin _ (u_in_lay hj))
  unfold u_lay at hlay
  rw [if_pos hfin] at hlay
  have hst := (u_facts hfc hkC (u_lays hts hin hj) hi).1
  have hcf : m.cls = cf := by
    obtain ⟨_, _, c', _, _, _, -, -, hf', -, -, -, hown2, -⟩ := Cond.laysFinal_spec hlay
    have e1 : c' = cf := by have := hi.symm.trans hf'; simp at this; exact this.1.symm
    rw [hdecl] at hown2
    rw [← e1]; exact Option.some.inj (hown.symm.trans hown2)
  have h6 := u_fits hfc hkC hkind (Or.inr hlay) hi hd' hn hfit
  refine W.putFinK hx hb hown (hts _ hlink) hi hst hcf M.2.2.1 (by rw [q2]; exact h6) q1 q3 (by rw [hsl]; exact k2_hasslot (q4 j hj)) rfl rfl hd fun H' e1 e2 e3 => ?_
  rw [hsl] at e1 ⊢
  exact kk H' _ la (hW.set hg ⟨_, hc, t_OB.to (V := updV (vp_V fs) j v) ⟨_, e1, q2, q3, t_set q4 hap hj v⟩ (fun i _ => vp_updV_set hlen v i)⟩ e3) (hS.put e2 e3 (hW.1 _ _ _ hg).2) hl
theorem X_iald (C : XB κ D Y A cc own nL R0) {k : Nat} {n : Int} {N : Nat} {f : Nat → Int32} {z : Int} {v : Int32} (hg : g k n = some (.inl (Y 0, N, .inl f))) (h0 : 0 ≤ z) (h1 : z < N) (hN : N ≤ 2147483647) (hv : f z.toNat = v) (hd : decode cc pc = .ok (.iaload, 1))
    (kk : X κ D A nL cells slots (pc + 1) l (.int v :: st) ad g) : X κ D A nL cells slots pc l (.int (iI z) :: .ref (ad k n) :: st) ad g := by
  obtain ⟨p, lc, e, R, s, m, args, below, meth, c, Q⟩ := κ
  obtain ⟨hx, hb, hml, hown, hts, hE, hA, hlc, hlk, hR⟩ := C
  intro H locs la hW hS hl
  have hr : rg z := by constructor <;> omega
  have hlt : z.toNat < N := by omega
  have ho : vp_in (iI z) N := iI_in h0 h1 hN
  exact W.iald (v := .int v) hx hb (hW.1 _ _ _ hg).1 ((hE.1.2 0 _ rfl).1 N (fun j => .int (f j))) (fun q => by cases q) (by show ¬ (_ ∨ (arrV _ _ _).slots.size ≤ _); rw [arrV_size]; exact ho) (by show (arrV _ _ _).slots[_]? = _; rw [iI_clamp hr, arrV_read _ _ hlt, hv]) rfl rfl hd (kk H locs la hW hS hl)
theorem X_zald (C : XB κ D Y A cc own nL R0) {k : Nat} {n : Int} {N : Nat} {f : Nat → Int32} {z : Int} {v : Int32} (hg : g k n = some (.inl (Y 1, N, .inl f))) (h0 : 0 ≤ z) (h1 : z < N) (hN : N ≤ 2147483647) (hv : f z.toNat = v) (hd : decode cc pc = .ok (.baload, 1))
    (kk : X κ D A nL cells slots (pc + 1) l (.int v :: st) ad g) : X κ D A nL cells slots pc l (.int (iI z) :: .ref (ad k n) :: st) ad g := by
  obtain ⟨p, lc, e, R, s, m, args, below, meth, c, Q⟩ := κ
  obtain ⟨hx, hb, hml, hown, hts, hE, hA, hlc, hlk, hR⟩ := C
  intro H locs la hW hS hl
  have hr : rg z := by constructor <;> omega
  have hlt : z.toNat < N := by omega
  have ho : vp_in (iI z) N := iI_in h0 h1 hN
  exact W.zald (v := .int v) hx hb (hW.1 _ _ _ hg).1 ((hE.1.2 1 _ rfl).1 N (fun j => .int (f j))) (fun q => by cases q) (by show ¬ (_ ∨ (arrV _ _ _).slots.size ≤ _); rw [arrV_size]; exact ho) (by show (arrV _ _ _).slots[_]? = _; rw [iI_clamp hr, arrV_read _ _ hlt, hv]) rfl rfl hd (kk H locs la hW hS hl)
theorem X_lald (C : XB κ D Y A cc own nL R0) {k : Nat} {n : Int} {N : Nat} {f : Nat → Int64} {z : Int} {v : Int64} (hg : g k n = some (.inl (Y 2, N, .inr (.inl f)))) (h0 : 0 ≤ z) (h1 : z < N) (hN : N ≤ 2147483647) (hv : f z.toNat = v) (hd : decode cc pc = .ok (.laload, 1))
    (kk : X κ D A nL cells slots (pc + 1) l (.long v :: st) ad g) : X κ D A nL cells slots pc l (.int (iI z) :: .ref (ad k n) :: st) ad g := by
  obtain ⟨p, lc, e, R, s, m, args, below, meth, c, Q⟩ := κ
  obtain ⟨hx, hb, hml, hown, hts, hE, hA, hlc, hlk, hR⟩ := C
  intro H locs la hW hS hl
  have hr : rg z := by constructor <;> omega
  have hlt : z.toNat < N := by omega
  have ho : vp_in (iI z) N := iI_in h0 h1 hN
  exact W.lald (v := .long v) hx hb (hW.1 _ _ _ hg).1 ((hE.1.2 2 _ rfl).1 N (fun j => .long (f j))) (fun q => by cases q) (by show ¬ (_ ∨ (arrV _ _ _).slots.size ≤ _); rw [arrV_size]; exact ho) (by show (arrV _ _ _).slots[_]? = _; rw [iI_clamp hr, arrV_read _ _ hlt, hv]) rfl rfl hd (kk H locs la hW hS hl)
theorem X_dald (C : XB κ D Y A cc own nL R0) {k : Nat} {n : Int} {N : Nat} {f : Nat → UInt64} {z : Int} {v : UInt64} (hg : g k n = some (.inl (Y 3, N, .inr (.inr (.inr (.inl f)))))) (h0 : 0 ≤ z) (h1 : z < N) (hN : N ≤ 2147483647) (hv : f z.toNat = v) (hd : decode cc pc = .ok (.daload, 1))
    (kk : X κ D A nL cells slots (pc + 1) l (.double v :: st) ad g) : X κ D A nL cells slots pc l (.int (iI z) :: .ref (ad k n) :: st) ad g := by
  obtain ⟨p, lc, e, R, s, m, args, below, meth, c, Q⟩ := κ
  obtain ⟨hx, hb, hml, hown, hts, hE, hA, hlc, hlk, hR⟩ := C
  intro H locs la hW hS hl
  have hr : rg z := by constructor <;> omega
  have hlt : z.toNat < N := by omega
  have ho : vp_in (iI z) N := iI_in h0 h1 hN
  exact W.dald (v := .double v) hx hb (hW.1 _ _ _ hg).1 ((hE.1.2 3 _ rfl).1 N (fun j => .double (f j))) (fun q => by cases q) (by show ¬ (_ ∨ (arrV _ _ _).slots.size ≤ _); rw [arrV_size]; exact ho) (by show (arrV _ _ _).slots[_]? = _; rw [iI_clamp hr, arrV_read _ _ hlt, hv]) rfl rfl hd (kk H locs la hW hS hl)
theorem X_aald (C : XB κ D Y A cc own nL R0) {k t : Nat} {n : Int} {N : Nat} {Cn : String} {f : Nat → Option Nat} {z : Int} {v : Nat} (hg : g k n = some (.inl (Y t, N, .inr (.inr (.inr (.inr f)))))) (ht : (xTys Y)[t]? = some (Y t, .object Cn)) (h0 : 0 ≤ z) (h1 : z < N) (hN : N ≤ 2147483647) (hv : f z.toNat = some v) (hd : decode cc pc = .ok (.aaload, 1))
    (kk : X κ D A nL cells slots (pc + 1) l (.ref v :: st) ad g) : X κ D A nL cells slots pc l (.int (iI z) :: .ref (ad k n) :: st) ad g := by
  obtain ⟨p, lc, e, R, s, m, args, below, meth, c, Q⟩ := κ
  obtain ⟨hx, hb, hml, hown, hts, hE, hA, hlc, hlk, hR⟩ := C
  intro H locs la hW hS hl
  have hr : rg z := by constructor <;> omega
  have hlt : z.toNat < N := by omega
  have ho : vp_in (iI z) N := iI_in h0 h1 hN
  exact W.aald (v := .ref v) (ty := .object Cn) hx hb (hW.1 _ _ _ hg).1 ((hE.1.2 t _ ht).1 N (fun j => va_rf (f j))) rfl (fun q => by cases q) (by show ¬ (_ ∨ (arrV _ _ _).slots.size ≤ _); rw [arrV_size]; exact ho) (by show (arrV _ _ _).slots[_]? = _; rw [iI_clamp hr, arrV_read _ _ hlt, hv]; rfl) rfl rfl hd (kk H locs la hW hS hl)
theorem X_iast (C : XB κ D Y A cc own nL R0) {k : Nat} {n : Int} {N : Nat} {f : Nat → Int32} {z : Int} {x : Int32} (hg : g k n = some (.inl (Y 0, N, .inl f))) (h0 : 0 ≤ z) (h1 : z < N) (hN : N ≤ 2147483647) (hd : decode cc pc = .ok (.iastore, 1))
    (kk : X κ D A nL cells slots (pc + 1) l st ad (xup g k n (.inl (Y 0, N, .inl (upd f z.toNat x))))) : X κ D A nL cells slots pc l (.int x :: .int (iI z) :: .ref (ad k n) :: st) ad g := by
  obtain ⟨p, lc, e, R, s, m, args, below, meth, c, Q⟩ := κ
  obtain ⟨hx, hb, hml, hown, hts, hE, hA, hlc, hlk, hR⟩ := C
  intro H locs la hW hS hl
  have hr : rg z := by constructor <;> omega
  have ho : vp_in (iI z) N := iI_in h0 h1 hN
  refine W.iast hx hb (hW.1 _ _ _ hg).1 ((hE.1.2 0 _ rfl).1 N (fun j => .int (f j))) (fun q => by cases q) (by show ¬ (_ ∨ (arrV _ _ _).slots.size ≤ _); rw [arrV_size]; exact ho) rfl rfl hd fun H1 e1 z1 oq => ?_
  refine kk H1 _ la (hW.set hg ?_ oq) (hS.put z1 oq (hW.1 _ _ _ hg).2) hl
  show H1[ad k n]? = some (vp_cell _ _)
  rw [e1, iI_clamp hr]
  rw [vp_cell_i, vp_cell_i, arrV_store]
  congr 2
  funext q
  by_cases hq : q = z.toNat
  · subst hq
    simp [updV, upd]
  · simp [updV, upd, hq]
theorem X_zast (C : XB κ D Y A cc own nL R0) {k : Nat} {n : Int} {N : Nat} {f : Nat → Int32} {z : Int} {x : Int32} (hx1 : x = 0 ∨ x = 1) (hg : g k n = some (.inl (Y 1, N, .inl f))) (h0 : 0 ≤ z) (h1 : z < N) (hN : N ≤ 2147483647) (hd : decode cc pc = .ok (.bastore, 1))
    (kk : X κ D A nL cells slots (pc + 1) l st ad (xup g k n (.inl (Y 1, N, .inl (upd f z.toNat x))))) : X κ D A nL cells slots pc l (.int x :: .int (iI z) :: .ref (ad k n) :: st) ad g := by
  obtain ⟨p, lc, e, R, s, m, args, below, meth, c, Q⟩ := κ
  obtain ⟨hx, hb, hml, hown, hts, hE, hA, hlc, hlk, hR⟩ := C
  intro H locs la hW hS hl
  have hr : rg z := by constructor <;> omega
  have ho : vp_in (iI z) N := iI_in h0 h1 hN
  have hnar : vp_nar .boolean x = x := by
    rcases hx1 with rfl | rfl <;> rfl
  refine W.zast hx hb (hW.1 _ _ _ hg).1 ((hE.1.2 1 _ rfl).1 N (fun j => .int (f j))) (fun q => by cases q) (by show ¬ (_ ∨ (arrV _ _ _).slots.size ≤ _); rw [arrV_size]; exact ho) rfl rfl hd fun H1 e1 z1 oq => ?_
  refine kk H1 _ la (hW.set hg ?_ oq) (hS.put z1 oq (hW.1 _ _ _ hg).2) hl
  show H1[ad k n]? = some (vp_cell _ _)
  rw [e1, iI_clamp hr]
  rw [vp_cell_i, vp_cell_i, arrV_store]
  congr 2
  funext q
  by_cases hq : q = z.toNat
  · subst hq
    rcases hx1 with rfl | rfl <;> (simp [updV, upd]; try rfl)
  · simp [updV, upd, hq]
theorem X_last (C : XB κ D Y A cc own nL R0) {k : Nat} {n : Int} {N : Nat} {f : Nat → Int64} {z : Int} {x : Int64} (hg : g k n = some (.inl (Y 2, N, .inr (.inl f)))) (h0 : 0 ≤ z) (h1 : z < N) (hN : N ≤ 2147483647) (hd : decode cc pc = .ok (.lastore, 1))
    (kk : X κ D A nL cells slots (pc + 1) l st ad (xup g k n (.inl (Y 2, N, .inr (.inl (vp_updL f z.toNat x)))))) : X κ D A nL cells slots pc l (.long x :: .int (iI z) :: .ref (ad k n) :: st) ad g := by
  obtain ⟨p, lc, e, R, s, m, args, below, meth, c, Q⟩ := κ
  obtain ⟨hx, hb, hml, hown, hts, hE, hA, hlc, hlk, hR⟩ := C
  intro H locs la hW hS hl
  have hr : rg z := by constructor <;> omega
  have ho : vp_in (iI z) N := iI_in h0 h1 hN
  refine W.last hx hb (hW.1 _ _ _ hg).1 ((hE.1.2 2 _ rfl).1 N (fun j => .long (f j))) (fun q => by cases q) (by show ¬ (_ ∨ (arrV _ _ _).slots.size ≤ _); rw [arrV_size]; exact ho) rfl rfl hd fun H1 e1 z1 oq => ?_
  refine kk H1 _ la (hW.set hg ?_ oq) (hS.put z1 oq (hW.1 _ _ _ hg).2) hl
  show H1[ad k n]? = some (vp_cell _ _)
  rw [e1, iI_clamp hr]
  rw [vp_cell_l, vp_cell_l, arrV_store]
  congr 2
  funext q
  by_cases hq : q = z.toNat
  · subst hq
    simp [updV, vp_updL]
  · simp [updV, vp_updL, hq]
theorem X_dast (C : XB κ D Y A cc own nL R0) {k : Nat} {n : Int} {N : Nat} {f : Nat → UInt64} {z : Int} {x : UInt64} (hg : g k n = some (.inl (Y 3, N, .inr (.inr (.inr (.inl f)))))) (h0 : 0 ≤ z) (h1 : z < N) (hN : N ≤ 2147483647) (hd : decode cc pc = .ok (.dastore, 1))
    (kk : X κ D A nL cells slots (pc + 1) l st ad (xup g k n (.inl (Y 3, N, .inr (.inr (.inr (.inl (vf_upd f z.toNat x)))))))) : X κ D A nL cells slots pc l (.double x :: .int (iI z) :: .ref (ad k n) :: st) ad g := by
  obtain ⟨p, lc, e, R, s, m, args, below, meth, c, Q⟩ := κ
  obtain ⟨hx, hb, hml, hown, hts, hE, hA, hlc, hlk, hR⟩ := C
  intro H locs la hW hS hl
  have hr : rg z := by constructor <;> omega
  have ho : vp_in (iI z) N := iI_in h0 h1 hN
  refine W.dast hx hb (hW.1 _ _ _ hg).1 ((hE.1.2 3 _ rfl).1 N (fun j => .double (f j))) (fun q => by cases q) (by show ¬ (_ ∨ (arrV _ _ _).slots.size ≤ _); rw [arrV_size]; exact ho) rfl rfl hd fun H1 e1 z1 oq => ?_
  refine kk H1 _ la (hW.set hg ?_ oq) (hS.put z1 oq (hW.1 _ _ _ hg).2) hl
  show H1[ad k n]? = some (vp_cell _ _)
  rw [e1, iI_clamp hr]
  rw [vp_cell_d, vp_cell_d, arrV_store]
  congr 2
  funext q
  by_cases hq : q = z.toNat
  · subst hq
    simp [updV, vf_upd]
  · simp [updV, vf_upd, hq]
theorem X_aast (C : XB κ D Y A cc own nL R0) {k t k2 : Nat} {n n2 : Int} {N ci : Nat} {r : vw_C} {vs : List Value} {f : Nat → Option Nat} {z : Int} (hg : g k n = some (.inl (Y t, N, .inr (.inr (.inr (.inr f)))))) (ht : (xTys Y)[t]? = some (Y t, .object r.1)) (hc : vwCl[ci]? = some r) (hg2 : g k2 n2 = some (.inr (ci, vs))) (h0 : 0 ≤ z) (h1 : z < N) (hN : N ≤ 2147483647) (hd : decode cc pc = .ok (.aastore, 1))
    (kk : X κ D A nL cells slots (pc + 1) l st ad (xup g k n (.inl (Y t, N, .inr (.inr (.inr (.inr (va_up f z.toNat (some (ad k2 n2)))))))))) : X κ D A nL cells slots pc l (.ref (ad k2 n2) :: .int (iI z) :: .ref (ad k n) :: st) ad g := by
  obtain ⟨p, lc, e, R, s, m, args, below, meth, c, Q⟩ := κ
  obtain ⟨hx, hb, hml, hown, hts, hE, hA, hlc, hlk, hR⟩ := C
  intro H locs la hW hS hl
  have hr : rg z := by constructor <;> omega
  have hlt : z.toNat < N := by omega
  have ho : vp_in (iI z) N := iI_in h0 h1 hN
  have hz0 : ¬ iI z < 0 := fun q => ho (Or.inl q)
  obtain ⟨r', hr', cellV, g1, g2, g3, -⟩ := (hW.1 _ _ _ hg2).1
  have hcls := (hE.1.1 ci r hc).2
  obtain ⟨kA, comp, k1, k2, k3, -⟩ := (hE.1.2 t _ ht).2
  have hcomp : comp = D.1 ci := Option.some.inj (k3.symm.trans hcls.1)
  subst hcomp
  obtain ⟨kC, hkC, -⟩ := hcls.2
  refine W.aast hx hb (hW.1 _ _ _ hg).1 (fun q h => by cases h) (fun h => by cases h) k1 k2 rfl hkC ⟨hz0, by show _ < (arrV _ _ _).slots.size; rw [arrV_size, iI_clamp hr]; exact hlt⟩ g1 (fun q h => by rw [g3] at h; cases h) (by rw [g2]; exact hkC) (by rw [g2]; exact va_assign hcls) rfl rfl hd fun H1 e1 z1 oq => ?_
  refine kk H1 _ la (hW.set hg ?_ oq) (hS.put z1 oq (hW.1 _ _ _ hg).2) hl
  show H1[ad k n]? = some (vp_cell _ _)
  rw [e1, iI_clamp hr]
  rw [vp_cell_q, vp_cell_q, arrV_store]
  congr 2
  funext q
  by_cases hq : q = z.toNat
  · subst hq
    simp [updV, va_up, va_rf]
  · simp [updV, va_up, hq]
theorem X_new (C : XB κ D Y A cc own nL R0) {k : Nat} {n : Int} {ci idx : Nat} {Cn : String} {T : u_T} {N : Nat} {ty0 : Nat → FieldType} {fs : List Value} (hg : g k n = none) (hc : xCl ci Cn T N ty0) (hcl : Cond.classLink own idx Cn ∈ gw) (hins : Cond.instantiable Cn N ∈ gw) (hini : Cond.initialized Cn ∈ gw) (hfs : ∀ j, j < N → defaultValue (ty0 j) = vp_V fs j) (hcells : cells + 1 ≤ R0.cells) (hslots : slots + N ≤ R0.slots) (hd : decode cc pc = .ok (.new idx, 3))
    (kk : ∀ q : Nat, X κ D A nL (cells + 1) (slots + N) (pc + 3) l (.ref (xua ad k n q k n) :: st) (xua ad k n q) (xup g k n (.inr (ci, fs)))) : X κ D A nL cells slots pc l st ad g := by
  obtain ⟨p, lc, e, R, s, m, args, below, meth, c, Q⟩ := κ
  obtain ⟨hx, hb, hml, hown, hts, hE, hA, hlc, hlk, hR⟩ := C
  subst hR
  obtain ⟨hc, hin, hty, hnm⟩ := hc
  intro H locs la hW hS hl
  have hKn := hE.1.1 ci _ hc
  refine W.newcK hx hb hown (hts _ hcl) (hts _ hins) (hts _ hini) rfl hd hcells hslots hKn.2.1 rfl fun H1 kC hkC e1 z1 o1 => ?_
  have h := kk H.size
  rw [xua_s] at h
  exact h H1 _ la (hW.push hg ⟨_, hc, (u_born ty0 hts hin hKn hkC e1 hty).to hfs⟩ rfl (hA _ hS.1) o1) ⟨Nat.le_trans hS.1 (by omega), fun x h1 h2 => (o1 x (Nat.lt_of_lt_of_le h1 hS.1)).trans (hS.2.1 x h1 h2), hS.2.2⟩ hl
theorem X_newa (C : XB κ D Y A cc own nL R0) {k : Nat} {n : Int} {t : Nat} {atype : ArrayType} {N : Nat} {z : Int} {x : vp_A} (hg : g k n = none) (harr : Cond.arrayClass (newarray.typeOf atype) ∈ gw) (ht : (xTys Y)[t]? = some (Y t, newarray.typeOf atype)) (hra : ∀ U cA, va_RA U cA (newarray.typeOf atype) → U.vm.findClass ("[" ++ (newarray.typeOf atype).toString) = some cA) (hz : z = (N : Int)) (hN : N ≤ 2147483647) (hbytes : N * componentBytes (newarray.typeOf atype) ≤ 536870912) (hxc : ∀ cA : ClassId, vp_cell cA x = arrV cA N (fun _ => defaultValue (newarray.typeOf atype))) (hcells : cells + 1 ≤ R0.cells) (hslots : slots + N ≤ R0.slots) (hd : decode cc pc = .ok (.newarray atype, 2))
    (kk : ∀ q : Nat, X κ D A nL (cells + 1) (slots + N) (pc + 2) l (.ref (xua ad k n q k n) :: st) (xua ad k n q) (xup g k n (.inl (Y t, x)))) : X κ D A nL cells slots pc l (.int (iI z) :: st) ad g := by
  obtain ⟨p, lc, e, R, s, m, args, below, meth, c, Q⟩ := κ
  obtain ⟨hx, hb, hml, hown, hts, hE, hA, hlc, hlk, hR⟩ := C
  subst hR
  subst hz
  intro H locs la hW hS hl
  have hr : rg (N : Int) := by constructor <;> omega
  refine va_newaK hx hb (hts _ harr) rfl hd rfl (fun q => by rw [iI_0, iI_lt hr rg0] at q; omega) (by rw [iI_clamp hr]; rfl) hbytes hcells hslots rfl fun H1 cA e1 z1 o1 hAr hNm => ?_
  have hcA : cA = Y t := Option.some.inj (hNm.symm.trans (hra _ _ (hE.1.2 t _ ht).2))
  subst hcA
  have h := kk H.size
  rw [xua_s] at h
  refine h H1 _ la (hW.push hg ?_ rfl (hA _ hS.1) o1) ⟨Nat.le_trans hS.1 (by omega), fun x h1 h2 => (o1 x (Nat.lt_of_lt_of_le h1 hS.1)).trans (hS.2.1 x h1 h2), hS.2.2⟩ hl
  show H1[H.size]? = some (vp_cell _ _)
  rw [hxc]
  exact e1
theorem X_anewa (C : XB κ D Y A cc own nL R0) {k : Nat} {n : Int} {t idx : Nat} {Cn : String} {N : Nat} {z : Int} (hg : g k n = none) (hcl : Cond.classLink own idx Cn ∈ gw) (hao : ∀ U, xGE D Y A U → va_AO Cn U) (ht : (xTys Y)[t]? = some (Y t, .object Cn)) (hz : z = (N : Int)) (hN : N ≤ 1000) (hcells : cells + 1 ≤ R0.cells) (hslots : slots + N ≤ R0.slots) (hd : decode cc pc = .ok (.anewarray idx, 3))
    (kk : ∀ q : Nat, X κ D A nL (cells + 1) (slots + N) (pc + 3) l (.ref (xua ad k n q k n) :: st) (xua ad k n q) (xup g k n (.inl (Y t, N, .inr (.inr (.inr (.inr (fun _ => none)))))))) : X κ D A nL cells slots pc l (.int (iI z) :: st) ad g := by
  obtain ⟨p, lc, e, R, s, m, args, below, meth, c, Q⟩ := κ
  obtain ⟨hx, hb, hml, hown, hts, hE, hA, hlc, hlk, hR⟩ := C
  subst hR
  subst hz
  intro H locs la hW hS hl
  have hr : rg (N : Int) := by constructor <;> omega
  have hcl0 : (iI (N : Int)).toNatClampNeg = N := by rw [iI_clamp hr]; rfl
  refine W.anew hx hb hown (hts _ hcl) (va_AO.use (hao _ hE)) rfl hd rfl (fun q => by rw [iI_0, iI_lt hr rg0] at q; omega) (by rw [hcl0]; omega) hcells (by rw [hcl0]; exact hslots) fun cA kA comp f1 f2 f3 f4 => ?_
  rw [hcl0]
  generalize hH1 : H.push ({ cls := cA, slots := Array.replicate N .null, vm := .none } : Cell) = H1
  have z1 : H1.size = H.size + 1 := by rw [← hH1, Array.size_push]
  have e1 : H1[H.size]? = some (arrV cA N (fun _ => .null)) := by rw [← hH1, Array.getElem?_push_size, ← arrV_new]
  have o1 : ∀ q : Nat, q < H.size → H1[q]? = H[q]? := fun q hq => by rw [← hH1, Array.getElem?_push, if_neg (Nat.ne_of_lt hq)]
  obtain ⟨kA', comp', a1, a2, a3, a4⟩ := (hE.1.2 t _ ht).2
  have hcA : cA = Y t := Option.some.inj (f1.symm.trans a4)
  subst hcA
  have h := kk H.size
  rw [xua_s] at h
  refine h H1 _ la (hW.push hg ?_ rfl (hA _ hS.1) o1) ⟨Nat.le_trans hS.1 (by omega), fun x h1 h2 => (o1 x (Nat.lt_of_lt_of_le h1 hS.1)).trans (hS.2.1 x h1 h2), hS.2.2⟩ hl
  show H1[H.size]? = some (vp_cell _ _)
  rw [vp_cell_q]
  exact e1
theorem X_objInit (C : XB κ D Y A cc own nL R0) {idx : Nat} {a : Nat} (h1 : Cond.methodLink own idx Lib.objectInit ∈ gw) (h2 : Cond.instanceMethod Lib.objectInit ∈ gw) (h3 : Cond.code Lib.objectInit ⟨#[0xb1]⟩ 1 none ∈ gw) (hfr : 1 ≤ R0.frames) (hlo : (st.map fun v => v.category).sum + 12 ≤ R0.locals) (hd : decode cc pc = .ok (.invokespecial idx, 3))
    (kk : X κ D A nL cells slots (pc + 3) l st ad g) : X κ D A nL cells slots pc l (.ref a :: st) ad g := by
  obtain ⟨p, lc, e, R, s, m, args, below, meth, c, Q⟩ := κ
  obtain ⟨hx, hb, hml, hown, hts, hE, hA, hlc, hlk, hR⟩ := C
  subst hR
  intro H locs la hW hS hl
  refine W.objInit hx hb hown (hts _ h1) (hts _ h2) (hts _ h3) rfl (by rw [hml]; exact hl.1) rfl hd hfr ?_ (kk H locs la hW hS hl)
  show 2 * 0 + _ + 12 ≤ _
  omega
/-! ends -/
theorem x_end {Q' : State → Prop} {cells' slots' : Nat} {p : Program} {lc : Launch} {e : Env} {R : Room} {s : State} {m : MethodId} {args : Array Value} {below : List Frame} {meth : Method} {c : Code} {H : Heap} {locs : List Loc} {gf : JFrame} {post : xPo} {px : xPx} (hc : cells ≤ cells') (hs : slots ≤ slots') (hq : Q' = vx_MQ below (cQ D A post) (cX D A px) args s cells' slots' A)
    (kk : W p lc e R s m args below meth c H locs cells' slots' (MQ below (cQ D A post) args s cells' slots' A) gf) : W p lc e R s m args below meth c H locs cells slots Q' gf := by
  subst hq
  exact W.widen hc hs (vx_ret kk)
theorem X_ireturn (C : XB κ D Y A cc own nL R0) {ty : FieldType} {nm : String} {post : xPo} {px : xPx} (M : XM κ D A nm (some ty) R0 post px) {v : Int32} (hn : narrow ty (.int v) = .int v) (hc : cells ≤ R0.cells) (hs : slots ≤ R0.slots) (hd : decode cc pc = .ok (.ireturn, 1)) (hp : post (some (.int v)) ad g) : X κ D A nL cells slots pc l [.int v] ad g := by
  obtain ⟨p, lc, e, R, s, m, args, below, meth, c, Q⟩ := κ
  obtain ⟨hx, hb, hml, hown, hts, hE, hA, hlc, hlk, hR⟩ := C
  obtain ⟨-, hr, -, -, hQ⟩ := M
  intro H locs la hW hS hl
  exact x_end hc hs hQ (W.zret (ty := ty) hx hb hr hn (fun t ht hWm => ⟨⟨_, ad, g, rfl, hp, by rw [ht]; exact hW⟩, hS.F ht⟩) hS.2.2 hd hlk)
theorem X_return (C : XB κ D Y A cc own nL R0) {nm : String} {post : xPo} {px : xPx} (M : XM κ D A nm none R0 post px) (hc : cells ≤ R0.cells) (hs : slots ≤ R0.slots) (hd : decode cc pc = .ok (.return_, 1)) (hp : post none ad g) : X κ D A nL cells slots pc l [] ad g := by
  obtain ⟨p, lc, e, R, s, m, args, below, meth, c, Q⟩ := κ
  obtain ⟨hx, hb, hml, hown, hts, hE, hA, hlc, hlk, hR⟩ := C
  obtain ⟨-, hr, -, -, hQ⟩ := M
  intro H locs la hW hS hl
  exact x_end hc hs hQ (W.vret hx hb hr (fun t ht hWm => ⟨⟨_, ad, g, rfl, hp, by rw [ht]; exact hW⟩, hS.F ht⟩) hS.2.2 hd hlk)
theorem X_areturn (C : XB κ D Y A cc own nL R0) {Cn nm : String} {post : xPo} {px : xPx} (M : XM κ D A nm (some (.object Cn)) R0 post px) {a : Nat} (hc : cells ≤ R0.cells) (hs : slots ≤ R0.slots) (hd : decode cc pc = .ok (.areturn, 1)) (hp : post (some (.ref a)) ad g) : X κ D A nL cells slots pc l [.ref a] ad g := by
  obtain ⟨p, lc, e, R, s, m, args, below, meth, c, Q⟩ := κ
  obtain ⟨hx, hb, hml, hown, hts, hE, hA, hlc, hlk, hR⟩ := C
  obtain ⟨-, hr, -, -, hQ⟩ := M
  intro H locs la hW hS hl
  exact x_end hc hs hQ (W.aret hx hb hr (Or.inl ⟨_, rfl⟩) (Or.inr ⟨_, rfl⟩) (fun t ht hWm => ⟨⟨_, ad, g, rfl, hp, by rw [ht]; exact hW⟩, hS.F ht⟩) hS.2.2 hd hlk)
theorem X_lreturn (C : XB κ D Y A cc own nL R0) {nm : String} {post : xPo} {px : xPx} (M : XM κ D A nm (some .long) R0 post px) {v : Int64} (hc : cells ≤ R0.cells) (hs : slots ≤ R0.slots) (hd : decode cc pc = .ok (.lreturn, 1)) (hp : post (some (.long v)) ad g) : X κ D A nL cells slots pc l [.long v] ad g := by
  obtain ⟨p, lc, e, R, s, m, args, below, meth, c, Q⟩ := κ
  obtain ⟨hx, hb, hml, hown, hts, hE, hA, hlc, hlk, hR⟩ := C
  obtain ⟨-, hr, -, -, hQ⟩ := M
  intro H locs la hW hS hl
  exact x_end hc hs hQ (W.lret hx hb hr (fun t ht hWm => ⟨⟨_, ad, g, rfl, hp, by rw [ht]; exact hW⟩, hS.F ht⟩) hS.2.2 hd hlk)
theorem X_freturn (C : XB κ D Y A cc own nL R0) {nm : String} {post : xPo} {px : xPx} (M : XM κ D A nm (some .float) R0 post px) {v : UInt32} (hc : cells ≤ R0.cells) (hs : slots ≤ R0.slots) (hd : decode cc pc = .ok (.freturn, 1)) (hp : post (some (.float v)) ad g) : X κ D A nL cells slots pc l [.float v] ad g := by
  obtain ⟨p, lc, e, R, s, m, args, below, meth, c, Q⟩ := κ
  obtain ⟨hx, hb, hml, hown, hts, hE, hA, hlc, hlk, hR⟩ := C
  obtain ⟨-, hr, -, -, hQ⟩ := M
  intro H locs la hW hS hl
  exact x_end hc hs hQ (W.fret hx hb hr (fun t ht hWm => ⟨⟨_, ad, g, rfl, hp, by rw [ht]; exact hW⟩, hS.F ht⟩) hS.2.2 hd hlk)
theorem X_dreturn (C : XB κ D Y A cc own nL R0) {nm : String} {post : xPo} {px : xPx} (M : XM κ D A nm (some .double) R0 post px) {v : UInt64} (hc : cells ≤ R0.cells) (hs : slots ≤ R0.slots) (hd : decode cc pc = .ok (.dreturn, 1)) (hp : post (some (.double v)) ad g) : X κ D A nL cells slots pc l [.double v] ad g := by
  obtain ⟨p, lc, e, R, s, m, args, below, meth, c, Q⟩ := κ
  obtain ⟨hx, hb, hml, hown, hts, hE, hA, hlc, hlk, hR⟩ := C
  obtain ⟨-, hr, -, -, hQ⟩ := M
  intro H locs la hW hS hl
  exact x_end hc hs hQ (W.dret hx hb hr (fun t ht hWm => ⟨⟨_, ad, g, rfl, hp, by rw [ht]; exact hW⟩, hS.F ht⟩) hS.2.2 hd hlk)
end XH
end
section
/-! calls and throws -/
abbrev rmL (k c s : Nat) : Room := { frames := 6 + k, cells := c, slots := s, locals := 100 + 40 * k }
def xroom (rm : Room) (nL' : Nat) (R0 : Room) (cells slots : Nat) : Bool := Nat.ble (rm.frames + 1) R0.frames && Nat.ble (8 + (nL' + 11) + rm.locals) R0.locals && Nat.ble (cells + rm.cells) R0.cells && Nat.ble (slots + rm.slots) R0.slots
theorem xroom_spec {rm R0 : Room} {nL' cells slots : Nat} (h : xroom rm nL' R0 cells slots = true) : rm.frames + 1 ≤ R0.frames ∧ 8 + (nL' + 11) + rm.locals ≤ R0.locals ∧ cells + rm.cells ≤ R0.cells ∧ slots + rm.slots ≤ R0.slots := by
  unfold xroom at h
  simp only [Bool.and_eq_true] at h
  exact ⟨Nat.le_of_ble_eq_true h.1.1.1, Nat.le_of_ble_eq_true h.1.1.2, Nat.le_of_ble_eq_true h.1.2, Nat.le_of_ble_eq_true h.2⟩
def xDs (y : MethodName) (np : Nat) : Prop := y.cls ≠ "java/lang/invoke/MethodHandle" ∧ y.cls ≠ "java/lang/invoke/VarHandle" ∧ (parseMethodDescriptor y.desc).map (fun d => d.parameters.length) = some np
def xCV (own : String) (idx : Nat) (y : MethodName) (cc : ByteArray) (nL : Nat) (rt : Option FieldType) (np : Nat) : Prop :=
  Cond.methodLink own idx y ∈ gw ∧ Cond.instanceMethod y ∈ gw ∧ Cond.selects y.cls y y ∈ gw ∧ Cond.initialized y.cls ∈ gw ∧ Cond.code y cc nL rt ∈ gw ∧ xDs y np
def xCS (own : String) (idx : Nat) (y : MethodName) (cc : ByteArray) (nL : Nat) (rt : Option FieldType) (np : Nat) : Prop :=
  Cond.methodLink own idx y ∈ gw ∧ Cond.static y ∈ gw ∧ Cond.initialized y.cls ∈ gw ∧ Cond.code y cc nL rt ∈ gw ∧ xDs y np
def xCI (own : String) (idx : Nat) (y : MethodName) (cc : ByteArray) (nL : Nat) (np : Nat) : Prop :=
  Cond.methodLink own idx y ∈ gw ∧ Cond.instanceMethod y ∈ gw ∧ Cond.initialized y.cls ∈ gw ∧ Cond.code y cc nL none ∈ gw ∧ y.name = "<init>" ∧ xDs y np
def XTh (κ : xK) (D : va_G) (A : Nat → Prop) (nL cells slots pc : Nat) (l : List (Option Value)) (rest : List Value) (E : String) (ad : xL) (g : xG) : Prop :=
  match κ with
  | (p, lc, e, R, s, m, args, below, meth, c, Q) => ∀ (H : Heap) (locs : List Loc) (la : Array Slot) (q : Nat) (ce : Cell), xHW D A ad g H → va_S A s.heap H locs → xlh la nL l → H[q]? = some ce → ce.vm = .none → s.vm.findClass E = some ce.cls → vx_W p lc e R s m args below meth c H locs cells slots Q (F0 m pc la rest) q
section XCs
variable {κ : xK} {D : va_G} {Y : Nat → ClassId} {A : Nat → Prop} {cc : ByteArray} {own : String} {nL : Nat} {R0 : Room} {cells slots pc : Nat} {l : List (Option Value)} {st rest : List Value} {ad : xL} {g : xG}
theorem XTh.out (C : XB κ D Y A cc own nL R0) {nm : String} {rt : Option FieldType} {post : xPo} {px : xPx} (M : XM κ D A nm rt R0 post px) {E : String} (h : px E ad g) (hc : cells ≤ R0.cells) (hs : slots ≤ R0.slots) : XTh κ D A nL cells slots pc l rest E ad g := by
  obtain ⟨p, lc, e, R, s, m, args, below, meth, c, Q⟩ := κ
  obtain ⟨hx, hb, hml, hown, hts, hE, hA, hlc, hlk, hR⟩ := C
  obtain ⟨-, hr, -, htab, hQ⟩ := M
  intro H locs la q ce hW hS hl hce hcv hcl
  subst hQ
  exact vx_out (fun x hx => (htab x hx).elim) hlk hce hcv hcl (fun t ht hWm => ⟨⟨ad, g, h, by rw [ht]; exact hW⟩, hS.F ht⟩) hS.2.2 hc hs
theorem x_run {p : Program} {lc : Launch} {e : Env} {R : Room} {s : State} {m : MethodId} {args : Array Value} {below : List Frame} {meth : Method} {c : Code} {Q : State → Prop} {H : Heap} {locs : List Loc} {la : Array Slot} {st0 : List Value} {mc ms : Nat} {a : Array Value} {post' : xPo} {px' : xPx}
    (hr : vx_Run p lc e R s m args below meth c H locs cells slots mc ms (F0 m pc la st0) rest (cQ D A post' a) (cX D A px') A) (hS : va_S A s.heap H locs)
    (kx : ∀ (E : String) (ad' : xL) (g' : xG) (H1 : Heap) (locs1 : List Loc) (q : Nat) (ce : Cell), px' E ad' g' → xHW D A ad' g' H1 → va_S A s.heap H1 locs1 → H1[q]? = some ce → ce.vm = .none → s.vm.findClass E = some ce.cls → vx_W p lc e R s m args below meth c H1 locs1 (cells + mc) (slots + ms) Q (F0 m pc la rest) q)
    (kk : ∀ (r : Option Value) (ad' : xL) (g' : xG) (H1 : Heap) (locs1 : List Loc), post' r ad' g' → xHW D A ad' g' H1 → va_S A s.heap H1 locs1 → W p lc e R s m args below meth c H1 locs1 (cells + mc) (slots + ms) Q (F0 m (pc + 3) la (r.toList ++ rest))) : W p lc e R s m args below meth c H locs cells slots Q (F0 m pc la st0) := by
  intro T hT X
  rcases hr T hT X with ⟨v, st₀, t, T', L, h0, X', hL, e1, e2, ⟨⟨r, ad', g', hv, hp, hw⟩, hF⟩, st⟩ | ⟨q, st₀, t, T', L, E, ce, h0, X', hL, e1, e2, ⟨⟨ad', g', hp, hw⟩, hF⟩, hce, hcv, hcl, st⟩
  · cases hv
    obtain ⟨k1, k2, k3⟩ := vx_keep h0 e1 hS (fun _ _ h => h) (fun _ h => h) hL hF
    obtain ⟨t2, a1, b1⟩ := kk v ad' g' T'.heap (locs ++ L) hp (by rw [e1]; exact hw) k3 T' rfl X'
    exact ⟨t2, st t2 a1, b1⟩
  · obtain ⟨k1, k2, k3⟩ := vx_keep h0 e1 hS (fun _ _ h => h) (fun _ h => h) hL hF
    obtain ⟨t2, a1, b1⟩ := kx E ad' g' T'.heap (locs ++ L) q ce hp (by rw [e1]; exact hw) k3 (by rw [e1]; exact hce) hcv hcl T' rfl X'
    exact ⟨t2, st.trans a1, b1⟩
theorem X_callVg (C : XB κ D Y A cc own nL R0) {y : MethodName} {cc' : ByteArray} {nL' np idx : Nat} {rt' : Option FieldType} {rm' : Room} {bk ci : Nat} {bn : Int} {fs As : List Value} {post' : xPo} {px' : xPx}
    (hM : Ct κ.2.1 y cc' nL' rt' rm' D Y A ad g (.ref (ad bk bn) :: As) post' px') (hw : xCV own idx y cc' nL' rt' np) (hg : g bk bn = some (.inr (ci, fs))) (hcn : ∃ (T : u_T) (N : Nat), vwCl[ci]? = some (y.cls, T, N)) (hn : As.length = np) (hst : st = As.reverse ++ .ref (ad bk bn) :: rest) (hrest : Nat.ble (rest.map fun v => v.category).sum 8 = true) (hroom : xroom rm' nL' R0 cells slots = true) (hd : decode cc pc = .ok (.invokevirtual idx, 3))
    (hx : ∀ (E : String) (ad' : xL) (g' : xG), px' E ad' g' → XTh κ D A nL (cells + rm'.cells) (slots + rm'.slots) pc l rest E ad' g')
    (kk : ∀ (r : Option Value) (ad' : xL) (g' : xG), post' r ad' g' → X κ D A nL (cells + rm'.cells) (slots + rm'.slots) (pc + 3) l (r.toList ++ rest) ad' g') : X κ D A nL cells slots pc l st ad g := by
  obtain ⟨p, lc, e, R, s, m, args, below, meth, c, Q⟩ := κ
  obtain ⟨hex, hb, hml, hown, hts, hE, hA, hlc, hlk, hR⟩ := C
  subst hR
  subst hst
  obtain ⟨w1, w2, w3, w4, w5, w6⟩ := hw
  obtain ⟨r1, r2, r3, r4⟩ := xroom_spec hroom
  obtain ⟨T, N, hcn⟩ := hcn
  intro H locs la hW hS hl
  obtain ⟨q', h1, cellB, g1, g2, g3, -⟩ := (hW.1 _ _ _ hg).1
  have hrun := vx_runV (cells := cells) (slots := slots) (locs := locs) (e := e) (below := below) (meth := meth) ⟨hex, hb, hml, hown, hts⟩ hM (C := y.cls) ⟨callB_of np hts (gw_goodG w5) rfl rfl rfl (hts _ w4) (hts _ w1) w6 ⟨r1, r2⟩, hts _ w2, hts _ w3⟩ (H := H) (b := ad bk bn) (As := As) (rest := rest) (g := F0 m pc la (As.reverse ++ .ref (ad bk bn) :: rest))
    ⟨cP_blind, ⟨cellB, g1, by rw [g3]; rfl, by rw [g2]; exact (hE.1.1 ci _ hcn).2.1⟩, fun U hU hWm => ⟨rfl, hE.moved hS hU hWm, fun q hq => hA q (Nat.le_trans hS.1 (by rw [hU] at hq; exact hq)), by rw [hU]; exact hW⟩⟩ rfl hn hl.1 rfl (lv_room (Nat.le_of_ble_eq_true hrest)) hd ⟨r3, r4⟩
  exact x_run hrun hS (fun E ad' g' H1 locs1 q ce a1 a2 a3 a4 a5 a6 => hx E ad' g' a1 H1 locs1 la q ce a2 a3 hl a4 a5 a6) (fun r ad' g' H1 locs1 a1 a2 a3 => kk r ad' g' a1 H1 locs1 la a2 a3 hl)
theorem X_callSg (C : XB κ D Y A cc own nL R0) {y : MethodName} {cc' : ByteArray} {nL' np idx : Nat} {rt' : Option FieldType} {rm' : Room} {As : List Value} {post' : xPo} {px' : xPx}
    (hM : Ct κ.2.1 y cc' nL' rt' rm' D Y A ad g As post' px') (hw : xCS own idx y cc' nL' rt' np) (hn : As.length = np) (hst : st = As.reverse ++ rest) (hrest : Nat.ble (rest.map fun v => v.category).sum 8 = true) (hroom : xroom rm' nL' R0 cells slots = true) (hd : decode cc pc = .ok (.invokestatic idx, 3))
    (hx : ∀ (E : String) (ad' : xL) (g' : xG), px' E ad' g' → XTh κ D A nL (cells + rm'.cells) (slots + rm'.slots) pc l rest E ad' g')
    (kk : ∀ (r : Option Value) (ad' : xL) (g' : xG), post' r ad' g' → X κ D A nL (cells + rm'.cells) (slots + rm'.slots) (pc + 3) l (r.toList ++ rest) ad' g') : X κ D A nL cells slots pc l st ad g := by
  obtain ⟨p, lc, e, R, s, m, args, below, meth, c, Q⟩ := κ
  obtain ⟨hex, hb, hml, hown, hts, hE, hA, hlc, hlk, hR⟩ := C
  subst hR
  subst hst
  obtain ⟨w1, w2, w4, w5, w6⟩ := hw
  obtain ⟨r1, r2, r3, r4⟩ := xroom_spec hroom
  intro H locs la hW hS hl
  have hrun := vx_runS (cells := cells) (slots := slots) (locs := locs) (e := e) (below := below) (meth := meth) ⟨hex, hb, hml, hown, hts⟩ hM ⟨callB_of np hts (gw_goodG w5) rfl rfl rfl (hts _ w4) (hts _ w1) w6 ⟨r1, r2⟩, hts _ w2⟩ (H := H) (As := As) (rest := rest) (g := F0 m pc la (As.reverse ++ rest))
    ⟨cP_blind, fun U hU hWm => ⟨rfl, hE.moved hS hU hWm, fun q hq => hA q (Nat.le_trans hS.1 (by rw [hU] at hq; exact hq)), by rw [hU]; exact hW⟩⟩ rfl hn hl.1 rfl (lv_room (Nat.le_of_ble_eq_true hrest)) hd ⟨r3, r4⟩
  exact x_run hrun hS (fun E ad' g' H1 locs1 q ce a1 a2 a3 a4 a5 a6 => hx E ad' g' a1 H1 locs1 la q ce a2 a3 hl a4 a5 a6) (fun r ad' g' H1 locs1 a1 a2 a3 => kk r ad' g' a1 H1 locs1 la a2 a3 hl)
/-- a method that throws nothing, as a contract without throws -/
theorem Ct.met {lc : Launch} {y : MethodName} {cc' : ByteArray} {nL' : Nat} {rt' : Option FieldType} {rm' : Room} {av : List Value} {post' : xPo} (h : Ct lc y cc' nL' rt' rm' D Y A ad g av post' pF) : Met lc y (Cond.code y cc' nL' rt' :: gw) rm' (cP D Y A ad g av) (cQ D A post') rm'.cells rm'.slots A := by
  refine Free.MetFree.mono h (fun _ _ q => q) (fun _ _ _ _ _ q => q) (fun a s o s' _ q => ?_)
  rcases q with q | ⟨q, -, E, ce, L, ⟨⟨ad', g', hf, -⟩, -⟩, -⟩
  · exact q
  · exact hf.elim
theorem x_runM {p : Program} {lc : Launch} {e : Env} {R : Room} {s : State} {m : MethodId} {args : Array Value} {below : List Frame} {meth : Method} {c : Code} {Q : State → Prop} {H : Heap} {locs : List Loc} {la : Array Slot} {st0 : List Value} {mc ms : Nat} {a : Array Value} {post' : xPo}
    (hr : va_Run p lc e R s m args below meth c H locs cells slots mc ms (F0 m pc la st0) rest (cQ D A post' a) A) (hS : va_S A s.heap H locs)
    (kk : ∀ (r : Option Value) (ad' : xL) (g' : xG) (H1 : Heap) (locs1 : List Loc), post' r ad' g' → xHW D A ad' g' H1 → va_S A s.heap H1 locs1 → W p lc e R s m args below meth c H1 locs1 (cells + mc) (slots + ms) Q (F0 m (pc + 3) la (r.toList ++ rest))) : W p lc e R s m args below meth c H locs cells slots Q (F0 m pc la st0) := by
  intro T hT X
  obtain ⟨v, st₀, t, T', L, h0, X', hL, e1, e2, ⟨⟨r, ad', g', hv, hp, hw⟩, hF⟩, st⟩ := hr T hT X
  cases hv
  obtain ⟨k1, k2, k3⟩ := vx_keep h0 e1 hS (fun _ _ h => h) (fun _ h => h) hL hF
  obtain ⟨t2, a1, b1⟩ := kk v ad' g' T'.heap (locs ++ L) hp (by rw [e1]; exact hw) k3 T' rfl X'
  exact ⟨t2, st t2 a1, b1⟩
theorem X_callIg (C : XB κ D Y A cc own nL R0) {y : MethodName} {cc' : ByteArray} {nL' np idx : Nat} {rm' : Room} {b : Nat} {As : List Value} {post' : xPo}
    (hM : Ct κ.2.1 y cc' nL' none rm' D Y A ad g (.ref b :: As) post' pF) (hw : xCI own idx y cc' nL' np) (hn : As.length = np) (hst : st = As.reverse ++ .ref b :: rest) (hrest : Nat.ble (rest.map fun v => v.category).sum 8 = true) (hroom : xroom rm' nL' R0 cells slots = true) (hd : decode cc pc = .ok (.invokespecial idx, 3))
    (kk : ∀ (r : Option Value) (ad' : xL) (g' : xG), post' r ad' g' → X κ D A nL (cells + rm'.cells) (slots + rm'.slots) (pc + 3) l (r.toList ++ rest) ad' g') : X κ D A nL cells slots pc l st ad g := by
  obtain ⟨p, lc, e, R, s, m, args, below, meth, c, Q⟩ := κ
  obtain ⟨hex, hb, hml, hown, hts, hE, hA, hlc, hlk, hR⟩ := C
  subst hR
  subst hst
  obtain ⟨w1, w2, w4, w5, w6, w7⟩ := hw
  obtain ⟨r1, r2, r3, r4⟩ := xroom_spec hroom
  intro H locs la hW hS hl
  have hrun := va_runI (cells := cells) (slots := slots) (locs := locs) (e := e) (below := below) (meth := meth) ⟨hex, hb, hml, hown, hts⟩ hM.met ⟨callB_of np hts (gw_goodG w5) rfl rfl rfl (hts _ w4) (hts _ w1) w7 ⟨r1, r2⟩, w6, hts _ w2⟩ (H := H) (b := b) (As := As) (rest := rest) (g := F0 m pc la (As.reverse ++ .ref b :: rest))
    ⟨cP_blind, fun U hU hWm => ⟨rfl, hE.moved hS hU hWm, fun q hq => hA q (Nat.le_trans hS.1 (by rw [hU] at hq; exact hq)), by rw [hU]; exact hW⟩⟩ rfl hn hl.1 rfl (lv_room (Nat.le_of_ble_eq_true hrest)) hd ⟨r3, r4⟩
  exact x_runM hrun hS (fun r ad' g' H1 locs1 a1 a2 a3 => kk r ad' g' a1 H1 locs1 la a2 a3 hl)
/-! throws: 'new E; dup; ldc; <init>; athrow' in one step -/
def xNm : List String := ["java/lang/RuntimeException", "java/lang/Exception"]
def xTW (own : String) (ik ic : Nat) (cls : String) : Prop := Bundle.fit cls = true ∧ Cond.classLink own ik cls ∈ gw ∧ Cond.initialized cls ∈ gw ∧ (∀ w ∈ (vx_atS own ic cls xNm).filter goodWord, w ∈ gw) ∧ (∀ w ∈ (vx_atS own ic cls xNm).filter (fun w => !goodWord w), w ∈ [Cond.castable cls cls]) ∧ (∀ w ∈ Cond.classLink own ik cls :: Cond.initialized cls :: vx_atS own ic cls xNm, vx_ot w = true) ∧ (cls, cls) ∈ xCasts
theorem xNm_fit : ∀ n ∈ xNm, Bundle.fit n = true := by decide +kernel
theorem X_throw (C : XB κ D Y A cc own nL R0) {nm : String} {rt : Option FieldType} {post : xPo} {px : xPx} (M : XM κ D A nm rt R0 post px) {ik is ic : Nat} {cls text : String} (hw : xTW own ik ic cls) (hstr : (own, is, text) ∈ xStrs)
    (d0 : decode cc pc = .ok (.new ik, 3)) (d3 : decode cc (pc + 3) = .ok (.dup, 1)) (d4 : decode cc (pc + 4) = .ok (.ldc is, 2)) (d6 : decode cc (pc + 6) = .ok (.invokespecial ic, 3)) (d9 : decode cc (pc + 9) = .ok (.athrow, 1))
    (hfr : 5 < R0.frames) (hlo : (st.map fun v => v.category).sum + 82 ≤ R0.locals) (hc : cells + 1 ≤ R0.cells) (hs : slots + 6 ≤ R0.slots) (hp : px cls ad g) : X κ D A nL cells slots pc l st ad g := by
  obtain ⟨p, lc, e, R, s, m, args, below, meth, c, Q⟩ := κ
  obtain ⟨hex, hb, hml, hown, hts, hE, hA, hlc, hlk, hR⟩ := C
  obtain ⟨-, hr, -, htab, hQ⟩ := M
  subst hR
  subst hQ
  obtain ⟨w1, w2, w3, w4, w5, w6, w7⟩ := hw
  obtain ⟨sa, hsa⟩ := hE.2.2.2.1 _ hstr
  intro H locs la hW hS hl
  refine vx_throwS hex hb hlc (cls := cls) (names := xNm) (sa := sa) hown w1 xNm_fit (hts _ w2) (hts _ w3) hsa (vx_hat (fun w h => hts _ (w4 w h)) w5 (vx_c (va_Nw.use rfl (hE.2.2.2.2.1 _ w7)) vx_n)) w6 hE.2.1 hE.2.2.1 hS (by rw [hml]; exact hl.1) d0 d3 d4 d6 d9 (fun x hx => (htab x hx).elim) hfr hlo hc hs hlk ?_ hS.2.2 hc hs
  intro t _ hz o1
  exact ⟨⟨ad, g, hp, hW.grow o1⟩, Nat.le_trans hS.1 hz, fun q h1 h2 => (o1 q (Nat.lt_of_lt_of_le h1 hS.1)).trans (hS.2.1 q h1 h2)⟩
theorem X_throwW (C : XB κ D Y A cc own nL R0) {nm : String} {rt : Option FieldType} {post : xPo} {px : xPx} (M : XM κ D A nm rt R0 post px) {ik is ic : Nat} {cls text : String} (hw : xTW own ik ic cls) (hstr : (own, is, text) ∈ xStrs)
    (d0 : decode cc pc = .ok (.new ik, 3)) (d3 : decode cc (pc + 3) = .ok (.dup, 1)) (d4 : decode cc (pc + 4) = .ok (.ldc_w is, 3)) (d7 : decode cc (pc + 7) = .ok (.invokespecial ic, 3)) (d10 : decode cc (pc + 10) = .ok (.athrow, 1))
    (hfr : 5 < R0.frames) (hlo : (st.map fun v => v.category).sum + 82 ≤ R0.locals) (hc : cells + 1 ≤ R0.cells) (hs : slots + 6 ≤ R0.slots) (hp : px cls ad g) : X κ D A nL cells slots pc l st ad g := by
  obtain ⟨p, lc, e, R, s, m, args, below, meth, c, Q⟩ := κ
  obtain ⟨hex, hb, hml, hown, hts, hE, hA, hlc, hlk, hR⟩ := C
  obtain ⟨-, hr, -, htab, hQ⟩ := M
  subst hR
  subst hQ
  obtain ⟨w1, w2, w3, w4, w5, w6, w7⟩ := hw
  obtain ⟨sa, hsa⟩ := hE.2.2.2.1 _ hstr
  intro H locs la hW hS hl
  refine vx_throwSW hex hb hlc (cls := cls) (names := xNm) (sa := sa) hown w1 xNm_fit (hts _ w2) (hts _ w3) hsa (vx_hat (fun w h => hts _ (w4 w h)) w5 (vx_c (va_Nw.use rfl (hE.2.2.2.2.1 _ w7)) vx_n)) w6 hE.2.1 hE.2.2.1 hS (by rw [hml]; exact hl.1) d0 d3 d4 d7 d10 (fun x hx => (htab x hx).elim) hfr hlo hc hs hlk ?_ hS.2.2 hc hs
  intro t _ hz o1
  exact ⟨⟨ad, g, hp, hW.grow o1⟩, Nat.le_trans hS.1 hz, fun q h1 h2 => (o1 q (Nat.lt_of_lt_of_le h1 hS.1)).trans (hS.2.1 q h1 h2)⟩
end XCs
end
