section
-- ===== PART A: goes FIRST, ahead of the names: the tables' words, and 'selects' of the private methods out of them =====
/-- a private method of a class that the tables say can be made, by its rows of tables_1 -/
def lw_okq (q : MethodName × Nat) : Prop := (q.1.cls ≠ "java/lang/invoke/MethodHandle" ∧ q.1.cls ≠ "java/lang/invoke/VarHandle") ∧ Cond.instantiable q.1.cls q.2 ∈ tables_1 ∧ Cond.privateMethod q.1 ∈ tables_1 ∧ Cond.instanceMethod q.1 ∈ tables_1
theorem lw_p0 : lw_okq (⟨"JointHistory", "load", "(LJointHistory$Navigable;II)LJointHistory$Document;"⟩, 9) := ⟨⟨by decide +kernel, by decide +kernel⟩, List.mem_of_getElem? (i := 10) (by decide +kernel), List.mem_of_getElem? (i := 120) (by decide +kernel), List.mem_of_getElem? (i := 121) (by decide +kernel)⟩
theorem lw_p1 : lw_okq (⟨"JointHistory", "freeDocument", "(LJointHistory$Navigable;)LJointHistory$Document;"⟩, 9) := ⟨⟨by decide +kernel, by decide +kernel⟩, List.mem_of_getElem? (i := 10) (by decide +kernel), List.mem_of_getElem? (i := 124) (by decide +kernel), List.mem_of_getElem? (i := 125) (by decide +kernel)⟩
theorem lw_p2 : lw_okq (⟨"JointHistory", "giveOpaqueOrigin", "()I"⟩, 9) := ⟨⟨by decide +kernel, by decide +kernel⟩, List.mem_of_getElem? (i := 10) (by decide +kernel), List.mem_of_getElem? (i := 128) (by decide +kernel), List.mem_of_getElem? (i := 129) (by decide +kernel)⟩
theorem lw_p3 : lw_okq (⟨"JointHistory", "makeFrames", "(LJointHistory$Document;LJointHistory$Answer;I)V"⟩, 9) := ⟨⟨by decide +kernel, by decide +kernel⟩, List.mem_of_getElem? (i := 10) (by decide +kernel), List.mem_of_getElem? (i := 139) (by decide +kernel), List.mem_of_getElem? (i := 140) (by decide +kernel)⟩
theorem lw_p4 : lw_okq (⟨"JointHistory", "makeFrame", "(LJointHistory$Document;II)LJointHistory$Navigable;"⟩, 9) := ⟨⟨by decide +kernel, by decide +kernel⟩, List.mem_of_getElem? (i := 10) (by decide +kernel), List.mem_of_getElem? (i := 143) (by decide +kernel), List.mem_of_getElem? (i := 144) (by decide +kernel)⟩
theorem lw_p5 : lw_okq (⟨"JointHistory", "freeNavigable", "()LJointHistory$Navigable;"⟩, 9) := ⟨⟨by decide +kernel, by decide +kernel⟩, List.mem_of_getElem? (i := 10) (by decide +kernel), List.mem_of_getElem? (i := 147) (by decide +kernel), List.mem_of_getElem? (i := 148) (by decide +kernel)⟩
theorem lw_p6 : lw_okq (⟨"JointHistory", "followDetours", "(I)I"⟩, 9) := ⟨⟨by decide +kernel, by decide +kernel⟩, List.mem_of_getElem? (i := 10) (by decide +kernel), List.mem_of_getElem? (i := 151) (by decide +kernel), List.mem_of_getElem? (i := 152) (by decide +kernel)⟩
theorem lw_p7 : lw_okq (⟨"JointHistory", "isDetour", "(I)Z"⟩, 9) := ⟨⟨by decide +kernel, by decide +kernel⟩, List.mem_of_getElem? (i := 10) (by decide +kernel), List.mem_of_getElem? (i := 155) (by decide +kernel), List.mem_of_getElem? (i := 156) (by decide +kernel)⟩
theorem lw_p8 : lw_okq (⟨"JointHistory", "addEntry", "(LJointHistory$Navigable;IIILJointHistory$Document;)V"⟩, 9) := ⟨⟨by decide +kernel, by decide +kernel⟩, List.mem_of_getElem? (i := 10) (by decide +kernel), List.mem_of_getElem? (i := 164) (by decide +kernel), List.mem_of_getElem? (i := 165) (by decide +kernel)⟩
theorem lw_p9 : lw_okq (⟨"JointHistory", "shownEntry", "(II)LJointHistory$Entry;"⟩, 9) := ⟨⟨by decide +kernel, by decide +kernel⟩, List.mem_of_getElem? (i := 10) (by decide +kernel), List.mem_of_getElem? (i := 226) (by decide +kernel), List.mem_of_getElem? (i := 227) (by decide +kernel)⟩
theorem lw_p10 : lw_okq (⟨"JointHistory", "entryAt", "(LJointHistory$Navigable;I)LJointHistory$Entry;"⟩, 9) := ⟨⟨by decide +kernel, by decide +kernel⟩, List.mem_of_getElem? (i := 10) (by decide +kernel), List.mem_of_getElem? (i := 230) (by decide +kernel), List.mem_of_getElem? (i := 231) (by decide +kernel)⟩
theorem lw_p11 : lw_okq (⟨"JointHistory", "isFull", "(Z)Z"⟩, 9) := ⟨⟨by decide +kernel, by decide +kernel⟩, List.mem_of_getElem? (i := 10) (by decide +kernel), List.mem_of_getElem? (i := 234) (by decide +kernel), List.mem_of_getElem? (i := 235) (by decide +kernel)⟩
theorem lw_p12 : lw_okq (⟨"JointHistory", "entriesUpTo", "(I)I"⟩, 9) := ⟨⟨by decide +kernel, by decide +kernel⟩, List.mem_of_getElem? (i := 10) (by decide +kernel), List.mem_of_getElem? (i := 239) (by decide +kernel), List.mem_of_getElem? (i := 240) (by decide +kernel)⟩
theorem lw_p13 : lw_okq (⟨"JointHistory", "dropLaterEntries", "()V"⟩, 9) := ⟨⟨by decide +kernel, by decide +kernel⟩, List.mem_of_getElem? (i := 10) (by decide +kernel), List.mem_of_getElem? (i := 243) (by decide +kernel), List.mem_of_getElem? (i := 244) (by decide +kernel)⟩
theorem lw_p14 : lw_okq (⟨"JointHistory", "dropWhatIsGone", "()V"⟩, 9) := ⟨⟨by decide +kernel, by decide +kernel⟩, List.mem_of_getElem? (i := 10) (by decide +kernel), List.mem_of_getElem? (i := 247) (by decide +kernel), List.mem_of_getElem? (i := 248) (by decide +kernel)⟩
theorem lw_p15 : lw_okq (⟨"JointHistory", "keepOnlyHeldDocuments", "()V"⟩, 9) := ⟨⟨by decide +kernel, by decide +kernel⟩, List.mem_of_getElem? (i := 10) (by decide +kernel), List.mem_of_getElem? (i := 251) (by decide +kernel), List.mem_of_getElem? (i := 252) (by decide +kernel)⟩
def lw_privs_1 : List (MethodName × Nat) := [(⟨"JointHistory", "load", "(LJointHistory$Navigable;II)LJointHistory$Document;"⟩, 9), (⟨"JointHistory", "freeDocument", "(LJointHistory$Navigable;)LJointHistory$Document;"⟩, 9), (⟨"JointHistory", "giveOpaqueOrigin", "()I"⟩, 9), (⟨"JointHistory", "makeFrames", "(LJointHistory$Document;LJointHistory$Answer;I)V"⟩, 9), (⟨"JointHistory", "makeFrame", "(LJointHistory$Document;II)LJointHistory$Navigable;"⟩, 9), (⟨"JointHistory", "freeNavigable", "()LJointHistory$Navigable;"⟩, 9), (⟨"JointHistory", "followDetours", "(I)I"⟩, 9), (⟨"JointHistory", "isDetour", "(I)Z"⟩, 9), (⟨"JointHistory", "addEntry", "(LJointHistory$Navigable;IIILJointHistory$Document;)V"⟩, 9), (⟨"JointHistory", "shownEntry", "(II)LJointHistory$Entry;"⟩, 9), (⟨"JointHistory", "entryAt", "(LJointHistory$Navigable;I)LJointHistory$Entry;"⟩, 9), (⟨"JointHistory", "isFull", "(Z)Z"⟩, 9), (⟨"JointHistory", "entriesUpTo", "(I)I"⟩, 9), (⟨"JointHistory", "dropLaterEntries", "()V"⟩, 9), (⟨"JointHistory", "dropWhatIsGone", "()V"⟩, 9), (⟨"JointHistory", "keepOnlyHeldDocuments", "()V"⟩, 9)]
theorem lw_r1 : ∀ q ∈ lw_privs_1, lw_okq q := List.forall_mem_cons.mpr ⟨lw_p0, List.forall_mem_cons.mpr ⟨lw_p1, List.forall_mem_cons.mpr ⟨lw_p2, List.forall_mem_cons.mpr ⟨lw_p3, List.forall_mem_cons.mpr ⟨lw_p4, List.forall_mem_cons.mpr ⟨lw_p5, List.forall_mem_cons.mpr ⟨lw_p6, List.forall_mem_cons.mpr ⟨lw_p7, List.forall_mem_cons.mpr ⟨lw_p8, List.forall_mem_cons.mpr ⟨lw_p9, List.forall_mem_cons.mpr ⟨lw_p10, List.forall_mem_cons.mpr ⟨lw_p11, List.forall_mem_cons.mpr ⟨lw_p12, List.forall_mem_cons.mpr ⟨lw_p13, List.forall_mem_cons.mpr ⟨lw_p14, List.forall_mem_cons.mpr ⟨lw_p15, fun _ h => absurd h List.not_mem_nil⟩⟩⟩⟩⟩⟩⟩⟩⟩⟩⟩⟩⟩⟩⟩⟩
theorem lw_p16 : lw_okq (⟨"JointHistory", "dropFramesOfGoneDocuments", "()V"⟩, 9) := ⟨⟨by decide +kernel, by decide +kernel⟩, List.mem_of_getElem? (i := 10) (by decide +kernel), List.mem_of_getElem? (i := 255) (by decide +kernel), List.mem_of_getElem? (i := 256) (by decide +kernel)⟩
theorem lw_p17 : lw_okq (⟨"JointHistory", "dropEntriesOfGoneNavigables", "()V"⟩, 9) := ⟨⟨by decide +kernel, by decide +kernel⟩, List.mem_of_getElem? (i := 10) (by decide +kernel), List.mem_of_getElem? (i := 259) (by decide +kernel), List.mem_of_getElem? (i := 260) (by decide +kernel)⟩
theorem lw_p18 : lw_okq (⟨"JointHistory", "putEntry", "(LJointHistory$Entry;IILJointHistory$Document;Z)V"⟩, 9) := ⟨⟨by decide +kernel, by decide +kernel⟩, List.mem_of_getElem? (i := 10) (by decide +kernel), List.mem_of_getElem? (i := 266) (by decide +kernel), List.mem_of_getElem? (i := 267) (by decide +kernel)⟩
theorem lw_p19 : lw_okq (⟨"JointHistory", "settlePresentStep", "()V"⟩, 9) := ⟨⟨by decide +kernel, by decide +kernel⟩, List.mem_of_getElem? (i := 10) (by decide +kernel), List.mem_of_getElem? (i := 270) (by decide +kernel), List.mem_of_getElem? (i := 271) (by decide +kernel)⟩
theorem lw_p20 : lw_okq (⟨"JointHistory", "collectUsedSteps", "()I"⟩, 9) := ⟨⟨by decide +kernel, by decide +kernel⟩, List.mem_of_getElem? (i := 10) (by decide +kernel), List.mem_of_getElem? (i := 285) (by decide +kernel), List.mem_of_getElem? (i := 286) (by decide +kernel)⟩
theorem lw_p21 : lw_okq (⟨"JointHistory", "insertStep", "(II)I"⟩, 9) := ⟨⟨by decide +kernel, by decide +kernel⟩, List.mem_of_getElem? (i := 10) (by decide +kernel), List.mem_of_getElem? (i := 289) (by decide +kernel), List.mem_of_getElem? (i := 290) (by decide +kernel)⟩
theorem lw_p22 : lw_okq (⟨"JointHistory", "placeOfPresent", "(I)I"⟩, 9) := ⟨⟨by decide +kernel, by decide +kernel⟩, List.mem_of_getElem? (i := 10) (by decide +kernel), List.mem_of_getElem? (i := 293) (by decide +kernel), List.mem_of_getElem? (i := 294) (by decide +kernel)⟩
theorem lw_p23 : lw_okq (⟨"JointHistory", "countMove", "(LJointHistory$Entry;LJointHistory$Entry;)V"⟩, 9) := ⟨⟨by decide +kernel, by decide +kernel⟩, List.mem_of_getElem? (i := 10) (by decide +kernel), List.mem_of_getElem? (i := 297) (by decide +kernel), List.mem_of_getElem? (i := 298) (by decide +kernel)⟩
theorem lw_p24 : lw_okq (⟨"JointHistory", "takeOut", "(LJointHistory$Navigable;)V"⟩, 9) := ⟨⟨by decide +kernel, by decide +kernel⟩, List.mem_of_getElem? (i := 10) (by decide +kernel), List.mem_of_getElem? (i := 305) (by decide +kernel), List.mem_of_getElem? (i := 306) (by decide +kernel)⟩
theorem lw_p25 : lw_okq (⟨"JointHistory", "shownNavigables", "()I"⟩, 9) := ⟨⟨by decide +kernel, by decide +kernel⟩, List.mem_of_getElem? (i := 10) (by decide +kernel), List.mem_of_getElem? (i := 349) (by decide +kernel), List.mem_of_getElem? (i := 350) (by decide +kernel)⟩
theorem lw_p26 : lw_okq (⟨"JointHistory", "allNavigables", "()I"⟩, 9) := ⟨⟨by decide +kernel, by decide +kernel⟩, List.mem_of_getElem? (i := 10) (by decide +kernel), List.mem_of_getElem? (i := 353) (by decide +kernel), List.mem_of_getElem? (i := 354) (by decide +kernel)⟩
theorem lw_p27 : lw_okq (⟨"JointHistoryModel", "make", "(II)I"⟩, 26) := ⟨⟨by decide +kernel, by decide +kernel⟩, List.mem_of_getElem? (i := 357) (by decide +kernel), List.mem_of_getElem? (i := 363) (by decide +kernel), List.mem_of_getElem? (i := 364) (by decide +kernel)⟩
theorem lw_p28 : lw_okq (⟨"JointHistoryModel", "freshOrigin", "()I"⟩, 26) := ⟨⟨by decide +kernel, by decide +kernel⟩, List.mem_of_getElem? (i := 357) (by decide +kernel), List.mem_of_getElem? (i := 367) (by decide +kernel), List.mem_of_getElem? (i := 368) (by decide +kernel)⟩
theorem lw_p29 : lw_okq (⟨"JointHistoryModel", "write", "(IIII)I"⟩, 26) := ⟨⟨by decide +kernel, by decide +kernel⟩, List.mem_of_getElem? (i := 357) (by decide +kernel), List.mem_of_getElem? (i := 371) (by decide +kernel), List.mem_of_getElem? (i := 372) (by decide +kernel)⟩
theorem lw_p30 : lw_okq (⟨"JointHistoryModel", "mark", "()V"⟩, 26) := ⟨⟨by decide +kernel, by decide +kernel⟩, List.mem_of_getElem? (i := 357) (by decide +kernel), List.mem_of_getElem? (i := 375) (by decide +kernel), List.mem_of_getElem? (i := 376) (by decide +kernel)⟩
theorem lw_p31 : lw_okq (⟨"JointHistoryModel", "keep", "(I)V"⟩, 26) := ⟨⟨by decide +kernel, by decide +kernel⟩, List.mem_of_getElem? (i := 357) (by decide +kernel), List.mem_of_getElem? (i := 379) (by decide +kernel), List.mem_of_getElem? (i := 380) (by decide +kernel)⟩
def lw_privs_2 : List (MethodName × Nat) := [(⟨"JointHistory", "dropFramesOfGoneDocuments", "()V"⟩, 9), (⟨"JointHistory", "dropEntriesOfGoneNavigables", "()V"⟩, 9), (⟨"JointHistory", "putEntry", "(LJointHistory$Entry;IILJointHistory$Document;Z)V"⟩, 9), (⟨"JointHistory", "settlePresentStep", "()V"⟩, 9), (⟨"JointHistory", "collectUsedSteps", "()I"⟩, 9), (⟨"JointHistory", "insertStep", "(II)I"⟩, 9), (⟨"JointHistory", "placeOfPresent", "(I)I"⟩, 9), (⟨"JointHistory", "countMove", "(LJointHistory$Entry;LJointHistory$Entry;)V"⟩, 9), (⟨"JointHistory", "takeOut", "(LJointHistory$Navigable;)V"⟩, 9), (⟨"JointHistory", "shownNavigables", "()I"⟩, 9), (⟨"JointHistory", "allNavigables", "()I"⟩, 9), (⟨"JointHistoryModel", "make", "(II)I"⟩, 26), (⟨"JointHistoryModel", "freshOrigin", "()I"⟩, 26), (⟨"JointHistoryModel", "write", "(IIII)I"⟩, 26), (⟨"JointHistoryModel", "mark", "()V"⟩, 26), (⟨"JointHistoryModel", "keep", "(I)V"⟩, 26)]
theorem lw_r2 : ∀ q ∈ lw_privs_2, lw_okq q := List.forall_mem_cons.mpr ⟨lw_p16, List.forall_mem_cons.mpr ⟨lw_p17, List.forall_mem_cons.mpr ⟨lw_p18, List.forall_mem_cons.mpr ⟨lw_p19, List.forall_mem_cons.mpr ⟨lw_p20, List.forall_mem_cons.mpr ⟨lw_p21, List.forall_mem_cons.mpr ⟨lw_p22, List.forall_mem_cons.mpr ⟨lw_p23, List.forall_mem_cons.mpr ⟨lw_p24, List.forall_mem_cons.mpr ⟨lw_p25, List.forall_mem_cons.mpr ⟨lw_p26, List.forall_mem_cons.mpr ⟨lw_p27, List.forall_mem_cons.mpr ⟨lw_p28, List.forall_mem_cons.mpr ⟨lw_p29, List.forall_mem_cons.mpr ⟨lw_p30, List.forall_mem_cons.mpr ⟨lw_p31, fun _ h => absurd h List.not_mem_nil⟩⟩⟩⟩⟩⟩⟩⟩⟩⟩⟩⟩⟩⟩⟩⟩
theorem lw_p32 : lw_okq (⟨"JointHistoryModel", "presentOf", "(I)I"⟩, 26) := ⟨⟨by decide +kernel, by decide +kernel⟩, List.mem_of_getElem? (i := 357) (by decide +kernel), List.mem_of_getElem? (i := 383) (by decide +kernel), List.mem_of_getElem? (i := 384) (by decide +kernel)⟩
theorem lw_p33 : lw_okq (⟨"JointHistoryModel", "show", "(I)V"⟩, 26) := ⟨⟨by decide +kernel, by decide +kernel⟩, List.mem_of_getElem? (i := 357) (by decide +kernel), List.mem_of_getElem? (i := 387) (by decide +kernel), List.mem_of_getElem? (i := 388) (by decide +kernel)⟩
theorem lw_p34 : lw_okq (⟨"JointHistoryModel", "isShown", "(I)Z"⟩, 26) := ⟨⟨by decide +kernel, by decide +kernel⟩, List.mem_of_getElem? (i := 357) (by decide +kernel), List.mem_of_getElem? (i := 490) (by decide +kernel), List.mem_of_getElem? (i := 491) (by decide +kernel)⟩
theorem lw_p35 : lw_okq (⟨"JointHistoryModel", "full", "(Z)Z"⟩, 26) := ⟨⟨by decide +kernel, by decide +kernel⟩, List.mem_of_getElem? (i := 357) (by decide +kernel), List.mem_of_getElem? (i := 494) (by decide +kernel), List.mem_of_getElem? (i := 495) (by decide +kernel)⟩
theorem lw_p36 : lw_okq (⟨"JointHistoryModel", "enter", "(IIIZI)V"⟩, 26) := ⟨⟨by decide +kernel, by decide +kernel⟩, List.mem_of_getElem? (i := 357) (by decide +kernel), List.mem_of_getElem? (i := 501) (by decide +kernel), List.mem_of_getElem? (i := 502) (by decide +kernel)⟩
theorem lw_p37 : lw_okq (⟨"JointHistoryModel", "cutOff", "()V"⟩, 26) := ⟨⟨by decide +kernel, by decide +kernel⟩, List.mem_of_getElem? (i := 357) (by decide +kernel), List.mem_of_getElem? (i := 505) (by decide +kernel), List.mem_of_getElem? (i := 506) (by decide +kernel)⟩
theorem lw_p38 : lw_okq (⟨"JointHistoryModel", "load", "(III)I"⟩, 26) := ⟨⟨by decide +kernel, by decide +kernel⟩, List.mem_of_getElem? (i := 357) (by decide +kernel), List.mem_of_getElem? (i := 509) (by decide +kernel), List.mem_of_getElem? (i := 510) (by decide +kernel)⟩
theorem lw_p39 : lw_okq (⟨"JointHistoryModel", "deep", "(I)I"⟩, 26) := ⟨⟨by decide +kernel, by decide +kernel⟩, List.mem_of_getElem? (i := 357) (by decide +kernel), List.mem_of_getElem? (i := 513) (by decide +kernel), List.mem_of_getElem? (i := 514) (by decide +kernel)⟩
theorem lw_p40 : lw_okq (⟨"JointHistoryModel", "loadWindow", "(II)I"⟩, 26) := ⟨⟨by decide +kernel, by decide +kernel⟩, List.mem_of_getElem? (i := 357) (by decide +kernel), List.mem_of_getElem? (i := 517) (by decide +kernel), List.mem_of_getElem? (i := 518) (by decide +kernel)⟩
theorem lw_p41 : lw_okq (⟨"JointHistoryModel", "wanted", "(III)I"⟩, 26) := ⟨⟨by decide +kernel, by decide +kernel⟩, List.mem_of_getElem? (i := 357) (by decide +kernel), List.mem_of_getElem? (i := 521) (by decide +kernel), List.mem_of_getElem? (i := 522) (by decide +kernel)⟩
theorem lw_p42 : lw_okq (⟨"JointHistoryModel", "frameFor", "(III)I"⟩, 26) := ⟨⟨by decide +kernel, by decide +kernel⟩, List.mem_of_getElem? (i := 357) (by decide +kernel), List.mem_of_getElem? (i := 525) (by decide +kernel), List.mem_of_getElem? (i := 526) (by decide +kernel)⟩
theorem lw_p43 : lw_okq (⟨"JointHistoryModel", "paperOf", "(I)I"⟩, 26) := ⟨⟨by decide +kernel, by decide +kernel⟩, List.mem_of_getElem? (i := 357) (by decide +kernel), List.mem_of_getElem? (i := 529) (by decide +kernel), List.mem_of_getElem? (i := 530) (by decide +kernel)⟩
theorem lw_p44 : lw_okq (⟨"JointHistoryModel", "loadMiddle", "(III)I"⟩, 26) := ⟨⟨by decide +kernel, by decide +kernel⟩, List.mem_of_getElem? (i := 357) (by decide +kernel), List.mem_of_getElem? (i := 533) (by decide +kernel), List.mem_of_getElem? (i := 534) (by decide +kernel)⟩
theorem lw_p45 : lw_okq (⟨"JointHistoryModel", "settle", "()V"⟩, 26) := ⟨⟨by decide +kernel, by decide +kernel⟩, List.mem_of_getElem? (i := 357) (by decide +kernel), List.mem_of_getElem? (i := 537) (by decide +kernel), List.mem_of_getElem? (i := 538) (by decide +kernel)⟩
theorem lw_p46 : lw_okq (⟨"JointHistoryModel", "used", "(I)Z"⟩, 26) := ⟨⟨by decide +kernel, by decide +kernel⟩, List.mem_of_getElem? (i := 357) (by decide +kernel), List.mem_of_getElem? (i := 541) (by decide +kernel), List.mem_of_getElem? (i := 542) (by decide +kernel)⟩
theorem lw_p47 : lw_okq (⟨"JointHistoryModel", "stepAt", "(J)I"⟩, 26) := ⟨⟨by decide +kernel, by decide +kernel⟩, List.mem_of_getElem? (i := 357) (by decide +kernel), List.mem_of_getElem? (i := 553) (by decide +kernel), List.mem_of_getElem? (i := 554) (by decide +kernel)⟩
def lw_privs_3 : List (MethodName × Nat) := [(⟨"JointHistoryModel", "presentOf", "(I)I"⟩, 26), (⟨"JointHistoryModel", "show", "(I)V"⟩, 26), (⟨"JointHistoryModel", "isShown", "(I)Z"⟩, 26), (⟨"JointHistoryModel", "full", "(Z)Z"⟩, 26), (⟨"JointHistoryModel", "enter", "(IIIZI)V"⟩, 26), (⟨"JointHistoryModel", "cutOff", "()V"⟩, 26), (⟨"JointHistoryModel", "load", "(III)I"⟩, 26), (⟨"JointHistoryModel", "deep", "(I)I"⟩, 26), (⟨"JointHistoryModel", "loadWindow", "(II)I"⟩, 26), (⟨"JointHistoryModel", "wanted", "(III)I"⟩, 26), (⟨"JointHistoryModel", "frameFor", "(III)I"⟩, 26), (⟨"JointHistoryModel", "paperOf", "(I)I"⟩, 26), (⟨"JointHistoryModel", "loadMiddle", "(III)I"⟩, 26), (⟨"JointHistoryModel", "settle", "()V"⟩, 26), (⟨"JointHistoryModel", "used", "(I)Z"⟩, 26), (⟨"JointHistoryModel", "stepAt", "(J)I"⟩, 26)]
theorem lw_r3 : ∀ q ∈ lw_privs_3, lw_okq q := List.forall_mem_cons.mpr ⟨lw_p32, List.forall_mem_cons.mpr ⟨lw_p33, List.forall_mem_cons.mpr ⟨lw_p34, List.forall_mem_cons.mpr ⟨lw_p35, List.forall_mem_cons.mpr ⟨lw_p36, List.forall_mem_cons.mpr ⟨lw_p37, List.forall_mem_cons.mpr ⟨lw_p38, List.forall_mem_cons.mpr ⟨lw_p39, List.forall_mem_cons.mpr ⟨lw_p40, List.forall_mem_cons.mpr ⟨lw_p41, List.forall_mem_cons.mpr ⟨lw_p42, List.forall_mem_cons.mpr ⟨lw_p43, List.forall_mem_cons.mpr ⟨lw_p44, List.forall_mem_cons.mpr ⟨lw_p45, List.forall_mem_cons.mpr ⟨lw_p46, List.forall_mem_cons.mpr ⟨lw_p47, fun _ h => absurd h List.not_mem_nil⟩⟩⟩⟩⟩⟩⟩⟩⟩⟩⟩⟩⟩⟩⟩⟩
def lw_privs : List (MethodName × Nat) := lw_privs_1 ++ (lw_privs_2 ++ (lw_privs_3))
def lw_tbl : List Cond := k2_sels lw_privs ++ tables_1
theorem lw_privs_ok : ∀ q ∈ lw_privs, lw_okq q := by
  show ∀ q ∈ lw_privs_1 ++ (lw_privs_2 ++ (lw_privs_3)), lw_okq q
  exact List.forall_mem_append.mpr ⟨lw_r1, List.forall_mem_append.mpr ⟨lw_r2, lw_r3⟩⟩
end
section
/-! Names: classes, fields, methods; the words that all contracts rest on: those of the tables that a call keeps. -/
def jw_all : List Cond := lw_tbl.filter goodWord
theorem jw_good : ∀ w ∈ jw_all, (w.onTables && w.keeps) = true ∨ ∃ ty, w = .arrayClass ty := fun w h => good_of_word (List.mem_filter.mp h).2
theorem jw_tb {w : Cond} {i : Nat} (h : tables_1[i]? = some w) (hg : goodWord w = true) : w ∈ jw_all := List.mem_filter.mpr ⟨List.mem_append_right _ (List.mem_of_getElem? h), hg⟩
theorem jw_pv {q : MethodName × Nat} {i : Nat} (h : lw_privs[i]? = some q) : Cond.selects q.1.cls q.1 q.1 ∈ jw_all := List.mem_filter.mpr ⟨List.mem_append_left _ (List.mem_map.mpr ⟨q, List.mem_of_getElem? h, rfl⟩), rfl⟩
def R_J : String := "JointHistory"
def F_J : u_T := fun k => match k with
  | 0 => ("JointHistory", "answers", "[LJointHistory$Answer;", true)
  | 1 => ("JointHistory", "navigables", "[LJointHistory$Navigable;", true)
  | 2 => ("JointHistory", "documents", "[LJointHistory$Document;", true)
  | 3 => ("JointHistory", "rows", "[LJointHistory$Entry;", true)
  | 4 => ("JointHistory", "usedSteps", "[I", true)
  | 5 => ("JointHistory", "presentStep", "I", false)
  | 6 => ("JointHistory", "pops", "I", false)
  | 7 => ("JointHistory", "hashes", "I", false)
  | _ => ("JointHistory", "opaques", "I", false)
def t_J : Nat → FieldType := fun k => match k with
  | 0 => .array (.object "JointHistory$Answer")
  | 1 => .array (.object "JointHistory$Navigable")
  | 2 => .array (.object "JointHistory$Document")
  | 3 => .array (.object "JointHistory$Entry")
  | 4 => .array (.int)
  | 5 => .int
  | 6 => .int
  | 7 => .int
  | _ => .int
theorem n_J : ∀ a, a < 9 → ∀ b, b < 9 → a ≠ b → (F_J a).2.1 ≠ (F_J b).2.1 := by decide +kernel
theorem t_J_ok : ∀ k, k < 9 → parseFieldDescriptor (F_J k).2.2.1 = some (t_J k) := by decide +kernel
set_option maxRecDepth 20000 in
theorem jn_J0 : u_lay R_J F_J 0 ∈ jw_all := jw_tb (i := 176) rfl rfl
set_option maxRecDepth 20000 in
theorem jn_J1 : u_lay R_J F_J 1 ∈ jw_all := jw_tb (i := 178) rfl rfl
set_option maxRecDepth 20000 in
theorem jn_J2 : u_lay R_J F_J 2 ∈ jw_all := jw_tb (i := 180) rfl rfl
set_option maxRecDepth 20000 in
theorem jn_J3 : u_lay R_J F_J 3 ∈ jw_all := jw_tb (i := 182) rfl rfl
set_option maxRecDepth 20000 in
theorem jn_J4 : u_lay R_J F_J 4 ∈ jw_all := jw_tb (i := 184) rfl rfl
set_option maxRecDepth 20000 in
theorem jn_J5 : u_lay R_J F_J 5 ∈ jw_all := jw_tb (i := 186) rfl rfl
set_option maxRecDepth 20000 in
theorem jn_J6 : u_lay R_J F_J 6 ∈ jw_all := jw_tb (i := 188) rfl rfl
set_option maxRecDepth 20000 in
theorem jn_J7 : u_lay R_J F_J 7 ∈ jw_all := jw_tb (i := 190) rfl rfl
set_option maxRecDepth 20000 in
theorem jn_J8 : u_lay R_J F_J 8 ∈ jw_all := jw_tb (i := 192) rfl rfl
theorem jn_J : ∀ w ∈ u_ws R_J F_J 9, w ∈ jw_all := by
  intro w hw
  obtain ⟨k, hk, rfl⟩ := List.mem_map.mp hw
  have hk := List.mem_range.mp hk
  match k, hk with
  | 0, _ => exact jn_J0
  | 1, _ => exact jn_J1
  | 2, _ => exact jn_J2
  | 3, _ => exact jn_J3
  | 4, _ => exact jn_J4
  | 5, _ => exact jn_J5
  | 6, _ => exact jn_J6
  | 7, _ => exact jn_J7
  | 8, _ => exact jn_J8
  | k + 9, h => omega
def R_A : String := "JointHistory$Answer"
def F_A : u_T := fun k => match k with
  | 0 => ("JointHistory$Answer", "kind", "LJointHistory$Kind;", false)
  | 1 => ("JointHistory$Answer", "first", "I", false)
  | 2 => ("JointHistory$Answer", "second", "I", false)
  | 3 => ("JointHistory$Answer", "strict", "Z", false)
  | _ => ("JointHistory$Answer", "target", "I", false)
def t_A : Nat → FieldType := fun k => match k with
  | 0 => .object "JointHistory$Kind"
  | 1 => .int
  | 2 => .int
  | 3 => .boolean
  | _ => .int
theorem n_A : ∀ a, a < 5 → ∀ b, b < 5 → a ≠ b → (F_A a).2.1 ≠ (F_A b).2.1 := by decide +kernel
theorem t_A_ok : ∀ k, k < 5 → parseFieldDescriptor (F_A k).2.2.1 = some (t_A k) := by decide +kernel
set_option maxRecDepth 20000 in
theorem jn_A0 : u_lay R_A F_A 0 ∈ jw_all := jw_tb (i := 40) rfl rfl
set_option maxRecDepth 20000 in
theorem jn_A1 : u_lay R_A F_A 1 ∈ jw_all := jw_tb (i := 42) rfl rfl
set_option maxRecDepth 20000 in
theorem jn_A2 : u_lay R_A F_A 2 ∈ jw_all := jw_tb (i := 44) rfl rfl
set_option maxRecDepth 20000 in
theorem jn_A3 : u_lay R_A F_A 3 ∈ jw_all := jw_tb (i := 46) rfl rfl
set_option maxRecDepth 20000 in
theorem jn_A4 : u_lay R_A F_A 4 ∈ jw_all := jw_tb (i := 48) rfl rfl
theorem jn_A : ∀ w ∈ u_ws R_A F_A 5, w ∈ jw_all := by
  intro w hw
  obtain ⟨k, hk, rfl⟩ := List.mem_map.mp hw
  have hk := List.mem_range.mp hk
  match k, hk with
  | 0, _ => exact jn_A0
  | 1, _ => exact jn_A1
  | 2, _ => exact jn_A2
  | 3, _ => exact jn_A3
  | 4, _ => exact jn_A4
  | k + 5, h => omega
def R_N : String := "JointHistory$Navigable"
def F_N : u_T := fun k => match k with
  | 0 => ("JointHistory$Navigable", "number", "I", true)
  | 1 => ("JointHistory$Navigable", "there", "Z", false)
  | 2 => ("JointHistory$Navigable", "level", "I", false)
  | _ => ("JointHistory$Navigable", "above", "LJointHistory$Document;", false)
def t_N : Nat → FieldType := fun k => match k with
  | 0 => .int
  | 1 => .boolean
  | 2 => .int
  | _ => .object "JointHistory$Document"
theorem n_N : ∀ a, a < 4 → ∀ b, b < 4 → a ≠ b → (F_N a).2.1 ≠ (F_N b).2.1 := by decide +kernel
theorem t_N_ok : ∀ k, k < 4 → parseFieldDescriptor (F_N k).2.2.1 = some (t_N k) := by decide +kernel
set_option maxRecDepth 20000 in
theorem jn_N0 : u_lay R_N F_N 0 ∈ jw_all := jw_tb (i := 62) rfl rfl
set_option maxRecDepth 20000 in
theorem jn_N1 : u_lay R_N F_N 1 ∈ jw_all := jw_tb (i := 64) rfl rfl
set_option maxRecDepth 20000 in
theorem jn_N2 : u_lay R_N F_N 2 ∈ jw_all := jw_tb (i := 66) rfl rfl
set_option maxRecDepth 20000 in
theorem jn_N3 : u_lay R_N F_N 3 ∈ jw_all := jw_tb (i := 68) rfl rfl
theorem jn_N : ∀ w ∈ u_ws R_N F_N 4, w ∈ jw_all := by
  intro w hw
  obtain ⟨k, hk, rfl⟩ := List.mem_map.mp hw
  have hk := List.mem_range.mp hk
  match k, hk with
  | 0, _ => exact jn_N0
  | 1, _ => exact jn_N1
  | 2, _ => exact jn_N2
  | 3, _ => exact jn_N3
  | k + 4, h => omega
def R_D : String := "JointHistory$Document"
def F_D : u_T := fun k => match k with
  | 0 => ("JointHistory$Document", "there", "Z", false)
  | 1 => ("JointHistory$Document", "owner", "LJointHistory$Navigable;", false)
  | 2 => ("JointHistory$Document", "origin", "I", false)
  | 3 => ("JointHistory$Document", "sandboxed", "Z", false)
  | 4 => ("JointHistory$Document", "first", "LJointHistory$Navigable;", false)
  | _ => ("JointHistory$Document", "second", "LJointHistory$Navigable;", false)
def t_D : Nat → FieldType := fun k => match k with
  | 0 => .boolean
  | 1 => .object "JointHistory$Navigable"
  | 2 => .int
  | 3 => .boolean
  | 4 => .object "JointHistory$Navigable"
  | _ => .object "JointHistory$Navigable"
theorem n_D : ∀ a, a < 6 → ∀ b, b < 6 → a ≠ b → (F_D a).2.1 ≠ (F_D b).2.1 := by decide +kernel
theorem t_D_ok : ∀ k, k < 6 → parseFieldDescriptor (F_D k).2.2.1 = some (t_D k) := by decide +kernel
set_option maxRecDepth 20000 in
theorem jn_D0 : u_lay R_D F_D 0 ∈ jw_all := jw_tb (i := 82) rfl rfl
set_option maxRecDepth 20000 in
theorem jn_D1 : u_lay R_D F_D 1 ∈ jw_all := jw_tb (i := 84) rfl rfl
set_option maxRecDepth 20000 in
theorem jn_D2 : u_lay R_D F_D 2 ∈ jw_all := jw_tb (i := 86) rfl rfl
set_option maxRecDepth 20000 in
theorem jn_D3 : u_lay R_D F_D 3 ∈ jw_all := jw_tb (i := 88) rfl rfl
set_option maxRecDepth 20000 in
theorem jn_D4 : u_lay R_D F_D 4 ∈ jw_all := jw_tb (i := 90) rfl rfl
set_option maxRecDepth 20000 in
theorem jn_D5 : u_lay R_D F_D 5 ∈ jw_all := jw_tb (i := 92) rfl rfl
theorem jn_D : ∀ w ∈ u_ws R_D F_D 6, w ∈ jw_all := by
  intro w hw
  obtain ⟨k, hk, rfl⟩ := List.mem_map.mp hw
  have hk := List.mem_range.mp hk
  match k, hk with
  | 0, _ => exact jn_D0
  | 1, _ => exact jn_D1
  | 2, _ => exact jn_D2
  | 3, _ => exact jn_D3
  | 4, _ => exact jn_D4
  | 5, _ => exact jn_D5
  | k + 6, h => omega
def R_E : String := "JointHistory$Entry"
def F_E : u_T := fun k => match k with
  | 0 => ("JointHistory$Entry", "there", "Z", false)
  | 1 => ("JointHistory$Entry", "owner", "LJointHistory$Navigable;", false)
  | 2 => ("JointHistory$Entry", "step", "I", false)
  | 3 => ("JointHistory$Entry", "url", "I", false)
  | 4 => ("JointHistory$Entry", "state", "I", false)
  | _ => ("JointHistory$Entry", "document", "LJointHistory$Document;", false)
def t_E : Nat → FieldType := fun k => match k with
  | 0 => .boolean
  | 1 => .object "JointHistory$Navigable"
  | 2 => .int
  | 3 => .int
  | 4 => .int
  | _ => .object "JointHistory$Document"
theorem n_E : ∀ a, a < 6 → ∀ b, b < 6 → a ≠ b → (F_E a).2.1 ≠ (F_E b).2.1 := by decide +kernel
theorem t_E_ok : ∀ k, k < 6 → parseFieldDescriptor (F_E k).2.2.1 = some (t_E k) := by decide +kernel
set_option maxRecDepth 20000 in
theorem jn_E0 : u_lay R_E F_E 0 ∈ jw_all := jw_tb (i := 106) rfl rfl
set_option maxRecDepth 20000 in
theorem jn_E1 : u_lay R_E F_E 1 ∈ jw_all := jw_tb (i := 108) rfl rfl
set_option maxRecDepth 20000 in
theorem jn_E2 : u_lay R_E F_E 2 ∈ jw_all := jw_tb (i := 110) rfl rfl
set_option maxRecDepth 20000 in
theorem jn_E3 : u_lay R_E F_E 3 ∈ jw_all := jw_tb (i := 112) rfl rfl
set_option maxRecDepth 20000 in
theorem jn_E4 : u_lay R_E F_E 4 ∈ jw_all := jw_tb (i := 114) rfl rfl
set_option maxRecDepth 20000 in
theorem jn_E5 : u_lay R_E F_E 5 ∈ jw_all := jw_tb (i := 116) rfl rfl
theorem jn_E : ∀ w ∈ u_ws R_E F_E 6, w ∈ jw_all := by
  intro w hw
  obtain ⟨k, hk, rfl⟩ := List.mem_map.mp hw
  have hk := List.mem_range.mp hk
  match k, hk with
  | 0, _ => exact jn_E0
  | 1, _ => exact jn_E1
  | 2, _ => exact jn_E2
  | 3, _ => exact jn_E3
  | 4, _ => exact jn_E4
  | 5, _ => exact jn_E5
  | k + 6, h => omega
def R_M : String := "JointHistoryModel"
def F_M : u_T := fun k => match k with
  | 0 => ("JointHistoryModel", "answer", "[I", true)
  | 1 => ("JointHistoryModel", "firstOf", "[I", true)
  | 2 => ("JointHistoryModel", "secondOf", "[I", true)
  | 3 => ("JointHistoryModel", "strictOf", "[Z", true)
  | 4 => ("JointHistoryModel", "owner", "[I", true)
  | 5 => ("JointHistoryModel", "stepOf", "[I", true)
  | 6 => ("JointHistoryModel", "urlOf", "[I", true)
  | 7 => ("JointHistoryModel", "stateOf", "[I", true)
  | 8 => ("JointHistoryModel", "paper", "[I", true)
  | 9 => ("JointHistoryModel", "entry", "[Z", true)
  | 10 => ("JointHistoryModel", "there", "[Z", true)
  | 11 => ("JointHistoryModel", "originOf", "[I", true)
  | 12 => ("JointHistoryModel", "sandboxed", "[Z", true)
  | 13 => ("JointHistoryModel", "left", "[I", true)
  | 14 => ("JointHistoryModel", "right", "[I", true)
  | 15 => ("JointHistoryModel", "exists", "[Z", true)
  | 16 => ("JointHistoryModel", "above", "[I", true)
  | 17 => ("JointHistoryModel", "shown", "[Z", true)
  | 18 => ("JointHistoryModel", "then", "[I", true)
  | 19 => ("JointHistoryModel", "keepPaper", "[Z", true)
  | 20 => ("JointHistoryModel", "keepNav", "[Z", true)
  | 21 => ("JointHistoryModel", "now", "I", false)
  | 22 => ("JointHistoryModel", "opaque", "I", false)
  | 23 => ("JointHistoryModel", "pops", "I", false)
  | 24 => ("JointHistoryModel", "hashes", "I", false)
  | _ => ("JointHistoryModel", "landed", "I", false)
def t_M : Nat → FieldType := fun k => match k with
  | 0 => .array (.int)
  | 1 => .array (.int)
  | 2 => .array (.int)
  | 3 => .array (.boolean)
  | 4 => .array (.int)
  | 5 => .array (.int)
  | 6 => .array (.int)
  | 7 => .array (.int)
  | 8 => .array (.int)
  | 9 => .array (.boolean)
  | 10 => .array (.boolean)
  | 11 => .array (.int)
  | 12 => .array (.boolean)
  | 13 => .array (.int)
  | 14 => .array (.int)
  | 15 => .array (.boolean)
  | 16 => .array (.int)
  | 17 => .array (.boolean)
  | 18 => .array (.int)
  | 19 => .array (.boolean)
  | 20 => .array (.boolean)
  | 21 => .int
  | 22 => .int
  | 23 => .int
  | 24 => .int
  | _ => .int
theorem n_M : ∀ a, a < 26 → ∀ b, b < 26 → a ≠ b → (F_M a).2.1 ≠ (F_M b).2.1 := by decide +kernel
theorem t_M_ok : ∀ k, k < 26 → parseFieldDescriptor (F_M k).2.2.1 = some (t_M k) := by decide +kernel
set_option maxRecDepth 20000 in
theorem jn_M0 : u_lay R_M F_M 0 ∈ jw_all := jw_tb (i := 416) rfl rfl
set_option maxRecDepth 20000 in
theorem jn_M1 : u_lay R_M F_M 1 ∈ jw_all := jw_tb (i := 418) rfl rfl
set_option maxRecDepth 20000 in
theorem jn_M2 : u_lay R_M F_M 2 ∈ jw_all := jw_tb (i := 420) rfl rfl
set_option maxRecDepth 20000 in
theorem jn_M3 : u_lay R_M F_M 3 ∈ jw_all := jw_tb (i := 422) rfl rfl
set_option maxRecDepth 20000 in
theorem jn_M4 : u_lay R_M F_M 4 ∈ jw_all := jw_tb (i := 424) rfl rfl
set_option maxRecDepth 20000 in
theorem jn_M5 : u_lay R_M F_M 5 ∈ jw_all := jw_tb (i := 426) rfl rfl
set_option maxRecDepth 20000 in
theorem jn_M6 : u_lay R_M F_M 6 ∈ jw_all := jw_tb (i := 428) rfl rfl
set_option maxRecDepth 20000 in
theorem jn_M7 : u_lay R_M F_M 7 ∈ jw_all := jw_tb (i := 430) rfl rfl
set_option maxRecDepth 20000 in
theorem jn_M8 : u_lay R_M F_M 8 ∈ jw_all := jw_tb (i := 432) rfl rfl
set_option maxRecDepth 20000 in
theorem jn_M9 : u_lay R_M F_M 9 ∈ jw_all := jw_tb (i := 434) rfl rfl
set_option maxRecDepth 20000 in
theorem jn_M10 : u_lay R_M F_M 10 ∈ jw_all := jw_tb (i := 436) rfl rfl
set_option maxRecDepth 20000 in
theorem jn_M11 : u_lay R_M F_M 11 ∈ jw_all := jw_tb (i := 438) rfl rfl
set_option maxRecDepth 20000 in
theorem jn_M12 : u_lay R_M F_M 12 ∈ jw_all := jw_tb (i := 440) rfl rfl
set_option maxRecDepth 20000 in
theorem jn_M13 : u_lay R_M F_M 13 ∈ jw_all := jw_tb (i := 442) rfl rfl
set_option maxRecDepth 20000 in
theorem jn_M14 : u_lay R_M F_M 14 ∈ jw_all := jw_tb (i := 444) rfl rfl
set_option maxRecDepth 20000 in
theorem jn_M15 : u_lay R_M F_M 15 ∈ jw_all := jw_tb (i := 446) rfl rfl
set_option maxRecDepth 20000 in
theorem jn_M16 : u_lay R_M F_M 16 ∈ jw_all := jw_tb (i := 448) rfl rfl
set_option maxRecDepth 20000 in
theorem jn_M17 : u_lay R_M F_M 17 ∈ jw_all := jw_tb (i := 450) rfl rfl
set_option maxRecDepth 20000 in
theorem jn_M18 : u_lay R_M F_M 18 ∈ jw_all := jw_tb (i := 452) rfl rfl
set_option maxRecDepth 20000 in
theorem jn_M19 : u_lay R_M F_M 19 ∈ jw_all := jw_tb (i := 454) rfl rfl
set_option maxRecDepth 20000 in
theorem jn_M20 : u_lay R_M F_M 20 ∈ jw_all := jw_tb (i := 456) rfl rfl
set_option maxRecDepth 20000 in
theorem jn_M21 : u_lay R_M F_M 21 ∈ jw_all := jw_tb (i := 458) rfl rfl
set_option maxRecDepth 20000 in
theorem jn_M22 : u_lay R_M F_M 22 ∈ jw_all := jw_tb (i := 460) rfl rfl
set_option maxRecDepth 20000 in
theorem jn_M23 : u_lay R_M F_M 23 ∈ jw_all := jw_tb (i := 462) rfl rfl
set_option maxRecDepth 20000 in
theorem jn_M24 : u_lay R_M F_M 24 ∈ jw_all := jw_tb (i := 464) rfl rfl
set_option maxRecDepth 20000 in
theorem jn_M25 : u_lay R_M F_M 25 ∈ jw_all := jw_tb (i := 466) rfl rfl
theorem jn_M : ∀ w ∈ u_ws R_M F_M 26, w ∈ jw_all := by
  intro w hw
  obtain ⟨k, hk, rfl⟩ := List.mem_map.mp hw
  have hk := List.mem_range.mp hk
  match k, hk with
  | 0, _ => exact jn_M0
  | 1, _ => exact jn_M1
  | 2, _ => exact jn_M2
  | 3, _ => exact jn_M3
  | 4, _ => exact jn_M4
  | 5, _ => exact jn_M5
  | 6, _ => exact jn_M6
  | 7, _ => exact jn_M7
  | 8, _ => exact jn_M8
  | 9, _ => exact jn_M9
  | 10, _ => exact jn_M10
  | 11, _ => exact jn_M11
  | 12, _ => exact jn_M12
  | 13, _ => exact jn_M13
  | 14, _ => exact jn_M14
  | 15, _ => exact jn_M15
  | 16, _ => exact jn_M16
  | 17, _ => exact jn_M17
  | 18, _ => exact jn_M18
  | 19, _ => exact jn_M19
  | 20, _ => exact jn_M20
  | 21, _ => exact jn_M21
  | 22, _ => exact jn_M22
  | 23, _ => exact jn_M23
  | 24, _ => exact jn_M24
  | 25, _ => exact jn_M25
  | k + 26, h => omega
abbrev classes : List vw_C := [(R_J, F_J, 9), (R_A, F_A, 5), (R_N, F_N, 4), (R_D, F_D, 6), (R_E, F_E, 6), (R_M, F_M, 26)]
abbrev b_J_init : ByteArray := prog_1_method_1_code
def y_J_init : MethodName := ⟨"JointHistory", "<init>", "()V"⟩
abbrev b_A_init : ByteArray := prog_2_method_1_code
def y_A_init : MethodName := ⟨"JointHistory$Answer", "<init>", "()V"⟩
abbrev b_N_init : ByteArray := prog_6_method_1_code
def y_N_init : MethodName := ⟨"JointHistory$Navigable", "<init>", "(I)V"⟩
abbrev b_D_init : ByteArray := prog_3_method_1_code
def y_D_init : MethodName := ⟨"JointHistory$Document", "<init>", "()V"⟩
abbrev b_E_init : ByteArray := prog_4_method_1_code
def y_E_init : MethodName := ⟨"JointHistory$Entry", "<init>", "()V"⟩
abbrev b_J_load : ByteArray := prog_1_method_36_code
def y_J_load : MethodName := ⟨"JointHistory", "load", "(LJointHistory$Navigable;II)LJointHistory$Document;"⟩
abbrev b_J_freeDocument : ByteArray := prog_1_method_41_code
def y_J_freeDocument : MethodName := ⟨"JointHistory", "freeDocument", "(LJointHistory$Navigable;)LJointHistory$Document;"⟩
abbrev b_J_giveOpaqueOrigin : ByteArray := prog_1_method_37_code
def y_J_giveOpaqueOrigin : MethodName := ⟨"JointHistory", "giveOpaqueOrigin", "()I"⟩
abbrev b_J_pageOf : ByteArray := prog_1_method_23_code
def y_J_pageOf : MethodName := ⟨"JointHistory", "pageOf", "(I)I"⟩
abbrev b_J_hostOf : ByteArray := prog_1_method_22_code
def y_J_hostOf : MethodName := ⟨"JointHistory", "hostOf", "(I)I"⟩
abbrev b_J_makeFrames : ByteArray := prog_1_method_38_code
def y_J_makeFrames : MethodName := ⟨"JointHistory", "makeFrames", "(LJointHistory$Document;LJointHistory$Answer;I)V"⟩
abbrev b_J_makeFrame : ByteArray := prog_1_method_39_code
def y_J_makeFrame : MethodName := ⟨"JointHistory", "makeFrame", "(LJointHistory$Document;II)LJointHistory$Navigable;"⟩
abbrev b_J_freeNavigable : ByteArray := prog_1_method_40_code
def y_J_freeNavigable : MethodName := ⟨"JointHistory", "freeNavigable", "()LJointHistory$Navigable;"⟩
abbrev b_J_followDetours : ByteArray := prog_1_method_34_code
def y_J_followDetours : MethodName := ⟨"JointHistory", "followDetours", "(I)I"⟩
abbrev b_J_isDetour : ByteArray := prog_1_method_35_code
def y_J_isDetour : MethodName := ⟨"JointHistory", "isDetour", "(I)Z"⟩
abbrev b_J_fragmentOf : ByteArray := prog_1_method_24_code
def y_J_fragmentOf : MethodName := ⟨"JointHistory", "fragmentOf", "(I)I"⟩
abbrev b_J_addEntry : ByteArray := prog_1_method_42_code
def y_J_addEntry : MethodName := ⟨"JointHistory", "addEntry", "(LJointHistory$Navigable;IIILJointHistory$Document;)V"⟩
abbrev b_J_content : ByteArray := prog_1_method_2_code
def y_J_content : MethodName := ⟨"JointHistory", "content", "(IIIZ)Z"⟩
abbrev b_J_isPage : ByteArray := prog_1_method_18_code
def y_J_isPage : MethodName := ⟨"JointHistory", "isPage", "(I)Z"⟩
abbrev b_J_isFrameChoice : ByteArray := prog_1_method_21_code
def y_J_isFrameChoice : MethodName := ⟨"JointHistory", "isFrameChoice", "(I)Z"⟩
abbrev b_J_isUrlOrBlank : ByteArray := prog_1_method_20_code
def y_J_isUrlOrBlank : MethodName := ⟨"JointHistory", "isUrlOrBlank", "(I)Z"⟩
abbrev b_J_isUrl : ByteArray := prog_1_method_19_code
def y_J_isUrl : MethodName := ⟨"JointHistory", "isUrl", "(I)Z"⟩
abbrev b_J_detour : ByteArray := prog_1_method_3_code
def y_J_detour : MethodName := ⟨"JointHistory", "detour", "(II)Z"⟩
abbrev b_J_fault : ByteArray := prog_1_method_4_code
def y_J_fault : MethodName := ⟨"JointHistory", "fault", "(I)Z"⟩
abbrev b_J_navigate : ByteArray := prog_1_method_5_code
def y_J_navigate : MethodName := ⟨"JointHistory", "navigate", "(IIZ)I"⟩
abbrev b_J_shownEntry : ByteArray := prog_1_method_32_code
def y_J_shownEntry : MethodName := ⟨"JointHistory", "shownEntry", "(II)LJointHistory$Entry;"⟩
abbrev b_J_entryAt : ByteArray := prog_1_method_33_code
def y_J_entryAt : MethodName := ⟨"JointHistory", "entryAt", "(LJointHistory$Navigable;I)LJointHistory$Entry;"⟩
abbrev b_J_isFull : ByteArray := prog_1_method_28_code
def y_J_isFull : MethodName := ⟨"JointHistory", "isFull", "(Z)Z"⟩
abbrev b_J_entriesUpTo : ByteArray := prog_1_method_29_code
def y_J_entriesUpTo : MethodName := ⟨"JointHistory", "entriesUpTo", "(I)I"⟩
abbrev b_J_dropLaterEntries : ByteArray := prog_1_method_44_code
def y_J_dropLaterEntries : MethodName := ⟨"JointHistory", "dropLaterEntries", "()V"⟩
abbrev b_J_dropWhatIsGone : ByteArray := prog_1_method_46_code
def y_J_dropWhatIsGone : MethodName := ⟨"JointHistory", "dropWhatIsGone", "()V"⟩
abbrev b_J_keepOnlyHeldDocuments : ByteArray := prog_1_method_47_code
def y_J_keepOnlyHeldDocuments : MethodName := ⟨"JointHistory", "keepOnlyHeldDocuments", "()V"⟩
abbrev b_J_dropFramesOfGoneDocuments : ByteArray := prog_1_method_48_code
def y_J_dropFramesOfGoneDocuments : MethodName := ⟨"JointHistory", "dropFramesOfGoneDocuments", "()V"⟩
abbrev b_J_dropEntriesOfGoneNavigables : ByteArray := prog_1_method_49_code
def y_J_dropEntriesOfGoneNavigables : MethodName := ⟨"JointHistory", "dropEntriesOfGoneNavigables", "()V"⟩
abbrev b_J_isFragmentMove : ByteArray := prog_1_method_26_code
def y_J_isFragmentMove : MethodName := ⟨"JointHistory", "isFragmentMove", "(II)Z"⟩
abbrev b_J_putEntry : ByteArray := prog_1_method_43_code
def y_J_putEntry : MethodName := ⟨"JointHistory", "putEntry", "(LJointHistory$Entry;IILJointHistory$Document;Z)V"⟩
abbrev b_J_settlePresentStep : ByteArray := prog_1_method_50_code
def y_J_settlePresentStep : MethodName := ⟨"JointHistory", "settlePresentStep", "()V"⟩
abbrev b_J_rewrite : ByteArray := prog_1_method_6_code
def y_J_rewrite : MethodName := ⟨"JointHistory", "rewrite", "(IIIZ)I"⟩
abbrev b_J_mayRewrite : ByteArray := prog_1_method_27_code
def y_J_mayRewrite : MethodName := ⟨"JointHistory", "mayRewrite", "(II)Z"⟩
abbrev b_J_go : ByteArray := prog_1_method_7_code
def y_J_go : MethodName := ⟨"JointHistory", "go", "(I)I"⟩
abbrev b_J_collectUsedSteps : ByteArray := prog_1_method_51_code
def y_J_collectUsedSteps : MethodName := ⟨"JointHistory", "collectUsedSteps", "()I"⟩
abbrev b_J_insertStep : ByteArray := prog_1_method_52_code
def y_J_insertStep : MethodName := ⟨"JointHistory", "insertStep", "(II)I"⟩
abbrev b_J_placeOfPresent : ByteArray := prog_1_method_53_code
def y_J_placeOfPresent : MethodName := ⟨"JointHistory", "placeOfPresent", "(I)I"⟩
abbrev b_J_countMove : ByteArray := prog_1_method_54_code
def y_J_countMove : MethodName := ⟨"JointHistory", "countMove", "(LJointHistory$Entry;LJointHistory$Entry;)V"⟩
abbrev b_J_detach : ByteArray := prog_1_method_8_code
def y_J_detach : MethodName := ⟨"JointHistory", "detach", "(I)I"⟩
abbrev b_J_takeOut : ByteArray := prog_1_method_45_code
def y_J_takeOut : MethodName := ⟨"JointHistory", "takeOut", "(LJointHistory$Navigable;)V"⟩
abbrev b_J_url : ByteArray := prog_1_method_9_code
def y_J_url : MethodName := ⟨"JointHistory", "url", "(I)I"⟩
abbrev b_J_state : ByteArray := prog_1_method_10_code
def y_J_state : MethodName := ⟨"JointHistory", "state", "(I)J"⟩
abbrev b_J_step : ByteArray := prog_1_method_11_code
def y_J_step : MethodName := ⟨"JointHistory", "step", "(I)I"⟩
abbrev b_J_origin : ByteArray := prog_1_method_12_code
def y_J_origin : MethodName := ⟨"JointHistory", "origin", "(I)I"⟩
abbrev b_J_frame : ByteArray := prog_1_method_13_code
def y_J_frame : MethodName := ⟨"JointHistory", "frame", "(II)I"⟩
abbrev b_J_numberOf : ByteArray := prog_1_method_25_code
def y_J_numberOf : MethodName := ⟨"JointHistory", "numberOf", "(LJointHistory$Navigable;)I"⟩
abbrev b_J_entries : ByteArray := prog_1_method_14_code
def y_J_entries : MethodName := ⟨"JointHistory", "entries", "(I)I"⟩
abbrev b_J_present : ByteArray := prog_1_method_15_code
def y_J_present : MethodName := ⟨"JointHistory", "present", "()I"⟩
abbrev b_J_length : ByteArray := prog_1_method_16_code
def y_J_length : MethodName := ⟨"JointHistory", "length", "()I"⟩
abbrev b_J_count : ByteArray := prog_1_method_17_code
def y_J_count : MethodName := ⟨"JointHistory", "count", "(I)I"⟩
abbrev b_J_shownNavigables : ByteArray := prog_1_method_31_code
def y_J_shownNavigables : MethodName := ⟨"JointHistory", "shownNavigables", "()I"⟩
abbrev b_J_allNavigables : ByteArray := prog_1_method_30_code
def y_J_allNavigables : MethodName := ⟨"JointHistory", "allNavigables", "()I"⟩
abbrev b_M_init : ByteArray := prog_8_method_1_code
def y_M_init : MethodName := ⟨"JointHistoryModel", "<init>", "()V"⟩
abbrev b_M_make : ByteArray := prog_8_method_7_code
def y_M_make : MethodName := ⟨"JointHistoryModel", "make", "(II)I"⟩
abbrev b_M_freshOrigin : ByteArray := prog_8_method_6_code
def y_M_freshOrigin : MethodName := ⟨"JointHistoryModel", "freshOrigin", "()I"⟩
abbrev b_M_write : ByteArray := prog_8_method_8_code
def y_M_write : MethodName := ⟨"JointHistoryModel", "write", "(IIII)I"⟩
abbrev b_M_mark : ByteArray := prog_8_method_17_code
def y_M_mark : MethodName := ⟨"JointHistoryModel", "mark", "()V"⟩
abbrev b_M_keep : ByteArray := prog_8_method_16_code
def y_M_keep : MethodName := ⟨"JointHistoryModel", "keep", "(I)V"⟩
abbrev b_M_presentOf : ByteArray := prog_8_method_19_code
def y_M_presentOf : MethodName := ⟨"JointHistoryModel", "presentOf", "(I)I"⟩
abbrev b_M_show : ByteArray := prog_8_method_18_code
def y_M_show : MethodName := ⟨"JointHistoryModel", "show", "(I)V"⟩
abbrev b_M_content : ByteArray := prog_8_method_3_code
def y_M_content : MethodName := ⟨"JointHistoryModel", "content", "(IIIZ)Z"⟩
abbrev b_M_between : ByteArray := prog_8_method_2_code
def y_M_between : MethodName := ⟨"JointHistoryModel", "between", "(III)Z"⟩
abbrev b_M_detour : ByteArray := prog_8_method_4_code
def y_M_detour : MethodName := ⟨"JointHistoryModel", "detour", "(II)Z"⟩
abbrev b_M_fault : ByteArray := prog_8_method_5_code
def y_M_fault : MethodName := ⟨"JointHistoryModel", "fault", "(I)Z"⟩
abbrev b_M_navigate : ByteArray := prog_8_method_27_code
def y_M_navigate : MethodName := ⟨"JointHistoryModel", "navigate", "(IIZ)I"⟩
abbrev b_M_isShown : ByteArray := prog_8_method_20_code
def y_M_isShown : MethodName := ⟨"JointHistoryModel", "isShown", "(I)Z"⟩
abbrev b_M_full : ByteArray := prog_8_method_23_code
def y_M_full : MethodName := ⟨"JointHistoryModel", "full", "(Z)Z"⟩
abbrev b_M_fragment : ByteArray := prog_8_method_26_code
def y_M_fragment : MethodName := ⟨"JointHistoryModel", "fragment", "(I)I"⟩
abbrev b_M_enter : ByteArray := prog_8_method_25_code
def y_M_enter : MethodName := ⟨"JointHistoryModel", "enter", "(IIIZI)V"⟩
abbrev b_M_cutOff : ByteArray := prog_8_method_24_code
def y_M_cutOff : MethodName := ⟨"JointHistoryModel", "cutOff", "()V"⟩
abbrev b_M_load : ByteArray := prog_8_method_15_code
def y_M_load : MethodName := ⟨"JointHistoryModel", "load", "(III)I"⟩
abbrev b_M_deep : ByteArray := prog_8_method_14_code
def y_M_deep : MethodName := ⟨"JointHistoryModel", "deep", "(I)I"⟩
abbrev b_M_loadWindow : ByteArray := prog_8_method_13_code
def y_M_loadWindow : MethodName := ⟨"JointHistoryModel", "loadWindow", "(II)I"⟩
abbrev b_M_wanted : ByteArray := prog_8_method_11_code
def y_M_wanted : MethodName := ⟨"JointHistoryModel", "wanted", "(III)I"⟩
abbrev b_M_frameFor : ByteArray := prog_8_method_9_code
def y_M_frameFor : MethodName := ⟨"JointHistoryModel", "frameFor", "(III)I"⟩
abbrev b_M_paperOf : ByteArray := prog_8_method_10_code
def y_M_paperOf : MethodName := ⟨"JointHistoryModel", "paperOf", "(I)I"⟩
abbrev b_M_loadMiddle : ByteArray := prog_8_method_12_code
def y_M_loadMiddle : MethodName := ⟨"JointHistoryModel", "loadMiddle", "(III)I"⟩
abbrev b_M_settle : ByteArray := prog_8_method_22_code
def y_M_settle : MethodName := ⟨"JointHistoryModel", "settle", "()V"⟩
abbrev b_M_used : ByteArray := prog_8_method_21_code
def y_M_used : MethodName := ⟨"JointHistoryModel", "used", "(I)Z"⟩
abbrev b_M_rewrite : ByteArray := prog_8_method_28_code
def y_M_rewrite : MethodName := ⟨"JointHistoryModel", "rewrite", "(IIIZ)I"⟩
abbrev b_M_go : ByteArray := prog_8_method_30_code
def y_M_go : MethodName := ⟨"JointHistoryModel", "go", "(I)I"⟩
abbrev b_M_stepAt : ByteArray := prog_8_method_29_code
def y_M_stepAt : MethodName := ⟨"JointHistoryModel", "stepAt", "(J)I"⟩
abbrev b_M_detach : ByteArray := prog_8_method_31_code
def y_M_detach : MethodName := ⟨"JointHistoryModel", "detach", "(I)I"⟩
abbrev b_M_url : ByteArray := prog_8_method_32_code
def y_M_url : MethodName := ⟨"JointHistoryModel", "url", "(I)I"⟩
abbrev b_M_state : ByteArray := prog_8_method_33_code
def y_M_state : MethodName := ⟨"JointHistoryModel", "state", "(I)J"⟩
abbrev b_M_step : ByteArray := prog_8_method_34_code
def y_M_step : MethodName := ⟨"JointHistoryModel", "step", "(I)I"⟩
abbrev b_M_origin : ByteArray := prog_8_method_35_code
def y_M_origin : MethodName := ⟨"JointHistoryModel", "origin", "(I)I"⟩
abbrev b_M_frame : ByteArray := prog_8_method_36_code
def y_M_frame : MethodName := ⟨"JointHistoryModel", "frame", "(II)I"⟩
abbrev b_M_entries : ByteArray := prog_8_method_37_code
def y_M_entries : MethodName := ⟨"JointHistoryModel", "entries", "(I)I"⟩
abbrev b_M_present : ByteArray := prog_8_method_38_code
def y_M_present : MethodName := ⟨"JointHistoryModel", "present", "()I"⟩
abbrev b_M_length : ByteArray := prog_8_method_39_code
def y_M_length : MethodName := ⟨"JointHistoryModel", "length", "()I"⟩
abbrev b_M_count : ByteArray := prog_8_method_40_code
def y_M_count : MethodName := ⟨"JointHistoryModel", "count", "(I)I"⟩
end
section
/-! Each link of a field or a method, in the list of words. -/
set_option maxRecDepth 20000 in
theorem wf_A_9 : Cond.fieldLink "JointHistory$Answer" 9 "JointHistory$Kind" "CONTENT" "LJointHistory$Kind;" ∈ jw_all := jw_tb (i := 30) rfl rfl
set_option maxRecDepth 20000 in
theorem wf_A_15 : Cond.fieldLink "JointHistory$Answer" 15 "JointHistory$Answer" "kind" "LJointHistory$Kind;" ∈ jw_all := jw_tb (i := 32) rfl rfl
set_option maxRecDepth 20000 in
theorem wf_J_68 : Cond.fieldLink "JointHistory" 68 "JointHistory$Answer" "kind" "LJointHistory$Kind;" ∈ jw_all := jw_tb (i := 33) rfl rfl
set_option maxRecDepth 20000 in
theorem wf_A_20 : Cond.fieldLink "JointHistory$Answer" 20 "JointHistory$Answer" "first" "I" ∈ jw_all := jw_tb (i := 34) rfl rfl
set_option maxRecDepth 20000 in
theorem wf_J_71 : Cond.fieldLink "JointHistory" 71 "JointHistory$Answer" "first" "I" ∈ jw_all := jw_tb (i := 35) rfl rfl
set_option maxRecDepth 20000 in
theorem wf_A_24 : Cond.fieldLink "JointHistory$Answer" 24 "JointHistory$Answer" "second" "I" ∈ jw_all := jw_tb (i := 36) rfl rfl
set_option maxRecDepth 20000 in
theorem wf_J_75 : Cond.fieldLink "JointHistory" 75 "JointHistory$Answer" "second" "I" ∈ jw_all := jw_tb (i := 37) rfl rfl
set_option maxRecDepth 20000 in
theorem wf_J_78 : Cond.fieldLink "JointHistory" 78 "JointHistory$Answer" "strict" "Z" ∈ jw_all := jw_tb (i := 38) rfl rfl
set_option maxRecDepth 20000 in
theorem wf_J_87 : Cond.fieldLink "JointHistory" 87 "JointHistory$Answer" "target" "I" ∈ jw_all := jw_tb (i := 39) rfl rfl
set_option maxRecDepth 20000 in
theorem wf_N_7 : Cond.fieldLink "JointHistory$Navigable" 7 "JointHistory$Navigable" "number" "I" ∈ jw_all := jw_tb (i := 57) rfl rfl
set_option maxRecDepth 20000 in
theorem wf_J_196 : Cond.fieldLink "JointHistory" 196 "JointHistory$Navigable" "number" "I" ∈ jw_all := jw_tb (i := 58) rfl rfl
set_option maxRecDepth 20000 in
theorem wf_J_43 : Cond.fieldLink "JointHistory" 43 "JointHistory$Navigable" "there" "Z" ∈ jw_all := jw_tb (i := 59) rfl rfl
set_option maxRecDepth 20000 in
theorem wf_J_233 : Cond.fieldLink "JointHistory" 233 "JointHistory$Navigable" "level" "I" ∈ jw_all := jw_tb (i := 60) rfl rfl
set_option maxRecDepth 20000 in
theorem wf_J_208 : Cond.fieldLink "JointHistory" 208 "JointHistory$Navigable" "above" "LJointHistory$Document;" ∈ jw_all := jw_tb (i := 61) rfl rfl
set_option maxRecDepth 20000 in
theorem wf_J_244 : Cond.fieldLink "JointHistory" 244 "JointHistory$Document" "there" "Z" ∈ jw_all := jw_tb (i := 76) rfl rfl
set_option maxRecDepth 20000 in
theorem wf_J_211 : Cond.fieldLink "JointHistory" 211 "JointHistory$Document" "owner" "LJointHistory$Navigable;" ∈ jw_all := jw_tb (i := 77) rfl rfl
set_option maxRecDepth 20000 in
theorem wf_J_168 : Cond.fieldLink "JointHistory" 168 "JointHistory$Document" "origin" "I" ∈ jw_all := jw_tb (i := 78) rfl rfl
set_option maxRecDepth 20000 in
theorem wf_J_219 : Cond.fieldLink "JointHistory" 219 "JointHistory$Document" "sandboxed" "Z" ∈ jw_all := jw_tb (i := 79) rfl rfl
set_option maxRecDepth 20000 in
theorem wf_J_171 : Cond.fieldLink "JointHistory" 171 "JointHistory$Document" "first" "LJointHistory$Navigable;" ∈ jw_all := jw_tb (i := 80) rfl rfl
set_option maxRecDepth 20000 in
theorem wf_J_177 : Cond.fieldLink "JointHistory" 177 "JointHistory$Document" "second" "LJointHistory$Navigable;" ∈ jw_all := jw_tb (i := 81) rfl rfl
set_option maxRecDepth 20000 in
theorem wf_J_179 : Cond.fieldLink "JointHistory" 179 "JointHistory$Entry" "there" "Z" ∈ jw_all := jw_tb (i := 100) rfl rfl
set_option maxRecDepth 20000 in
theorem wf_J_135 : Cond.fieldLink "JointHistory" 135 "JointHistory$Entry" "owner" "LJointHistory$Navigable;" ∈ jw_all := jw_tb (i := 101) rfl rfl
set_option maxRecDepth 20000 in
theorem wf_J_128 : Cond.fieldLink "JointHistory" 128 "JointHistory$Entry" "step" "I" ∈ jw_all := jw_tb (i := 102) rfl rfl
set_option maxRecDepth 20000 in
theorem wf_J_103 : Cond.fieldLink "JointHistory" 103 "JointHistory$Entry" "url" "I" ∈ jw_all := jw_tb (i := 103) rfl rfl
set_option maxRecDepth 20000 in
theorem wf_J_165 : Cond.fieldLink "JointHistory" 165 "JointHistory$Entry" "state" "I" ∈ jw_all := jw_tb (i := 104) rfl rfl
set_option maxRecDepth 20000 in
theorem wf_J_120 : Cond.fieldLink "JointHistory" 120 "JointHistory$Entry" "document" "LJointHistory$Document;" ∈ jw_all := jw_tb (i := 105) rfl rfl
set_option maxRecDepth 20000 in
theorem wf_J_62 : Cond.fieldLink "JointHistory" 62 "JointHistory$Kind" "CONTENT" "LJointHistory$Kind;" ∈ jw_all := jw_tb (i := 134) rfl rfl
set_option maxRecDepth 20000 in
theorem wf_J_84 : Cond.fieldLink "JointHistory" 84 "JointHistory$Kind" "DETOUR" "LJointHistory$Kind;" ∈ jw_all := jw_tb (i := 158) rfl rfl
set_option maxRecDepth 20000 in
theorem wf_J_11 : Cond.fieldLink "JointHistory" 11 "JointHistory" "answers" "[LJointHistory$Answer;" ∈ jw_all := jw_tb (i := 167) rfl rfl
set_option maxRecDepth 20000 in
theorem wf_J_17 : Cond.fieldLink "JointHistory" 17 "JointHistory" "navigables" "[LJointHistory$Navigable;" ∈ jw_all := jw_tb (i := 168) rfl rfl
set_option maxRecDepth 20000 in
theorem wf_J_23 : Cond.fieldLink "JointHistory" 23 "JointHistory" "documents" "[LJointHistory$Document;" ∈ jw_all := jw_tb (i := 169) rfl rfl
set_option maxRecDepth 20000 in
theorem wf_J_29 : Cond.fieldLink "JointHistory" 29 "JointHistory" "rows" "[LJointHistory$Entry;" ∈ jw_all := jw_tb (i := 170) rfl rfl
set_option maxRecDepth 20000 in
theorem wf_J_33 : Cond.fieldLink "JointHistory" 33 "JointHistory" "usedSteps" "[I" ∈ jw_all := jw_tb (i := 171) rfl rfl
set_option maxRecDepth 20000 in
theorem wf_J_96 : Cond.fieldLink "JointHistory" 96 "JointHistory" "presentStep" "I" ∈ jw_all := jw_tb (i := 172) rfl rfl
set_option maxRecDepth 20000 in
theorem wf_J_190 : Cond.fieldLink "JointHistory" 190 "JointHistory" "pops" "I" ∈ jw_all := jw_tb (i := 173) rfl rfl
set_option maxRecDepth 20000 in
theorem wf_J_117 : Cond.fieldLink "JointHistory" 117 "JointHistory" "hashes" "I" ∈ jw_all := jw_tb (i := 174) rfl rfl
set_option maxRecDepth 20000 in
theorem wf_J_193 : Cond.fieldLink "JointHistory" 193 "JointHistory" "opaques" "I" ∈ jw_all := jw_tb (i := 175) rfl rfl
set_option maxRecDepth 20000 in
theorem wf_J_90 : Cond.fieldLink "JointHistory" 90 "JointHistory$Kind" "FAULT" "LJointHistory$Kind;" ∈ jw_all := jw_tb (i := 219) rfl rfl
set_option maxRecDepth 20000 in
theorem wf_M_7 : Cond.fieldLink "JointHistoryModel" 7 "JointHistoryModel" "answer" "[I" ∈ jw_all := jw_tb (i := 390) rfl rfl
set_option maxRecDepth 20000 in
theorem wf_M_13 : Cond.fieldLink "JointHistoryModel" 13 "JointHistoryModel" "firstOf" "[I" ∈ jw_all := jw_tb (i := 391) rfl rfl
set_option maxRecDepth 20000 in
theorem wf_M_16 : Cond.fieldLink "JointHistoryModel" 16 "JointHistoryModel" "secondOf" "[I" ∈ jw_all := jw_tb (i := 392) rfl rfl
set_option maxRecDepth 20000 in
theorem wf_M_19 : Cond.fieldLink "JointHistoryModel" 19 "JointHistoryModel" "strictOf" "[Z" ∈ jw_all := jw_tb (i := 393) rfl rfl
set_option maxRecDepth 20000 in
theorem wf_M_23 : Cond.fieldLink "JointHistoryModel" 23 "JointHistoryModel" "owner" "[I" ∈ jw_all := jw_tb (i := 394) rfl rfl
set_option maxRecDepth 20000 in
theorem wf_M_26 : Cond.fieldLink "JointHistoryModel" 26 "JointHistoryModel" "stepOf" "[I" ∈ jw_all := jw_tb (i := 395) rfl rfl
set_option maxRecDepth 20000 in
theorem wf_M_29 : Cond.fieldLink "JointHistoryModel" 29 "JointHistoryModel" "urlOf" "[I" ∈ jw_all := jw_tb (i := 396) rfl rfl
set_option maxRecDepth 20000 in
theorem wf_M_32 : Cond.fieldLink "JointHistoryModel" 32 "JointHistoryModel" "stateOf" "[I" ∈ jw_all := jw_tb (i := 397) rfl rfl
set_option maxRecDepth 20000 in
theorem wf_M_35 : Cond.fieldLink "JointHistoryModel" 35 "JointHistoryModel" "paper" "[I" ∈ jw_all := jw_tb (i := 398) rfl rfl
set_option maxRecDepth 20000 in
theorem wf_M_38 : Cond.fieldLink "JointHistoryModel" 38 "JointHistoryModel" "entry" "[Z" ∈ jw_all := jw_tb (i := 399) rfl rfl
set_option maxRecDepth 20000 in
theorem wf_M_41 : Cond.fieldLink "JointHistoryModel" 41 "JointHistoryModel" "there" "[Z" ∈ jw_all := jw_tb (i := 400) rfl rfl
set_option maxRecDepth 20000 in
theorem wf_M_44 : Cond.fieldLink "JointHistoryModel" 44 "JointHistoryModel" "originOf" "[I" ∈ jw_all := jw_tb (i := 401) rfl rfl
set_option maxRecDepth 20000 in
theorem wf_M_47 : Cond.fieldLink "JointHistoryModel" 47 "JointHistoryModel" "sandboxed" "[Z" ∈ jw_all := jw_tb (i := 402) rfl rfl
set_option maxRecDepth 20000 in
theorem wf_M_50 : Cond.fieldLink "JointHistoryModel" 50 "JointHistoryModel" "left" "[I" ∈ jw_all := jw_tb (i := 403) rfl rfl
set_option maxRecDepth 20000 in
theorem wf_M_53 : Cond.fieldLink "JointHistoryModel" 53 "JointHistoryModel" "right" "[I" ∈ jw_all := jw_tb (i := 404) rfl rfl
set_option maxRecDepth 20000 in
theorem wf_M_56 : Cond.fieldLink "JointHistoryModel" 56 "JointHistoryModel" "exists" "[Z" ∈ jw_all := jw_tb (i := 405) rfl rfl
set_option maxRecDepth 20000 in
theorem wf_M_59 : Cond.fieldLink "JointHistoryModel" 59 "JointHistoryModel" "above" "[I" ∈ jw_all := jw_tb (i := 406) rfl rfl
set_option maxRecDepth 20000 in
theorem wf_M_62 : Cond.fieldLink "JointHistoryModel" 62 "JointHistoryModel" "shown" "[Z" ∈ jw_all := jw_tb (i := 407) rfl rfl
set_option maxRecDepth 20000 in
theorem wf_M_65 : Cond.fieldLink "JointHistoryModel" 65 "JointHistoryModel" "then" "[I" ∈ jw_all := jw_tb (i := 408) rfl rfl
set_option maxRecDepth 20000 in
theorem wf_M_68 : Cond.fieldLink "JointHistoryModel" 68 "JointHistoryModel" "keepPaper" "[Z" ∈ jw_all := jw_tb (i := 409) rfl rfl
set_option maxRecDepth 20000 in
theorem wf_M_71 : Cond.fieldLink "JointHistoryModel" 71 "JointHistoryModel" "keepNav" "[Z" ∈ jw_all := jw_tb (i := 410) rfl rfl
set_option maxRecDepth 20000 in
theorem wf_M_130 : Cond.fieldLink "JointHistoryModel" 130 "JointHistoryModel" "now" "I" ∈ jw_all := jw_tb (i := 411) rfl rfl
set_option maxRecDepth 20000 in
theorem wf_M_89 : Cond.fieldLink "JointHistoryModel" 89 "JointHistoryModel" "opaque" "I" ∈ jw_all := jw_tb (i := 412) rfl rfl
set_option maxRecDepth 20000 in
theorem wf_M_167 : Cond.fieldLink "JointHistoryModel" 167 "JointHistoryModel" "pops" "I" ∈ jw_all := jw_tb (i := 413) rfl rfl
set_option maxRecDepth 20000 in
theorem wf_M_156 : Cond.fieldLink "JointHistoryModel" 156 "JointHistoryModel" "hashes" "I" ∈ jw_all := jw_tb (i := 414) rfl rfl
set_option maxRecDepth 20000 in
theorem wf_M_93 : Cond.fieldLink "JointHistoryModel" 93 "JointHistoryModel" "landed" "I" ∈ jw_all := jw_tb (i := 415) rfl rfl
end
section
/-! The class as functions of a store: field number, row -> value. A reference is the number of its row, or -1. -/
abbrev js_S : Type := Nat → Nat → Int32
def js_up (s : js_S) (f i : Nat) (v : Int32) : js_S := fun g j => if g = f ∧ j = i then v else s g j
theorem js_up_s (s : js_S) (f i : Nat) (v : Int32) : js_up s f i v f i = v := by simp [js_up]
theorem js_up_f {s : js_S} {f i g j : Nat} {v : Int32} (h : ¬ g = f) : js_up s f i v g j = s g j := by simp [js_up, h]
theorem js_up_i {s : js_S} {f i g j : Nat} {v : Int32} (h : ¬ j = i) : js_up s f i v g j = s g j := by simp [js_up, h]
abbrev ix (x : Int32) : Nat := x.toNatClampNeg
theorem ix_nI {n : Nat} (h : n < 2 ^ 31) : ix (nI n) = n := nI_clamp h
/-- the first row from i on, among k, whose flag f isn't set; if there is none, the one behind them -/
def js_free (s : js_S) (f : Nat) : Nat → Nat → Nat
  | 0, i => i
  | k + 1, i => if s f i = 0 then i else js_free s f k (i + 1)
def js_b (p : Prop) [Decidable p] : Int32 := if p then 1 else 0
-- static methods
def jc_isPage (x : Int32) : Int32 := if x < 0 then 0 else if 32 ≤ x then 0 else 1
def jc_isUrl (x : Int32) : Int32 := if x < 0 then 0 else if 256 ≤ x then 0 else 1
def jc_isUB (x : Int32) : Int32 := if x = -1 then 1 else if jc_isUrl x = 0 then 0 else 1
def jc_isFC (x : Int32) : Int32 := if x = -2 then 1 else if jc_isUB x = 0 then 0 else 1
def jc_frag (x : Int32) : Int32 := if x = -1 then 0 else x - x / 8 * 8
def jc_isFM (x y : Int32) : Int32 := if x = -1 then 0 else if y = -1 then 0 else if jc_frag y = 0 then 0 else if x / 8 = y / 8 then 1 else 0
def jc_mayR (x y : Int32) : Int32 := if x = -1 then 0 else if x / 64 = y / 64 then (if x / 64 = 3 then (if x / 8 = y / 8 then 1 else 0) else 1) else 0
-- reading
def jc_cntE (s : js_S) (st : Int32) : Nat → Nat
  | 0 => 0
  | i + 1 => if s 14 i ≠ 0 ∧ ¬ st < s 16 i then jc_cntE s st i + 1 else jc_cntE s st i
def jc_cntN (s : js_S) : Nat → Nat
  | 0 => 0
  | i + 1 => if s 5 i ≠ 0 then jc_cntN s i + 1 else jc_cntN s i
def jc_cntO (s : js_S) (o : Int32) : Nat → Nat
  | 0 => 0
  | i + 1 => if s 14 i ≠ 0 ∧ s 15 i = o then jc_cntO s o i + 1 else jc_cntO s o i
def jc_eA (s : js_S) (nav st : Int32) : Nat → Int32
  | 0 => -1
  | i + 1 => if s 14 i ≠ 0 ∧ s 15 i = nav ∧ ¬ st < s 16 i ∧ (jc_eA s nav st i = -1 ∨ ¬ s 16 i ≤ s 16 (ix (jc_eA s nav st i))) then nI i else jc_eA s nav st i
def jc_entryAt (s : js_S) (nav st : Int32) : Int32 := jc_eA s nav st 40
/-- may the document d (or none) be seen at the step: is it its owner's there -/
def jc_held (s : js_S) (d st : Int32) : Bool := decide (d = -1 ∨ (jc_entryAt s (s 9 (ix d)) st ≠ -1 ∧ s 19 (ix (jc_entryAt s (s 9 (ix d)) st)) = d))
def jc_up1 (s : js_S) (d : Int32) : Int32 := if d = -1 then -1 else s 7 (ix (s 9 (ix d)))
def jc_shownEntry (s : js_S) (n st : Int32) : Int32 :=
  if ¬ n < 0 ∧ ¬ 40 ≤ n ∧ s 5 (ix n) ≠ 0 ∧ jc_held s (s 7 (ix n)) st = true ∧ jc_held s (jc_up1 s (s 7 (ix n))) st = true then jc_entryAt s n st else -1
def jc_cntS (s : js_S) (st : Int32) : Nat → Nat
  | 0 => 0
  | i + 1 => if jc_shownEntry s (nI i) st ≠ -1 then jc_cntS s st i + 1 else jc_cntS s st i
-- loading
def jc_fd (s : js_S) : Nat → Int32 → Int32
  | 0, u => u
  | k + 1, u => if u ≠ -1 ∧ s 0 (ix (u / 8)) = 1 then jc_fd s k (if jc_frag (s 4 (ix (u / 8))) = 0 then s 4 (ix (u / 8)) + jc_frag u else s 4 (ix (u / 8))) else u
def jc_addEntry (s : js_S) (owner step url state doc : Int32) : js_S :=
  js_up (js_up (js_up (js_up (js_up (js_up s 14 (js_free s 14 39 0) 1) 15 (js_free s 14 39 0) owner) 16 (js_free s 14 39 0) step) 17 (js_free s 14 39 0) url) 18 (js_free s 14 39 0) state) 19 (js_free s 14 39 0) doc
def jc_freeDoc (s : js_S) (owner : Int32) : js_S :=
  js_up (js_up (js_up (js_up s 8 (js_free s 8 39 0) 1) 9 (js_free s 8 39 0) owner) 12 (js_free s 8 39 0) (-1)) 13 (js_free s 8 39 0) (-1)
def jc_opq (s : js_S) (i : Nat) : js_S := js_up (js_up s 24 0 (s 24 0 + 1)) 10 i (4 + s 24 0)
def jc_mkFrame (L : js_S → Int32 → Int32 → Int32 → js_S) (s : js_S) (doc url step : Int32) : js_S :=
  let n := js_free s 5 38 1
  let s1 := js_up (js_up (js_up s 5 n 1) 6 n (s 6 (ix (s 9 (ix doc))) + 1)) 7 n doc
  let led := jc_fd s1 4 url
  jc_addEntry (L s1 (nI n) led step) (nI n) step led 0 (nI (js_free s1 8 39 0))
def jc_mf1 (L : js_S → Int32 → Int32 → Int32 → js_S) (s : js_S) (doc : Int32) (a : Nat) (step : Int32) : js_S := js_up (jc_mkFrame L s doc (s 1 a) step) 12 (ix doc) (nI (js_free s 5 38 1))
def jc_mf2 (L : js_S → Int32 → Int32 → Int32 → js_S) (s : js_S) (doc : Int32) (a : Nat) (step : Int32) : js_S :=
  if jc_mkFrame L s doc (s 2 a) step 12 (ix doc) = -1 then js_up (jc_mkFrame L s doc (s 2 a) step) 12 (ix doc) (nI (js_free s 5 38 1)) else js_up (jc_mkFrame L s doc (s 2 a) step) 13 (ix doc) (nI (js_free s 5 38 1))
def jc_room (s : js_S) (doc : Int32) : Int32 := 2 - s 6 (ix (s 9 (ix doc)))
def jc_mkFrames (L : js_S → Int32 → Int32 → Int32 → js_S) (s : js_S) (doc : Int32) (a : Nat) (step : Int32) : js_S :=
  if 0 < jc_room s doc ∧ s 1 a ≠ -2 then
    (if 0 < jc_room s doc + -1 ∧ jc_mf1 L s doc a step 2 a ≠ -2 then jc_mf2 L (jc_mf1 L s doc a step) doc a step else jc_mf1 L s doc a step)
  else (if 0 < jc_room s doc ∧ s 2 a ≠ -2 then jc_mf2 L s doc a step else s)
def jc_loadB (L : js_S → Int32 → Int32 → Int32 → js_S) (s : js_S) (owner url step : Int32) : js_S :=
  let above := s 7 (ix owner)
  let boxed := js_b (above ≠ -1 ∧ s 11 (ix above) ≠ 0)
  let i := js_free s 8 39 0
  let s1 := jc_freeDoc s owner
  if url = -1 then
    let s2 := js_up s1 11 i boxed
    if above = -1 ∨ boxed ≠ 0 then jc_opq s2 i else js_up s2 10 i (s2 10 (ix above))
  else
    let a := ix (url / 8)
    if s1 0 a ≠ 0 then jc_opq (js_up s1 11 i 0) i
    else
      let bx := js_b (s1 3 a ≠ 0 ∨ boxed ≠ 0)
      let s2 := js_up s1 11 i bx
      let s3 := if bx ≠ 0 then jc_opq s2 i else js_up s2 10 i (url / 64)
      jc_mkFrames L s3 (nI i) a step
def jc_load : Nat → js_S → Int32 → Int32 → Int32 → js_S
  | 0 => jc_loadB (fun s _ _ _ => s)
  | d + 1 => jc_loadB (jc_load d)
-- dropping
def jc_kd1 (s : js_S) : Nat → js_S
  | 0 => s
  | i + 1 => js_up (jc_kd1 s i) 8 i 0
def jc_kd2 (s : js_S) : Nat → js_S
  | 0 => s
  | i + 1 => if jc_kd2 s i 14 i ≠ 0 then js_up (jc_kd2 s i) 8 (ix (jc_kd2 s i 19 i)) 1 else jc_kd2 s i
def jc_keepDocs (s : js_S) : js_S := jc_kd2 (jc_kd1 s 40) 40
def jc_df (s : js_S) : Nat → js_S
  | 0 => s
  | i + 1 => if jc_df s i 7 i ≠ -1 ∧ jc_df s i 8 (ix (jc_df s i 7 i)) = 0 then js_up (jc_df s i) 5 i 0 else jc_df s i
def jc_de (s : js_S) : Nat → js_S
  | 0 => s
  | i + 1 => if jc_de s i 14 i ≠ 0 ∧ jc_de s i 5 (ix (jc_de s i 15 i)) = 0 then js_up (jc_de s i) 14 i 0 else jc_de s i
def jc_round (s : js_S) : js_S := jc_de (jc_df (jc_keepDocs s) 40) 40
def jc_gone (s : js_S) : js_S := jc_round (jc_round (jc_round s))
def jc_dl (s : js_S) : Nat → js_S
  | 0 => s
  | i + 1 => if ¬ jc_dl s i 16 i ≤ jc_dl s i 21 0 then js_up (jc_dl s i) 14 i 0 else jc_dl s i
def jc_dropLater (s : js_S) : js_S := jc_gone (jc_dl s 40)
def jc_lt (s : js_S) : Nat → Int32
  | 0 => 0
  | i + 1 => if s 14 i ≠ 0 ∧ ¬ s 21 0 < s 16 i ∧ ¬ s 16 i ≤ jc_lt s i then s 16 i else jc_lt s i
def jc_settle (s : js_S) : js_S := js_up s 21 0 (jc_lt s 40)
def jc_takeOut (s : js_S) (n : Int32) : js_S :=
  let a := s 7 (ix n)
  if a = -1 then s else
    let s1 := if s 12 (ix a) = n then js_up s 12 (ix a) (s 13 (ix a)) else s
    js_up (js_up s1 13 (ix a) (-1)) 5 (ix n) 0
def jc_putEntry (s : js_S) (e url state doc push : Int32) : js_S :=
  if push ≠ 0 then
    let s1 := js_up s 21 0 (s 21 0 + 1)
    jc_addEntry s1 (s1 15 (ix e)) (s1 21 0) url state doc
  else jc_settle (jc_gone (js_up (js_up (js_up s 17 (ix e) url) 18 (ix e) state) 19 (ix e) doc))
-- used steps
/-- from at downwards: the place behind the last one that is not greater -/
def jc_at (s : js_S) (st : Int32) : Nat → Nat
  | 0 => 0
  | k + 1 => if st < s 20 k then jc_at s st k else k + 1
def jc_sh (s : js_S) (at_ : Nat) : Nat → js_S
  | 0 => s
  | k + 1 => if at_ < k + 1 then jc_sh (js_up s 20 (k + 1) (s 20 k)) at_ k else s
def jc_insQ (s : js_S) (st : Int32) (n : Nat) : Bool := decide (0 < jc_at s st n ∧ s 20 (jc_at s st n - 1) = st)
def jc_ins (s : js_S) (st : Int32) (n : Nat) : js_S := js_up (jc_sh s (jc_at s st n) n) 20 (jc_at s st n) st
/-- the used steps of the first i rows are collected: the store, how many -/
def jc_cu (s : js_S) : Nat → js_S × Nat
  | 0 => (s, 0)
  | i + 1 => if (jc_cu s i).1 14 i ≠ 0 then (if jc_insQ (jc_cu s i).1 ((jc_cu s i).1 16 i) (jc_cu s i).2 = true then jc_cu s i else (jc_ins (jc_cu s i).1 ((jc_cu s i).1 16 i) (jc_cu s i).2, (jc_cu s i).2 + 1)) else jc_cu s i
def jc_place (s : js_S) : Nat → Nat → Nat
  | 0, i => i
  | k + 1, i => if s 20 i < s 21 0 then jc_place s k (i + 1) else i
def jc_move (s : js_S) (x y : Int32) : js_S :=
  if x = -1 ∨ y = -1 ∨ x = y ∨ s 19 (ix x) ≠ s 19 (ix y) then s
  else if jc_frag (s 17 (ix x)) ≠ jc_frag (s 17 (ix y)) then js_up (js_up s 22 0 (s 22 0 + 1)) 23 0 (s 23 0 + 1) else js_up s 22 0 (s 22 0 + 1)
def jc_mv (s : js_S) (st : Int32) : Nat → js_S
  | 0 => s
  | i + 1 => jc_move (jc_mv s st i) (jc_shownEntry (jc_mv s st i) (nI i) (jc_mv s st i 21 0)) (jc_shownEntry (jc_mv s st i) (nI i) st)
-- the public methods: answer and store
def jc_content (s : js_S) (page a b strict : Int32) : Int32 × js_S :=
  if jc_isPage page = 0 ∨ jc_isFC a = 0 ∨ jc_isFC b = 0 then (0, s)
  else (1, js_up (js_up (js_up (js_up s 0 (ix page) 0) 1 (ix page) a) 2 (ix page) b) 3 (ix page) strict)
def jc_detour (s : js_S) (page url : Int32) : Int32 × js_S :=
  if jc_isPage page = 0 ∨ jc_isUrl url = 0 then (0, s) else (1, js_up (js_up s 0 (ix page) 1) 4 (ix page) url)
def jc_fault (s : js_S) (page : Int32) : Int32 × js_S := if jc_isPage page = 0 then (0, s) else (1, js_up s 0 (ix page) 2)
def jc_full (s : js_S) (push : Int32) : Int32 := js_b (36 ≤ jc_cntE s (if push ≠ 0 then s 21 0 else 2147483647) 40)
def jc_nav (s : js_S) (e url : Int32) (push : Int32) : js_S :=
  if jc_isFM (s 17 (ix e)) url ≠ 0 then
    jc_putEntry (if url ≠ s 17 (ix e) then js_up s 23 0 (s 23 0 + 1) else s) e url 0 (s 19 (ix e)) push
  else jc_putEntry (jc_load 2 s (s 15 (ix e)) (jc_fd s 4 url) (if push ≠ 0 then s 21 0 + 1 else s 16 (ix e))) e (jc_fd s 4 url) 0 (nI (js_free s 8 39 0)) push
def jc_navigate (s : js_S) (n url rep : Int32) : Int32 × js_S :=
  if jc_isUB url = 0 then (-3, s) else
  if jc_shownEntry s n (s 21 0) = -1 then (-4, s) else
  if jc_full s (js_b (rep = 0 ∧ url ≠ s 17 (ix (jc_shownEntry s n (s 21 0))))) ≠ 0 then (-5, s) else
  if rep = 0 ∧ url ≠ s 17 (ix (jc_shownEntry s n (s 21 0))) then
    (jc_nav (jc_dropLater s) (jc_shownEntry s n (s 21 0)) url 1 21 0, jc_nav (jc_dropLater s) (jc_shownEntry s n (s 21 0)) url 1)
  else (jc_nav s (jc_shownEntry s n (s 21 0)) url 0 21 0, jc_nav s (jc_shownEntry s n (s 21 0)) url 0)
def jc_rew (s : js_S) (e url state push : Int32) : js_S := jc_putEntry s e (if url = -1 then s 17 (ix e) else url) state (s 19 (ix e)) push
def jc_rewrite (s : js_S) (n url state push : Int32) : Int32 × js_S :=
  if jc_isUB url = 0 then (-3, s) else
  if jc_shownEntry s n (s 21 0) = -1 then (-4, s) else
  if url ≠ -1 ∧ jc_mayR (s 17 (ix (jc_shownEntry s n (s 21 0)))) url = 0 then (-6, s) else
  if jc_full s push ≠ 0 then (-5, s) else
  if push ≠ 0 then (jc_rew (jc_dropLater s) (jc_shownEntry s n (s 21 0)) url state push 21 0, jc_rew (jc_dropLater s) (jc_shownEntry s n (s 21 0)) url state push)
  else (jc_rew s (jc_shownEntry s n (s 21 0)) url state push 21 0, jc_rew s (jc_shownEntry s n (s 21 0)) url state push)
def jc_go (s : js_S) (delta : Int32) : Int32 × js_S :=
  let c := jc_cu s 40
  let aim := (nI (jc_place c.1 (c.2 - 1) 0)).toInt64 + delta.toInt64
  if aim < 0 ∨ lN c.2 ≤ aim then (-7, c.1) else
    let t := c.1 20 (ix aim.toInt32)
    (t, js_up (jc_mv c.1 t 40) 21 0 t)
def jc_detach (s : js_S) (n : Int32) : Int32 × js_S :=
  if n = 0 then (-3, s) else if jc_shownEntry s n (s 21 0) = -1 then (-4, s) else
  (jc_settle (jc_gone (jc_takeOut s (s 15 (ix (jc_shownEntry s n (s 21 0)))))) 21 0, jc_settle (jc_gone (jc_takeOut s (s 15 (ix (jc_shownEntry s n (s 21 0)))))))
def jc_url (s : js_S) (n : Int32) : Int32 := if jc_shownEntry s n (s 21 0) = -1 then -4 else s 17 (ix (jc_shownEntry s n (s 21 0)))
def jc_state (s : js_S) (n : Int32) : Int64 := if jc_shownEntry s n (s 21 0) = -1 then 1099511627776 else (s 18 (ix (jc_shownEntry s n (s 21 0)))).toInt64
def jc_step (s : js_S) (n : Int32) : Int32 := if jc_shownEntry s n (s 21 0) = -1 then -4 else s 16 (ix (jc_shownEntry s n (s 21 0)))
def jc_origin (s : js_S) (n : Int32) : Int32 := if jc_shownEntry s n (s 21 0) = -1 then -4 else s 10 (ix (s 19 (ix (jc_shownEntry s n (s 21 0)))))
def jc_numOf (x : Int32) : Int32 := if x = -1 then -7 else x
def jc_frame (s : js_S) (n k : Int32) : Int32 :=
  if jc_shownEntry s n (s 21 0) = -1 then -4 else if k = 0 then jc_numOf (s 12 (ix (s 19 (ix (jc_shownEntry s n (s 21 0)))))) else if k = 1 then jc_numOf (s 13 (ix (s 19 (ix (jc_shownEntry s n (s 21 0)))))) else -7
def jc_entries (s : js_S) (n : Int32) : Int32 := if jc_shownEntry s n (s 21 0) = -1 then -4 else nI (jc_cntO s (s 15 (ix (jc_shownEntry s n (s 21 0)))) 40)
def jc_length (s : js_S) : Int32 × js_S := (nI (jc_cu s 40).2, (jc_cu s 40).1)
def jc_count (s : js_S) (k : Int32) : Int32 :=
  if k = 0 then nI (jc_cntS s (s 21 0) 40) else if k = 1 then nI (jc_cntN s 40) else if k = 2 then nI (jc_cntE s 2147483647 40) else if k = 3 then s 22 0 else if k = 4 then s 23 0 else if k = 5 then s 24 0 else -7
end
