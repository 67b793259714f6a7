section
-- ===== PART A: goes FIRST, ahead of the names: the tables' words, and 'selects' of the private methods out of them =====
/-- a private method of a class that the tables say can be made, by its rows of tables_1 -/
def lw_okq (q : MethodName × Nat) : Prop := (q.1.cls ≠ "java/lang/invoke/MethodHandle" ∧ q.1.cls ≠ "java/lang/invoke/VarHandle") ∧ Cond.instantiable q.1.cls q.2 ∈ tables_1 ∧ Cond.privateMethod q.1 ∈ tables_1 ∧ Cond.instanceMethod q.1 ∈ tables_1
theorem lw_p0 : lw_okq (⟨"JointHistory", "load", "(LJointHistory$Navigable;II)LJointHistory$Document;"⟩, 9) := ⟨⟨by decide +kernel, by decide +kernel⟩, List.mem_of_getElem? (i := 10) (by decide +kernel), List.mem_of_getElem? (i := 120) (by decide +kernel), List.mem_of_getElem? (i := 121) (by decide +kernel)⟩
theorem lw_p1 : lw_okq (⟨"JointHistory", "freeDocument", "(LJointHistory$Navigable;)LJointHistory$Document;"⟩, 9) := ⟨⟨by decide +kernel, by decide +kernel⟩, List.mem_of_getElem? (i := 10) (by decide +kernel), List.mem_of_getElem? (i := 124) (by decide +kernel), List.mem_of_getElem? (i := 125) (by decide +kernel)⟩
theorem lw_p2 : lw_okq (⟨"JointHistory", "giveOpaqueOrigin", "()I"⟩, 9) := ⟨⟨by decide +kernel, by decide +kernel⟩, List.mem_of_getElem? (i := 10) (by decide +kernel), List.mem_of_getElem? (i := 128) (by decide +kernel), List.mem_of_getElem? (i := 129) (by decide +kernel)⟩
theorem lw_p3 : lw_okq (⟨"JointHistory", "makeFrames", "(LJointHistory$Document;LJointHistory$Answer;I)V"⟩, 9) := ⟨⟨by decide +kernel, by decide +kernel⟩, List.mem_of_getElem? (i := 10) (by decide +kernel), List.mem_of_getElem? (i := 139) (by decide +kernel), List.mem_of_getElem? (i := 140) (by decide +kernel)⟩
theorem lw_p4 : lw_okq (⟨"JointHistory", "makeFrame", "(LJointHistory$Document;II)LJointHistory$Navigable;"⟩, 9) := ⟨⟨by decide +kernel, by decide +kernel⟩, List.mem_of_getElem? (i := 10) (by decide +kernel), List.mem_of_getElem? (i := 143) (by decide +kernel), List.mem_of_getElem? (i := 144) (by decide +kernel)⟩
theorem lw_p5 : lw_okq (⟨"JointHistory", "freeNavigable", "()LJointHistory$Navigable;"⟩, 9) := ⟨⟨by decide +kernel, by decide +kernel⟩, List.mem_of_getElem? (i := 10) (by decide +kernel), List.mem_of_getElem? (i := 147) (by decide +kernel), List.mem_of_getElem? (i := 148) (by decide +kernel)⟩
theorem lw_p6 : lw_okq (⟨"JointHistory", "followDetours", "(I)I"⟩, 9) := ⟨⟨by decide +kernel, by decide +kernel⟩, List.mem_of_getElem? (i := 10) (by decide +kernel), List.mem_of_getElem? (i := 151) (by decide +kernel), List.mem_of_getElem? (i := 152) (by decide +kernel)⟩
theorem lw_p7 : lw_okq (⟨"JointHistory", "isDetour", "(I)Z"⟩, 9) := ⟨⟨by decide +kernel, by decide +kernel⟩, List.mem_of_getElem? (i := 10) (by decide +kernel), List.mem_of_getElem? (i := 155) (by decide +kernel), List.mem_of_getElem? (i := 156) (by decide +kernel)⟩
theorem lw_p8 : lw_okq (⟨"JointHistory", "addEntry", "(LJointHistory$Navigable;IIILJointHistory$Document;)V"⟩, 9) := ⟨⟨by decide +kernel, by decide +kernel⟩, List.mem_of_getElem? (i := 10) (by decide +kernel), List.mem_of_getElem? (i := 164) (by decide +kernel), List.mem_of_getElem? (i := 165) (by decide +kernel)⟩
theorem lw_p9 : lw_okq (⟨"JointHistory", "shownEntry", "(II)LJointHistory$Entry;"⟩, 9) := ⟨⟨by decide +kernel, by decide +kernel⟩, List.mem_of_getElem? (i := 10) (by decide +kernel), List.mem_of_getElem? (i := 226) (by decide +kernel), List.mem_of_getElem? (i := 227) (by decide +kernel)⟩
theorem lw_p10 : lw_okq (⟨"JointHistory", "entryAt", "(LJointHistory$Navigable;I)LJointHistory$Entry;"⟩, 9) := ⟨⟨by decide +kernel, by decide +kernel⟩, List.mem_of_getElem? (i := 10) (by decide +kernel), List.mem_of_getElem? (i := 230) (by decide +kernel), List.mem_of_getElem? (i := 231) (by decide +kernel)⟩
theorem lw_p11 : lw_okq (⟨"JointHistory", "isFull", "(Z)Z"⟩, 9) := ⟨⟨by decide +kernel, by decide +kernel⟩, List.mem_of_getElem? (i := 10) (by decide +kernel), List.mem_of_getElem? (i := 234) (by decide +kernel), List.mem_of_getElem? (i := 235) (by decide +kernel)⟩
theorem lw_p12 : lw_okq (⟨"JointHistory", "entriesUpTo", "(I)I"⟩, 9) := ⟨⟨by decide +kernel, by decide +kernel⟩, List.mem_of_getElem? (i := 10) (by decide +kernel), List.mem_of_getElem? (i := 239) (by decide +kernel), List.mem_of_getElem? (i := 240) (by decide +kernel)⟩
theorem lw_p13 : lw_okq (⟨"JointHistory", "dropLaterEntries", "()V"⟩, 9) := ⟨⟨by decide +kernel, by decide +kernel⟩, List.mem_of_getElem? (i := 10) (by decide +kernel), List.mem_of_getElem? (i := 243) (by decide +kernel), List.mem_of_getElem? (i := 244) (by decide +kernel)⟩
theorem lw_p14 : lw_okq (⟨"JointHistory", "dropWhatIsGone", "()V"⟩, 9) := ⟨⟨by decide +kernel, by decide +kernel⟩, List.mem_of_getElem? (i := 10) (by decide +kernel), List.mem_of_getElem? (i := 247) (by decide +kernel), List.mem_of_getElem? (i := 248) (by decide +kernel)⟩
theorem lw_p15 : lw_okq (⟨"JointHistory", "keepOnlyHeldDocuments", "()V"⟩, 9) := ⟨⟨by decide +kernel, by decide +kernel⟩, List.mem_of_getElem? (i := 10) (by decide +kernel), List.mem_of_getElem? (i := 251) (by decide +kernel), List.mem_of_getElem? (i := 252) (by decide +kernel)⟩
def lw_privs_1 : List (MethodName × Nat) := [(⟨"JointHistory", "load", "(LJointHistory$Navigable;II)LJointHistory$Document;"⟩, 9), (⟨"JointHistory", "freeDocument", "(LJointHistory$Navigable;)LJointHistory$Document;"⟩, 9), (⟨"JointHistory", "giveOpaqueOrigin", "()I"⟩, 9), (⟨"JointHistory", "makeFrames", "(LJointHistory$Document;LJointHistory$Answer;I)V"⟩, 9), (⟨"JointHistory", "makeFrame", "(LJointHistory$Document;II)LJointHistory$Navigable;"⟩, 9), (⟨"JointHistory", "freeNavigable", "()LJointHistory$Navigable;"⟩, 9), (⟨"JointHistory", "followDetours", "(I)I"⟩, 9), (⟨"JointHistory", "isDetour", "(I)Z"⟩, 9), (⟨"JointHistory", "addEntry", "(LJointHistory$Navigable;IIILJointHistory$Document;)V"⟩, 9), (⟨"JointHistory", "shownEntry", "(II)LJointHistory$Entry;"⟩, 9), (⟨"JointHistory", "entryAt", "(LJointHistory$Navigable;I)LJointHistory$Entry;"⟩, 9), (⟨"JointHistory", "isFull", "(Z)Z"⟩, 9), (⟨"JointHistory", "entriesUpTo", "(I)I"⟩, 9), (⟨"JointHistory", "dropLaterEntries", "()V"⟩, 9), (⟨"JointHistory", "dropWhatIsGone", "()V"⟩, 9), (⟨"JointHistory", "keepOnlyHeldDocuments", "()V"⟩, 9)]
theorem lw_r1 : ∀ q ∈ lw_privs_1, lw_okq q := List.forall_mem_cons.mpr ⟨lw_p0, List.forall_mem_cons.mpr ⟨lw_p1, List.forall_mem_cons.mpr ⟨lw_p2, List.forall_mem_cons.mpr ⟨lw_p3, List.forall_mem_cons.mpr ⟨lw_p4, List.forall_mem_cons.mpr ⟨lw_p5, List.forall_mem_cons.mpr ⟨lw_p6, List.forall_mem_cons.mpr ⟨lw_p7, List.forall_mem_cons.mpr ⟨lw_p8, List.forall_mem_cons.mpr ⟨lw_p9, List.forall_mem_cons.mpr ⟨lw_p10, List.forall_mem_cons.mpr ⟨lw_p11, List.forall_mem_cons.mpr ⟨lw_p12, List.forall_mem_cons.mpr ⟨lw_p13, List.forall_mem_cons.mpr ⟨lw_p14, List.forall_mem_cons.mpr ⟨lw_p15, fun _ h => absurd h List.not_mem_nil⟩⟩⟩⟩⟩⟩⟩⟩⟩⟩⟩⟩⟩⟩⟩⟩
theorem lw_p16 : lw_okq (⟨"JointHistory", "dropFramesOfGoneDocuments", "()V"⟩, 9) := ⟨⟨by decide +kernel, by decide +kernel⟩, List.mem_of_getElem? (i := 10) (by decide +kernel), List.mem_of_getElem? (i := 255) (by decide +kernel), List.mem_of_getElem? (i := 256) (by decide +kernel)⟩
theorem lw_p17 : lw_okq (⟨"JointHistory", "dropEntriesOfGoneNavigables", "()V"⟩, 9) := ⟨⟨by decide +kernel, by decide +kernel⟩, List.mem_of_getElem? (i := 10) (by decide +kernel), List.mem_of_getElem? (i := 259) (by decide +kernel), List.mem_of_getElem? (i := 260) (by decide +kernel)⟩
theorem lw_p18 : lw_okq (⟨"JointHistory", "putEntry", "(LJointHistory$Entry;IILJointHistory$Document;Z)V"⟩, 9) := ⟨⟨by decide +kernel, by decide +kernel⟩, List.mem_of_getElem? (i := 10) (by decide +kernel), List.mem_of_getElem? (i := 266) (by decide +kernel), List.mem_of_getElem? (i := 267) (by decide +kernel)⟩
theorem lw_p19 : lw_okq (⟨"JointHistory", "settlePresentStep", "()V"⟩, 9) := ⟨⟨by decide +kernel, by decide +kernel⟩, List.mem_of_getElem? (i := 10) (by decide +kernel), List.mem_of_getElem? (i := 270) (by decide +kernel), List.mem_of_getElem? (i := 271) (by decide +kernel)⟩
theorem lw_p20 : lw_okq (⟨"JointHistory", "collectUsedSteps", "()I"⟩, 9) := ⟨⟨by decide +kernel, by decide +kernel⟩, List.mem_of_getElem? (i := 10) (by decide +kernel), List.mem_of_getElem? (i := 285) (by decide +kernel), List.mem_of_getElem? (i := 286) (by decide +kernel)⟩
theorem lw_p21 : lw_okq (⟨"JointHistory", "insertStep", "(II)I"⟩, 9) := ⟨⟨by decide +kernel, by decide +kernel⟩, List.mem_of_getElem? (i := 10) (by decide +kernel), List.mem_of_getElem? (i := 289) (by decide +kernel), List.mem_of_getElem? (i := 290) (by decide +kernel)⟩
theorem lw_p22 : lw_okq (⟨"JointHistory", "placeOfPresent", "(I)I"⟩, 9) := ⟨⟨by decide +kernel, by decide +kernel⟩, List.mem_of_getElem? (i := 10) (by decide +kernel), List.mem_of_getElem? (i := 293) (by decide +kernel), List.mem_of_getElem? (i := 294) (by decide +kernel)⟩
theorem lw_p23 : lw_okq (⟨"JointHistory", "countMove", "(LJointHistory$Entry;LJointHistory$Entry;)V"⟩, 9) := ⟨⟨by decide +kernel, by decide +kernel⟩, List.mem_of_getElem? (i := 10) (by decide +kernel), List.mem_of_getElem? (i := 297) (by decide +kernel), List.mem_of_getElem? (i := 298) (by decide +kernel)⟩
theorem lw_p24 : lw_okq (⟨"JointHistory", "takeOut", "(LJointHistory$Navigable;)V"⟩, 9) := ⟨⟨by decide +kernel, by decide +kernel⟩, List.mem_of_getElem? (i := 10) (by decide +kernel), List.mem_of_getElem? (i := 305) (by decide +kernel), List.mem_of_getElem? (i := 306) (by decide +kernel)⟩
theorem lw_p25 : lw_okq (⟨"JointHistory", "shownNavigables", "()I"⟩, 9) := ⟨⟨by decide +kernel, by decide +kernel⟩, List.mem_of_getElem? (i := 10) (by decide +kernel), List.mem_of_getElem? (i := 349) (by decide +kernel), List.mem_of_getElem? (i := 350) (by decide +kernel)⟩
theorem lw_p26 : lw_okq (⟨"JointHistory", "allNavigables", "()I"⟩, 9) := ⟨⟨by decide +kernel, by decide +kernel⟩, List.mem_of_getElem? (i := 10) (by decide +kernel), List.mem_of_getElem? (i := 353) (by decide +kernel), List.mem_of_getElem? (i := 354) (by decide +kernel)⟩
theorem lw_p27 : lw_okq (⟨"JointHistoryModel", "make", "(II)I"⟩, 26) := ⟨⟨by decide +kernel, by decide +kernel⟩, List.mem_of_getElem? (i := 357) (by decide +kernel), List.mem_of_getElem? (i := 363) (by decide +kernel), List.mem_of_getElem? (i := 364) (by decide +kernel)⟩
theorem lw_p28 : lw_okq (⟨"JointHistoryModel", "freshOrigin", "()I"⟩, 26) := ⟨⟨by decide +kernel, by decide +kernel⟩, List.mem_of_getElem? (i := 357) (by decide +kernel), List.mem_of_getElem? (i := 367) (by decide +kernel), List.mem_of_getElem? (i := 368) (by decide +kernel)⟩
theorem lw_p29 : lw_okq (⟨"JointHistoryModel", "write", "(IIII)I"⟩, 26) := ⟨⟨by decide +kernel, by decide +kernel⟩, List.mem_of_getElem? (i := 357) (by decide +kernel), List.mem_of_getElem? (i := 371) (by decide +kernel), List.mem_of_getElem? (i := 372) (by decide +kernel)⟩
theorem lw_p30 : lw_okq (⟨"JointHistoryModel", "mark", "()V"⟩, 26) := ⟨⟨by decide +kernel, by decide +kernel⟩, List.mem_of_getElem? (i := 357) (by decide +kernel), List.mem_of_getElem? (i := 375) (by decide +kernel), List.mem_of_getElem? (i := 376) (by decide +kernel)⟩
theorem lw_p31 : lw_okq (⟨"JointHistoryModel", "keep", "(I)V"⟩, 26) := ⟨⟨by decide +kernel, by decide +kernel⟩, List.mem_of_getElem? (i := 357) (by decide +kernel), List.mem_of_getElem? (i := 379) (by decide +kernel), List.mem_of_getElem? (i := 380) (by decide +kernel)⟩
def lw_privs_2 : List (MethodName × Nat) := [(⟨"JointHistory", "dropFramesOfGoneDocuments", "()V"⟩, 9), (⟨"JointHistory", "dropEntriesOfGoneNavigables", "()V"⟩, 9), (⟨"JointHistory", "putEntry", "(LJointHistory$Entry;IILJointHistory$Document;Z)V"⟩, 9), (⟨"JointHistory", "settlePresentStep", "()V"⟩, 9), (⟨"JointHistory", "collectUsedSteps", "()I"⟩, 9), (⟨"JointHistory", "insertStep", "(II)I"⟩, 9), (⟨"JointHistory", "placeOfPresent", "(I)I"⟩, 9), (⟨"JointHistory", "countMove", "(LJointHistory$Entry;LJointHistory$Entry;)V"⟩, 9), (⟨"JointHistory", "takeOut", "(LJointHistory$Navigable;)V"⟩, 9), (⟨"JointHistory", "shownNavigables", "()I"⟩, 9), (⟨"JointHistory", "allNavigables", "()I"⟩, 9), (⟨"JointHistoryModel", "make", "(II)I"⟩, 26), (⟨"JointHistoryModel", "freshOrigin", "()I"⟩, 26), (⟨"JointHistoryModel", "write", "(IIII)I"⟩, 26), (⟨"JointHistoryModel", "mark", "()V"⟩, 26), (⟨"JointHistoryModel", "keep", "(I)V"⟩, 26)]
theorem lw_r2 : ∀ q ∈ lw_privs_2, lw_okq q := List.forall_mem_cons.mpr ⟨lw_p16, List.forall_mem_cons.mpr ⟨lw_p17, List.forall_mem_cons.mpr ⟨lw_p18, List.forall_mem_cons.mpr ⟨lw_p19, List.forall_mem_cons.mpr ⟨lw_p20, List.forall_mem_cons.mpr ⟨lw_p21, List.forall_mem_cons.mpr ⟨lw_p22, List.forall_mem_cons.mpr ⟨lw_p23, List.forall_mem_cons.mpr ⟨lw_p24, List.forall_mem_cons.mpr ⟨lw_p25, List.forall_mem_cons.mpr ⟨lw_p26, List.forall_mem_cons.mpr ⟨lw_p27, List.forall_mem_cons.mpr ⟨lw_p28, List.forall_mem_cons.mpr ⟨lw_p29, List.forall_mem_cons.mpr ⟨lw_p30, List.forall_mem_cons.mpr ⟨lw_p31, fun _ h => absurd h List.not_mem_nil⟩⟩⟩⟩⟩⟩⟩⟩⟩⟩⟩⟩⟩⟩⟩⟩
theorem lw_p32 : lw_okq (⟨"JointHistoryModel", "presentOf", "(I)I"⟩, 26) := ⟨⟨by decide +kernel, by decide +kernel⟩, List.mem_of_getElem? (i := 357) (by decide +kernel), List.mem_of_getElem? (i := 383) (by decide +kernel), List.mem_of_getElem? (i := 384) (by decide +kernel)⟩
theorem lw_p33 : lw_okq (⟨"JointHistoryModel", "show", "(I)V"⟩, 26) := ⟨⟨by decide +kernel, by decide +kernel⟩, List.mem_of_getElem? (i := 357) (by decide +kernel), List.mem_of_getElem? (i := 387) (by decide +kernel), List.mem_of_getElem? (i := 388) (by decide +kernel)⟩
theorem lw_p34 : lw_okq (⟨"JointHistoryModel", "isShown", "(I)Z"⟩, 26) := ⟨⟨by decide +kernel, by decide +kernel⟩, List.mem_of_getElem? (i := 357) (by decide +kernel), List.mem_of_getElem? (i := 490) (by decide +kernel), List.mem_of_getElem? (i := 491) (by decide +kernel)⟩
theorem lw_p35 : lw_okq (⟨"JointHistoryModel", "full", "(Z)Z"⟩, 26) := ⟨⟨by decide +kernel, by decide +kernel⟩, List.mem_of_getElem? (i := 357) (by decide +kernel), List.mem_of_getElem? (i := 494) (by decide +kernel), List.mem_of_getElem? (i := 495) (by decide +kernel)⟩
theorem lw_p36 : lw_okq (⟨"JointHistoryModel", "enter", "(IIIZI)V"⟩, 26) := ⟨⟨by decide +kernel, by decide +kernel⟩, List.mem_of_getElem? (i := 357) (by decide +kernel), List.mem_of_getElem? (i := 501) (by decide +kernel), List.mem_of_getElem? (i := 502) (by decide +kernel)⟩
theorem lw_p37 : lw_okq (⟨"JointHistoryModel", "cutOff", "()V"⟩, 26) := ⟨⟨by decide +kernel, by decide +kernel⟩, List.mem_of_getElem? (i := 357) (by decide +kernel), List.mem_of_getElem? (i := 505) (by decide +kernel), List.mem_of_getElem? (i := 506) (by decide +kernel)⟩
theorem lw_p38 : lw_okq (⟨"JointHistoryModel", "load", "(III)I"⟩, 26) := ⟨⟨by decide +kernel, by decide +kernel⟩, List.mem_of_getElem? (i := 357) (by decide +kernel), List.mem_of_getElem? (i := 509) (by decide +kernel), List.mem_of_getElem? (i := 510) (by decide +kernel)⟩
theorem lw_p39 : lw_okq (⟨"JointHistoryModel", "deep", "(I)I"⟩, 26) := ⟨⟨by decide +kernel, by decide +kernel⟩, List.mem_of_getElem? (i := 357) (by decide +kernel), List.mem_of_getElem? (i := 513) (by decide +kernel), List.mem_of_getElem? (i := 514) (by decide +kernel)⟩
theorem lw_p40 : lw_okq (⟨"JointHistoryModel", "loadWindow", "(II)I"⟩, 26) := ⟨⟨by decide +kernel, by decide +kernel⟩, List.mem_of_getElem? (i := 357) (by decide +kernel), List.mem_of_getElem? (i := 517) (by decide +kernel), List.mem_of_getElem? (i := 518) (by decide +kernel)⟩
theorem lw_p41 : lw_okq (⟨"JointHistoryModel", "wanted", "(III)I"⟩, 26) := ⟨⟨by decide +kernel, by decide +kernel⟩, List.mem_of_getElem? (i := 357) (by decide +kernel), List.mem_of_getElem? (i := 521) (by decide +kernel), List.mem_of_getElem? (i := 522) (by decide +kernel)⟩
theorem lw_p42 : lw_okq (⟨"JointHistoryModel", "frameFor", "(III)I"⟩, 26) := ⟨⟨by decide +kernel, by decide +kernel⟩, List.mem_of_getElem? (i := 357) (by decide +kernel), List.mem_of_getElem? (i := 525) (by decide +kernel), List.mem_of_getElem? (i := 526) (by decide +kernel)⟩
theorem lw_p43 : lw_okq (⟨"JointHistoryModel", "paperOf", "(I)I"⟩, 26) := ⟨⟨by decide +kernel, by decide +kernel⟩, List.mem_of_getElem? (i := 357) (by decide +kernel), List.mem_of_getElem? (i := 529) (by decide +kernel), List.mem_of_getElem? (i := 530) (by decide +kernel)⟩
theorem lw_p44 : lw_okq (⟨"JointHistoryModel", "loadMiddle", "(III)I"⟩, 26) := ⟨⟨by decide +kernel, by decide +kernel⟩, List.mem_of_getElem? (i := 357) (by decide +kernel), List.mem_of_getElem? (i := 533) (by decide +kernel), List.mem_of_getElem? (i := 534) (by decide +kernel)⟩
theorem lw_p45 : lw_okq (⟨"JointHistoryModel", "settle", "()V"⟩, 26) := ⟨⟨by decide +kernel, by decide +kernel⟩, List.mem_of_getElem? (i := 357) (by decide +kernel), List.mem_of_getElem? (i := 537) (by decide +kernel), List.mem_of_getElem? (i := 538) (by decide +kernel)⟩
theorem lw_p46 : lw_okq (⟨"JointHistoryModel", "used", "(I)Z"⟩, 26) := ⟨⟨by decide +kernel, by decide +kernel⟩, List.mem_of_getElem? (i := 357) (by decide +kernel), List.mem_of_getElem? (i := 541) (by decide +kernel), List.mem_of_getElem? (i := 542) (by decide +kernel)⟩
theorem lw_p47 : lw_okq (⟨"JointHistoryModel", "stepAt", "(J)I"⟩, 26) := ⟨⟨by decide +kernel, by decide +kernel⟩, List.mem_of_getElem? (i := 357) (by decide +kernel), List.mem_of_getElem? (i := 553) (by decide +kernel), List.mem_of_getElem? (i := 554) (by decide +kernel)⟩
def lw_privs_3 : List (MethodName × Nat) := [(⟨"JointHistoryModel", "presentOf", "(I)I"⟩, 26), (⟨"JointHistoryModel", "show", "(I)V"⟩, 26), (⟨"JointHistoryModel", "isShown", "(I)Z"⟩, 26), (⟨"JointHistoryModel", "full", "(Z)Z"⟩, 26), (⟨"JointHistoryModel", "enter", "(IIIZI)V"⟩, 26), (⟨"JointHistoryModel", "cutOff", "()V"⟩, 26), (⟨"JointHistoryModel", "load", "(III)I"⟩, 26), (⟨"JointHistoryModel", "deep", "(I)I"⟩, 26), (⟨"JointHistoryModel", "loadWindow", "(II)I"⟩, 26), (⟨"JointHistoryModel", "wanted", "(III)I"⟩, 26), (⟨"JointHistoryModel", "frameFor", "(III)I"⟩, 26), (⟨"JointHistoryModel", "paperOf", "(I)I"⟩, 26), (⟨"JointHistoryModel", "loadMiddle", "(III)I"⟩, 26), (⟨"JointHistoryModel", "settle", "()V"⟩, 26), (⟨"JointHistoryModel", "used", "(I)Z"⟩, 26), (⟨"JointHistoryModel", "stepAt", "(J)I"⟩, 26)]
theorem lw_r3 : ∀ q ∈ lw_privs_3, lw_okq q := List.forall_mem_cons.mpr ⟨lw_p32, List.forall_mem_cons.mpr ⟨lw_p33, List.forall_mem_cons.mpr ⟨lw_p34, List.forall_mem_cons.mpr ⟨lw_p35, List.forall_mem_cons.mpr ⟨lw_p36, List.forall_mem_cons.mpr ⟨lw_p37, List.forall_mem_cons.mpr ⟨lw_p38, List.forall_mem_cons.mpr ⟨lw_p39, List.forall_mem_cons.mpr ⟨lw_p40, List.forall_mem_cons.mpr ⟨lw_p41, List.forall_mem_cons.mpr ⟨lw_p42, List.forall_mem_cons.mpr ⟨lw_p43, List.forall_mem_cons.mpr ⟨lw_p44, List.forall_mem_cons.mpr ⟨lw_p45, List.forall_mem_cons.mpr ⟨lw_p46, List.forall_mem_cons.mpr ⟨lw_p47, fun _ h => absurd h List.not_mem_nil⟩⟩⟩⟩⟩⟩⟩⟩⟩⟩⟩⟩⟩⟩⟩⟩
def lw_privs : List (MethodName × Nat) := lw_privs_1 ++ (lw_privs_2 ++ (lw_privs_3))
def lw_tbl : List Cond := k2_sels lw_privs ++ tables_1
theorem lw_privs_ok : ∀ q ∈ lw_privs, lw_okq q := by
  show ∀ q ∈ lw_privs_1 ++ (lw_privs_2 ++ (lw_privs_3)), lw_okq q
  exact List.forall_mem_append.mpr ⟨lw_r1, List.forall_mem_append.mpr ⟨lw_r2, lw_r3⟩⟩
end
section
/-! Names: classes, fields, methods; the words that all contracts rest on: those of the tables that a call keeps. -/
def jw_all : List Cond := lw_tbl.filter goodWord
theorem jw_good : ∀ w ∈ jw_all, (w.onTables && w.keeps) = true ∨ ∃ ty, w = .arrayClass ty := fun w h => good_of_word (List.mem_filter.mp h).2
theorem jw_tb {w : Cond} {i : Nat} (h : tables_1[i]? = some w) (hg : goodWord w = true) : w ∈ jw_all := List.mem_filter.mpr ⟨List.mem_append_right _ (List.mem_of_getElem? h), hg⟩
theorem jw_pv {q : MethodName × Nat} {i : Nat} (h : lw_privs[i]? = some q) : Cond.selects q.1.cls q.1 q.1 ∈ jw_all := List.mem_filter.mpr ⟨List.mem_append_left _ (List.mem_map.mpr ⟨q, List.mem_of_getElem? h, rfl⟩), rfl⟩
def R_J : String := "JointHistory"
def F_J : u_T := fun k => match k with
  | 0 => ("JointHistory", "answers", "[LJointHistory$Answer;", true)
  | 1 => ("JointHistory", "navigables", "[LJointHistory$Navigable;", true)
  | 2 => ("JointHistory", "documents", "[LJointHistory$Document;", true)
  | 3 => ("JointHistory", "rows", "[LJointHistory$Entry;", true)
  | 4 => ("JointHistory", "usedSteps", "[I", true)
  | 5 => ("JointHistory", "presentStep", "I", false)
  | 6 => ("JointHistory", "pops", "I", false)
  | 7 => ("JointHistory", "hashes", "I", false)
  | _ => ("JointHistory", "opaques", "I", false)
def t_J : Nat → FieldType := fun k => match k with
  | 0 => .array (.object "JointHistory$Answer")
  | 1 => .array (.object "JointHistory$Navigable")
  | 2 => .array (.object "JointHistory$Document")
  | 3 => .array (.object "JointHistory$Entry")
  | 4 => .array (.int)
  | 5 => .int
  | 6 => .int
  | 7 => .int
  | _ => .int
theorem n_J : ∀ a, a < 9 → ∀ b, b < 9 → a ≠ b → (F_J a).2.1 ≠ (F_J b).2.1 := by decide +kernel
theorem t_J_ok : ∀ k, k < 9 → parseFieldDescriptor (F_J k).2.2.1 = some (t_J k) := by decide +kernel
set_option maxRecDepth 20000 in
theorem jn_J0 : u_lay R_J F_J 0 ∈ jw_all := jw_tb (i := 176) rfl rfl
set_option maxRecDepth 20000 in
theorem jn_J1 : u_lay R_J F_J 1 ∈ jw_all := jw_tb (i := 178) rfl rfl
set_option maxRecDepth 20000 in
theorem jn_J2 : u_lay R_J F_J 2 ∈ jw_all := jw_tb (i := 180) rfl rfl
set_option maxRecDepth 20000 in
theorem jn_J3 : u_lay R_J F_J 3 ∈ jw_all := jw_tb (i := 182) rfl rfl
set_option maxRecDepth 20000 in
theorem jn_J4 : u_lay R_J F_J 4 ∈ jw_all := jw_tb (i := 184) rfl rfl
set_option maxRecDepth 20000 in
theorem jn_J5 : u_lay R_J F_J 5 ∈ jw_all := jw_tb (i := 186) rfl rfl
set_option maxRecDepth 20000 in
theorem jn_J6 : u_lay R_J F_J 6 ∈ jw_all := jw_tb (i := 188) rfl rfl
set_option maxRecDepth 20000 in
theorem jn_J7 : u_lay R_J F_J 7 ∈ jw_all := jw_tb (i := 190) rfl rfl
set_option maxRecDepth 20000 in
theorem jn_J8 : u_lay R_J F_J 8 ∈ jw_all := jw_tb (i := 192) rfl rfl
theorem jn_J : ∀ w ∈ u_ws R_J F_J 9, w ∈ jw_all := by
  intro w hw
  obtain ⟨k, hk, rfl⟩ := List.mem_map.mp hw
  have hk := List.mem_range.mp hk
  match k, hk with
  | 0, _ => exact jn_J0
  | 1, _ => exact jn_J1
  | 2, _ => exact jn_J2
  | 3, _ => exact jn_J3
  | 4, _ => exact jn_J4
  | 5, _ => exact jn_J5
  | 6, _ => exact jn_J6
  | 7, _ => exact jn_J7
  | 8, _ => exact jn_J8
  | k + 9, h => omega
def R_A : String := "JointHistory$Answer"
def F_A : u_T := fun k => match k with
  | 0 => ("JointHistory$Answer", "kind", "LJointHistory$Kind;", false)
  | 1 => ("JointHistory$Answer", "first", "I", false)
  | 2 => ("JointHistory$Answer", "second", "I", false)
  | 3 => ("JointHistory$Answer", "strict", "Z", false)
  | _ => ("JointHistory$Answer", "target", "I", false)
def t_A : Nat → FieldType := fun k => match k with
  | 0 => .object "JointHistory$Kind"
  | 1 => .int
  | 2 => .int
  | 3 => .boolean
  | _ => .int
theorem n_A : ∀ a, a < 5 → ∀ b, b < 5 → a ≠ b → (F_A a).2.1 ≠ (F_A b).2.1 := by decide +kernel
theorem t_A_ok : ∀ k, k < 5 → parseFieldDescriptor (F_A k).2.2.1 = some (t_A k) := by decide +kernel
set_option maxRecDepth 20000 in
theorem jn_A0 : u_lay R_A F_A 0 ∈ jw_all := jw_tb (i := 40) rfl rfl
set_option maxRecDepth 20000 in
theorem jn_A1 : u_lay R_A F_A 1 ∈ jw_all := jw_tb (i := 42) rfl rfl
set_option maxRecDepth 20000 in
theorem jn_A2 : u_lay R_A F_A 2 ∈ jw_all := jw_tb (i := 44) rfl rfl
set_option maxRecDepth 20000 in
theorem jn_A3 : u_lay R_A F_A 3 ∈ jw_all := jw_tb (i := 46) rfl rfl
set_option maxRecDepth 20000 in
theorem jn_A4 : u_lay R_A F_A 4 ∈ jw_all := jw_tb (i := 48) rfl rfl
theorem jn_A : ∀ w ∈ u_ws R_A F_A 5, w ∈ jw_all := by
  intro w hw
  obtain ⟨k, hk, rfl⟩ := List.mem_map.mp hw
  have hk := List.mem_range.mp hk
  match k, hk with
  | 0, _ => exact jn_A0
  | 1, _ => exact jn_A1
  | 2, _ => exact jn_A2
  | 3, _ => exact jn_A3
  | 4, _ => exact jn_A4
  | k + 5, h => omega
def R_N : String := "JointHistory$Navigable"
def F_N : u_T := fun k => match k with
  | 0 => ("JointHistory$Navigable", "number", "I", true)
  | 1 => ("JointHistory$Navigable", "there", "Z", false)
  | 2 => ("JointHistory$Navigable", "level", "I", false)
  | _ => ("JointHistory$Navigable", "above", "LJointHistory$Document;", false)
def t_N : Nat → FieldType := fun k => match k with
  | 0 => .int
  | 1 => .boolean
  | 2 => .int
  | _ => .object "JointHistory$Document"
theorem n_N : ∀ a, a < 4 → ∀ b, b < 4 → a ≠ b → (F_N a).2.1 ≠ (F_N b).2.1 := by decide +kernel
theorem t_N_ok : ∀ k, k < 4 → parseFieldDescriptor (F_N k).2.2.1 = some (t_N k) := by decide +kernel
set_option maxRecDepth 20000 in
theorem jn_N0 : u_lay R_N F_N 0 ∈ jw_all := jw_tb (i := 62) rfl rfl
set_option maxRecDepth 20000 in
theorem jn_N1 : u_lay R_N F_N 1 ∈ jw_all := jw_tb (i := 64) rfl rfl
set_option maxRecDepth 20000 in
theorem jn_N2 : u_lay R_N F_N 2 ∈ jw_all := jw_tb (i := 66) rfl rfl
set_option maxRecDepth 20000 in
theorem jn_N3 : u_lay R_N F_N 3 ∈ jw_all := jw_tb (i := 68) rfl rfl
theorem jn_N : ∀ w ∈ u_ws R_N F_N 4, w ∈ jw_all := by
  intro w hw
  obtain ⟨k, hk, rfl⟩ := List.mem_map.mp hw
  have hk := List.mem_range.mp hk
  match k, hk with
  | 0, _ => exact jn_N0
  | 1, _ => exact jn_N1
  | 2, _ => exact jn_N2
  | 3, _ => exact jn_N3
  | k + 4, h => omega
def R_D : String := "JointHistory$Document"
def F_D : u_T := fun k => match k with
  | 0 => ("JointHistory$Document", "there", "Z", false)
  | 1 => ("JointHistory$Document", "owner", "LJointHistory$Navigable;", false)
  | 2 => ("JointHistory$Document", "origin", "I", false)
  | 3 => ("JointHistory$Document", "sandboxed", "Z", false)
  | 4 => ("JointHistory$Document", "first", "LJointHistory$Navigable;", false)
  | _ => ("JointHistory$Document", "second", "LJointHistory$Navigable;", false)
def t_D : Nat → FieldType := fun k => match k with
  | 0 => .boolean
  | 1 => .object "JointHistory$Navigable"
  | 2 => .int
  | 3 => .boolean
  | 4 => .object "JointHistory$Navigable"
  | _ => .object "JointHistory$Navigable"
theorem n_D : ∀ a, a < 6 → ∀ b, b < 6 → a ≠ b → (F_D a).2.1 ≠ (F_D b).2.1 := by decide +kernel
theorem t_D_ok : ∀ k, k < 6 → parseFieldDescriptor (F_D k).2.2.1 = some (t_D k) := by decide +kernel
set_option maxRecDepth 20000 in
theorem jn_D0 : u_lay R_D F_D 0 ∈ jw_all := jw_tb (i := 82) rfl rfl
set_option maxRecDepth 20000 in
theorem jn_D1 : u_lay R_D F_D 1 ∈ jw_all := jw_tb (i := 84) rfl rfl
set_option maxRecDepth 20000 in
theorem jn_D2 : u_lay R_D F_D 2 ∈ jw_all := jw_tb (i := 86) rfl rfl
set_option maxRecDepth 20000 in
theorem jn_D3 : u_lay R_D F_D 3 ∈ jw_all := jw_tb (i := 88) rfl rfl
set_option maxRecDepth 20000 in
theorem jn_D4 : u_lay R_D F_D 4 ∈ jw_all := jw_tb (i := 90) rfl rfl
set_option maxRecDepth 20000 in
theorem jn_D5 : u_lay R_D F_D 5 ∈ jw_all := jw_tb (i := 92) rfl rfl
theorem jn_D : ∀ w ∈ u_ws R_D F_D 6, w ∈ jw_all := by
  intro w hw
  obtain ⟨k, hk, rfl⟩ := List.mem_map.mp hw
  have hk := List.mem_range.mp hk
  match k, hk with
  | 0, _ => exact jn_D0
  | 1, _ => exact jn_D1
  | 2, _ => exact jn_D2
  | 3, _ => exact jn_D3
  | 4, _ => exact jn_D4
  | 5, _ => exact jn_D5
  | k + 6, h => omega
def R_E : String := "JointHistory$Entry"
def F_E : u_T := fun k => match k with
  | 0 => ("JointHistory$Entry", "there", "Z", false)
  | 1 => ("JointHistory$Entry", "owner", "LJointHistory$Navigable;", false)
  | 2 => ("JointHistory$Entry", "step", "I", false)
  | 3 => ("JointHistory$Entry", "url", "I", false)
  | 4 => ("JointHistory$Entry", "state", "I", false)
  | _ => ("JointHistory$Entry", "document", "LJointHistory$Document;", false)
def t_E : Nat → FieldType := fun k => match k with
  | 0 => .boolean
  | 1 => .object "JointHistory$Navigable"
  | 2 => .int
  | 3 => .int
  | 4 => .int
  | _ => .object "JointHistory$Document"
theorem n_E : ∀ a, a < 6 → ∀ b, b < 6 → a ≠ b → (F_E a).2.1 ≠ (F_E b).2.1 := by decide +kernel
theorem t_E_ok : ∀ k, k < 6 → parseFieldDescriptor (F_E k).2.2.1 = some (t_E k) := by decide +kernel
set_option maxRecDepth 20000 in
theorem jn_E0 : u_lay R_E F_E 0 ∈ jw_all := jw_tb (i := 106) rfl rfl
set_option maxRecDepth 20000 in
theorem jn_E1 : u_lay R_E F_E 1 ∈ jw_all := jw_tb (i := 108) rfl rfl
set_option maxRecDepth 20000 in
theorem jn_E2 : u_lay R_E F_E 2 ∈ jw_all := jw_tb (i := 110) rfl rfl
set_option maxRecDepth 20000 in
theorem jn_E3 : u_lay R_E F_E 3 ∈ jw_all := jw_tb (i := 112) rfl rfl
set_option maxRecDepth 20000 in
theorem jn_E4 : u_lay R_E F_E 4 ∈ jw_all := jw_tb (i := 114) rfl rfl
set_option maxRecDepth 20000 in
theorem jn_E5 : u_lay R_E F_E 5 ∈ jw_all := jw_tb (i := 116) rfl rfl
theorem jn_E : ∀ w ∈ u_ws R_E F_E 6, w ∈ jw_all := by
  intro w hw
  obtain ⟨k, hk, rfl⟩ := List.mem_map.mp hw
  have hk := List.mem_range.mp hk
  match k, hk with
  | 0, _ => exact jn_E0
  | 1, _ => exact jn_E1
  | 2, _ => exact jn_E2
  | 3, _ => exact jn_E3
  | 4, _ => exact jn_E4
  | 5, _ => exact jn_E5
  | k + 6, h => omega
def R_M : String := "JointHistoryModel"
def F_M : u_T := fun k => match k with
  | 0 => ("JointHistoryModel", "answer", "[I", true)
  | 1 => ("JointHistoryModel", "firstOf", "[I", true)
  | 2 => ("JointHistoryModel", "secondOf", "[I", true)
  | 3 => ("JointHistoryModel", "strictOf", "[Z", true)
  | 4 => ("JointHistoryModel", "owner", "[I", true)
  | 5 => ("JointHistoryModel", "stepOf", "[I", true)
  | 6 => ("JointHistoryModel", "urlOf", "[I", true)
  | 7 => ("JointHistoryModel", "stateOf", "[I", true)
  | 8 => ("JointHistoryModel", "paper", "[I", true)
  | 9 => ("JointHistoryModel", "entry", "[Z", true)
  | 10 => ("JointHistoryModel", "there", "[Z", true)
  | 11 => ("JointHistoryModel", "originOf", "[I", true)
  | 12 => ("JointHistoryModel", "sandboxed", "[Z", true)
  | 13 => ("JointHistoryModel", "left", "[I", true)
  | 14 => ("JointHistoryModel", "right", "[I", true)
  | 15 => ("JointHistoryModel", "exists", "[Z", true)
  | 16 => ("JointHistoryModel", "above", "[I", true)
  | 17 => ("JointHistoryModel", "shown", "[Z", true)
  | 18 => ("JointHistoryModel", "then", "[I", true)
  | 19 => ("JointHistoryModel", "keepPaper", "[Z", true)
  | 20 => ("JointHistoryModel", "keepNav", "[Z", true)
  | 21 => ("JointHistoryModel", "now", "I", false)
  | 22 => ("JointHistoryModel", "opaque", "I", false)
  | 23 => ("JointHistoryModel", "pops", "I", false)
  | 24 => ("JointHistoryModel", "hashes", "I", false)
  | _ => ("JointHistoryModel", "landed", "I", false)
def t_M : Nat → FieldType := fun k => match k with
  | 0 => .array (.int)
  | 1 => .array (.int)
  | 2 => .array (.int)
  | 3 => .array (.boolean)
  | 4 => .array (.int)
  | 5 => .array (.int)
  | 6 => .array (.int)
  | 7 => .array (.int)
  | 8 => .array (.int)
  | 9 => .array (.boolean)
  | 10 => .array (.boolean)
  | 11 => .array (.int)
  | 12 => .array (.boolean)
  | 13 => .array (.int)
  | 14 => .array (.int)
  | 15 => .array (.boolean)
  | 16 => .array (.int)
  | 17 => .array (.boolean)
  | 18 => .array (.int)
  | 19 => .array (.boolean)
  | 20 => .array (.boolean)
  | 21 => .int
  | 22 => .int
  | 23 => .int
  | 24 => .int
  | _ => .int
theorem n_M : ∀ a, a < 26 → ∀ b, b < 26 → a ≠ b → (F_M a).2.1 ≠ (F_M b).2.1 := by decide +kernel
theorem t_M_ok : ∀ k, k < 26 → parseFieldDescriptor (F_M k).2.2.1 = some (t_M k) := by decide +kernel
set_option maxRecDepth 20000 in
theorem jn_M0 : u_lay R_M F_M 0 ∈ jw_all := jw_tb (i := 416) rfl rfl
set_option maxRecDepth 20000 in
theorem jn_M1 : u_lay R_M F_M 1 ∈ jw_all := jw_tb (i := 418) rfl rfl
set_option maxRecDepth 20000 in
theorem jn_M2 : u_lay R_M F_M 2 ∈ jw_all := jw_tb (i := 420) rfl rfl
set_option maxRecDepth 20000 in
theorem jn_M3 : u_lay R_M F_M 3 ∈ jw_all := jw_tb (i := 422) rfl rfl
set_option maxRecDepth 20000 in
theorem jn_M4 : u_lay R_M F_M 4 ∈ jw_all := jw_tb (i := 424) rfl rfl
set_option maxRecDepth 20000 in
theorem jn_M5 : u_lay R_M F_M 5 ∈ jw_all := jw_tb (i := 426) rfl rfl
set_option maxRecDepth 20000 in
theorem jn_M6 : u_lay R_M F_M 6 ∈ jw_all := jw_tb (i := 428) rfl rfl
set_option maxRecDepth 20000 in
theorem jn_M7 : u_lay R_M F_M 7 ∈ jw_all := jw_tb (i := 430) rfl rfl
set_option maxRecDepth 20000 in
theorem jn_M8 : u_lay R_M F_M 8 ∈ jw_all := jw_tb (i := 432) rfl rfl
set_option maxRecDepth 20000 in
theorem jn_M9 : u_lay R_M F_M 9 ∈ jw_all := jw_tb (i := 434) rfl rfl
set_option maxRecDepth 20000 in
theorem jn_M10 : u_lay R_M F_M 10 ∈ jw_all := jw_tb (i := 436) rfl rfl
set_option maxRecDepth 20000 in
theorem jn_M11 : u_lay R_M F_M 11 ∈ jw_all := jw_tb (i := 438) rfl rfl
set_option maxRecDepth 20000 in
theorem jn_M12 : u_lay R_M F_M 12 ∈ jw_all := jw_tb (i := 440) rfl rfl
set_option maxRecDepth 20000 in
theorem jn_M13 : u_lay R_M F_M 13 ∈ jw_all := jw_tb (i := 442) rfl rfl
set_option maxRecDepth 20000 in
theorem jn_M14 : u_lay R_M F_M 14 ∈ jw_all := jw_tb (i := 444) rfl rfl
set_option maxRecDepth 20000 in
theorem jn_M15 : u_lay R_M F_M 15 ∈ jw_all := jw_tb (i := 446) rfl rfl
set_option maxRecDepth 20000 in
theorem jn_M16 : u_lay R_M F_M 16 ∈ jw_all := jw_tb (i := 448) rfl rfl
set_option maxRecDepth 20000 in
theorem jn_M17 : u_lay R_M F_M 17 ∈ jw_all := jw_tb (i := 450) rfl rfl
set_option maxRecDepth 20000 in
theorem jn_M18 : u_lay R_M F_M 18 ∈ jw_all := jw_tb (i := 452) rfl rfl
set_option maxRecDepth 20000 in
theorem jn_M19 : u_lay R_M F_M 19 ∈ jw_all := jw_tb (i := 454) rfl rfl
set_option maxRecDepth 20000 in
theorem jn_M20 : u_lay R_M F_M 20 ∈ jw_all := jw_tb (i := 456) rfl rfl
set_option maxRecDepth 20000 in
theorem jn_M21 : u_lay R_M F_M 21 ∈ jw_all := jw_tb (i := 458) rfl rfl
set_option maxRecDepth 20000 in
theorem jn_M22 : u_lay R_M F_M 22 ∈ jw_all := jw_tb (i := 460) rfl rfl
set_option maxRecDepth 20000 in
theorem jn_M23 : u_lay R_M F_M 23 ∈ jw_all := jw_tb (i := 462) rfl rfl
set_option maxRecDepth 20000 in
theorem jn_M24 : u_lay R_M F_M 24 ∈ jw_all := jw_tb (i := 464) rfl rfl
set_option maxRecDepth 20000 in
theorem jn_M25 : u_lay R_M F_M 25 ∈ jw_all := jw_tb (i := 466) rfl rfl
theorem jn_M : ∀ w ∈ u_ws R_M F_M 26, w ∈ jw_all := by
  intro w hw
  obtain ⟨k, hk, rfl⟩ := List.mem_map.mp hw
  have hk := List.mem_range.mp hk
  match k, hk with
  | 0, _ => exact jn_M0
  | 1, _ => exact jn_M1
  | 2, _ => exact jn_M2
  | 3, _ => exact jn_M3
  | 4, _ => exact jn_M4
  | 5, _ => exact jn_M5
  | 6, _ => exact jn_M6
  | 7, _ => exact jn_M7
  | 8, _ => exact jn_M8
  | 9, _ => exact jn_M9
  | 10, _ => exact jn_M10
  | 11, _ => exact jn_M11
  | 12, _ => exact jn_M12
  | 13, _ => exact jn_M13
  | 14, _ => exact jn_M14
  | 15, _ => exact jn_M15
  | 16, _ => exact jn_M16
  | 17, _ => exact jn_M17
  | 18, _ => exact jn_M18
  | 19, _ => exact jn_M19
  | 20, _ => exact jn_M20
  | 21, _ => exact jn_M21
  | 22, _ => exact jn_M22
  | 23, _ => exact jn_M23
  | 24, _ => exact jn_M24
  | 25, _ => exact jn_M25
  | k + 26, h => omega
abbrev classes : List vw_C := [(R_J, F_J, 9), (R_A, F_A, 5), (R_N, F_N, 4), (R_D, F_D, 6), (R_E, F_E, 6), (R_M, F_M, 26)]
abbrev b_J_init : ByteArray := prog_1_method_1_code
def y_J_init : MethodName := ⟨"JointHistory", "<init>", "()V"⟩
abbrev b_A_init : ByteArray := prog_2_method_1_code
def y_A_init : MethodName := ⟨"JointHistory$Answer", "<init>", "()V"⟩
abbrev b_N_init : ByteArray := prog_6_method_1_code
def y_N_init : MethodName := ⟨"JointHistory$Navigable", "<init>", "(I)V"⟩
abbrev b_D_init : ByteArray := prog_3_method_1_code
def y_D_init : MethodName := ⟨"JointHistory$Document", "<init>", "()V"⟩
abbrev b_E_init : ByteArray := prog_4_method_1_code
def y_E_init : MethodName := ⟨"JointHistory$Entry", "<init>", "()V"⟩
abbrev b_J_load : ByteArray := prog_1_method_36_code
def y_J_load : MethodName := ⟨"JointHistory", "load", "(LJointHistory$Navigable;II)LJointHistory$Document;"⟩
abbrev b_J_freeDocument : ByteArray := prog_1_method_41_code
def y_J_freeDocument : MethodName := ⟨"JointHistory", "freeDocument", "(LJointHistory$Navigable;)LJointHistory$Document;"⟩
abbrev b_J_giveOpaqueOrigin : ByteArray := prog_1_method_37_code
def y_J_giveOpaqueOrigin : MethodName := ⟨"JointHistory", "giveOpaqueOrigin", "()I"⟩
abbrev b_J_pageOf : ByteArray := prog_1_method_23_code
def y_J_pageOf : MethodName := ⟨"JointHistory", "pageOf", "(I)I"⟩
abbrev b_J_hostOf : ByteArray := prog_1_method_22_code
def y_J_hostOf : MethodName := ⟨"JointHistory", "hostOf", "(I)I"⟩
abbrev b_J_makeFrames : ByteArray := prog_1_method_38_code
def y_J_makeFrames : MethodName := ⟨"JointHistory", "makeFrames", "(LJointHistory$Document;LJointHistory$Answer;I)V"⟩
abbrev b_J_makeFrame : ByteArray := prog_1_method_39_code
def y_J_makeFrame : MethodName := ⟨"JointHistory", "makeFrame", "(LJointHistory$Document;II)LJointHistory$Navigable;"⟩
abbrev b_J_freeNavigable : ByteArray := prog_1_method_40_code
def y_J_freeNavigable : MethodName := ⟨"JointHistory", "freeNavigable", "()LJointHistory$Navigable;"⟩
abbrev b_J_followDetours : ByteArray := prog_1_method_34_code
def y_J_followDetours : MethodName := ⟨"JointHistory", "followDetours", "(I)I"⟩
abbrev b_J_isDetour : ByteArray := prog_1_method_35_code
def y_J_isDetour : MethodName := ⟨"JointHistory", "isDetour", "(I)Z"⟩
abbrev b_J_fragmentOf : ByteArray := prog_1_method_24_code
def y_J_fragmentOf : MethodName := ⟨"JointHistory", "fragmentOf", "(I)I"⟩
abbrev b_J_addEntry : ByteArray := prog_1_method_42_code
def y_J_addEntry : MethodName := ⟨"JointHistory", "addEntry", "(LJointHistory$Navigable;IIILJointHistory$Document;)V"⟩
abbrev b_J_content : ByteArray := prog_1_method_2_code
def y_J_content : MethodName := ⟨"JointHistory", "content", "(IIIZ)Z"⟩
abbrev b_J_isPage : ByteArray := prog_1_method_18_code
def y_J_isPage : MethodName := ⟨"JointHistory", "isPage", "(I)Z"⟩
abbrev b_J_isFrameChoice : ByteArray := prog_1_method_21_code
def y_J_isFrameChoice : MethodName := ⟨"JointHistory", "isFrameChoice", "(I)Z"⟩
abbrev b_J_isUrlOrBlank : ByteArray := prog_1_method_20_code
def y_J_isUrlOrBlank : MethodName := ⟨"JointHistory", "isUrlOrBlank", "(I)Z"⟩
abbrev b_J_isUrl : ByteArray := prog_1_method_19_code
def y_J_isUrl : MethodName := ⟨"JointHistory", "isUrl", "(I)Z"⟩
abbrev b_J_detour : ByteArray := prog_1_method_3_code
def y_J_detour : MethodName := ⟨"JointHistory", "detour", "(II)Z"⟩
abbrev b_J_fault : ByteArray := prog_1_method_4_code
def y_J_fault : MethodName := ⟨"JointHistory", "fault", "(I)Z"⟩
abbrev b_J_navigate : ByteArray := prog_1_method_5_code
def y_J_navigate : MethodName := ⟨"JointHistory", "navigate", "(IIZ)I"⟩
abbrev b_J_shownEntry : ByteArray := prog_1_method_32_code
def y_J_shownEntry : MethodName := ⟨"JointHistory", "shownEntry", "(II)LJointHistory$Entry;"⟩
abbrev b_J_entryAt : ByteArray := prog_1_method_33_code
def y_J_entryAt : MethodName := ⟨"JointHistory", "entryAt", "(LJointHistory$Navigable;I)LJointHistory$Entry;"⟩
abbrev b_J_isFull : ByteArray := prog_1_method_28_code
def y_J_isFull : MethodName := ⟨"JointHistory", "isFull", "(Z)Z"⟩
abbrev b_J_entriesUpTo : ByteArray := prog_1_method_29_code
def y_J_entriesUpTo : MethodName := ⟨"JointHistory", "entriesUpTo", "(I)I"⟩
abbrev b_J_dropLaterEntries : ByteArray := prog_1_method_44_code
def y_J_dropLaterEntries : MethodName := ⟨"JointHistory", "dropLaterEntries", "()V"⟩
abbrev b_J_dropWhatIsGone : ByteArray := prog_1_method_46_code
def y_J_dropWhatIsGone : MethodName := ⟨"JointHistory", "dropWhatIsGone", "()V"⟩
abbrev b_J_keepOnlyHeldDocuments : ByteArray := prog_1_method_47_code
def y_J_keepOnlyHeldDocuments : MethodName := ⟨"JointHistory", "keepOnlyHeldDocuments", "()V"⟩
abbrev b_J_dropFramesOfGoneDocuments : ByteArray := prog_1_method_48_code
def y_J_dropFramesOfGoneDocuments : MethodName := ⟨"JointHistory", "dropFramesOfGoneDocuments", "()V"⟩
abbrev b_J_dropEntriesOfGoneNavigables : ByteArray := prog_1_method_49_code
def y_J_dropEntriesOfGoneNavigables : MethodName := ⟨"JointHistory", "dropEntriesOfGoneNavigables", "()V"⟩
abbrev b_J_isFragmentMove : ByteArray := prog_1_method_26_code
def y_J_isFragmentMove : MethodName := ⟨"JointHistory", "isFragmentMove", "(II)Z"⟩
abbrev b_J_putEntry : ByteArray := prog_1_method_43_code
def y_J_putEntry : MethodName := ⟨"JointHistory", "putEntry", "(LJointHistory$Entry;IILJointHistory$Document;Z)V"⟩
abbrev b_J_settlePresentStep : ByteArray := prog_1_method_50_code
def y_J_settlePresentStep : MethodName := ⟨"JointHistory", "settlePresentStep", "()V"⟩
abbrev b_J_rewrite : ByteArray := prog_1_method_6_code
def y_J_rewrite : MethodName := ⟨"JointHistory", "rewrite", "(IIIZ)I"⟩
abbrev b_J_mayRewrite : ByteArray := prog_1_method_27_code
def y_J_mayRewrite : MethodName := ⟨"JointHistory", "mayRewrite", "(II)Z"⟩
abbrev b_J_go : ByteArray := prog_1_method_7_code
def y_J_go : MethodName := ⟨"JointHistory", "go", "(I)I"⟩
abbrev b_J_collectUsedSteps : ByteArray := prog_1_method_51_code
def y_J_collectUsedSteps : MethodName := ⟨"JointHistory", "collectUsedSteps", "()I"⟩
abbrev b_J_insertStep : ByteArray := prog_1_method_52_code
def y_J_insertStep : MethodName := ⟨"JointHistory", "insertStep", "(II)I"⟩
abbrev b_J_placeOfPresent : ByteArray := prog_1_method_53_code
def y_J_placeOfPresent : MethodName := ⟨"JointHistory", "placeOfPresent", "(I)I"⟩
abbrev b_J_countMove : ByteArray := prog_1_method_54_code
def y_J_countMove : MethodName := ⟨"JointHistory", "countMove", "(LJointHistory$Entry;LJointHistory$Entry;)V"⟩
abbrev b_J_detach : ByteArray := prog_1_method_8_code
def y_J_detach : MethodName := ⟨"JointHistory", "detach", "(I)I"⟩
abbrev b_J_takeOut : ByteArray := prog_1_method_45_code
def y_J_takeOut : MethodName := ⟨"JointHistory", "takeOut", "(LJointHistory$Navigable;)V"⟩
abbrev b_J_url : ByteArray := prog_1_method_9_code
def y_J_url : MethodName := ⟨"JointHistory", "url", "(I)I"⟩
abbrev b_J_state : ByteArray := prog_1_method_10_code
def y_J_state : MethodName := ⟨"JointHistory", "state", "(I)J"⟩
abbrev b_J_step : ByteArray := prog_1_method_11_code
def y_J_step : MethodName := ⟨"JointHistory", "step", "(I)I"⟩
abbrev b_J_origin : ByteArray := prog_1_method_12_code
def y_J_origin : MethodName := ⟨"JointHistory", "origin", "(I)I"⟩
abbrev b_J_frame : ByteArray := prog_1_method_13_code
def y_J_frame : MethodName := ⟨"JointHistory", "frame", "(II)I"⟩
abbrev b_J_numberOf : ByteArray := prog_1_method_25_code
def y_J_numberOf : MethodName := ⟨"JointHistory", "numberOf", "(LJointHistory$Navigable;)I"⟩
abbrev b_J_entries : ByteArray := prog_1_method_14_code
def y_J_entries : MethodName := ⟨"JointHistory", "entries", "(I)I"⟩
abbrev b_J_present : ByteArray := prog_1_method_15_code
def y_J_present : MethodName := ⟨"JointHistory", "present", "()I"⟩
abbrev b_J_length : ByteArray := prog_1_method_16_code
def y_J_length : MethodName := ⟨"JointHistory", "length", "()I"⟩
abbrev b_J_count : ByteArray := prog_1_method_17_code
def y_J_count : MethodName := ⟨"JointHistory", "count", "(I)I"⟩
abbrev b_J_shownNavigables : ByteArray := prog_1_method_31_code
def y_J_shownNavigables : MethodName := ⟨"JointHistory", "shownNavigables", "()I"⟩
abbrev b_J_allNavigables : ByteArray := prog_1_method_30_code
def y_J_allNavigables : MethodName := ⟨"JointHistory", "allNavigables", "()I"⟩
abbrev b_M_init : ByteArray := prog_8_method_1_code
def y_M_init : MethodName := ⟨"JointHistoryModel", "<init>", "()V"⟩
abbrev b_M_make : ByteArray := prog_8_method_7_code
def y_M_make : MethodName := ⟨"JointHistoryModel", "make", "(II)I"⟩
abbrev b_M_freshOrigin : ByteArray := prog_8_method_6_code
def y_M_freshOrigin : MethodName := ⟨"JointHistoryModel", "freshOrigin", "()I"⟩
abbrev b_M_write : ByteArray := prog_8_method_8_code
def y_M_write : MethodName := ⟨"JointHistoryModel", "write", "(IIII)I"⟩
abbrev b_M_mark : ByteArray := prog_8_method_17_code
def y_M_mark : MethodName := ⟨"JointHistoryModel", "mark", "()V"⟩
abbrev b_M_keep : ByteArray := prog_8_method_16_code
def y_M_keep : MethodName := ⟨"JointHistoryModel", "keep", "(I)V"⟩
abbrev b_M_presentOf : ByteArray := prog_8_method_19_code
def y_M_presentOf : MethodName := ⟨"JointHistoryModel", "presentOf", "(I)I"⟩
abbrev b_M_show : ByteArray := prog_8_method_18_code
def y_M_show : MethodName := ⟨"JointHistoryModel", "show", "(I)V"⟩
abbrev b_M_content : ByteArray := prog_8_method_3_code
def y_M_content : MethodName := ⟨"JointHistoryModel", "content", "(IIIZ)Z"⟩
abbrev b_M_between : ByteArray := prog_8_method_2_code
def y_M_between : MethodName := ⟨"JointHistoryModel", "between", "(III)Z"⟩
abbrev b_M_detour : ByteArray := prog_8_method_4_code
def y_M_detour : MethodName := ⟨"JointHistoryModel", "detour", "(II)Z"⟩
abbrev b_M_fault : ByteArray := prog_8_method_5_code
def y_M_fault : MethodName := ⟨"JointHistoryModel", "fault", "(I)Z"⟩
abbrev b_M_navigate : ByteArray := prog_8_method_27_code
def y_M_navigate : MethodName := ⟨"JointHistoryModel", "navigate", "(IIZ)I"⟩
abbrev b_M_isShown : ByteArray := prog_8_method_20_code
def y_M_isShown : MethodName := ⟨"JointHistoryModel", "isShown", "(I)Z"⟩
abbrev b_M_full : ByteArray := prog_8_method_23_code
def y_M_full : MethodName := ⟨"JointHistoryModel", "full", "(Z)Z"⟩
abbrev b_M_fragment : ByteArray := prog_8_method_26_code
def y_M_fragment : MethodName := ⟨"JointHistoryModel", "fragment", "(I)I"⟩
abbrev b_M_enter : ByteArray := prog_8_method_25_code
def y_M_enter : MethodName := ⟨"JointHistoryModel", "enter", "(IIIZI)V"⟩
abbrev b_M_cutOff : ByteArray := prog_8_method_24_code
def y_M_cutOff : MethodName := ⟨"JointHistoryModel", "cutOff", "()V"⟩
abbrev b_M_load : ByteArray := prog_8_method_15_code
def y_M_load : MethodName := ⟨"JointHistoryModel", "load", "(III)I"⟩
abbrev b_M_deep : ByteArray := prog_8_method_14_code
def y_M_deep : MethodName := ⟨"JointHistoryModel", "deep", "(I)I"⟩
abbrev b_M_loadWindow : ByteArray := prog_8_method_13_code
def y_M_loadWindow : MethodName := ⟨"JointHistoryModel", "loadWindow", "(II)I"⟩
abbrev b_M_wanted : ByteArray := prog_8_method_11_code
def y_M_wanted : MethodName := ⟨"JointHistoryModel", "wanted", "(III)I"⟩
abbrev b_M_frameFor : ByteArray := prog_8_method_9_code
def y_M_frameFor : MethodName := ⟨"JointHistoryModel", "frameFor", "(III)I"⟩
abbrev b_M_paperOf : ByteArray := prog_8_method_10_code
def y_M_paperOf : MethodName := ⟨"JointHistoryModel", "paperOf", "(I)I"⟩
abbrev b_M_loadMiddle : ByteArray := prog_8_method_12_code
def y_M_loadMiddle : MethodName := ⟨"JointHistoryModel", "loadMiddle", "(III)I"⟩
abbrev b_M_settle : ByteArray := prog_8_method_22_code
def y_M_settle : MethodName := ⟨"JointHistoryModel", "settle", "()V"⟩
abbrev b_M_used : ByteArray := prog_8_method_21_code
def y_M_used : MethodName := ⟨"JointHistoryModel", "used", "(I)Z"⟩
abbrev b_M_rewrite : ByteArray := prog_8_method_28_code
def y_M_rewrite : MethodName := ⟨"JointHistoryModel", "rewrite", "(IIIZ)I"⟩
abbrev b_M_go : ByteArray := prog_8_method_30_code
def y_M_go : MethodName := ⟨"JointHistoryModel", "go", "(I)I"⟩
abbrev b_M_stepAt : ByteArray := prog_8_method_29_code
def y_M_stepAt : MethodName := ⟨"JointHistoryModel", "stepAt", "(J)I"⟩
abbrev b_M_detach : ByteArray := prog_8_method_31_code
def y_M_detach : MethodName := ⟨"JointHistoryModel", "detach", "(I)I"⟩
abbrev b_M_url : ByteArray := prog_8_method_32_code
def y_M_url : MethodName := ⟨"JointHistoryModel", "url", "(I)I"⟩
abbrev b_M_state : ByteArray := prog_8_method_33_code
def y_M_state : MethodName := ⟨"JointHistoryModel", "state", "(I)J"⟩
abbrev b_M_step : ByteArray := prog_8_method_34_code
def y_M_step : MethodName := ⟨"JointHistoryModel", "step", "(I)I"⟩
abbrev b_M_origin : ByteArray := prog_8_method_35_code
def y_M_origin : MethodName := ⟨"JointHistoryModel", "origin", "(I)I"⟩
abbrev b_M_frame : ByteArray := prog_8_method_36_code
def y_M_frame : MethodName := ⟨"JointHistoryModel", "frame", "(II)I"⟩
abbrev b_M_entries : ByteArray := prog_8_method_37_code
def y_M_entries : MethodName := ⟨"JointHistoryModel", "entries", "(I)I"⟩
abbrev b_M_present : ByteArray := prog_8_method_38_code
def y_M_present : MethodName := ⟨"JointHistoryModel", "present", "()I"⟩
abbrev b_M_length : ByteArray := prog_8_method_39_code
def y_M_length : MethodName := ⟨"JointHistoryModel", "length", "()I"⟩
abbrev b_M_count : ByteArray := prog_8_method_40_code
def y_M_count : MethodName := ⟨"JointHistoryModel", "count", "(I)I"⟩
end
section
/-! Each link of a field or a method, in the list of words. -/
set_option maxRecDepth 20000 in
theorem wf_A_9 : Cond.fieldLink "JointHistory$Answer" 9 "JointHistory$Kind" "CONTENT" "LJointHistory$Kind;" ∈ jw_all := jw_tb (i := 30) rfl rfl
set_option maxRecDepth 20000 in
theorem wf_A_15 : Cond.fieldLink "JointHistory$Answer" 15 "JointHistory$Answer" "kind" "LJointHistory$Kind;" ∈ jw_all := jw_tb (i := 32) rfl rfl
set_option maxRecDepth 20000 in
theorem wf_J_68 : Cond.fieldLink "JointHistory" 68 "JointHistory$Answer" "kind" "LJointHistory$Kind;" ∈ jw_all := jw_tb (i := 33) rfl rfl
set_option maxRecDepth 20000 in
theorem wf_A_20 : Cond.fieldLink "JointHistory$Answer" 20 "JointHistory$Answer" "first" "I" ∈ jw_all := jw_tb (i := 34) rfl rfl
set_option maxRecDepth 20000 in
theorem wf_J_71 : Cond.fieldLink "JointHistory" 71 "JointHistory$Answer" "first" "I" ∈ jw_all := jw_tb (i := 35) rfl rfl
set_option maxRecDepth 20000 in
theorem wf_A_24 : Cond.fieldLink "JointHistory$Answer" 24 "JointHistory$Answer" "second" "I" ∈ jw_all := jw_tb (i := 36) rfl rfl
set_option maxRecDepth 20000 in
theorem wf_J_75 : Cond.fieldLink "JointHistory" 75 "JointHistory$Answer" "second" "I" ∈ jw_all := jw_tb (i := 37) rfl rfl
set_option maxRecDepth 20000 in
theorem wf_J_78 : Cond.fieldLink "JointHistory" 78 "JointHistory$Answer" "strict" "Z" ∈ jw_all := jw_tb (i := 38) rfl rfl
set_option maxRecDepth 20000 in
theorem wf_J_87 : Cond.fieldLink "JointHistory" 87 "JointHistory$Answer" "target" "I" ∈ jw_all := jw_tb (i := 39) rfl rfl
set_option maxRecDepth 20000 in
theorem wf_N_7 : Cond.fieldLink "JointHistory$Navigable" 7 "JointHistory$Navigable" "number" "I" ∈ jw_all := jw_tb (i := 57) rfl rfl
set_option maxRecDepth 20000 in
theorem wf_J_196 : Cond.fieldLink "JointHistory" 196 "JointHistory$Navigable" "number" "I" ∈ jw_all := jw_tb (i := 58) rfl rfl
set_option maxRecDepth 20000 in
theorem wf_J_43 : Cond.fieldLink "JointHistory" 43 "JointHistory$Navigable" "there" "Z" ∈ jw_all := jw_tb (i := 59) rfl rfl
set_option maxRecDepth 20000 in
theorem wf_J_233 : Cond.fieldLink "JointHistory" 233 "JointHistory$Navigable" "level" "I" ∈ jw_all := jw_tb (i := 60) rfl rfl
set_option maxRecDepth 20000 in
theorem wf_J_208 : Cond.fieldLink "JointHistory" 208 "JointHistory$Navigable" "above" "LJointHistory$Document;" ∈ jw_all := jw_tb (i := 61) rfl rfl
set_option maxRecDepth 20000 in
theorem wf_J_244 : Cond.fieldLink "JointHistory" 244 "JointHistory$Document" "there" "Z" ∈ jw_all := jw_tb (i := 76) rfl rfl
set_option maxRecDepth 20000 in
theorem wf_J_211 : Cond.fieldLink "JointHistory" 211 "JointHistory$Document" "owner" "LJointHistory$Navigable;" ∈ jw_all := jw_tb (i := 77) rfl rfl
set_option maxRecDepth 20000 in
theorem wf_J_168 : Cond.fieldLink "JointHistory" 168 "JointHistory$Document" "origin" "I" ∈ jw_all := jw_tb (i := 78) rfl rfl
set_option maxRecDepth 20000 in
theorem wf_J_219 : Cond.fieldLink "JointHistory" 219 "JointHistory$Document" "sandboxed" "Z" ∈ jw_all := jw_tb (i := 79) rfl rfl
set_option maxRecDepth 20000 in
theorem wf_J_171 : Cond.fieldLink "JointHistory" 171 "JointHistory$Document" "first" "LJointHistory$Navigable;" ∈ jw_all := jw_tb (i := 80) rfl rfl
set_option maxRecDepth 20000 in
theorem wf_J_177 : Cond.fieldLink "JointHistory" 177 "JointHistory$Document" "second" "LJointHistory$Navigable;" ∈ jw_all := jw_tb (i := 81) rfl rfl
set_option maxRecDepth 20000 in
theorem wf_J_179 : Cond.fieldLink "JointHistory" 179 "JointHistory$Entry" "there" "Z" ∈ jw_all := jw_tb (i := 100) rfl rfl
set_option maxRecDepth 20000 in
theorem wf_J_135 : Cond.fieldLink "JointHistory" 135 "JointHistory$Entry" "owner" "LJointHistory$Navigable;" ∈ jw_all := jw_tb (i := 101) rfl rfl
set_option maxRecDepth 20000 in
theorem wf_J_128 : Cond.fieldLink "JointHistory" 128 "JointHistory$Entry" "step" "I" ∈ jw_all := jw_tb (i := 102) rfl rfl
set_option maxRecDepth 20000 in
theorem wf_J_103 : Cond.fieldLink "JointHistory" 103 "JointHistory$Entry" "url" "I" ∈ jw_all := jw_tb (i := 103) rfl rfl
set_option maxRecDepth 20000 in
theorem wf_J_165 : Cond.fieldLink "JointHistory" 165 "JointHistory$Entry" "state" "I" ∈ jw_all := jw_tb (i := 104) rfl rfl
set_option maxRecDepth 20000 in
theorem wf_J_120 : Cond.fieldLink "JointHistory" 120 "JointHistory$Entry" "document" "LJointHistory$Document;" ∈ jw_all := jw_tb (i := 105) rfl rfl
set_option maxRecDepth 20000 in
theorem wf_J_62 : Cond.fieldLink "JointHistory" 62 "JointHistory$Kind" "CONTENT" "LJointHistory$Kind;" ∈ jw_all := jw_tb (i := 134) rfl rfl
set_option maxRecDepth 20000 in
theorem wf_J_84 : Cond.fieldLink "JointHistory" 84 "JointHistory$Kind" "DETOUR" "LJointHistory$Kind;" ∈ jw_all := jw_tb (i := 158) rfl rfl
set_option maxRecDepth 20000 in
theorem wf_J_11 : Cond.fieldLink "JointHistory" 11 "JointHistory" "answers" "[LJointHistory$Answer;" ∈ jw_all := jw_tb (i := 167) rfl rfl
set_option maxRecDepth 20000 in
theorem wf_J_17 : Cond.fieldLink "JointHistory" 17 "JointHistory" "navigables" "[LJointHistory$Navigable;" ∈ jw_all := jw_tb (i := 168) rfl rfl
set_option maxRecDepth 20000 in
theorem wf_J_23 : Cond.fieldLink "JointHistory" 23 "JointHistory" "documents" "[LJointHistory$Document;" ∈ jw_all := jw_tb (i := 169) rfl rfl
set_option maxRecDepth 20000 in
theorem wf_J_29 : Cond.fieldLink "JointHistory" 29 "JointHistory" "rows" "[LJointHistory$Entry;" ∈ jw_all := jw_tb (i := 170) rfl rfl
set_option maxRecDepth 20000 in
theorem wf_J_33 : Cond.fieldLink "JointHistory" 33 "JointHistory" "usedSteps" "[I" ∈ jw_all := jw_tb (i := 171) rfl rfl
set_option maxRecDepth 20000 in
theorem wf_J_96 : Cond.fieldLink "JointHistory" 96 "JointHistory" "presentStep" "I" ∈ jw_all := jw_tb (i := 172) rfl rfl
set_option maxRecDepth 20000 in
theorem wf_J_190 : Cond.fieldLink "JointHistory" 190 "JointHistory" "pops" "I" ∈ jw_all := jw_tb (i := 173) rfl rfl
set_option maxRecDepth 20000 in
theorem wf_J_117 : Cond.fieldLink "JointHistory" 117 "JointHistory" "hashes" "I" ∈ jw_all := jw_tb (i := 174) rfl rfl
set_option maxRecDepth 20000 in
theorem wf_J_193 : Cond.fieldLink "JointHistory" 193 "JointHistory" "opaques" "I" ∈ jw_all := jw_tb (i := 175) rfl rfl
set_option maxRecDepth 20000 in
theorem wf_J_90 : Cond.fieldLink "JointHistory" 90 "JointHistory$Kind" "FAULT" "LJointHistory$Kind;" ∈ jw_all := jw_tb (i := 219) rfl rfl
set_option maxRecDepth 20000 in
theorem wf_M_7 : Cond.fieldLink "JointHistoryModel" 7 "JointHistoryModel" "answer" "[I" ∈ jw_all := jw_tb (i := 390) rfl rfl
set_option maxRecDepth 20000 in
theorem wf_M_13 : Cond.fieldLink "JointHistoryModel" 13 "JointHistoryModel" "firstOf" "[I" ∈ jw_all := jw_tb (i := 391) rfl rfl
set_option maxRecDepth 20000 in
theorem wf_M_16 : Cond.fieldLink "JointHistoryModel" 16 "JointHistoryModel" "secondOf" "[I" ∈ jw_all := jw_tb (i := 392) rfl rfl
set_option maxRecDepth 20000 in
theorem wf_M_19 : Cond.fieldLink "JointHistoryModel" 19 "JointHistoryModel" "strictOf" "[Z" ∈ jw_all := jw_tb (i := 393) rfl rfl
set_option maxRecDepth 20000 in
theorem wf_M_23 : Cond.fieldLink "JointHistoryModel" 23 "JointHistoryModel" "owner" "[I" ∈ jw_all := jw_tb (i := 394) rfl rfl
set_option maxRecDepth 20000 in
theorem wf_M_26 : Cond.fieldLink "JointHistoryModel" 26 "JointHistoryModel" "stepOf" "[I" ∈ jw_all := jw_tb (i := 395) rfl rfl
set_option maxRecDepth 20000 in
theorem wf_M_29 : Cond.fieldLink "JointHistoryModel" 29 "JointHistoryModel" "urlOf" "[I" ∈ jw_all := jw_tb (i := 396) rfl rfl
set_option maxRecDepth 20000 in
theorem wf_M_32 : Cond.fieldLink "JointHistoryModel" 32 "JointHistoryModel" "stateOf" "[I" ∈ jw_all := jw_tb (i := 397) rfl rfl
set_option maxRecDepth 20000 in
theorem wf_M_35 : Cond.fieldLink "JointHistoryModel" 35 "JointHistoryModel" "paper" "[I" ∈ jw_all := jw_tb (i := 398) rfl rfl
set_option maxRecDepth 20000 in
theorem wf_M_38 : Cond.fieldLink "JointHistoryModel" 38 "JointHistoryModel" "entry" "[Z" ∈ jw_all := jw_tb (i := 399) rfl rfl
set_option maxRecDepth 20000 in
theorem wf_M_41 : Cond.fieldLink "JointHistoryModel" 41 "JointHistoryModel" "there" "[Z" ∈ jw_all := jw_tb (i := 400) rfl rfl
set_option maxRecDepth 20000 in
theorem wf_M_44 : Cond.fieldLink "JointHistoryModel" 44 "JointHistoryModel" "originOf" "[I" ∈ jw_all := jw_tb (i := 401) rfl rfl
set_option maxRecDepth 20000 in
theorem wf_M_47 : Cond.fieldLink "JointHistoryModel" 47 "JointHistoryModel" "sandboxed" "[Z" ∈ jw_all := jw_tb (i := 402) rfl rfl
set_option maxRecDepth 20000 in
theorem wf_M_50 : Cond.fieldLink "JointHistoryModel" 50 "JointHistoryModel" "left" "[I" ∈ jw_all := jw_tb (i := 403) rfl rfl
set_option maxRecDepth 20000 in
theorem wf_M_53 : Cond.fieldLink "JointHistoryModel" 53 "JointHistoryModel" "right" "[I" ∈ jw_all := jw_tb (i := 404) rfl rfl
set_option maxRecDepth 20000 in
theorem wf_M_56 : Cond.fieldLink "JointHistoryModel" 56 "JointHistoryModel" "exists" "[Z" ∈ jw_all := jw_tb (i := 405) rfl rfl
set_option maxRecDepth 20000 in
theorem wf_M_59 : Cond.fieldLink "JointHistoryModel" 59 "JointHistoryModel" "above" "[I" ∈ jw_all := jw_tb (i := 406) rfl rfl
set_option maxRecDepth 20000 in
theorem wf_M_62 : Cond.fieldLink "JointHistoryModel" 62 "JointHistoryModel" "shown" "[Z" ∈ jw_all := jw_tb (i := 407) rfl rfl
set_option maxRecDepth 20000 in
theorem wf_M_65 : Cond.fieldLink "JointHistoryModel" 65 "JointHistoryModel" "then" "[I" ∈ jw_all := jw_tb (i := 408) rfl rfl
set_option maxRecDepth 20000 in
theorem wf_M_68 : Cond.fieldLink "JointHistoryModel" 68 "JointHistoryModel" "keepPaper" "[Z" ∈ jw_all := jw_tb (i := 409) rfl rfl
set_option maxRecDepth 20000 in
theorem wf_M_71 : Cond.fieldLink "JointHistoryModel" 71 "JointHistoryModel" "keepNav" "[Z" ∈ jw_all := jw_tb (i := 410) rfl rfl
set_option maxRecDepth 20000 in
theorem wf_M_130 : Cond.fieldLink "JointHistoryModel" 130 "JointHistoryModel" "now" "I" ∈ jw_all := jw_tb (i := 411) rfl rfl
set_option maxRecDepth 20000 in
theorem wf_M_89 : Cond.fieldLink "JointHistoryModel" 89 "JointHistoryModel" "opaque" "I" ∈ jw_all := jw_tb (i := 412) rfl rfl
set_option maxRecDepth 20000 in
theorem wf_M_167 : Cond.fieldLink "JointHistoryModel" 167 "JointHistoryModel" "pops" "I" ∈ jw_all := jw_tb (i := 413) rfl rfl
set_option maxRecDepth 20000 in
theorem wf_M_156 : Cond.fieldLink "JointHistoryModel" 156 "JointHistoryModel" "hashes" "I" ∈ jw_all := jw_tb (i := 414) rfl rfl
set_option maxRecDepth 20000 in
theorem wf_M_93 : Cond.fieldLink "JointHistoryModel" 93 "JointHistoryModel" "landed" "I" ∈ jw_all := jw_tb (i := 415) rfl rfl
set_option maxRecDepth 20000 in
theorem wc_J_186 : Cond.constant "JointHistory" 186 (2147483647) ∈ jw_all := jw_tb (i := 237) rfl rfl
set_option maxRecDepth 20000 in
theorem wc_J_163 : Cond.constantLong "JointHistory" 163 (1099511627776) ∈ jw_all := jw_tb (i := 316) rfl rfl
set_option maxRecDepth 20000 in
theorem wc_M_170 : Cond.constantLong "JointHistoryModel" 170 (1099511627776) ∈ jw_all := jw_tb (i := 568) rfl rfl
end
section
theorem d_J_init_0 : decode b_J_init 0 = .ok (.aload_n 0, 1) := by decide +kernel
theorem d_J_init_1 : decode b_J_init 1 = .ok (.invokespecial 1, 3) := by decide +kernel
theorem d_J_init_4 : decode b_J_init 4 = .ok (.aload_n 0, 1) := by decide +kernel
theorem d_J_init_5 : decode b_J_init 5 = .ok (.bipush 32, 2) := by decide +kernel
theorem d_J_init_7 : decode b_J_init 7 = .ok (.anewarray 9, 3) := by decide +kernel
theorem d_J_init_10 : decode b_J_init 10 = .ok (.putfield 11, 3) := by decide +kernel
theorem d_J_init_13 : decode b_J_init 13 = .ok (.aload_n 0, 1) := by decide +kernel
theorem d_J_init_14 : decode b_J_init 14 = .ok (.bipush 40, 2) := by decide +kernel
theorem d_J_init_16 : decode b_J_init 16 = .ok (.anewarray 15, 3) := by decide +kernel
theorem d_J_init_19 : decode b_J_init 19 = .ok (.putfield 17, 3) := by decide +kernel
theorem d_J_init_22 : decode b_J_init 22 = .ok (.aload_n 0, 1) := by decide +kernel
theorem d_J_init_23 : decode b_J_init 23 = .ok (.bipush 40, 2) := by decide +kernel
theorem d_J_init_25 : decode b_J_init 25 = .ok (.anewarray 21, 3) := by decide +kernel
theorem d_J_init_28 : decode b_J_init 28 = .ok (.putfield 23, 3) := by decide +kernel
theorem d_J_init_31 : decode b_J_init 31 = .ok (.aload_n 0, 1) := by decide +kernel
theorem d_J_init_32 : decode b_J_init 32 = .ok (.bipush 40, 2) := by decide +kernel
theorem d_J_init_34 : decode b_J_init 34 = .ok (.anewarray 27, 3) := by decide +kernel
theorem d_J_init_37 : decode b_J_init 37 = .ok (.putfield 29, 3) := by decide +kernel
theorem d_J_init_40 : decode b_J_init 40 = .ok (.aload_n 0, 1) := by decide +kernel
theorem d_J_init_41 : decode b_J_init 41 = .ok (.bipush 40, 2) := by decide +kernel
theorem d_J_init_43 : decode b_J_init 43 = .ok (.newarray .int, 2) := by decide +kernel
theorem d_J_init_45 : decode b_J_init 45 = .ok (.putfield 33, 3) := by decide +kernel
theorem d_J_init_48 : decode b_J_init 48 = .ok (.iconst 0, 1) := by decide +kernel
theorem d_J_init_49 : decode b_J_init 49 = .ok (.istore_n 1, 1) := by decide +kernel
theorem d_J_init_50 : decode b_J_init 50 = .ok (.iload_n 1, 1) := by decide +kernel
theorem d_J_init_51 : decode b_J_init 51 = .ok (.bipush 32, 2) := by decide +kernel
theorem d_J_init_53 : decode b_J_init 53 = .ok (.if_icmp .ge 22, 3) := by decide +kernel
theorem d_J_init_56 : decode b_J_init 56 = .ok (.aload_n 0, 1) := by decide +kernel
theorem d_J_init_57 : decode b_J_init 57 = .ok (.getfield 11, 3) := by decide +kernel
theorem d_J_init_60 : decode b_J_init 60 = .ok (.iload_n 1, 1) := by decide +kernel
theorem d_J_init_61 : decode b_J_init 61 = .ok (.new 9, 3) := by decide +kernel
theorem d_J_init_64 : decode b_J_init 64 = .ok (.dup, 1) := by decide +kernel
theorem d_J_init_65 : decode b_J_init 65 = .ok (.invokespecial 37, 3) := by decide +kernel
theorem d_J_init_68 : decode b_J_init 68 = .ok (.aastore, 1) := by decide +kernel
theorem d_J_init_69 : decode b_J_init 69 = .ok (.iinc 1 1, 3) := by decide +kernel
theorem d_J_init_72 : decode b_J_init 72 = .ok (.goto (-22), 3) := by decide +kernel
theorem d_J_init_75 : decode b_J_init 75 = .ok (.iconst 0, 1) := by decide +kernel
theorem d_J_init_76 : decode b_J_init 76 = .ok (.istore_n 1, 1) := by decide +kernel
theorem d_J_init_77 : decode b_J_init 77 = .ok (.iload_n 1, 1) := by decide +kernel
theorem d_J_init_78 : decode b_J_init 78 = .ok (.bipush 40, 2) := by decide +kernel
theorem d_J_init_80 : decode b_J_init 80 = .ok (.if_icmp .ge 49, 3) := by decide +kernel
theorem d_J_init_83 : decode b_J_init 83 = .ok (.aload_n 0, 1) := by decide +kernel
theorem d_J_init_84 : decode b_J_init 84 = .ok (.getfield 17, 3) := by decide +kernel
theorem d_J_init_87 : decode b_J_init 87 = .ok (.iload_n 1, 1) := by decide +kernel
theorem d_J_init_88 : decode b_J_init 88 = .ok (.new 15, 3) := by decide +kernel
theorem d_J_init_91 : decode b_J_init 91 = .ok (.dup, 1) := by decide +kernel
theorem d_J_init_92 : decode b_J_init 92 = .ok (.iload_n 1, 1) := by decide +kernel
theorem d_J_init_93 : decode b_J_init 93 = .ok (.invokespecial 38, 3) := by decide +kernel
theorem d_J_init_96 : decode b_J_init 96 = .ok (.aastore, 1) := by decide +kernel
theorem d_J_init_97 : decode b_J_init 97 = .ok (.aload_n 0, 1) := by decide +kernel
theorem d_J_init_98 : decode b_J_init 98 = .ok (.getfield 23, 3) := by decide +kernel
theorem d_J_init_101 : decode b_J_init 101 = .ok (.iload_n 1, 1) := by decide +kernel
theorem d_J_init_102 : decode b_J_init 102 = .ok (.new 21, 3) := by decide +kernel
theorem d_J_init_105 : decode b_J_init 105 = .ok (.dup, 1) := by decide +kernel
theorem d_J_init_106 : decode b_J_init 106 = .ok (.invokespecial 41, 3) := by decide +kernel
theorem d_J_init_109 : decode b_J_init 109 = .ok (.aastore, 1) := by decide +kernel
theorem d_J_init_110 : decode b_J_init 110 = .ok (.aload_n 0, 1) := by decide +kernel
theorem d_J_init_111 : decode b_J_init 111 = .ok (.getfield 29, 3) := by decide +kernel
theorem d_J_init_114 : decode b_J_init 114 = .ok (.iload_n 1, 1) := by decide +kernel
theorem d_J_init_115 : decode b_J_init 115 = .ok (.new 27, 3) := by decide +kernel
theorem d_J_init_118 : decode b_J_init 118 = .ok (.dup, 1) := by decide +kernel
theorem d_J_init_119 : decode b_J_init 119 = .ok (.invokespecial 42, 3) := by decide +kernel
theorem d_J_init_122 : decode b_J_init 122 = .ok (.aastore, 1) := by decide +kernel
theorem d_J_init_123 : decode b_J_init 123 = .ok (.iinc 1 1, 3) := by decide +kernel
theorem d_J_init_126 : decode b_J_init 126 = .ok (.goto (-49), 3) := by decide +kernel
theorem d_J_init_129 : decode b_J_init 129 = .ok (.aload_n 0, 1) := by decide +kernel
theorem d_J_init_130 : decode b_J_init 130 = .ok (.getfield 17, 3) := by decide +kernel
theorem d_J_init_133 : decode b_J_init 133 = .ok (.iconst 0, 1) := by decide +kernel
theorem d_J_init_134 : decode b_J_init 134 = .ok (.aaload, 1) := by decide +kernel
theorem d_J_init_135 : decode b_J_init 135 = .ok (.astore_n 1, 1) := by decide +kernel
theorem d_J_init_136 : decode b_J_init 136 = .ok (.aload_n 1, 1) := by decide +kernel
theorem d_J_init_137 : decode b_J_init 137 = .ok (.iconst 1, 1) := by decide +kernel
theorem d_J_init_138 : decode b_J_init 138 = .ok (.putfield 43, 3) := by decide +kernel
theorem d_J_init_141 : decode b_J_init 141 = .ok (.aload_n 0, 1) := by decide +kernel
theorem d_J_init_142 : decode b_J_init 142 = .ok (.aload_n 1, 1) := by decide +kernel
theorem d_J_init_143 : decode b_J_init 143 = .ok (.iconst 0, 1) := by decide +kernel
theorem d_J_init_144 : decode b_J_init 144 = .ok (.iconst (-1), 1) := by decide +kernel
theorem d_J_init_145 : decode b_J_init 145 = .ok (.iconst 0, 1) := by decide +kernel
theorem d_J_init_146 : decode b_J_init 146 = .ok (.aload_n 0, 1) := by decide +kernel
theorem d_J_init_147 : decode b_J_init 147 = .ok (.aload_n 1, 1) := by decide +kernel
theorem d_J_init_148 : decode b_J_init 148 = .ok (.iconst (-1), 1) := by decide +kernel
theorem d_J_init_149 : decode b_J_init 149 = .ok (.iconst 0, 1) := by decide +kernel
theorem d_J_init_150 : decode b_J_init 150 = .ok (.invokevirtual 47, 3) := by decide +kernel
theorem d_J_init_153 : decode b_J_init 153 = .ok (.invokevirtual 51, 3) := by decide +kernel
theorem d_J_init_156 : decode b_J_init 156 = .ok (.return_, 1) := by decide +kernel
theorem d_J_load_0 : decode b_J_load 0 = .ok (.aload_n 1, 1) := by decide +kernel
theorem d_J_load_1 : decode b_J_load 1 = .ok (.getfield 208, 3) := by decide +kernel
theorem d_J_load_4 : decode b_J_load 4 = .ok (.astore 4, 2) := by decide +kernel
theorem d_J_load_6 : decode b_J_load 6 = .ok (.aload 4, 2) := by decide +kernel
theorem d_J_load_8 : decode b_J_load 8 = .ok (.ifnull 15, 3) := by decide +kernel
theorem d_J_load_11 : decode b_J_load 11 = .ok (.aload 4, 2) := by decide +kernel
theorem d_J_load_13 : decode b_J_load 13 = .ok (.getfield 219, 3) := by decide +kernel
theorem d_J_load_16 : decode b_J_load 16 = .ok (.ifCond .eq 7, 3) := by decide +kernel
theorem d_J_load_19 : decode b_J_load 19 = .ok (.iconst 1, 1) := by decide +kernel
theorem d_J_load_20 : decode b_J_load 20 = .ok (.goto 4, 3) := by decide +kernel
theorem d_J_load_23 : decode b_J_load 23 = .ok (.iconst 0, 1) := by decide +kernel
theorem d_J_load_24 : decode b_J_load 24 = .ok (.istore 5, 2) := by decide +kernel
theorem d_J_load_26 : decode b_J_load 26 = .ok (.aload_n 0, 1) := by decide +kernel
theorem d_J_load_27 : decode b_J_load 27 = .ok (.aload_n 1, 1) := by decide +kernel
theorem d_J_load_28 : decode b_J_load 28 = .ok (.invokevirtual 222, 3) := by decide +kernel
theorem d_J_load_31 : decode b_J_load 31 = .ok (.astore 6, 2) := by decide +kernel
theorem d_J_load_33 : decode b_J_load 33 = .ok (.iload_n 2, 1) := by decide +kernel
theorem d_J_load_34 : decode b_J_load 34 = .ok (.iconst (-1), 1) := by decide +kernel
theorem d_J_load_35 : decode b_J_load 35 = .ok (.if_icmp .ne 40, 3) := by decide +kernel
theorem d_J_load_38 : decode b_J_load 38 = .ok (.aload 6, 2) := by decide +kernel
theorem d_J_load_40 : decode b_J_load 40 = .ok (.iload 5, 2) := by decide +kernel
theorem d_J_load_42 : decode b_J_load 42 = .ok (.putfield 219, 3) := by decide +kernel
theorem d_J_load_45 : decode b_J_load 45 = .ok (.aload 6, 2) := by decide +kernel
theorem d_J_load_47 : decode b_J_load 47 = .ok (.aload 4, 2) := by decide +kernel
theorem d_J_load_49 : decode b_J_load 49 = .ok (.ifnull 8, 3) := by decide +kernel
theorem d_J_load_52 : decode b_J_load 52 = .ok (.iload 5, 2) := by decide +kernel
theorem d_J_load_54 : decode b_J_load 54 = .ok (.ifCond .eq 10, 3) := by decide +kernel
theorem d_J_load_57 : decode b_J_load 57 = .ok (.aload_n 0, 1) := by decide +kernel
theorem d_J_load_58 : decode b_J_load 58 = .ok (.invokevirtual 226, 3) := by decide +kernel
theorem d_J_load_61 : decode b_J_load 61 = .ok (.goto 8, 3) := by decide +kernel
theorem d_J_load_64 : decode b_J_load 64 = .ok (.aload 4, 2) := by decide +kernel
theorem d_J_load_66 : decode b_J_load 66 = .ok (.getfield 168, 3) := by decide +kernel
theorem d_J_load_69 : decode b_J_load 69 = .ok (.putfield 168, 3) := by decide +kernel
theorem d_J_load_72 : decode b_J_load 72 = .ok (.aload 6, 2) := by decide +kernel
theorem d_J_load_74 : decode b_J_load 74 = .ok (.areturn, 1) := by decide +kernel
theorem d_J_load_75 : decode b_J_load 75 = .ok (.aload_n 0, 1) := by decide +kernel
theorem d_J_load_76 : decode b_J_load 76 = .ok (.getfield 11, 3) := by decide +kernel
theorem d_J_load_79 : decode b_J_load 79 = .ok (.iload_n 2, 1) := by decide +kernel
theorem d_J_load_80 : decode b_J_load 80 = .ok (.invokestatic 202, 3) := by decide +kernel
theorem d_J_load_83 : decode b_J_load 83 = .ok (.aaload, 1) := by decide +kernel
theorem d_J_load_84 : decode b_J_load 84 = .ok (.astore 7, 2) := by decide +kernel
theorem d_J_load_86 : decode b_J_load 86 = .ok (.aload 7, 2) := by decide +kernel
theorem d_J_load_88 : decode b_J_load 88 = .ok (.getfield 68, 3) := by decide +kernel
theorem d_J_load_91 : decode b_J_load 91 = .ok (.getstatic 62, 3) := by decide +kernel
theorem d_J_load_94 : decode b_J_load 94 = .ok (.if_acmp .eq 21, 3) := by decide +kernel
theorem d_J_load_97 : decode b_J_load 97 = .ok (.aload 6, 2) := by decide +kernel
theorem d_J_load_99 : decode b_J_load 99 = .ok (.iconst 0, 1) := by decide +kernel
theorem d_J_load_100 : decode b_J_load 100 = .ok (.putfield 219, 3) := by decide +kernel
theorem d_J_load_103 : decode b_J_load 103 = .ok (.aload 6, 2) := by decide +kernel
theorem d_J_load_105 : decode b_J_load 105 = .ok (.aload_n 0, 1) := by decide +kernel
theorem d_J_load_106 : decode b_J_load 106 = .ok (.invokevirtual 226, 3) := by decide +kernel
theorem d_J_load_109 : decode b_J_load 109 = .ok (.putfield 168, 3) := by decide +kernel
theorem d_J_load_112 : decode b_J_load 112 = .ok (.aload 6, 2) := by decide +kernel
theorem d_J_load_114 : decode b_J_load 114 = .ok (.areturn, 1) := by decide +kernel
theorem d_J_load_115 : decode b_J_load 115 = .ok (.aload 6, 2) := by decide +kernel
theorem d_J_load_117 : decode b_J_load 117 = .ok (.aload 7, 2) := by decide +kernel
theorem d_J_load_119 : decode b_J_load 119 = .ok (.getfield 78, 3) := by decide +kernel
theorem d_J_load_122 : decode b_J_load 122 = .ok (.ifCond .ne 8, 3) := by decide +kernel
theorem d_J_load_125 : decode b_J_load 125 = .ok (.iload 5, 2) := by decide +kernel
theorem d_J_load_127 : decode b_J_load 127 = .ok (.ifCond .eq 7, 3) := by decide +kernel
theorem d_J_load_130 : decode b_J_load 130 = .ok (.iconst 1, 1) := by decide +kernel
theorem d_J_load_131 : decode b_J_load 131 = .ok (.goto 4, 3) := by decide +kernel
theorem d_J_load_134 : decode b_J_load 134 = .ok (.iconst 0, 1) := by decide +kernel
theorem d_J_load_135 : decode b_J_load 135 = .ok (.putfield 219, 3) := by decide +kernel
theorem d_J_load_138 : decode b_J_load 138 = .ok (.aload 6, 2) := by decide +kernel
theorem d_J_load_140 : decode b_J_load 140 = .ok (.aload 6, 2) := by decide +kernel
theorem d_J_load_142 : decode b_J_load 142 = .ok (.getfield 219, 3) := by decide +kernel
theorem d_J_load_145 : decode b_J_load 145 = .ok (.ifCond .eq 10, 3) := by decide +kernel
theorem d_J_load_148 : decode b_J_load 148 = .ok (.aload_n 0, 1) := by decide +kernel
theorem d_J_load_149 : decode b_J_load 149 = .ok (.invokevirtual 226, 3) := by decide +kernel
theorem d_J_load_152 : decode b_J_load 152 = .ok (.goto 7, 3) := by decide +kernel
theorem d_J_load_155 : decode b_J_load 155 = .ok (.iload_n 2, 1) := by decide +kernel
theorem d_J_load_156 : decode b_J_load 156 = .ok (.invokestatic 205, 3) := by decide +kernel
theorem d_J_load_159 : decode b_J_load 159 = .ok (.putfield 168, 3) := by decide +kernel
theorem d_J_load_162 : decode b_J_load 162 = .ok (.aload_n 0, 1) := by decide +kernel
theorem d_J_load_163 : decode b_J_load 163 = .ok (.aload 6, 2) := by decide +kernel
theorem d_J_load_165 : decode b_J_load 165 = .ok (.aload 7, 2) := by decide +kernel
theorem d_J_load_167 : decode b_J_load 167 = .ok (.iload_n 3, 1) := by decide +kernel
theorem d_J_load_168 : decode b_J_load 168 = .ok (.invokevirtual 229, 3) := by decide +kernel
theorem d_J_load_171 : decode b_J_load 171 = .ok (.aload 6, 2) := by decide +kernel
theorem d_J_load_173 : decode b_J_load 173 = .ok (.areturn, 1) := by decide +kernel
theorem d_J_freeDocument_0 : decode b_J_freeDocument 0 = .ok (.iconst 0, 1) := by decide +kernel
theorem d_J_freeDocument_1 : decode b_J_freeDocument 1 = .ok (.istore_n 2, 1) := by decide +kernel
theorem d_J_freeDocument_2 : decode b_J_freeDocument 2 = .ok (.iload_n 2, 1) := by decide +kernel
theorem d_J_freeDocument_3 : decode b_J_freeDocument 3 = .ok (.bipush 39, 2) := by decide +kernel
theorem d_J_freeDocument_5 : decode b_J_freeDocument 5 = .ok (.if_icmp .ge 21, 3) := by decide +kernel
theorem d_J_freeDocument_8 : decode b_J_freeDocument 8 = .ok (.aload_n 0, 1) := by decide +kernel
theorem d_J_freeDocument_9 : decode b_J_freeDocument 9 = .ok (.getfield 23, 3) := by decide +kernel
theorem d_J_freeDocument_12 : decode b_J_freeDocument 12 = .ok (.iload_n 2, 1) := by decide +kernel
theorem d_J_freeDocument_13 : decode b_J_freeDocument 13 = .ok (.aaload, 1) := by decide +kernel
theorem d_J_freeDocument_14 : decode b_J_freeDocument 14 = .ok (.getfield 244, 3) := by decide +kernel
theorem d_J_freeDocument_17 : decode b_J_freeDocument 17 = .ok (.ifCond .eq 9, 3) := by decide +kernel
theorem d_J_freeDocument_20 : decode b_J_freeDocument 20 = .ok (.iinc 2 1, 3) := by decide +kernel
theorem d_J_freeDocument_23 : decode b_J_freeDocument 23 = .ok (.goto (-21), 3) := by decide +kernel
theorem d_J_freeDocument_26 : decode b_J_freeDocument 26 = .ok (.aload_n 0, 1) := by decide +kernel
theorem d_J_freeDocument_27 : decode b_J_freeDocument 27 = .ok (.getfield 23, 3) := by decide +kernel
theorem d_J_freeDocument_30 : decode b_J_freeDocument 30 = .ok (.iload_n 2, 1) := by decide +kernel
theorem d_J_freeDocument_31 : decode b_J_freeDocument 31 = .ok (.aaload, 1) := by decide +kernel
theorem d_J_freeDocument_32 : decode b_J_freeDocument 32 = .ok (.astore_n 3, 1) := by decide +kernel
theorem d_J_freeDocument_33 : decode b_J_freeDocument 33 = .ok (.aload_n 3, 1) := by decide +kernel
theorem d_J_freeDocument_34 : decode b_J_freeDocument 34 = .ok (.iconst 1, 1) := by decide +kernel
theorem d_J_freeDocument_35 : decode b_J_freeDocument 35 = .ok (.putfield 244, 3) := by decide +kernel
theorem d_J_freeDocument_38 : decode b_J_freeDocument 38 = .ok (.aload_n 3, 1) := by decide +kernel
theorem d_J_freeDocument_39 : decode b_J_freeDocument 39 = .ok (.aload_n 1, 1) := by decide +kernel
theorem d_J_freeDocument_40 : decode b_J_freeDocument 40 = .ok (.putfield 211, 3) := by decide +kernel
theorem d_J_freeDocument_43 : decode b_J_freeDocument 43 = .ok (.aload_n 3, 1) := by decide +kernel
theorem d_J_freeDocument_44 : decode b_J_freeDocument 44 = .ok (.aconst_null, 1) := by decide +kernel
theorem d_J_freeDocument_45 : decode b_J_freeDocument 45 = .ok (.putfield 171, 3) := by decide +kernel
theorem d_J_freeDocument_48 : decode b_J_freeDocument 48 = .ok (.aload_n 3, 1) := by decide +kernel
theorem d_J_freeDocument_49 : decode b_J_freeDocument 49 = .ok (.aconst_null, 1) := by decide +kernel
theorem d_J_freeDocument_50 : decode b_J_freeDocument 50 = .ok (.putfield 177, 3) := by decide +kernel
theorem d_J_freeDocument_53 : decode b_J_freeDocument 53 = .ok (.aload_n 3, 1) := by decide +kernel
theorem d_J_freeDocument_54 : decode b_J_freeDocument 54 = .ok (.areturn, 1) := by decide +kernel
theorem d_J_giveOpaqueOrigin_0 : decode b_J_giveOpaqueOrigin 0 = .ok (.iconst 4, 1) := by decide +kernel
theorem d_J_giveOpaqueOrigin_1 : decode b_J_giveOpaqueOrigin 1 = .ok (.aload_n 0, 1) := by decide +kernel
theorem d_J_giveOpaqueOrigin_2 : decode b_J_giveOpaqueOrigin 2 = .ok (.getfield 193, 3) := by decide +kernel
theorem d_J_giveOpaqueOrigin_5 : decode b_J_giveOpaqueOrigin 5 = .ok (.iadd, 1) := by decide +kernel
theorem d_J_giveOpaqueOrigin_6 : decode b_J_giveOpaqueOrigin 6 = .ok (.istore_n 1, 1) := by decide +kernel
theorem d_J_giveOpaqueOrigin_7 : decode b_J_giveOpaqueOrigin 7 = .ok (.aload_n 0, 1) := by decide +kernel
theorem d_J_giveOpaqueOrigin_8 : decode b_J_giveOpaqueOrigin 8 = .ok (.dup, 1) := by decide +kernel
theorem d_J_giveOpaqueOrigin_9 : decode b_J_giveOpaqueOrigin 9 = .ok (.getfield 193, 3) := by decide +kernel
theorem d_J_giveOpaqueOrigin_12 : decode b_J_giveOpaqueOrigin 12 = .ok (.iconst 1, 1) := by decide +kernel
theorem d_J_giveOpaqueOrigin_13 : decode b_J_giveOpaqueOrigin 13 = .ok (.iadd, 1) := by decide +kernel
theorem d_J_giveOpaqueOrigin_14 : decode b_J_giveOpaqueOrigin 14 = .ok (.putfield 193, 3) := by decide +kernel
theorem d_J_giveOpaqueOrigin_17 : decode b_J_giveOpaqueOrigin 17 = .ok (.iload_n 1, 1) := by decide +kernel
theorem d_J_giveOpaqueOrigin_18 : decode b_J_giveOpaqueOrigin 18 = .ok (.ireturn, 1) := by decide +kernel
theorem d_J_pageOf_0 : decode b_J_pageOf 0 = .ok (.iload_n 0, 1) := by decide +kernel
theorem d_J_pageOf_1 : decode b_J_pageOf 1 = .ok (.bipush 8, 2) := by decide +kernel
theorem d_J_pageOf_3 : decode b_J_pageOf 3 = .ok (.idiv, 1) := by decide +kernel
theorem d_J_pageOf_4 : decode b_J_pageOf 4 = .ok (.ireturn, 1) := by decide +kernel
theorem d_J_hostOf_0 : decode b_J_hostOf 0 = .ok (.iload_n 0, 1) := by decide +kernel
theorem d_J_hostOf_1 : decode b_J_hostOf 1 = .ok (.bipush 64, 2) := by decide +kernel
theorem d_J_hostOf_3 : decode b_J_hostOf 3 = .ok (.idiv, 1) := by decide +kernel
theorem d_J_hostOf_4 : decode b_J_hostOf 4 = .ok (.ireturn, 1) := by decide +kernel
theorem d_J_makeFrames_0 : decode b_J_makeFrames 0 = .ok (.iconst 2, 1) := by decide +kernel
theorem d_J_makeFrames_1 : decode b_J_makeFrames 1 = .ok (.aload_n 1, 1) := by decide +kernel
theorem d_J_makeFrames_2 : decode b_J_makeFrames 2 = .ok (.getfield 211, 3) := by decide +kernel
theorem d_J_makeFrames_5 : decode b_J_makeFrames 5 = .ok (.getfield 233, 3) := by decide +kernel
theorem d_J_makeFrames_8 : decode b_J_makeFrames 8 = .ok (.isub, 1) := by decide +kernel
theorem d_J_makeFrames_9 : decode b_J_makeFrames 9 = .ok (.istore 4, 2) := by decide +kernel
theorem d_J_makeFrames_11 : decode b_J_makeFrames 11 = .ok (.iload 4, 2) := by decide +kernel
theorem d_J_makeFrames_13 : decode b_J_makeFrames 13 = .ok (.ifCond .le 29, 3) := by decide +kernel
theorem d_J_makeFrames_16 : decode b_J_makeFrames 16 = .ok (.aload_n 2, 1) := by decide +kernel
theorem d_J_makeFrames_17 : decode b_J_makeFrames 17 = .ok (.getfield 71, 3) := by decide +kernel
theorem d_J_makeFrames_20 : decode b_J_makeFrames 20 = .ok (.bipush (-2), 2) := by decide +kernel
theorem d_J_makeFrames_22 : decode b_J_makeFrames 22 = .ok (.if_icmp .eq 20, 3) := by decide +kernel
theorem d_J_makeFrames_25 : decode b_J_makeFrames 25 = .ok (.aload_n 1, 1) := by decide +kernel
theorem d_J_makeFrames_26 : decode b_J_makeFrames 26 = .ok (.aload_n 0, 1) := by decide +kernel
theorem d_J_makeFrames_27 : decode b_J_makeFrames 27 = .ok (.aload_n 1, 1) := by decide +kernel
theorem d_J_makeFrames_28 : decode b_J_makeFrames 28 = .ok (.aload_n 2, 1) := by decide +kernel
theorem d_J_makeFrames_29 : decode b_J_makeFrames 29 = .ok (.getfield 71, 3) := by decide +kernel
theorem d_J_makeFrames_32 : decode b_J_makeFrames 32 = .ok (.iload_n 3, 1) := by decide +kernel
theorem d_J_makeFrames_33 : decode b_J_makeFrames 33 = .ok (.invokevirtual 236, 3) := by decide +kernel
theorem d_J_makeFrames_36 : decode b_J_makeFrames 36 = .ok (.putfield 171, 3) := by decide +kernel
theorem d_J_makeFrames_39 : decode b_J_makeFrames 39 = .ok (.iinc 4 (-1), 3) := by decide +kernel
theorem d_J_makeFrames_42 : decode b_J_makeFrames 42 = .ok (.iload 4, 2) := by decide +kernel
theorem d_J_makeFrames_44 : decode b_J_makeFrames 44 = .ok (.ifCond .le 46, 3) := by decide +kernel
theorem d_J_makeFrames_47 : decode b_J_makeFrames 47 = .ok (.aload_n 2, 1) := by decide +kernel
theorem d_J_makeFrames_48 : decode b_J_makeFrames 48 = .ok (.getfield 75, 3) := by decide +kernel
theorem d_J_makeFrames_51 : decode b_J_makeFrames 51 = .ok (.bipush (-2), 2) := by decide +kernel
theorem d_J_makeFrames_53 : decode b_J_makeFrames 53 = .ok (.if_icmp .eq 37, 3) := by decide +kernel
theorem d_J_makeFrames_56 : decode b_J_makeFrames 56 = .ok (.aload_n 0, 1) := by decide +kernel
theorem d_J_makeFrames_57 : decode b_J_makeFrames 57 = .ok (.aload_n 1, 1) := by decide +kernel
theorem d_J_makeFrames_58 : decode b_J_makeFrames 58 = .ok (.aload_n 2, 1) := by decide +kernel
theorem d_J_makeFrames_59 : decode b_J_makeFrames 59 = .ok (.getfield 75, 3) := by decide +kernel
theorem d_J_makeFrames_62 : decode b_J_makeFrames 62 = .ok (.iload_n 3, 1) := by decide +kernel
theorem d_J_makeFrames_63 : decode b_J_makeFrames 63 = .ok (.invokevirtual 236, 3) := by decide +kernel
theorem d_J_makeFrames_66 : decode b_J_makeFrames 66 = .ok (.astore 5, 2) := by decide +kernel
theorem d_J_makeFrames_68 : decode b_J_makeFrames 68 = .ok (.aload_n 1, 1) := by decide +kernel
theorem d_J_makeFrames_69 : decode b_J_makeFrames 69 = .ok (.getfield 171, 3) := by decide +kernel
theorem d_J_makeFrames_72 : decode b_J_makeFrames 72 = .ok (.ifnonnull 12, 3) := by decide +kernel
theorem d_J_makeFrames_75 : decode b_J_makeFrames 75 = .ok (.aload_n 1, 1) := by decide +kernel
theorem d_J_makeFrames_76 : decode b_J_makeFrames 76 = .ok (.aload 5, 2) := by decide +kernel
theorem d_J_makeFrames_78 : decode b_J_makeFrames 78 = .ok (.putfield 171, 3) := by decide +kernel
theorem d_J_makeFrames_81 : decode b_J_makeFrames 81 = .ok (.goto 9, 3) := by decide +kernel
theorem d_J_makeFrames_84 : decode b_J_makeFrames 84 = .ok (.aload_n 1, 1) := by decide +kernel
theorem d_J_makeFrames_85 : decode b_J_makeFrames 85 = .ok (.aload 5, 2) := by decide +kernel
theorem d_J_makeFrames_87 : decode b_J_makeFrames 87 = .ok (.putfield 177, 3) := by decide +kernel
theorem d_J_makeFrames_90 : decode b_J_makeFrames 90 = .ok (.return_, 1) := by decide +kernel
theorem d_J_makeFrame_0 : decode b_J_makeFrame 0 = .ok (.aload_n 0, 1) := by decide +kernel
theorem d_J_makeFrame_1 : decode b_J_makeFrame 1 = .ok (.invokevirtual 240, 3) := by decide +kernel
theorem d_J_makeFrame_4 : decode b_J_makeFrame 4 = .ok (.astore 4, 2) := by decide +kernel
theorem d_J_makeFrame_6 : decode b_J_makeFrame 6 = .ok (.aload 4, 2) := by decide +kernel
theorem d_J_makeFrame_8 : decode b_J_makeFrame 8 = .ok (.iconst 1, 1) := by decide +kernel
theorem d_J_makeFrame_9 : decode b_J_makeFrame 9 = .ok (.putfield 43, 3) := by decide +kernel
theorem d_J_makeFrame_12 : decode b_J_makeFrame 12 = .ok (.aload 4, 2) := by decide +kernel
theorem d_J_makeFrame_14 : decode b_J_makeFrame 14 = .ok (.aload_n 1, 1) := by decide +kernel
theorem d_J_makeFrame_15 : decode b_J_makeFrame 15 = .ok (.getfield 211, 3) := by decide +kernel
theorem d_J_makeFrame_18 : decode b_J_makeFrame 18 = .ok (.getfield 233, 3) := by decide +kernel
theorem d_J_makeFrame_21 : decode b_J_makeFrame 21 = .ok (.iconst 1, 1) := by decide +kernel
theorem d_J_makeFrame_22 : decode b_J_makeFrame 22 = .ok (.iadd, 1) := by decide +kernel
theorem d_J_makeFrame_23 : decode b_J_makeFrame 23 = .ok (.putfield 233, 3) := by decide +kernel
theorem d_J_makeFrame_26 : decode b_J_makeFrame 26 = .ok (.aload 4, 2) := by decide +kernel
theorem d_J_makeFrame_28 : decode b_J_makeFrame 28 = .ok (.aload_n 1, 1) := by decide +kernel
theorem d_J_makeFrame_29 : decode b_J_makeFrame 29 = .ok (.putfield 208, 3) := by decide +kernel
theorem d_J_makeFrame_32 : decode b_J_makeFrame 32 = .ok (.aload_n 0, 1) := by decide +kernel
theorem d_J_makeFrame_33 : decode b_J_makeFrame 33 = .ok (.iload_n 2, 1) := by decide +kernel
theorem d_J_makeFrame_34 : decode b_J_makeFrame 34 = .ok (.invokevirtual 131, 3) := by decide +kernel
theorem d_J_makeFrame_37 : decode b_J_makeFrame 37 = .ok (.istore 5, 2) := by decide +kernel
theorem d_J_makeFrame_39 : decode b_J_makeFrame 39 = .ok (.aload_n 0, 1) := by decide +kernel
theorem d_J_makeFrame_40 : decode b_J_makeFrame 40 = .ok (.aload 4, 2) := by decide +kernel
theorem d_J_makeFrame_42 : decode b_J_makeFrame 42 = .ok (.iload_n 3, 1) := by decide +kernel
theorem d_J_makeFrame_43 : decode b_J_makeFrame 43 = .ok (.iload 5, 2) := by decide +kernel
theorem d_J_makeFrame_45 : decode b_J_makeFrame 45 = .ok (.iconst 0, 1) := by decide +kernel
theorem d_J_makeFrame_46 : decode b_J_makeFrame 46 = .ok (.aload_n 0, 1) := by decide +kernel
theorem d_J_makeFrame_47 : decode b_J_makeFrame 47 = .ok (.aload 4, 2) := by decide +kernel
theorem d_J_makeFrame_49 : decode b_J_makeFrame 49 = .ok (.iload 5, 2) := by decide +kernel
theorem d_J_makeFrame_51 : decode b_J_makeFrame 51 = .ok (.iload_n 3, 1) := by decide +kernel
theorem d_J_makeFrame_52 : decode b_J_makeFrame 52 = .ok (.invokevirtual 47, 3) := by decide +kernel
theorem d_J_makeFrame_55 : decode b_J_makeFrame 55 = .ok (.invokevirtual 51, 3) := by decide +kernel
theorem d_J_makeFrame_58 : decode b_J_makeFrame 58 = .ok (.aload 4, 2) := by decide +kernel
theorem d_J_makeFrame_60 : decode b_J_makeFrame 60 = .ok (.areturn, 1) := by decide +kernel
theorem d_J_freeNavigable_0 : decode b_J_freeNavigable 0 = .ok (.iconst 1, 1) := by decide +kernel
theorem d_J_freeNavigable_1 : decode b_J_freeNavigable 1 = .ok (.istore_n 1, 1) := by decide +kernel
theorem d_J_freeNavigable_2 : decode b_J_freeNavigable 2 = .ok (.iload_n 1, 1) := by decide +kernel
theorem d_J_freeNavigable_3 : decode b_J_freeNavigable 3 = .ok (.bipush 39, 2) := by decide +kernel
theorem d_J_freeNavigable_5 : decode b_J_freeNavigable 5 = .ok (.if_icmp .ge 21, 3) := by decide +kernel
theorem d_J_freeNavigable_8 : decode b_J_freeNavigable 8 = .ok (.aload_n 0, 1) := by decide +kernel
theorem d_J_freeNavigable_9 : decode b_J_freeNavigable 9 = .ok (.getfield 17, 3) := by decide +kernel
theorem d_J_freeNavigable_12 : decode b_J_freeNavigable 12 = .ok (.iload_n 1, 1) := by decide +kernel
theorem d_J_freeNavigable_13 : decode b_J_freeNavigable 13 = .ok (.aaload, 1) := by decide +kernel
theorem d_J_freeNavigable_14 : decode b_J_freeNavigable 14 = .ok (.getfield 43, 3) := by decide +kernel
theorem d_J_freeNavigable_17 : decode b_J_freeNavigable 17 = .ok (.ifCond .eq 9, 3) := by decide +kernel
theorem d_J_freeNavigable_20 : decode b_J_freeNavigable 20 = .ok (.iinc 1 1, 3) := by decide +kernel
theorem d_J_freeNavigable_23 : decode b_J_freeNavigable 23 = .ok (.goto (-21), 3) := by decide +kernel
theorem d_J_freeNavigable_26 : decode b_J_freeNavigable 26 = .ok (.aload_n 0, 1) := by decide +kernel
theorem d_J_freeNavigable_27 : decode b_J_freeNavigable 27 = .ok (.getfield 17, 3) := by decide +kernel
theorem d_J_freeNavigable_30 : decode b_J_freeNavigable 30 = .ok (.iload_n 1, 1) := by decide +kernel
theorem d_J_freeNavigable_31 : decode b_J_freeNavigable 31 = .ok (.aaload, 1) := by decide +kernel
theorem d_J_freeNavigable_32 : decode b_J_freeNavigable 32 = .ok (.areturn, 1) := by decide +kernel
theorem d_J_followDetours_0 : decode b_J_followDetours 0 = .ok (.iload_n 1, 1) := by decide +kernel
theorem d_J_followDetours_1 : decode b_J_followDetours 1 = .ok (.istore_n 2, 1) := by decide +kernel
theorem d_J_followDetours_2 : decode b_J_followDetours 2 = .ok (.iconst 0, 1) := by decide +kernel
theorem d_J_followDetours_3 : decode b_J_followDetours 3 = .ok (.istore_n 3, 1) := by decide +kernel
theorem d_J_followDetours_4 : decode b_J_followDetours 4 = .ok (.iload_n 3, 1) := by decide +kernel
theorem d_J_followDetours_5 : decode b_J_followDetours 5 = .ok (.iconst 4, 1) := by decide +kernel
theorem d_J_followDetours_6 : decode b_J_followDetours 6 = .ok (.if_icmp .ge 52, 3) := by decide +kernel
theorem d_J_followDetours_9 : decode b_J_followDetours 9 = .ok (.aload_n 0, 1) := by decide +kernel
theorem d_J_followDetours_10 : decode b_J_followDetours 10 = .ok (.iload_n 2, 1) := by decide +kernel
theorem d_J_followDetours_11 : decode b_J_followDetours 11 = .ok (.invokevirtual 216, 3) := by decide +kernel
theorem d_J_followDetours_14 : decode b_J_followDetours 14 = .ok (.ifCond .eq 44, 3) := by decide +kernel
theorem d_J_followDetours_17 : decode b_J_followDetours 17 = .ok (.aload_n 0, 1) := by decide +kernel
theorem d_J_followDetours_18 : decode b_J_followDetours 18 = .ok (.getfield 11, 3) := by decide +kernel
theorem d_J_followDetours_21 : decode b_J_followDetours 21 = .ok (.iload_n 2, 1) := by decide +kernel
theorem d_J_followDetours_22 : decode b_J_followDetours 22 = .ok (.invokestatic 202, 3) := by decide +kernel
theorem d_J_followDetours_25 : decode b_J_followDetours 25 = .ok (.aaload, 1) := by decide +kernel
theorem d_J_followDetours_26 : decode b_J_followDetours 26 = .ok (.getfield 87, 3) := by decide +kernel
theorem d_J_followDetours_29 : decode b_J_followDetours 29 = .ok (.istore 4, 2) := by decide +kernel
theorem d_J_followDetours_31 : decode b_J_followDetours 31 = .ok (.iload 4, 2) := by decide +kernel
theorem d_J_followDetours_33 : decode b_J_followDetours 33 = .ok (.invokestatic 199, 3) := by decide +kernel
theorem d_J_followDetours_36 : decode b_J_followDetours 36 = .ok (.ifCond .ne 13, 3) := by decide +kernel
theorem d_J_followDetours_39 : decode b_J_followDetours 39 = .ok (.iload 4, 2) := by decide +kernel
theorem d_J_followDetours_41 : decode b_J_followDetours 41 = .ok (.iload_n 2, 1) := by decide +kernel
theorem d_J_followDetours_42 : decode b_J_followDetours 42 = .ok (.invokestatic 199, 3) := by decide +kernel
theorem d_J_followDetours_45 : decode b_J_followDetours 45 = .ok (.iadd, 1) := by decide +kernel
theorem d_J_followDetours_46 : decode b_J_followDetours 46 = .ok (.goto 5, 3) := by decide +kernel
theorem d_J_followDetours_49 : decode b_J_followDetours 49 = .ok (.iload 4, 2) := by decide +kernel
theorem d_J_followDetours_51 : decode b_J_followDetours 51 = .ok (.istore_n 2, 1) := by decide +kernel
theorem d_J_followDetours_52 : decode b_J_followDetours 52 = .ok (.iinc 3 1, 3) := by decide +kernel
theorem d_J_followDetours_55 : decode b_J_followDetours 55 = .ok (.goto (-51), 3) := by decide +kernel
theorem d_J_followDetours_58 : decode b_J_followDetours 58 = .ok (.iload_n 2, 1) := by decide +kernel
theorem d_J_followDetours_59 : decode b_J_followDetours 59 = .ok (.ireturn, 1) := by decide +kernel
theorem d_J_isDetour_0 : decode b_J_isDetour 0 = .ok (.iload_n 1, 1) := by decide +kernel
theorem d_J_isDetour_1 : decode b_J_isDetour 1 = .ok (.iconst (-1), 1) := by decide +kernel
theorem d_J_isDetour_2 : decode b_J_isDetour 2 = .ok (.if_icmp .eq 25, 3) := by decide +kernel
theorem d_J_isDetour_5 : decode b_J_isDetour 5 = .ok (.aload_n 0, 1) := by decide +kernel
theorem d_J_isDetour_6 : decode b_J_isDetour 6 = .ok (.getfield 11, 3) := by decide +kernel
theorem d_J_isDetour_9 : decode b_J_isDetour 9 = .ok (.iload_n 1, 1) := by decide +kernel
theorem d_J_isDetour_10 : decode b_J_isDetour 10 = .ok (.invokestatic 202, 3) := by decide +kernel
theorem d_J_isDetour_13 : decode b_J_isDetour 13 = .ok (.aaload, 1) := by decide +kernel
theorem d_J_isDetour_14 : decode b_J_isDetour 14 = .ok (.getfield 68, 3) := by decide +kernel
theorem d_J_isDetour_17 : decode b_J_isDetour 17 = .ok (.getstatic 84, 3) := by decide +kernel
theorem d_J_isDetour_20 : decode b_J_isDetour 20 = .ok (.if_acmp .ne 7, 3) := by decide +kernel
theorem d_J_isDetour_23 : decode b_J_isDetour 23 = .ok (.iconst 1, 1) := by decide +kernel
theorem d_J_isDetour_24 : decode b_J_isDetour 24 = .ok (.goto 4, 3) := by decide +kernel
theorem d_J_isDetour_27 : decode b_J_isDetour 27 = .ok (.iconst 0, 1) := by decide +kernel
theorem d_J_isDetour_28 : decode b_J_isDetour 28 = .ok (.ireturn, 1) := by decide +kernel
theorem d_J_fragmentOf_0 : decode b_J_fragmentOf 0 = .ok (.iload_n 0, 1) := by decide +kernel
theorem d_J_fragmentOf_1 : decode b_J_fragmentOf 1 = .ok (.iconst (-1), 1) := by decide +kernel
theorem d_J_fragmentOf_2 : decode b_J_fragmentOf 2 = .ok (.if_icmp .ne 7, 3) := by decide +kernel
theorem d_J_fragmentOf_5 : decode b_J_fragmentOf 5 = .ok (.iconst 0, 1) := by decide +kernel
theorem d_J_fragmentOf_6 : decode b_J_fragmentOf 6 = .ok (.goto 7, 3) := by decide +kernel
theorem d_J_fragmentOf_9 : decode b_J_fragmentOf 9 = .ok (.iload_n 0, 1) := by decide +kernel
theorem d_J_fragmentOf_10 : decode b_J_fragmentOf 10 = .ok (.bipush 8, 2) := by decide +kernel
theorem d_J_fragmentOf_12 : decode b_J_fragmentOf 12 = .ok (.irem, 1) := by decide +kernel
theorem d_J_fragmentOf_13 : decode b_J_fragmentOf 13 = .ok (.ireturn, 1) := by decide +kernel
theorem d_J_addEntry_0 : decode b_J_addEntry 0 = .ok (.iconst 0, 1) := by decide +kernel
theorem d_J_addEntry_1 : decode b_J_addEntry 1 = .ok (.istore 6, 2) := by decide +kernel
theorem d_J_addEntry_3 : decode b_J_addEntry 3 = .ok (.iload 6, 2) := by decide +kernel
theorem d_J_addEntry_5 : decode b_J_addEntry 5 = .ok (.bipush 39, 2) := by decide +kernel
theorem d_J_addEntry_7 : decode b_J_addEntry 7 = .ok (.if_icmp .ge 22, 3) := by decide +kernel
theorem d_J_addEntry_10 : decode b_J_addEntry 10 = .ok (.aload_n 0, 1) := by decide +kernel
theorem d_J_addEntry_11 : decode b_J_addEntry 11 = .ok (.getfield 29, 3) := by decide +kernel
theorem d_J_addEntry_14 : decode b_J_addEntry 14 = .ok (.iload 6, 2) := by decide +kernel
theorem d_J_addEntry_16 : decode b_J_addEntry 16 = .ok (.aaload, 1) := by decide +kernel
theorem d_J_addEntry_17 : decode b_J_addEntry 17 = .ok (.getfield 179, 3) := by decide +kernel
theorem d_J_addEntry_20 : decode b_J_addEntry 20 = .ok (.ifCond .eq 9, 3) := by decide +kernel
theorem d_J_addEntry_23 : decode b_J_addEntry 23 = .ok (.iinc 6 1, 3) := by decide +kernel
theorem d_J_addEntry_26 : decode b_J_addEntry 26 = .ok (.goto (-23), 3) := by decide +kernel
theorem d_J_addEntry_29 : decode b_J_addEntry 29 = .ok (.aload_n 0, 1) := by decide +kernel
theorem d_J_addEntry_30 : decode b_J_addEntry 30 = .ok (.getfield 29, 3) := by decide +kernel
theorem d_J_addEntry_33 : decode b_J_addEntry 33 = .ok (.iload 6, 2) := by decide +kernel
theorem d_J_addEntry_35 : decode b_J_addEntry 35 = .ok (.aaload, 1) := by decide +kernel
theorem d_J_addEntry_36 : decode b_J_addEntry 36 = .ok (.astore 7, 2) := by decide +kernel
theorem d_J_addEntry_38 : decode b_J_addEntry 38 = .ok (.aload 7, 2) := by decide +kernel
theorem d_J_addEntry_40 : decode b_J_addEntry 40 = .ok (.iconst 1, 1) := by decide +kernel
theorem d_J_addEntry_41 : decode b_J_addEntry 41 = .ok (.putfield 179, 3) := by decide +kernel
theorem d_J_addEntry_44 : decode b_J_addEntry 44 = .ok (.aload 7, 2) := by decide +kernel
theorem d_J_addEntry_46 : decode b_J_addEntry 46 = .ok (.aload_n 1, 1) := by decide +kernel
theorem d_J_addEntry_47 : decode b_J_addEntry 47 = .ok (.putfield 135, 3) := by decide +kernel
theorem d_J_addEntry_50 : decode b_J_addEntry 50 = .ok (.aload 7, 2) := by decide +kernel
theorem d_J_addEntry_52 : decode b_J_addEntry 52 = .ok (.iload_n 2, 1) := by decide +kernel
theorem d_J_addEntry_53 : decode b_J_addEntry 53 = .ok (.putfield 128, 3) := by decide +kernel
theorem d_J_addEntry_56 : decode b_J_addEntry 56 = .ok (.aload 7, 2) := by decide +kernel
theorem d_J_addEntry_58 : decode b_J_addEntry 58 = .ok (.iload_n 3, 1) := by decide +kernel
theorem d_J_addEntry_59 : decode b_J_addEntry 59 = .ok (.putfield 103, 3) := by decide +kernel
theorem d_J_addEntry_62 : decode b_J_addEntry 62 = .ok (.aload 7, 2) := by decide +kernel
theorem d_J_addEntry_64 : decode b_J_addEntry 64 = .ok (.iload 4, 2) := by decide +kernel
theorem d_J_addEntry_66 : decode b_J_addEntry 66 = .ok (.putfield 165, 3) := by decide +kernel
theorem d_J_addEntry_69 : decode b_J_addEntry 69 = .ok (.aload 7, 2) := by decide +kernel
theorem d_J_addEntry_71 : decode b_J_addEntry 71 = .ok (.aload 5, 2) := by decide +kernel
theorem d_J_addEntry_73 : decode b_J_addEntry 73 = .ok (.putfield 120, 3) := by decide +kernel
theorem d_J_addEntry_76 : decode b_J_addEntry 76 = .ok (.return_, 1) := by decide +kernel
theorem d_J_content_0 : decode b_J_content 0 = .ok (.iload_n 1, 1) := by decide +kernel
theorem d_J_content_1 : decode b_J_content 1 = .ok (.invokestatic 55, 3) := by decide +kernel
theorem d_J_content_4 : decode b_J_content 4 = .ok (.ifCond .eq 17, 3) := by decide +kernel
theorem d_J_content_7 : decode b_J_content 7 = .ok (.iload_n 2, 1) := by decide +kernel
theorem d_J_content_8 : decode b_J_content 8 = .ok (.invokestatic 59, 3) := by decide +kernel
theorem d_J_content_11 : decode b_J_content 11 = .ok (.ifCond .eq 10, 3) := by decide +kernel
theorem d_J_content_14 : decode b_J_content 14 = .ok (.iload_n 3, 1) := by decide +kernel
theorem d_J_content_15 : decode b_J_content 15 = .ok (.invokestatic 59, 3) := by decide +kernel
theorem d_J_content_18 : decode b_J_content 18 = .ok (.ifCond .ne 5, 3) := by decide +kernel
theorem d_J_content_21 : decode b_J_content 21 = .ok (.iconst 0, 1) := by decide +kernel
theorem d_J_content_22 : decode b_J_content 22 = .ok (.ireturn, 1) := by decide +kernel
theorem d_J_content_23 : decode b_J_content 23 = .ok (.aload_n 0, 1) := by decide +kernel
theorem d_J_content_24 : decode b_J_content 24 = .ok (.getfield 11, 3) := by decide +kernel
theorem d_J_content_27 : decode b_J_content 27 = .ok (.iload_n 1, 1) := by decide +kernel
theorem d_J_content_28 : decode b_J_content 28 = .ok (.aaload, 1) := by decide +kernel
theorem d_J_content_29 : decode b_J_content 29 = .ok (.astore 5, 2) := by decide +kernel
theorem d_J_content_31 : decode b_J_content 31 = .ok (.aload 5, 2) := by decide +kernel
theorem d_J_content_33 : decode b_J_content 33 = .ok (.getstatic 62, 3) := by decide +kernel
theorem d_J_content_36 : decode b_J_content 36 = .ok (.putfield 68, 3) := by decide +kernel
theorem d_J_content_39 : decode b_J_content 39 = .ok (.aload 5, 2) := by decide +kernel
theorem d_J_content_41 : decode b_J_content 41 = .ok (.iload_n 2, 1) := by decide +kernel
theorem d_J_content_42 : decode b_J_content 42 = .ok (.putfield 71, 3) := by decide +kernel
theorem d_J_content_45 : decode b_J_content 45 = .ok (.aload 5, 2) := by decide +kernel
theorem d_J_content_47 : decode b_J_content 47 = .ok (.iload_n 3, 1) := by decide +kernel
theorem d_J_content_48 : decode b_J_content 48 = .ok (.putfield 75, 3) := by decide +kernel
theorem d_J_content_51 : decode b_J_content 51 = .ok (.aload 5, 2) := by decide +kernel
theorem d_J_content_53 : decode b_J_content 53 = .ok (.iload 4, 2) := by decide +kernel
theorem d_J_content_55 : decode b_J_content 55 = .ok (.putfield 78, 3) := by decide +kernel
theorem d_J_content_58 : decode b_J_content 58 = .ok (.iconst 1, 1) := by decide +kernel
theorem d_J_content_59 : decode b_J_content 59 = .ok (.ireturn, 1) := by decide +kernel
theorem d_J_isPage_0 : decode b_J_isPage 0 = .ok (.iload_n 0, 1) := by decide +kernel
theorem d_J_isPage_1 : decode b_J_isPage 1 = .ok (.ifCond .lt 13, 3) := by decide +kernel
theorem d_J_isPage_4 : decode b_J_isPage 4 = .ok (.iload_n 0, 1) := by decide +kernel
theorem d_J_isPage_5 : decode b_J_isPage 5 = .ok (.bipush 32, 2) := by decide +kernel
theorem d_J_isPage_7 : decode b_J_isPage 7 = .ok (.if_icmp .ge 7, 3) := by decide +kernel
theorem d_J_isPage_10 : decode b_J_isPage 10 = .ok (.iconst 1, 1) := by decide +kernel
theorem d_J_isPage_11 : decode b_J_isPage 11 = .ok (.goto 4, 3) := by decide +kernel
theorem d_J_isPage_14 : decode b_J_isPage 14 = .ok (.iconst 0, 1) := by decide +kernel
theorem d_J_isPage_15 : decode b_J_isPage 15 = .ok (.ireturn, 1) := by decide +kernel
theorem d_J_isFrameChoice_0 : decode b_J_isFrameChoice 0 = .ok (.iload_n 0, 1) := by decide +kernel
theorem d_J_isFrameChoice_1 : decode b_J_isFrameChoice 1 = .ok (.bipush (-2), 2) := by decide +kernel
theorem d_J_isFrameChoice_3 : decode b_J_isFrameChoice 3 = .ok (.if_icmp .eq 10, 3) := by decide +kernel
theorem d_J_isFrameChoice_6 : decode b_J_isFrameChoice 6 = .ok (.iload_n 0, 1) := by decide +kernel
theorem d_J_isFrameChoice_7 : decode b_J_isFrameChoice 7 = .ok (.invokestatic 93, 3) := by decide +kernel
theorem d_J_isFrameChoice_10 : decode b_J_isFrameChoice 10 = .ok (.ifCond .eq 7, 3) := by decide +kernel
theorem d_J_isFrameChoice_13 : decode b_J_isFrameChoice 13 = .ok (.iconst 1, 1) := by decide +kernel
theorem d_J_isFrameChoice_14 : decode b_J_isFrameChoice 14 = .ok (.goto 4, 3) := by decide +kernel
theorem d_J_isFrameChoice_17 : decode b_J_isFrameChoice 17 = .ok (.iconst 0, 1) := by decide +kernel
theorem d_J_isFrameChoice_18 : decode b_J_isFrameChoice 18 = .ok (.ireturn, 1) := by decide +kernel
end
section
theorem d_J_isUrlOrBlank_0 : decode b_J_isUrlOrBlank 0 = .ok (.iload_n 0, 1) := by decide +kernel
theorem d_J_isUrlOrBlank_1 : decode b_J_isUrlOrBlank 1 = .ok (.iconst (-1), 1) := by decide +kernel
theorem d_J_isUrlOrBlank_2 : decode b_J_isUrlOrBlank 2 = .ok (.if_icmp .eq 10, 3) := by decide +kernel
theorem d_J_isUrlOrBlank_5 : decode b_J_isUrlOrBlank 5 = .ok (.iload_n 0, 1) := by decide +kernel
theorem d_J_isUrlOrBlank_6 : decode b_J_isUrlOrBlank 6 = .ok (.invokestatic 81, 3) := by decide +kernel
theorem d_J_isUrlOrBlank_9 : decode b_J_isUrlOrBlank 9 = .ok (.ifCond .eq 7, 3) := by decide +kernel
theorem d_J_isUrlOrBlank_12 : decode b_J_isUrlOrBlank 12 = .ok (.iconst 1, 1) := by decide +kernel
theorem d_J_isUrlOrBlank_13 : decode b_J_isUrlOrBlank 13 = .ok (.goto 4, 3) := by decide +kernel
theorem d_J_isUrlOrBlank_16 : decode b_J_isUrlOrBlank 16 = .ok (.iconst 0, 1) := by decide +kernel
theorem d_J_isUrlOrBlank_17 : decode b_J_isUrlOrBlank 17 = .ok (.ireturn, 1) := by decide +kernel
theorem d_J_isUrl_0 : decode b_J_isUrl 0 = .ok (.iload_n 0, 1) := by decide +kernel
theorem d_J_isUrl_1 : decode b_J_isUrl 1 = .ok (.ifCond .lt 14, 3) := by decide +kernel
theorem d_J_isUrl_4 : decode b_J_isUrl 4 = .ok (.iload_n 0, 1) := by decide +kernel
theorem d_J_isUrl_5 : decode b_J_isUrl 5 = .ok (.sipush 256, 3) := by decide +kernel
theorem d_J_isUrl_8 : decode b_J_isUrl 8 = .ok (.if_icmp .ge 7, 3) := by decide +kernel
theorem d_J_isUrl_11 : decode b_J_isUrl 11 = .ok (.iconst 1, 1) := by decide +kernel
theorem d_J_isUrl_12 : decode b_J_isUrl 12 = .ok (.goto 4, 3) := by decide +kernel
theorem d_J_isUrl_15 : decode b_J_isUrl 15 = .ok (.iconst 0, 1) := by decide +kernel
theorem d_J_isUrl_16 : decode b_J_isUrl 16 = .ok (.ireturn, 1) := by decide +kernel
theorem d_J_detour_0 : decode b_J_detour 0 = .ok (.iload_n 1, 1) := by decide +kernel
theorem d_J_detour_1 : decode b_J_detour 1 = .ok (.invokestatic 55, 3) := by decide +kernel
theorem d_J_detour_4 : decode b_J_detour 4 = .ok (.ifCond .eq 10, 3) := by decide +kernel
theorem d_J_detour_7 : decode b_J_detour 7 = .ok (.iload_n 2, 1) := by decide +kernel
theorem d_J_detour_8 : decode b_J_detour 8 = .ok (.invokestatic 81, 3) := by decide +kernel
theorem d_J_detour_11 : decode b_J_detour 11 = .ok (.ifCond .ne 5, 3) := by decide +kernel
theorem d_J_detour_14 : decode b_J_detour 14 = .ok (.iconst 0, 1) := by decide +kernel
theorem d_J_detour_15 : decode b_J_detour 15 = .ok (.ireturn, 1) := by decide +kernel
theorem d_J_detour_16 : decode b_J_detour 16 = .ok (.aload_n 0, 1) := by decide +kernel
theorem d_J_detour_17 : decode b_J_detour 17 = .ok (.getfield 11, 3) := by decide +kernel
theorem d_J_detour_20 : decode b_J_detour 20 = .ok (.iload_n 1, 1) := by decide +kernel
theorem d_J_detour_21 : decode b_J_detour 21 = .ok (.aaload, 1) := by decide +kernel
theorem d_J_detour_22 : decode b_J_detour 22 = .ok (.getstatic 84, 3) := by decide +kernel
theorem d_J_detour_25 : decode b_J_detour 25 = .ok (.putfield 68, 3) := by decide +kernel
theorem d_J_detour_28 : decode b_J_detour 28 = .ok (.aload_n 0, 1) := by decide +kernel
theorem d_J_detour_29 : decode b_J_detour 29 = .ok (.getfield 11, 3) := by decide +kernel
theorem d_J_detour_32 : decode b_J_detour 32 = .ok (.iload_n 1, 1) := by decide +kernel
theorem d_J_detour_33 : decode b_J_detour 33 = .ok (.aaload, 1) := by decide +kernel
theorem d_J_detour_34 : decode b_J_detour 34 = .ok (.iload_n 2, 1) := by decide +kernel
theorem d_J_detour_35 : decode b_J_detour 35 = .ok (.putfield 87, 3) := by decide +kernel
theorem d_J_detour_38 : decode b_J_detour 38 = .ok (.iconst 1, 1) := by decide +kernel
theorem d_J_detour_39 : decode b_J_detour 39 = .ok (.ireturn, 1) := by decide +kernel
theorem d_J_fault_0 : decode b_J_fault 0 = .ok (.iload_n 1, 1) := by decide +kernel
theorem d_J_fault_1 : decode b_J_fault 1 = .ok (.invokestatic 55, 3) := by decide +kernel
theorem d_J_fault_4 : decode b_J_fault 4 = .ok (.ifCond .ne 5, 3) := by decide +kernel
theorem d_J_fault_7 : decode b_J_fault 7 = .ok (.iconst 0, 1) := by decide +kernel
theorem d_J_fault_8 : decode b_J_fault 8 = .ok (.ireturn, 1) := by decide +kernel
theorem d_J_fault_9 : decode b_J_fault 9 = .ok (.aload_n 0, 1) := by decide +kernel
theorem d_J_fault_10 : decode b_J_fault 10 = .ok (.getfield 11, 3) := by decide +kernel
theorem d_J_fault_13 : decode b_J_fault 13 = .ok (.iload_n 1, 1) := by decide +kernel
theorem d_J_fault_14 : decode b_J_fault 14 = .ok (.aaload, 1) := by decide +kernel
theorem d_J_fault_15 : decode b_J_fault 15 = .ok (.getstatic 90, 3) := by decide +kernel
theorem d_J_fault_18 : decode b_J_fault 18 = .ok (.putfield 68, 3) := by decide +kernel
theorem d_J_fault_21 : decode b_J_fault 21 = .ok (.iconst 1, 1) := by decide +kernel
theorem d_J_fault_22 : decode b_J_fault 22 = .ok (.ireturn, 1) := by decide +kernel
theorem d_J_navigate_0 : decode b_J_navigate 0 = .ok (.iload_n 2, 1) := by decide +kernel
theorem d_J_navigate_1 : decode b_J_navigate 1 = .ok (.invokestatic 93, 3) := by decide +kernel
theorem d_J_navigate_4 : decode b_J_navigate 4 = .ok (.ifCond .ne 6, 3) := by decide +kernel
theorem d_J_navigate_7 : decode b_J_navigate 7 = .ok (.bipush (-3), 2) := by decide +kernel
theorem d_J_navigate_9 : decode b_J_navigate 9 = .ok (.ireturn, 1) := by decide +kernel
theorem d_J_navigate_10 : decode b_J_navigate 10 = .ok (.aload_n 0, 1) := by decide +kernel
theorem d_J_navigate_11 : decode b_J_navigate 11 = .ok (.iload_n 1, 1) := by decide +kernel
theorem d_J_navigate_12 : decode b_J_navigate 12 = .ok (.aload_n 0, 1) := by decide +kernel
theorem d_J_navigate_13 : decode b_J_navigate 13 = .ok (.getfield 96, 3) := by decide +kernel
theorem d_J_navigate_16 : decode b_J_navigate 16 = .ok (.invokevirtual 99, 3) := by decide +kernel
theorem d_J_navigate_19 : decode b_J_navigate 19 = .ok (.astore 4, 2) := by decide +kernel
theorem d_J_navigate_21 : decode b_J_navigate 21 = .ok (.aload 4, 2) := by decide +kernel
theorem d_J_navigate_23 : decode b_J_navigate 23 = .ok (.ifnonnull 6, 3) := by decide +kernel
theorem d_J_navigate_26 : decode b_J_navigate 26 = .ok (.bipush (-4), 2) := by decide +kernel
theorem d_J_navigate_28 : decode b_J_navigate 28 = .ok (.ireturn, 1) := by decide +kernel
theorem d_J_navigate_29 : decode b_J_navigate 29 = .ok (.iload_n 3, 1) := by decide +kernel
theorem d_J_navigate_30 : decode b_J_navigate 30 = .ok (.ifCond .ne 16, 3) := by decide +kernel
theorem d_J_navigate_33 : decode b_J_navigate 33 = .ok (.iload_n 2, 1) := by decide +kernel
theorem d_J_navigate_34 : decode b_J_navigate 34 = .ok (.aload 4, 2) := by decide +kernel
theorem d_J_navigate_36 : decode b_J_navigate 36 = .ok (.getfield 103, 3) := by decide +kernel
theorem d_J_navigate_39 : decode b_J_navigate 39 = .ok (.if_icmp .eq 7, 3) := by decide +kernel
theorem d_J_navigate_42 : decode b_J_navigate 42 = .ok (.iconst 1, 1) := by decide +kernel
theorem d_J_navigate_43 : decode b_J_navigate 43 = .ok (.goto 4, 3) := by decide +kernel
theorem d_J_navigate_46 : decode b_J_navigate 46 = .ok (.iconst 0, 1) := by decide +kernel
theorem d_J_navigate_47 : decode b_J_navigate 47 = .ok (.istore 5, 2) := by decide +kernel
theorem d_J_navigate_49 : decode b_J_navigate 49 = .ok (.aload_n 0, 1) := by decide +kernel
theorem d_J_navigate_50 : decode b_J_navigate 50 = .ok (.iload 5, 2) := by decide +kernel
theorem d_J_navigate_52 : decode b_J_navigate 52 = .ok (.invokevirtual 106, 3) := by decide +kernel
theorem d_J_navigate_55 : decode b_J_navigate 55 = .ok (.ifCond .eq 6, 3) := by decide +kernel
theorem d_J_navigate_58 : decode b_J_navigate 58 = .ok (.bipush (-5), 2) := by decide +kernel
theorem d_J_navigate_60 : decode b_J_navigate 60 = .ok (.ireturn, 1) := by decide +kernel
theorem d_J_navigate_61 : decode b_J_navigate 61 = .ok (.iload 5, 2) := by decide +kernel
theorem d_J_navigate_63 : decode b_J_navigate 63 = .ok (.ifCond .eq 7, 3) := by decide +kernel
theorem d_J_navigate_66 : decode b_J_navigate 66 = .ok (.aload_n 0, 1) := by decide +kernel
theorem d_J_navigate_67 : decode b_J_navigate 67 = .ok (.invokevirtual 110, 3) := by decide +kernel
theorem d_J_navigate_70 : decode b_J_navigate 70 = .ok (.aload 4, 2) := by decide +kernel
theorem d_J_navigate_72 : decode b_J_navigate 72 = .ok (.getfield 103, 3) := by decide +kernel
theorem d_J_navigate_75 : decode b_J_navigate 75 = .ok (.iload_n 2, 1) := by decide +kernel
theorem d_J_navigate_76 : decode b_J_navigate 76 = .ok (.invokestatic 113, 3) := by decide +kernel
theorem d_J_navigate_79 : decode b_J_navigate 79 = .ok (.ifCond .eq 40, 3) := by decide +kernel
theorem d_J_navigate_82 : decode b_J_navigate 82 = .ok (.iload_n 2, 1) := by decide +kernel
theorem d_J_navigate_83 : decode b_J_navigate 83 = .ok (.aload 4, 2) := by decide +kernel
theorem d_J_navigate_85 : decode b_J_navigate 85 = .ok (.getfield 103, 3) := by decide +kernel
theorem d_J_navigate_88 : decode b_J_navigate 88 = .ok (.if_icmp .eq 13, 3) := by decide +kernel
theorem d_J_navigate_91 : decode b_J_navigate 91 = .ok (.aload_n 0, 1) := by decide +kernel
theorem d_J_navigate_92 : decode b_J_navigate 92 = .ok (.dup, 1) := by decide +kernel
theorem d_J_navigate_93 : decode b_J_navigate 93 = .ok (.getfield 117, 3) := by decide +kernel
theorem d_J_navigate_96 : decode b_J_navigate 96 = .ok (.iconst 1, 1) := by decide +kernel
theorem d_J_navigate_97 : decode b_J_navigate 97 = .ok (.iadd, 1) := by decide +kernel
theorem d_J_navigate_98 : decode b_J_navigate 98 = .ok (.putfield 117, 3) := by decide +kernel
theorem d_J_navigate_101 : decode b_J_navigate 101 = .ok (.aload_n 0, 1) := by decide +kernel
theorem d_J_navigate_102 : decode b_J_navigate 102 = .ok (.aload 4, 2) := by decide +kernel
theorem d_J_navigate_104 : decode b_J_navigate 104 = .ok (.iload_n 2, 1) := by decide +kernel
theorem d_J_navigate_105 : decode b_J_navigate 105 = .ok (.iconst 0, 1) := by decide +kernel
theorem d_J_navigate_106 : decode b_J_navigate 106 = .ok (.aload 4, 2) := by decide +kernel
theorem d_J_navigate_108 : decode b_J_navigate 108 = .ok (.getfield 120, 3) := by decide +kernel
theorem d_J_navigate_111 : decode b_J_navigate 111 = .ok (.iload 5, 2) := by decide +kernel
theorem d_J_navigate_113 : decode b_J_navigate 113 = .ok (.invokevirtual 124, 3) := by decide +kernel
theorem d_J_navigate_116 : decode b_J_navigate 116 = .ok (.goto 55, 3) := by decide +kernel
theorem d_J_navigate_119 : decode b_J_navigate 119 = .ok (.iload 5, 2) := by decide +kernel
theorem d_J_navigate_121 : decode b_J_navigate 121 = .ok (.ifCond .eq 12, 3) := by decide +kernel
theorem d_J_navigate_124 : decode b_J_navigate 124 = .ok (.aload_n 0, 1) := by decide +kernel
theorem d_J_navigate_125 : decode b_J_navigate 125 = .ok (.getfield 96, 3) := by decide +kernel
theorem d_J_navigate_128 : decode b_J_navigate 128 = .ok (.iconst 1, 1) := by decide +kernel
theorem d_J_navigate_129 : decode b_J_navigate 129 = .ok (.iadd, 1) := by decide +kernel
theorem d_J_navigate_130 : decode b_J_navigate 130 = .ok (.goto 8, 3) := by decide +kernel
theorem d_J_navigate_133 : decode b_J_navigate 133 = .ok (.aload 4, 2) := by decide +kernel
theorem d_J_navigate_135 : decode b_J_navigate 135 = .ok (.getfield 128, 3) := by decide +kernel
theorem d_J_navigate_138 : decode b_J_navigate 138 = .ok (.istore 6, 2) := by decide +kernel
theorem d_J_navigate_140 : decode b_J_navigate 140 = .ok (.aload_n 0, 1) := by decide +kernel
theorem d_J_navigate_141 : decode b_J_navigate 141 = .ok (.iload_n 2, 1) := by decide +kernel
theorem d_J_navigate_142 : decode b_J_navigate 142 = .ok (.invokevirtual 131, 3) := by decide +kernel
theorem d_J_navigate_145 : decode b_J_navigate 145 = .ok (.istore 7, 2) := by decide +kernel
theorem d_J_navigate_147 : decode b_J_navigate 147 = .ok (.aload_n 0, 1) := by decide +kernel
theorem d_J_navigate_148 : decode b_J_navigate 148 = .ok (.aload 4, 2) := by decide +kernel
theorem d_J_navigate_150 : decode b_J_navigate 150 = .ok (.iload 7, 2) := by decide +kernel
theorem d_J_navigate_152 : decode b_J_navigate 152 = .ok (.iconst 0, 1) := by decide +kernel
theorem d_J_navigate_153 : decode b_J_navigate 153 = .ok (.aload_n 0, 1) := by decide +kernel
theorem d_J_navigate_154 : decode b_J_navigate 154 = .ok (.aload 4, 2) := by decide +kernel
theorem d_J_navigate_156 : decode b_J_navigate 156 = .ok (.getfield 135, 3) := by decide +kernel
theorem d_J_navigate_159 : decode b_J_navigate 159 = .ok (.iload 7, 2) := by decide +kernel
theorem d_J_navigate_161 : decode b_J_navigate 161 = .ok (.iload 6, 2) := by decide +kernel
theorem d_J_navigate_163 : decode b_J_navigate 163 = .ok (.invokevirtual 47, 3) := by decide +kernel
theorem d_J_navigate_166 : decode b_J_navigate 166 = .ok (.iload 5, 2) := by decide +kernel
theorem d_J_navigate_168 : decode b_J_navigate 168 = .ok (.invokevirtual 124, 3) := by decide +kernel
theorem d_J_navigate_171 : decode b_J_navigate 171 = .ok (.aload_n 0, 1) := by decide +kernel
theorem d_J_navigate_172 : decode b_J_navigate 172 = .ok (.getfield 96, 3) := by decide +kernel
theorem d_J_navigate_175 : decode b_J_navigate 175 = .ok (.ireturn, 1) := by decide +kernel
theorem d_J_shownEntry_0 : decode b_J_shownEntry 0 = .ok (.iload_n 1, 1) := by decide +kernel
theorem d_J_shownEntry_1 : decode b_J_shownEntry 1 = .ok (.ifCond .lt 21, 3) := by decide +kernel
theorem d_J_shownEntry_4 : decode b_J_shownEntry 4 = .ok (.iload_n 1, 1) := by decide +kernel
theorem d_J_shownEntry_5 : decode b_J_shownEntry 5 = .ok (.bipush 40, 2) := by decide +kernel
theorem d_J_shownEntry_7 : decode b_J_shownEntry 7 = .ok (.if_icmp .ge 15, 3) := by decide +kernel
theorem d_J_shownEntry_10 : decode b_J_shownEntry 10 = .ok (.aload_n 0, 1) := by decide +kernel
theorem d_J_shownEntry_11 : decode b_J_shownEntry 11 = .ok (.getfield 17, 3) := by decide +kernel
theorem d_J_shownEntry_14 : decode b_J_shownEntry 14 = .ok (.iload_n 1, 1) := by decide +kernel
theorem d_J_shownEntry_15 : decode b_J_shownEntry 15 = .ok (.aaload, 1) := by decide +kernel
theorem d_J_shownEntry_16 : decode b_J_shownEntry 16 = .ok (.getfield 43, 3) := by decide +kernel
theorem d_J_shownEntry_19 : decode b_J_shownEntry 19 = .ok (.ifCond .ne 5, 3) := by decide +kernel
theorem d_J_shownEntry_22 : decode b_J_shownEntry 22 = .ok (.aconst_null, 1) := by decide +kernel
theorem d_J_shownEntry_23 : decode b_J_shownEntry 23 = .ok (.areturn, 1) := by decide +kernel
theorem d_J_shownEntry_24 : decode b_J_shownEntry 24 = .ok (.aload_n 0, 1) := by decide +kernel
theorem d_J_shownEntry_25 : decode b_J_shownEntry 25 = .ok (.getfield 17, 3) := by decide +kernel
theorem d_J_shownEntry_28 : decode b_J_shownEntry 28 = .ok (.iload_n 1, 1) := by decide +kernel
theorem d_J_shownEntry_29 : decode b_J_shownEntry 29 = .ok (.aaload, 1) := by decide +kernel
theorem d_J_shownEntry_30 : decode b_J_shownEntry 30 = .ok (.getfield 208, 3) := by decide +kernel
theorem d_J_shownEntry_33 : decode b_J_shownEntry 33 = .ok (.astore_n 3, 1) := by decide +kernel
theorem d_J_shownEntry_34 : decode b_J_shownEntry 34 = .ok (.iconst 1, 1) := by decide +kernel
theorem d_J_shownEntry_35 : decode b_J_shownEntry 35 = .ok (.istore 4, 2) := by decide +kernel
theorem d_J_shownEntry_37 : decode b_J_shownEntry 37 = .ok (.iload 4, 2) := by decide +kernel
theorem d_J_shownEntry_39 : decode b_J_shownEntry 39 = .ok (.iconst 3, 1) := by decide +kernel
theorem d_J_shownEntry_40 : decode b_J_shownEntry 40 = .ok (.if_icmp .ge 48, 3) := by decide +kernel
theorem d_J_shownEntry_43 : decode b_J_shownEntry 43 = .ok (.aload_n 3, 1) := by decide +kernel
theorem d_J_shownEntry_44 : decode b_J_shownEntry 44 = .ok (.ifnull 44, 3) := by decide +kernel
theorem d_J_shownEntry_47 : decode b_J_shownEntry 47 = .ok (.aload_n 0, 1) := by decide +kernel
theorem d_J_shownEntry_48 : decode b_J_shownEntry 48 = .ok (.aload_n 3, 1) := by decide +kernel
theorem d_J_shownEntry_49 : decode b_J_shownEntry 49 = .ok (.getfield 211, 3) := by decide +kernel
theorem d_J_shownEntry_52 : decode b_J_shownEntry 52 = .ok (.iload_n 2, 1) := by decide +kernel
theorem d_J_shownEntry_53 : decode b_J_shownEntry 53 = .ok (.invokevirtual 212, 3) := by decide +kernel
theorem d_J_shownEntry_56 : decode b_J_shownEntry 56 = .ok (.astore 5, 2) := by decide +kernel
theorem d_J_shownEntry_58 : decode b_J_shownEntry 58 = .ok (.aload 5, 2) := by decide +kernel
theorem d_J_shownEntry_60 : decode b_J_shownEntry 60 = .ok (.ifnull 12, 3) := by decide +kernel
theorem d_J_shownEntry_63 : decode b_J_shownEntry 63 = .ok (.aload 5, 2) := by decide +kernel
theorem d_J_shownEntry_65 : decode b_J_shownEntry 65 = .ok (.getfield 120, 3) := by decide +kernel
theorem d_J_shownEntry_68 : decode b_J_shownEntry 68 = .ok (.aload_n 3, 1) := by decide +kernel
theorem d_J_shownEntry_69 : decode b_J_shownEntry 69 = .ok (.if_acmp .eq 5, 3) := by decide +kernel
theorem d_J_shownEntry_72 : decode b_J_shownEntry 72 = .ok (.aconst_null, 1) := by decide +kernel
theorem d_J_shownEntry_73 : decode b_J_shownEntry 73 = .ok (.areturn, 1) := by decide +kernel
theorem d_J_shownEntry_74 : decode b_J_shownEntry 74 = .ok (.aload_n 3, 1) := by decide +kernel
theorem d_J_shownEntry_75 : decode b_J_shownEntry 75 = .ok (.getfield 211, 3) := by decide +kernel
theorem d_J_shownEntry_78 : decode b_J_shownEntry 78 = .ok (.getfield 208, 3) := by decide +kernel
theorem d_J_shownEntry_81 : decode b_J_shownEntry 81 = .ok (.astore_n 3, 1) := by decide +kernel
theorem d_J_shownEntry_82 : decode b_J_shownEntry 82 = .ok (.iinc 4 1, 3) := by decide +kernel
theorem d_J_shownEntry_85 : decode b_J_shownEntry 85 = .ok (.goto (-48), 3) := by decide +kernel
theorem d_J_shownEntry_88 : decode b_J_shownEntry 88 = .ok (.aload_n 0, 1) := by decide +kernel
theorem d_J_shownEntry_89 : decode b_J_shownEntry 89 = .ok (.aload_n 0, 1) := by decide +kernel
theorem d_J_shownEntry_90 : decode b_J_shownEntry 90 = .ok (.getfield 17, 3) := by decide +kernel
theorem d_J_shownEntry_93 : decode b_J_shownEntry 93 = .ok (.iload_n 1, 1) := by decide +kernel
theorem d_J_shownEntry_94 : decode b_J_shownEntry 94 = .ok (.aaload, 1) := by decide +kernel
theorem d_J_shownEntry_95 : decode b_J_shownEntry 95 = .ok (.iload_n 2, 1) := by decide +kernel
theorem d_J_shownEntry_96 : decode b_J_shownEntry 96 = .ok (.invokevirtual 212, 3) := by decide +kernel
theorem d_J_shownEntry_99 : decode b_J_shownEntry 99 = .ok (.areturn, 1) := by decide +kernel
theorem d_J_entryAt_0 : decode b_J_entryAt 0 = .ok (.aconst_null, 1) := by decide +kernel
theorem d_J_entryAt_1 : decode b_J_entryAt 1 = .ok (.astore_n 3, 1) := by decide +kernel
theorem d_J_entryAt_2 : decode b_J_entryAt 2 = .ok (.aload_n 0, 1) := by decide +kernel
theorem d_J_entryAt_3 : decode b_J_entryAt 3 = .ok (.getfield 29, 3) := by decide +kernel
theorem d_J_entryAt_6 : decode b_J_entryAt 6 = .ok (.astore 4, 2) := by decide +kernel
theorem d_J_entryAt_8 : decode b_J_entryAt 8 = .ok (.aload 4, 2) := by decide +kernel
theorem d_J_entryAt_10 : decode b_J_entryAt 10 = .ok (.arraylength, 1) := by decide +kernel
theorem d_J_entryAt_11 : decode b_J_entryAt 11 = .ok (.istore 5, 2) := by decide +kernel
theorem d_J_entryAt_13 : decode b_J_entryAt 13 = .ok (.iconst 0, 1) := by decide +kernel
theorem d_J_entryAt_14 : decode b_J_entryAt 14 = .ok (.istore 6, 2) := by decide +kernel
theorem d_J_entryAt_16 : decode b_J_entryAt 16 = .ok (.iload 6, 2) := by decide +kernel
theorem d_J_entryAt_18 : decode b_J_entryAt 18 = .ok (.iload 5, 2) := by decide +kernel
theorem d_J_entryAt_20 : decode b_J_entryAt 20 = .ok (.if_icmp .ge 61, 3) := by decide +kernel
theorem d_J_entryAt_23 : decode b_J_entryAt 23 = .ok (.aload 4, 2) := by decide +kernel
theorem d_J_entryAt_25 : decode b_J_entryAt 25 = .ok (.iload 6, 2) := by decide +kernel
theorem d_J_entryAt_27 : decode b_J_entryAt 27 = .ok (.aaload, 1) := by decide +kernel
theorem d_J_entryAt_28 : decode b_J_entryAt 28 = .ok (.astore 7, 2) := by decide +kernel
theorem d_J_entryAt_30 : decode b_J_entryAt 30 = .ok (.aload 7, 2) := by decide +kernel
theorem d_J_entryAt_32 : decode b_J_entryAt 32 = .ok (.getfield 179, 3) := by decide +kernel
theorem d_J_entryAt_35 : decode b_J_entryAt 35 = .ok (.ifCond .eq 40, 3) := by decide +kernel
theorem d_J_entryAt_38 : decode b_J_entryAt 38 = .ok (.aload 7, 2) := by decide +kernel
theorem d_J_entryAt_40 : decode b_J_entryAt 40 = .ok (.getfield 135, 3) := by decide +kernel
theorem d_J_entryAt_43 : decode b_J_entryAt 43 = .ok (.aload_n 1, 1) := by decide +kernel
theorem d_J_entryAt_44 : decode b_J_entryAt 44 = .ok (.if_acmp .ne 31, 3) := by decide +kernel
theorem d_J_entryAt_47 : decode b_J_entryAt 47 = .ok (.aload 7, 2) := by decide +kernel
theorem d_J_entryAt_49 : decode b_J_entryAt 49 = .ok (.getfield 128, 3) := by decide +kernel
theorem d_J_entryAt_52 : decode b_J_entryAt 52 = .ok (.iload_n 2, 1) := by decide +kernel
theorem d_J_entryAt_53 : decode b_J_entryAt 53 = .ok (.if_icmp .gt 22, 3) := by decide +kernel
theorem d_J_entryAt_56 : decode b_J_entryAt 56 = .ok (.aload_n 3, 1) := by decide +kernel
theorem d_J_entryAt_57 : decode b_J_entryAt 57 = .ok (.ifnull 15, 3) := by decide +kernel
theorem d_J_entryAt_60 : decode b_J_entryAt 60 = .ok (.aload 7, 2) := by decide +kernel
theorem d_J_entryAt_62 : decode b_J_entryAt 62 = .ok (.getfield 128, 3) := by decide +kernel
theorem d_J_entryAt_65 : decode b_J_entryAt 65 = .ok (.aload_n 3, 1) := by decide +kernel
theorem d_J_entryAt_66 : decode b_J_entryAt 66 = .ok (.getfield 128, 3) := by decide +kernel
theorem d_J_entryAt_69 : decode b_J_entryAt 69 = .ok (.if_icmp .le 6, 3) := by decide +kernel
theorem d_J_entryAt_72 : decode b_J_entryAt 72 = .ok (.aload 7, 2) := by decide +kernel
theorem d_J_entryAt_74 : decode b_J_entryAt 74 = .ok (.astore_n 3, 1) := by decide +kernel
theorem d_J_entryAt_75 : decode b_J_entryAt 75 = .ok (.iinc 6 1, 3) := by decide +kernel
theorem d_J_entryAt_78 : decode b_J_entryAt 78 = .ok (.goto (-62), 3) := by decide +kernel
theorem d_J_entryAt_81 : decode b_J_entryAt 81 = .ok (.aload_n 3, 1) := by decide +kernel
theorem d_J_entryAt_82 : decode b_J_entryAt 82 = .ok (.areturn, 1) := by decide +kernel
theorem d_J_isFull_0 : decode b_J_isFull 0 = .ok (.aload_n 0, 1) := by decide +kernel
theorem d_J_isFull_1 : decode b_J_isFull 1 = .ok (.iload_n 1, 1) := by decide +kernel
theorem d_J_isFull_2 : decode b_J_isFull 2 = .ok (.ifCond .eq 10, 3) := by decide +kernel
theorem d_J_isFull_5 : decode b_J_isFull 5 = .ok (.aload_n 0, 1) := by decide +kernel
theorem d_J_isFull_6 : decode b_J_isFull 6 = .ok (.getfield 96, 3) := by decide +kernel
theorem d_J_isFull_9 : decode b_J_isFull 9 = .ok (.goto 5, 3) := by decide +kernel
theorem d_J_isFull_12 : decode b_J_isFull 12 = .ok (.ldc 186, 2) := by decide +kernel
theorem d_J_isFull_14 : decode b_J_isFull 14 = .ok (.invokevirtual 187, 3) := by decide +kernel
theorem d_J_isFull_17 : decode b_J_isFull 17 = .ok (.bipush 36, 2) := by decide +kernel
theorem d_J_isFull_19 : decode b_J_isFull 19 = .ok (.if_icmp .lt 7, 3) := by decide +kernel
theorem d_J_isFull_22 : decode b_J_isFull 22 = .ok (.iconst 1, 1) := by decide +kernel
theorem d_J_isFull_23 : decode b_J_isFull 23 = .ok (.goto 4, 3) := by decide +kernel
theorem d_J_isFull_26 : decode b_J_isFull 26 = .ok (.iconst 0, 1) := by decide +kernel
theorem d_J_isFull_27 : decode b_J_isFull 27 = .ok (.ireturn, 1) := by decide +kernel
theorem d_J_entriesUpTo_0 : decode b_J_entriesUpTo 0 = .ok (.iconst 0, 1) := by decide +kernel
theorem d_J_entriesUpTo_1 : decode b_J_entriesUpTo 1 = .ok (.istore_n 2, 1) := by decide +kernel
theorem d_J_entriesUpTo_2 : decode b_J_entriesUpTo 2 = .ok (.aload_n 0, 1) := by decide +kernel
theorem d_J_entriesUpTo_3 : decode b_J_entriesUpTo 3 = .ok (.getfield 29, 3) := by decide +kernel
theorem d_J_entriesUpTo_6 : decode b_J_entriesUpTo 6 = .ok (.astore_n 3, 1) := by decide +kernel
theorem d_J_entriesUpTo_7 : decode b_J_entriesUpTo 7 = .ok (.aload_n 3, 1) := by decide +kernel
theorem d_J_entriesUpTo_8 : decode b_J_entriesUpTo 8 = .ok (.arraylength, 1) := by decide +kernel
theorem d_J_entriesUpTo_9 : decode b_J_entriesUpTo 9 = .ok (.istore 4, 2) := by decide +kernel
theorem d_J_entriesUpTo_11 : decode b_J_entriesUpTo 11 = .ok (.iconst 0, 1) := by decide +kernel
theorem d_J_entriesUpTo_12 : decode b_J_entriesUpTo 12 = .ok (.istore 5, 2) := by decide +kernel
theorem d_J_entriesUpTo_14 : decode b_J_entriesUpTo 14 = .ok (.iload 5, 2) := by decide +kernel
theorem d_J_entriesUpTo_16 : decode b_J_entriesUpTo 16 = .ok (.iload 4, 2) := by decide +kernel
theorem d_J_entriesUpTo_18 : decode b_J_entriesUpTo 18 = .ok (.if_icmp .ge 35, 3) := by decide +kernel
theorem d_J_entriesUpTo_21 : decode b_J_entriesUpTo 21 = .ok (.aload_n 3, 1) := by decide +kernel
theorem d_J_entriesUpTo_22 : decode b_J_entriesUpTo 22 = .ok (.iload 5, 2) := by decide +kernel
theorem d_J_entriesUpTo_24 : decode b_J_entriesUpTo 24 = .ok (.aaload, 1) := by decide +kernel
theorem d_J_entriesUpTo_25 : decode b_J_entriesUpTo 25 = .ok (.astore 6, 2) := by decide +kernel
theorem d_J_entriesUpTo_27 : decode b_J_entriesUpTo 27 = .ok (.aload 6, 2) := by decide +kernel
theorem d_J_entriesUpTo_29 : decode b_J_entriesUpTo 29 = .ok (.getfield 179, 3) := by decide +kernel
theorem d_J_entriesUpTo_32 : decode b_J_entriesUpTo 32 = .ok (.ifCond .eq 15, 3) := by decide +kernel
theorem d_J_entriesUpTo_35 : decode b_J_entriesUpTo 35 = .ok (.aload 6, 2) := by decide +kernel
theorem d_J_entriesUpTo_37 : decode b_J_entriesUpTo 37 = .ok (.getfield 128, 3) := by decide +kernel
theorem d_J_entriesUpTo_40 : decode b_J_entriesUpTo 40 = .ok (.iload_n 1, 1) := by decide +kernel
theorem d_J_entriesUpTo_41 : decode b_J_entriesUpTo 41 = .ok (.if_icmp .gt 6, 3) := by decide +kernel
theorem d_J_entriesUpTo_44 : decode b_J_entriesUpTo 44 = .ok (.iinc 2 1, 3) := by decide +kernel
theorem d_J_entriesUpTo_47 : decode b_J_entriesUpTo 47 = .ok (.iinc 5 1, 3) := by decide +kernel
theorem d_J_entriesUpTo_50 : decode b_J_entriesUpTo 50 = .ok (.goto (-36), 3) := by decide +kernel
theorem d_J_entriesUpTo_53 : decode b_J_entriesUpTo 53 = .ok (.iload_n 2, 1) := by decide +kernel
theorem d_J_entriesUpTo_54 : decode b_J_entriesUpTo 54 = .ok (.ireturn, 1) := by decide +kernel
theorem d_J_dropLaterEntries_0 : decode b_J_dropLaterEntries 0 = .ok (.aload_n 0, 1) := by decide +kernel
theorem d_J_dropLaterEntries_1 : decode b_J_dropLaterEntries 1 = .ok (.getfield 29, 3) := by decide +kernel
theorem d_J_dropLaterEntries_4 : decode b_J_dropLaterEntries 4 = .ok (.astore_n 1, 1) := by decide +kernel
theorem d_J_dropLaterEntries_5 : decode b_J_dropLaterEntries 5 = .ok (.aload_n 1, 1) := by decide +kernel
theorem d_J_dropLaterEntries_6 : decode b_J_dropLaterEntries 6 = .ok (.arraylength, 1) := by decide +kernel
theorem d_J_dropLaterEntries_7 : decode b_J_dropLaterEntries 7 = .ok (.istore_n 2, 1) := by decide +kernel
theorem d_J_dropLaterEntries_8 : decode b_J_dropLaterEntries 8 = .ok (.iconst 0, 1) := by decide +kernel
theorem d_J_dropLaterEntries_9 : decode b_J_dropLaterEntries 9 = .ok (.istore_n 3, 1) := by decide +kernel
theorem d_J_dropLaterEntries_10 : decode b_J_dropLaterEntries 10 = .ok (.iload_n 3, 1) := by decide +kernel
theorem d_J_dropLaterEntries_11 : decode b_J_dropLaterEntries 11 = .ok (.iload_n 2, 1) := by decide +kernel
theorem d_J_dropLaterEntries_12 : decode b_J_dropLaterEntries 12 = .ok (.if_icmp .ge 32, 3) := by decide +kernel
theorem d_J_dropLaterEntries_15 : decode b_J_dropLaterEntries 15 = .ok (.aload_n 1, 1) := by decide +kernel
theorem d_J_dropLaterEntries_16 : decode b_J_dropLaterEntries 16 = .ok (.iload_n 3, 1) := by decide +kernel
theorem d_J_dropLaterEntries_17 : decode b_J_dropLaterEntries 17 = .ok (.aaload, 1) := by decide +kernel
theorem d_J_dropLaterEntries_18 : decode b_J_dropLaterEntries 18 = .ok (.astore 4, 2) := by decide +kernel
theorem d_J_dropLaterEntries_20 : decode b_J_dropLaterEntries 20 = .ok (.aload 4, 2) := by decide +kernel
theorem d_J_dropLaterEntries_22 : decode b_J_dropLaterEntries 22 = .ok (.getfield 128, 3) := by decide +kernel
theorem d_J_dropLaterEntries_25 : decode b_J_dropLaterEntries 25 = .ok (.aload_n 0, 1) := by decide +kernel
theorem d_J_dropLaterEntries_26 : decode b_J_dropLaterEntries 26 = .ok (.getfield 96, 3) := by decide +kernel
theorem d_J_dropLaterEntries_29 : decode b_J_dropLaterEntries 29 = .ok (.if_icmp .le 9, 3) := by decide +kernel
theorem d_J_dropLaterEntries_32 : decode b_J_dropLaterEntries 32 = .ok (.aload 4, 2) := by decide +kernel
theorem d_J_dropLaterEntries_34 : decode b_J_dropLaterEntries 34 = .ok (.iconst 0, 1) := by decide +kernel
theorem d_J_dropLaterEntries_35 : decode b_J_dropLaterEntries 35 = .ok (.putfield 179, 3) := by decide +kernel
theorem d_J_dropLaterEntries_38 : decode b_J_dropLaterEntries 38 = .ok (.iinc 3 1, 3) := by decide +kernel
theorem d_J_dropLaterEntries_41 : decode b_J_dropLaterEntries 41 = .ok (.goto (-31), 3) := by decide +kernel
theorem d_J_dropLaterEntries_44 : decode b_J_dropLaterEntries 44 = .ok (.aload_n 0, 1) := by decide +kernel
theorem d_J_dropLaterEntries_45 : decode b_J_dropLaterEntries 45 = .ok (.invokevirtual 157, 3) := by decide +kernel
theorem d_J_dropLaterEntries_48 : decode b_J_dropLaterEntries 48 = .ok (.return_, 1) := by decide +kernel
theorem d_J_dropWhatIsGone_0 : decode b_J_dropWhatIsGone 0 = .ok (.iconst 0, 1) := by decide +kernel
theorem d_J_dropWhatIsGone_1 : decode b_J_dropWhatIsGone 1 = .ok (.istore_n 1, 1) := by decide +kernel
theorem d_J_dropWhatIsGone_2 : decode b_J_dropWhatIsGone 2 = .ok (.iload_n 1, 1) := by decide +kernel
theorem d_J_dropWhatIsGone_3 : decode b_J_dropWhatIsGone 3 = .ok (.iconst 3, 1) := by decide +kernel
theorem d_J_dropWhatIsGone_4 : decode b_J_dropWhatIsGone 4 = .ok (.if_icmp .ge 21, 3) := by decide +kernel
theorem d_J_dropWhatIsGone_7 : decode b_J_dropWhatIsGone 7 = .ok (.aload_n 0, 1) := by decide +kernel
theorem d_J_dropWhatIsGone_8 : decode b_J_dropWhatIsGone 8 = .ok (.invokevirtual 245, 3) := by decide +kernel
theorem d_J_dropWhatIsGone_11 : decode b_J_dropWhatIsGone 11 = .ok (.aload_n 0, 1) := by decide +kernel
theorem d_J_dropWhatIsGone_12 : decode b_J_dropWhatIsGone 12 = .ok (.invokevirtual 248, 3) := by decide +kernel
theorem d_J_dropWhatIsGone_15 : decode b_J_dropWhatIsGone 15 = .ok (.aload_n 0, 1) := by decide +kernel
theorem d_J_dropWhatIsGone_16 : decode b_J_dropWhatIsGone 16 = .ok (.invokevirtual 251, 3) := by decide +kernel
theorem d_J_dropWhatIsGone_19 : decode b_J_dropWhatIsGone 19 = .ok (.iinc 1 1, 3) := by decide +kernel
theorem d_J_dropWhatIsGone_22 : decode b_J_dropWhatIsGone 22 = .ok (.goto (-20), 3) := by decide +kernel
theorem d_J_dropWhatIsGone_25 : decode b_J_dropWhatIsGone 25 = .ok (.return_, 1) := by decide +kernel
theorem d_J_keepOnlyHeldDocuments_0 : decode b_J_keepOnlyHeldDocuments 0 = .ok (.aload_n 0, 1) := by decide +kernel
theorem d_J_keepOnlyHeldDocuments_1 : decode b_J_keepOnlyHeldDocuments 1 = .ok (.getfield 23, 3) := by decide +kernel
theorem d_J_keepOnlyHeldDocuments_4 : decode b_J_keepOnlyHeldDocuments 4 = .ok (.astore_n 1, 1) := by decide +kernel
theorem d_J_keepOnlyHeldDocuments_5 : decode b_J_keepOnlyHeldDocuments 5 = .ok (.aload_n 1, 1) := by decide +kernel
theorem d_J_keepOnlyHeldDocuments_6 : decode b_J_keepOnlyHeldDocuments 6 = .ok (.arraylength, 1) := by decide +kernel
theorem d_J_keepOnlyHeldDocuments_7 : decode b_J_keepOnlyHeldDocuments 7 = .ok (.istore_n 2, 1) := by decide +kernel
theorem d_J_keepOnlyHeldDocuments_8 : decode b_J_keepOnlyHeldDocuments 8 = .ok (.iconst 0, 1) := by decide +kernel
theorem d_J_keepOnlyHeldDocuments_9 : decode b_J_keepOnlyHeldDocuments 9 = .ok (.istore_n 3, 1) := by decide +kernel
theorem d_J_keepOnlyHeldDocuments_10 : decode b_J_keepOnlyHeldDocuments 10 = .ok (.iload_n 3, 1) := by decide +kernel
theorem d_J_keepOnlyHeldDocuments_11 : decode b_J_keepOnlyHeldDocuments 11 = .ok (.iload_n 2, 1) := by decide +kernel
theorem d_J_keepOnlyHeldDocuments_12 : decode b_J_keepOnlyHeldDocuments 12 = .ok (.if_icmp .ge 20, 3) := by decide +kernel
theorem d_J_keepOnlyHeldDocuments_15 : decode b_J_keepOnlyHeldDocuments 15 = .ok (.aload_n 1, 1) := by decide +kernel
theorem d_J_keepOnlyHeldDocuments_16 : decode b_J_keepOnlyHeldDocuments 16 = .ok (.iload_n 3, 1) := by decide +kernel
theorem d_J_keepOnlyHeldDocuments_17 : decode b_J_keepOnlyHeldDocuments 17 = .ok (.aaload, 1) := by decide +kernel
theorem d_J_keepOnlyHeldDocuments_18 : decode b_J_keepOnlyHeldDocuments 18 = .ok (.astore 4, 2) := by decide +kernel
theorem d_J_keepOnlyHeldDocuments_20 : decode b_J_keepOnlyHeldDocuments 20 = .ok (.aload 4, 2) := by decide +kernel
theorem d_J_keepOnlyHeldDocuments_22 : decode b_J_keepOnlyHeldDocuments 22 = .ok (.iconst 0, 1) := by decide +kernel
theorem d_J_keepOnlyHeldDocuments_23 : decode b_J_keepOnlyHeldDocuments 23 = .ok (.putfield 244, 3) := by decide +kernel
theorem d_J_keepOnlyHeldDocuments_26 : decode b_J_keepOnlyHeldDocuments 26 = .ok (.iinc 3 1, 3) := by decide +kernel
theorem d_J_keepOnlyHeldDocuments_29 : decode b_J_keepOnlyHeldDocuments 29 = .ok (.goto (-19), 3) := by decide +kernel
theorem d_J_keepOnlyHeldDocuments_32 : decode b_J_keepOnlyHeldDocuments 32 = .ok (.aload_n 0, 1) := by decide +kernel
theorem d_J_keepOnlyHeldDocuments_33 : decode b_J_keepOnlyHeldDocuments 33 = .ok (.getfield 29, 3) := by decide +kernel
theorem d_J_keepOnlyHeldDocuments_36 : decode b_J_keepOnlyHeldDocuments 36 = .ok (.astore_n 1, 1) := by decide +kernel
theorem d_J_keepOnlyHeldDocuments_37 : decode b_J_keepOnlyHeldDocuments 37 = .ok (.aload_n 1, 1) := by decide +kernel
theorem d_J_keepOnlyHeldDocuments_38 : decode b_J_keepOnlyHeldDocuments 38 = .ok (.arraylength, 1) := by decide +kernel
theorem d_J_keepOnlyHeldDocuments_39 : decode b_J_keepOnlyHeldDocuments 39 = .ok (.istore_n 2, 1) := by decide +kernel
theorem d_J_keepOnlyHeldDocuments_40 : decode b_J_keepOnlyHeldDocuments 40 = .ok (.iconst 0, 1) := by decide +kernel
theorem d_J_keepOnlyHeldDocuments_41 : decode b_J_keepOnlyHeldDocuments 41 = .ok (.istore_n 3, 1) := by decide +kernel
theorem d_J_keepOnlyHeldDocuments_42 : decode b_J_keepOnlyHeldDocuments 42 = .ok (.iload_n 3, 1) := by decide +kernel
theorem d_J_keepOnlyHeldDocuments_43 : decode b_J_keepOnlyHeldDocuments 43 = .ok (.iload_n 2, 1) := by decide +kernel
theorem d_J_keepOnlyHeldDocuments_44 : decode b_J_keepOnlyHeldDocuments 44 = .ok (.if_icmp .ge 31, 3) := by decide +kernel
theorem d_J_keepOnlyHeldDocuments_47 : decode b_J_keepOnlyHeldDocuments 47 = .ok (.aload_n 1, 1) := by decide +kernel
theorem d_J_keepOnlyHeldDocuments_48 : decode b_J_keepOnlyHeldDocuments 48 = .ok (.iload_n 3, 1) := by decide +kernel
theorem d_J_keepOnlyHeldDocuments_49 : decode b_J_keepOnlyHeldDocuments 49 = .ok (.aaload, 1) := by decide +kernel
theorem d_J_keepOnlyHeldDocuments_50 : decode b_J_keepOnlyHeldDocuments 50 = .ok (.astore 4, 2) := by decide +kernel
theorem d_J_keepOnlyHeldDocuments_52 : decode b_J_keepOnlyHeldDocuments 52 = .ok (.aload 4, 2) := by decide +kernel
theorem d_J_keepOnlyHeldDocuments_54 : decode b_J_keepOnlyHeldDocuments 54 = .ok (.getfield 179, 3) := by decide +kernel
theorem d_J_keepOnlyHeldDocuments_57 : decode b_J_keepOnlyHeldDocuments 57 = .ok (.ifCond .eq 12, 3) := by decide +kernel
theorem d_J_keepOnlyHeldDocuments_60 : decode b_J_keepOnlyHeldDocuments 60 = .ok (.aload 4, 2) := by decide +kernel
theorem d_J_keepOnlyHeldDocuments_62 : decode b_J_keepOnlyHeldDocuments 62 = .ok (.getfield 120, 3) := by decide +kernel
theorem d_J_keepOnlyHeldDocuments_65 : decode b_J_keepOnlyHeldDocuments 65 = .ok (.iconst 1, 1) := by decide +kernel
theorem d_J_keepOnlyHeldDocuments_66 : decode b_J_keepOnlyHeldDocuments 66 = .ok (.putfield 244, 3) := by decide +kernel
theorem d_J_keepOnlyHeldDocuments_69 : decode b_J_keepOnlyHeldDocuments 69 = .ok (.iinc 3 1, 3) := by decide +kernel
theorem d_J_keepOnlyHeldDocuments_72 : decode b_J_keepOnlyHeldDocuments 72 = .ok (.goto (-30), 3) := by decide +kernel
theorem d_J_keepOnlyHeldDocuments_75 : decode b_J_keepOnlyHeldDocuments 75 = .ok (.return_, 1) := by decide +kernel
theorem d_J_dropFramesOfGoneDocuments_0 : decode b_J_dropFramesOfGoneDocuments 0 = .ok (.aload_n 0, 1) := by decide +kernel
theorem d_J_dropFramesOfGoneDocuments_1 : decode b_J_dropFramesOfGoneDocuments 1 = .ok (.getfield 17, 3) := by decide +kernel
theorem d_J_dropFramesOfGoneDocuments_4 : decode b_J_dropFramesOfGoneDocuments 4 = .ok (.astore_n 1, 1) := by decide +kernel
theorem d_J_dropFramesOfGoneDocuments_5 : decode b_J_dropFramesOfGoneDocuments 5 = .ok (.aload_n 1, 1) := by decide +kernel
theorem d_J_dropFramesOfGoneDocuments_6 : decode b_J_dropFramesOfGoneDocuments 6 = .ok (.arraylength, 1) := by decide +kernel
theorem d_J_dropFramesOfGoneDocuments_7 : decode b_J_dropFramesOfGoneDocuments 7 = .ok (.istore_n 2, 1) := by decide +kernel
theorem d_J_dropFramesOfGoneDocuments_8 : decode b_J_dropFramesOfGoneDocuments 8 = .ok (.iconst 0, 1) := by decide +kernel
theorem d_J_dropFramesOfGoneDocuments_9 : decode b_J_dropFramesOfGoneDocuments 9 = .ok (.istore_n 3, 1) := by decide +kernel
theorem d_J_dropFramesOfGoneDocuments_10 : decode b_J_dropFramesOfGoneDocuments 10 = .ok (.iload_n 3, 1) := by decide +kernel
theorem d_J_dropFramesOfGoneDocuments_11 : decode b_J_dropFramesOfGoneDocuments 11 = .ok (.iload_n 2, 1) := by decide +kernel
theorem d_J_dropFramesOfGoneDocuments_12 : decode b_J_dropFramesOfGoneDocuments 12 = .ok (.if_icmp .ge 39, 3) := by decide +kernel
theorem d_J_dropFramesOfGoneDocuments_15 : decode b_J_dropFramesOfGoneDocuments 15 = .ok (.aload_n 1, 1) := by decide +kernel
theorem d_J_dropFramesOfGoneDocuments_16 : decode b_J_dropFramesOfGoneDocuments 16 = .ok (.iload_n 3, 1) := by decide +kernel
theorem d_J_dropFramesOfGoneDocuments_17 : decode b_J_dropFramesOfGoneDocuments 17 = .ok (.aaload, 1) := by decide +kernel
theorem d_J_dropFramesOfGoneDocuments_18 : decode b_J_dropFramesOfGoneDocuments 18 = .ok (.astore 4, 2) := by decide +kernel
theorem d_J_dropFramesOfGoneDocuments_20 : decode b_J_dropFramesOfGoneDocuments 20 = .ok (.aload 4, 2) := by decide +kernel
theorem d_J_dropFramesOfGoneDocuments_22 : decode b_J_dropFramesOfGoneDocuments 22 = .ok (.getfield 208, 3) := by decide +kernel
theorem d_J_dropFramesOfGoneDocuments_25 : decode b_J_dropFramesOfGoneDocuments 25 = .ok (.ifnull 20, 3) := by decide +kernel
theorem d_J_dropFramesOfGoneDocuments_28 : decode b_J_dropFramesOfGoneDocuments 28 = .ok (.aload 4, 2) := by decide +kernel
theorem d_J_dropFramesOfGoneDocuments_30 : decode b_J_dropFramesOfGoneDocuments 30 = .ok (.getfield 208, 3) := by decide +kernel
theorem d_J_dropFramesOfGoneDocuments_33 : decode b_J_dropFramesOfGoneDocuments 33 = .ok (.getfield 244, 3) := by decide +kernel
theorem d_J_dropFramesOfGoneDocuments_36 : decode b_J_dropFramesOfGoneDocuments 36 = .ok (.ifCond .ne 9, 3) := by decide +kernel
theorem d_J_dropFramesOfGoneDocuments_39 : decode b_J_dropFramesOfGoneDocuments 39 = .ok (.aload 4, 2) := by decide +kernel
theorem d_J_dropFramesOfGoneDocuments_41 : decode b_J_dropFramesOfGoneDocuments 41 = .ok (.iconst 0, 1) := by decide +kernel
theorem d_J_dropFramesOfGoneDocuments_42 : decode b_J_dropFramesOfGoneDocuments 42 = .ok (.putfield 43, 3) := by decide +kernel
theorem d_J_dropFramesOfGoneDocuments_45 : decode b_J_dropFramesOfGoneDocuments 45 = .ok (.iinc 3 1, 3) := by decide +kernel
theorem d_J_dropFramesOfGoneDocuments_48 : decode b_J_dropFramesOfGoneDocuments 48 = .ok (.goto (-38), 3) := by decide +kernel
theorem d_J_dropFramesOfGoneDocuments_51 : decode b_J_dropFramesOfGoneDocuments 51 = .ok (.return_, 1) := by decide +kernel
theorem d_J_dropEntriesOfGoneNavigables_0 : decode b_J_dropEntriesOfGoneNavigables 0 = .ok (.aload_n 0, 1) := by decide +kernel
theorem d_J_dropEntriesOfGoneNavigables_1 : decode b_J_dropEntriesOfGoneNavigables 1 = .ok (.getfield 29, 3) := by decide +kernel
theorem d_J_dropEntriesOfGoneNavigables_4 : decode b_J_dropEntriesOfGoneNavigables 4 = .ok (.astore_n 1, 1) := by decide +kernel
theorem d_J_dropEntriesOfGoneNavigables_5 : decode b_J_dropEntriesOfGoneNavigables 5 = .ok (.aload_n 1, 1) := by decide +kernel
theorem d_J_dropEntriesOfGoneNavigables_6 : decode b_J_dropEntriesOfGoneNavigables 6 = .ok (.arraylength, 1) := by decide +kernel
theorem d_J_dropEntriesOfGoneNavigables_7 : decode b_J_dropEntriesOfGoneNavigables 7 = .ok (.istore_n 2, 1) := by decide +kernel
theorem d_J_dropEntriesOfGoneNavigables_8 : decode b_J_dropEntriesOfGoneNavigables 8 = .ok (.iconst 0, 1) := by decide +kernel
theorem d_J_dropEntriesOfGoneNavigables_9 : decode b_J_dropEntriesOfGoneNavigables 9 = .ok (.istore_n 3, 1) := by decide +kernel
theorem d_J_dropEntriesOfGoneNavigables_10 : decode b_J_dropEntriesOfGoneNavigables 10 = .ok (.iload_n 3, 1) := by decide +kernel
theorem d_J_dropEntriesOfGoneNavigables_11 : decode b_J_dropEntriesOfGoneNavigables 11 = .ok (.iload_n 2, 1) := by decide +kernel
theorem d_J_dropEntriesOfGoneNavigables_12 : decode b_J_dropEntriesOfGoneNavigables 12 = .ok (.if_icmp .ge 39, 3) := by decide +kernel
theorem d_J_dropEntriesOfGoneNavigables_15 : decode b_J_dropEntriesOfGoneNavigables 15 = .ok (.aload_n 1, 1) := by decide +kernel
theorem d_J_dropEntriesOfGoneNavigables_16 : decode b_J_dropEntriesOfGoneNavigables 16 = .ok (.iload_n 3, 1) := by decide +kernel
theorem d_J_dropEntriesOfGoneNavigables_17 : decode b_J_dropEntriesOfGoneNavigables 17 = .ok (.aaload, 1) := by decide +kernel
theorem d_J_dropEntriesOfGoneNavigables_18 : decode b_J_dropEntriesOfGoneNavigables 18 = .ok (.astore 4, 2) := by decide +kernel
theorem d_J_dropEntriesOfGoneNavigables_20 : decode b_J_dropEntriesOfGoneNavigables 20 = .ok (.aload 4, 2) := by decide +kernel
theorem d_J_dropEntriesOfGoneNavigables_22 : decode b_J_dropEntriesOfGoneNavigables 22 = .ok (.getfield 179, 3) := by decide +kernel
theorem d_J_dropEntriesOfGoneNavigables_25 : decode b_J_dropEntriesOfGoneNavigables 25 = .ok (.ifCond .eq 20, 3) := by decide +kernel
theorem d_J_dropEntriesOfGoneNavigables_28 : decode b_J_dropEntriesOfGoneNavigables 28 = .ok (.aload 4, 2) := by decide +kernel
theorem d_J_dropEntriesOfGoneNavigables_30 : decode b_J_dropEntriesOfGoneNavigables 30 = .ok (.getfield 135, 3) := by decide +kernel
theorem d_J_dropEntriesOfGoneNavigables_33 : decode b_J_dropEntriesOfGoneNavigables 33 = .ok (.getfield 43, 3) := by decide +kernel
theorem d_J_dropEntriesOfGoneNavigables_36 : decode b_J_dropEntriesOfGoneNavigables 36 = .ok (.ifCond .ne 9, 3) := by decide +kernel
theorem d_J_dropEntriesOfGoneNavigables_39 : decode b_J_dropEntriesOfGoneNavigables 39 = .ok (.aload 4, 2) := by decide +kernel
theorem d_J_dropEntriesOfGoneNavigables_41 : decode b_J_dropEntriesOfGoneNavigables 41 = .ok (.iconst 0, 1) := by decide +kernel
theorem d_J_dropEntriesOfGoneNavigables_42 : decode b_J_dropEntriesOfGoneNavigables 42 = .ok (.putfield 179, 3) := by decide +kernel
theorem d_J_dropEntriesOfGoneNavigables_45 : decode b_J_dropEntriesOfGoneNavigables 45 = .ok (.iinc 3 1, 3) := by decide +kernel
theorem d_J_dropEntriesOfGoneNavigables_48 : decode b_J_dropEntriesOfGoneNavigables 48 = .ok (.goto (-38), 3) := by decide +kernel
theorem d_J_dropEntriesOfGoneNavigables_51 : decode b_J_dropEntriesOfGoneNavigables 51 = .ok (.return_, 1) := by decide +kernel
theorem d_J_isFragmentMove_0 : decode b_J_isFragmentMove 0 = .ok (.iload_n 0, 1) := by decide +kernel
theorem d_J_isFragmentMove_1 : decode b_J_isFragmentMove 1 = .ok (.iconst (-1), 1) := by decide +kernel
theorem d_J_isFragmentMove_2 : decode b_J_isFragmentMove 2 = .ok (.if_icmp .eq 30, 3) := by decide +kernel
theorem d_J_isFragmentMove_5 : decode b_J_isFragmentMove 5 = .ok (.iload_n 1, 1) := by decide +kernel
theorem d_J_isFragmentMove_6 : decode b_J_isFragmentMove 6 = .ok (.iconst (-1), 1) := by decide +kernel
theorem d_J_isFragmentMove_7 : decode b_J_isFragmentMove 7 = .ok (.if_icmp .eq 25, 3) := by decide +kernel
theorem d_J_isFragmentMove_10 : decode b_J_isFragmentMove 10 = .ok (.iload_n 1, 1) := by decide +kernel
theorem d_J_isFragmentMove_11 : decode b_J_isFragmentMove 11 = .ok (.invokestatic 199, 3) := by decide +kernel
theorem d_J_isFragmentMove_14 : decode b_J_isFragmentMove 14 = .ok (.ifCond .eq 18, 3) := by decide +kernel
theorem d_J_isFragmentMove_17 : decode b_J_isFragmentMove 17 = .ok (.iload_n 0, 1) := by decide +kernel
theorem d_J_isFragmentMove_18 : decode b_J_isFragmentMove 18 = .ok (.invokestatic 202, 3) := by decide +kernel
theorem d_J_isFragmentMove_21 : decode b_J_isFragmentMove 21 = .ok (.iload_n 1, 1) := by decide +kernel
theorem d_J_isFragmentMove_22 : decode b_J_isFragmentMove 22 = .ok (.invokestatic 202, 3) := by decide +kernel
theorem d_J_isFragmentMove_25 : decode b_J_isFragmentMove 25 = .ok (.if_icmp .ne 7, 3) := by decide +kernel
theorem d_J_isFragmentMove_28 : decode b_J_isFragmentMove 28 = .ok (.iconst 1, 1) := by decide +kernel
theorem d_J_isFragmentMove_29 : decode b_J_isFragmentMove 29 = .ok (.goto 4, 3) := by decide +kernel
theorem d_J_isFragmentMove_32 : decode b_J_isFragmentMove 32 = .ok (.iconst 0, 1) := by decide +kernel
theorem d_J_isFragmentMove_33 : decode b_J_isFragmentMove 33 = .ok (.ireturn, 1) := by decide +kernel
theorem d_J_putEntry_0 : decode b_J_putEntry 0 = .ok (.iload 5, 2) := by decide +kernel
theorem d_J_putEntry_2 : decode b_J_putEntry 2 = .ok (.ifCond .eq 30, 3) := by decide +kernel
theorem d_J_putEntry_5 : decode b_J_putEntry 5 = .ok (.aload_n 0, 1) := by decide +kernel
theorem d_J_putEntry_6 : decode b_J_putEntry 6 = .ok (.dup, 1) := by decide +kernel
theorem d_J_putEntry_7 : decode b_J_putEntry 7 = .ok (.getfield 96, 3) := by decide +kernel
theorem d_J_putEntry_10 : decode b_J_putEntry 10 = .ok (.iconst 1, 1) := by decide +kernel
theorem d_J_putEntry_11 : decode b_J_putEntry 11 = .ok (.iadd, 1) := by decide +kernel
theorem d_J_putEntry_12 : decode b_J_putEntry 12 = .ok (.putfield 96, 3) := by decide +kernel
theorem d_J_putEntry_15 : decode b_J_putEntry 15 = .ok (.aload_n 0, 1) := by decide +kernel
theorem d_J_putEntry_16 : decode b_J_putEntry 16 = .ok (.aload_n 1, 1) := by decide +kernel
theorem d_J_putEntry_17 : decode b_J_putEntry 17 = .ok (.getfield 135, 3) := by decide +kernel
theorem d_J_putEntry_20 : decode b_J_putEntry 20 = .ok (.aload_n 0, 1) := by decide +kernel
theorem d_J_putEntry_21 : decode b_J_putEntry 21 = .ok (.getfield 96, 3) := by decide +kernel
theorem d_J_putEntry_24 : decode b_J_putEntry 24 = .ok (.iload_n 2, 1) := by decide +kernel
theorem d_J_putEntry_25 : decode b_J_putEntry 25 = .ok (.iload_n 3, 1) := by decide +kernel
theorem d_J_putEntry_26 : decode b_J_putEntry 26 = .ok (.aload 4, 2) := by decide +kernel
theorem d_J_putEntry_28 : decode b_J_putEntry 28 = .ok (.invokevirtual 51, 3) := by decide +kernel
theorem d_J_putEntry_31 : decode b_J_putEntry 31 = .ok (.return_, 1) := by decide +kernel
theorem d_J_putEntry_32 : decode b_J_putEntry 32 = .ok (.aload_n 1, 1) := by decide +kernel
theorem d_J_putEntry_33 : decode b_J_putEntry 33 = .ok (.iload_n 2, 1) := by decide +kernel
theorem d_J_putEntry_34 : decode b_J_putEntry 34 = .ok (.putfield 103, 3) := by decide +kernel
theorem d_J_putEntry_37 : decode b_J_putEntry 37 = .ok (.aload_n 1, 1) := by decide +kernel
theorem d_J_putEntry_38 : decode b_J_putEntry 38 = .ok (.iload_n 3, 1) := by decide +kernel
theorem d_J_putEntry_39 : decode b_J_putEntry 39 = .ok (.putfield 165, 3) := by decide +kernel
theorem d_J_putEntry_42 : decode b_J_putEntry 42 = .ok (.aload_n 1, 1) := by decide +kernel
theorem d_J_putEntry_43 : decode b_J_putEntry 43 = .ok (.aload 4, 2) := by decide +kernel
theorem d_J_putEntry_45 : decode b_J_putEntry 45 = .ok (.putfield 120, 3) := by decide +kernel
theorem d_J_putEntry_48 : decode b_J_putEntry 48 = .ok (.aload_n 0, 1) := by decide +kernel
theorem d_J_putEntry_49 : decode b_J_putEntry 49 = .ok (.invokevirtual 157, 3) := by decide +kernel
theorem d_J_putEntry_52 : decode b_J_putEntry 52 = .ok (.aload_n 0, 1) := by decide +kernel
theorem d_J_putEntry_53 : decode b_J_putEntry 53 = .ok (.invokevirtual 160, 3) := by decide +kernel
theorem d_J_putEntry_56 : decode b_J_putEntry 56 = .ok (.return_, 1) := by decide +kernel
end
section
theorem d_J_settlePresentStep_0 : decode b_J_settlePresentStep 0 = .ok (.iconst 0, 1) := by decide +kernel
theorem d_J_settlePresentStep_1 : decode b_J_settlePresentStep 1 = .ok (.istore_n 1, 1) := by decide +kernel
theorem d_J_settlePresentStep_2 : decode b_J_settlePresentStep 2 = .ok (.aload_n 0, 1) := by decide +kernel
theorem d_J_settlePresentStep_3 : decode b_J_settlePresentStep 3 = .ok (.getfield 29, 3) := by decide +kernel
theorem d_J_settlePresentStep_6 : decode b_J_settlePresentStep 6 = .ok (.astore_n 2, 1) := by decide +kernel
theorem d_J_settlePresentStep_7 : decode b_J_settlePresentStep 7 = .ok (.aload_n 2, 1) := by decide +kernel
theorem d_J_settlePresentStep_8 : decode b_J_settlePresentStep 8 = .ok (.arraylength, 1) := by decide +kernel
theorem d_J_settlePresentStep_9 : decode b_J_settlePresentStep 9 = .ok (.istore_n 3, 1) := by decide +kernel
theorem d_J_settlePresentStep_10 : decode b_J_settlePresentStep 10 = .ok (.iconst 0, 1) := by decide +kernel
theorem d_J_settlePresentStep_11 : decode b_J_settlePresentStep 11 = .ok (.istore 4, 2) := by decide +kernel
theorem d_J_settlePresentStep_13 : decode b_J_settlePresentStep 13 = .ok (.iload 4, 2) := by decide +kernel
theorem d_J_settlePresentStep_15 : decode b_J_settlePresentStep 15 = .ok (.iload_n 3, 1) := by decide +kernel
theorem d_J_settlePresentStep_16 : decode b_J_settlePresentStep 16 = .ok (.if_icmp .ge 50, 3) := by decide +kernel
theorem d_J_settlePresentStep_19 : decode b_J_settlePresentStep 19 = .ok (.aload_n 2, 1) := by decide +kernel
theorem d_J_settlePresentStep_20 : decode b_J_settlePresentStep 20 = .ok (.iload 4, 2) := by decide +kernel
theorem d_J_settlePresentStep_22 : decode b_J_settlePresentStep 22 = .ok (.aaload, 1) := by decide +kernel
theorem d_J_settlePresentStep_23 : decode b_J_settlePresentStep 23 = .ok (.astore 5, 2) := by decide +kernel
theorem d_J_settlePresentStep_25 : decode b_J_settlePresentStep 25 = .ok (.aload 5, 2) := by decide +kernel
theorem d_J_settlePresentStep_27 : decode b_J_settlePresentStep 27 = .ok (.getfield 179, 3) := by decide +kernel
theorem d_J_settlePresentStep_30 : decode b_J_settlePresentStep 30 = .ok (.ifCond .eq 30, 3) := by decide +kernel
theorem d_J_settlePresentStep_33 : decode b_J_settlePresentStep 33 = .ok (.aload 5, 2) := by decide +kernel
theorem d_J_settlePresentStep_35 : decode b_J_settlePresentStep 35 = .ok (.getfield 128, 3) := by decide +kernel
theorem d_J_settlePresentStep_38 : decode b_J_settlePresentStep 38 = .ok (.aload_n 0, 1) := by decide +kernel
theorem d_J_settlePresentStep_39 : decode b_J_settlePresentStep 39 = .ok (.getfield 96, 3) := by decide +kernel
theorem d_J_settlePresentStep_42 : decode b_J_settlePresentStep 42 = .ok (.if_icmp .gt 18, 3) := by decide +kernel
theorem d_J_settlePresentStep_45 : decode b_J_settlePresentStep 45 = .ok (.aload 5, 2) := by decide +kernel
theorem d_J_settlePresentStep_47 : decode b_J_settlePresentStep 47 = .ok (.getfield 128, 3) := by decide +kernel
theorem d_J_settlePresentStep_50 : decode b_J_settlePresentStep 50 = .ok (.iload_n 1, 1) := by decide +kernel
theorem d_J_settlePresentStep_51 : decode b_J_settlePresentStep 51 = .ok (.if_icmp .le 9, 3) := by decide +kernel
theorem d_J_settlePresentStep_54 : decode b_J_settlePresentStep 54 = .ok (.aload 5, 2) := by decide +kernel
theorem d_J_settlePresentStep_56 : decode b_J_settlePresentStep 56 = .ok (.getfield 128, 3) := by decide +kernel
theorem d_J_settlePresentStep_59 : decode b_J_settlePresentStep 59 = .ok (.istore_n 1, 1) := by decide +kernel
theorem d_J_settlePresentStep_60 : decode b_J_settlePresentStep 60 = .ok (.iinc 4 1, 3) := by decide +kernel
theorem d_J_settlePresentStep_63 : decode b_J_settlePresentStep 63 = .ok (.goto (-50), 3) := by decide +kernel
theorem d_J_settlePresentStep_66 : decode b_J_settlePresentStep 66 = .ok (.aload_n 0, 1) := by decide +kernel
theorem d_J_settlePresentStep_67 : decode b_J_settlePresentStep 67 = .ok (.iload_n 1, 1) := by decide +kernel
theorem d_J_settlePresentStep_68 : decode b_J_settlePresentStep 68 = .ok (.putfield 96, 3) := by decide +kernel
theorem d_J_settlePresentStep_71 : decode b_J_settlePresentStep 71 = .ok (.return_, 1) := by decide +kernel
theorem d_J_rewrite_0 : decode b_J_rewrite 0 = .ok (.iload_n 2, 1) := by decide +kernel
theorem d_J_rewrite_1 : decode b_J_rewrite 1 = .ok (.invokestatic 93, 3) := by decide +kernel
theorem d_J_rewrite_4 : decode b_J_rewrite 4 = .ok (.ifCond .ne 6, 3) := by decide +kernel
theorem d_J_rewrite_7 : decode b_J_rewrite 7 = .ok (.bipush (-3), 2) := by decide +kernel
theorem d_J_rewrite_9 : decode b_J_rewrite 9 = .ok (.ireturn, 1) := by decide +kernel
theorem d_J_rewrite_10 : decode b_J_rewrite 10 = .ok (.aload_n 0, 1) := by decide +kernel
theorem d_J_rewrite_11 : decode b_J_rewrite 11 = .ok (.iload_n 1, 1) := by decide +kernel
theorem d_J_rewrite_12 : decode b_J_rewrite 12 = .ok (.aload_n 0, 1) := by decide +kernel
theorem d_J_rewrite_13 : decode b_J_rewrite 13 = .ok (.getfield 96, 3) := by decide +kernel
theorem d_J_rewrite_16 : decode b_J_rewrite 16 = .ok (.invokevirtual 99, 3) := by decide +kernel
theorem d_J_rewrite_19 : decode b_J_rewrite 19 = .ok (.astore 5, 2) := by decide +kernel
theorem d_J_rewrite_21 : decode b_J_rewrite 21 = .ok (.aload 5, 2) := by decide +kernel
theorem d_J_rewrite_23 : decode b_J_rewrite 23 = .ok (.ifnonnull 6, 3) := by decide +kernel
theorem d_J_rewrite_26 : decode b_J_rewrite 26 = .ok (.bipush (-4), 2) := by decide +kernel
theorem d_J_rewrite_28 : decode b_J_rewrite 28 = .ok (.ireturn, 1) := by decide +kernel
theorem d_J_rewrite_29 : decode b_J_rewrite 29 = .ok (.iload_n 2, 1) := by decide +kernel
theorem d_J_rewrite_30 : decode b_J_rewrite 30 = .ok (.iconst (-1), 1) := by decide +kernel
theorem d_J_rewrite_31 : decode b_J_rewrite 31 = .ok (.if_icmp .eq 18, 3) := by decide +kernel
theorem d_J_rewrite_34 : decode b_J_rewrite 34 = .ok (.aload 5, 2) := by decide +kernel
theorem d_J_rewrite_36 : decode b_J_rewrite 36 = .ok (.getfield 103, 3) := by decide +kernel
theorem d_J_rewrite_39 : decode b_J_rewrite 39 = .ok (.iload_n 2, 1) := by decide +kernel
theorem d_J_rewrite_40 : decode b_J_rewrite 40 = .ok (.invokestatic 139, 3) := by decide +kernel
theorem d_J_rewrite_43 : decode b_J_rewrite 43 = .ok (.ifCond .ne 6, 3) := by decide +kernel
theorem d_J_rewrite_46 : decode b_J_rewrite 46 = .ok (.bipush (-6), 2) := by decide +kernel
theorem d_J_rewrite_48 : decode b_J_rewrite 48 = .ok (.ireturn, 1) := by decide +kernel
theorem d_J_rewrite_49 : decode b_J_rewrite 49 = .ok (.aload_n 0, 1) := by decide +kernel
theorem d_J_rewrite_50 : decode b_J_rewrite 50 = .ok (.iload 4, 2) := by decide +kernel
theorem d_J_rewrite_52 : decode b_J_rewrite 52 = .ok (.invokevirtual 106, 3) := by decide +kernel
theorem d_J_rewrite_55 : decode b_J_rewrite 55 = .ok (.ifCond .eq 6, 3) := by decide +kernel
theorem d_J_rewrite_58 : decode b_J_rewrite 58 = .ok (.bipush (-5), 2) := by decide +kernel
theorem d_J_rewrite_60 : decode b_J_rewrite 60 = .ok (.ireturn, 1) := by decide +kernel
theorem d_J_rewrite_61 : decode b_J_rewrite 61 = .ok (.iload 4, 2) := by decide +kernel
theorem d_J_rewrite_63 : decode b_J_rewrite 63 = .ok (.ifCond .eq 7, 3) := by decide +kernel
theorem d_J_rewrite_66 : decode b_J_rewrite 66 = .ok (.aload_n 0, 1) := by decide +kernel
theorem d_J_rewrite_67 : decode b_J_rewrite 67 = .ok (.invokevirtual 110, 3) := by decide +kernel
theorem d_J_rewrite_70 : decode b_J_rewrite 70 = .ok (.aload_n 0, 1) := by decide +kernel
theorem d_J_rewrite_71 : decode b_J_rewrite 71 = .ok (.aload 5, 2) := by decide +kernel
theorem d_J_rewrite_73 : decode b_J_rewrite 73 = .ok (.iload_n 2, 1) := by decide +kernel
theorem d_J_rewrite_74 : decode b_J_rewrite 74 = .ok (.iconst (-1), 1) := by decide +kernel
theorem d_J_rewrite_75 : decode b_J_rewrite 75 = .ok (.if_icmp .ne 11, 3) := by decide +kernel
theorem d_J_rewrite_78 : decode b_J_rewrite 78 = .ok (.aload 5, 2) := by decide +kernel
theorem d_J_rewrite_80 : decode b_J_rewrite 80 = .ok (.getfield 103, 3) := by decide +kernel
theorem d_J_rewrite_83 : decode b_J_rewrite 83 = .ok (.goto 4, 3) := by decide +kernel
theorem d_J_rewrite_86 : decode b_J_rewrite 86 = .ok (.iload_n 2, 1) := by decide +kernel
theorem d_J_rewrite_87 : decode b_J_rewrite 87 = .ok (.iload_n 3, 1) := by decide +kernel
theorem d_J_rewrite_88 : decode b_J_rewrite 88 = .ok (.aload 5, 2) := by decide +kernel
theorem d_J_rewrite_90 : decode b_J_rewrite 90 = .ok (.getfield 120, 3) := by decide +kernel
theorem d_J_rewrite_93 : decode b_J_rewrite 93 = .ok (.iload 4, 2) := by decide +kernel
theorem d_J_rewrite_95 : decode b_J_rewrite 95 = .ok (.invokevirtual 124, 3) := by decide +kernel
theorem d_J_rewrite_98 : decode b_J_rewrite 98 = .ok (.aload_n 0, 1) := by decide +kernel
theorem d_J_rewrite_99 : decode b_J_rewrite 99 = .ok (.getfield 96, 3) := by decide +kernel
theorem d_J_rewrite_102 : decode b_J_rewrite 102 = .ok (.ireturn, 1) := by decide +kernel
theorem d_J_mayRewrite_0 : decode b_J_mayRewrite 0 = .ok (.iload_n 0, 1) := by decide +kernel
theorem d_J_mayRewrite_1 : decode b_J_mayRewrite 1 = .ok (.iconst (-1), 1) := by decide +kernel
theorem d_J_mayRewrite_2 : decode b_J_mayRewrite 2 = .ok (.if_icmp .eq 14, 3) := by decide +kernel
theorem d_J_mayRewrite_5 : decode b_J_mayRewrite 5 = .ok (.iload_n 0, 1) := by decide +kernel
theorem d_J_mayRewrite_6 : decode b_J_mayRewrite 6 = .ok (.invokestatic 205, 3) := by decide +kernel
theorem d_J_mayRewrite_9 : decode b_J_mayRewrite 9 = .ok (.iload_n 1, 1) := by decide +kernel
theorem d_J_mayRewrite_10 : decode b_J_mayRewrite 10 = .ok (.invokestatic 205, 3) := by decide +kernel
theorem d_J_mayRewrite_13 : decode b_J_mayRewrite 13 = .ok (.if_icmp .eq 5, 3) := by decide +kernel
theorem d_J_mayRewrite_16 : decode b_J_mayRewrite 16 = .ok (.iconst 0, 1) := by decide +kernel
theorem d_J_mayRewrite_17 : decode b_J_mayRewrite 17 = .ok (.ireturn, 1) := by decide +kernel
theorem d_J_mayRewrite_18 : decode b_J_mayRewrite 18 = .ok (.iload_n 0, 1) := by decide +kernel
theorem d_J_mayRewrite_19 : decode b_J_mayRewrite 19 = .ok (.invokestatic 205, 3) := by decide +kernel
theorem d_J_mayRewrite_22 : decode b_J_mayRewrite 22 = .ok (.iconst 3, 1) := by decide +kernel
theorem d_J_mayRewrite_23 : decode b_J_mayRewrite 23 = .ok (.if_icmp .ne 14, 3) := by decide +kernel
theorem d_J_mayRewrite_26 : decode b_J_mayRewrite 26 = .ok (.iload_n 0, 1) := by decide +kernel
theorem d_J_mayRewrite_27 : decode b_J_mayRewrite 27 = .ok (.invokestatic 202, 3) := by decide +kernel
theorem d_J_mayRewrite_30 : decode b_J_mayRewrite 30 = .ok (.iload_n 1, 1) := by decide +kernel
theorem d_J_mayRewrite_31 : decode b_J_mayRewrite 31 = .ok (.invokestatic 202, 3) := by decide +kernel
theorem d_J_mayRewrite_34 : decode b_J_mayRewrite 34 = .ok (.if_icmp .ne 7, 3) := by decide +kernel
theorem d_J_mayRewrite_37 : decode b_J_mayRewrite 37 = .ok (.iconst 1, 1) := by decide +kernel
theorem d_J_mayRewrite_38 : decode b_J_mayRewrite 38 = .ok (.goto 4, 3) := by decide +kernel
theorem d_J_mayRewrite_41 : decode b_J_mayRewrite 41 = .ok (.iconst 0, 1) := by decide +kernel
theorem d_J_mayRewrite_42 : decode b_J_mayRewrite 42 = .ok (.ireturn, 1) := by decide +kernel
theorem d_J_go_0 : decode b_J_go 0 = .ok (.aload_n 0, 1) := by decide +kernel
theorem d_J_go_1 : decode b_J_go 1 = .ok (.invokevirtual 142, 3) := by decide +kernel
theorem d_J_go_4 : decode b_J_go 4 = .ok (.istore_n 2, 1) := by decide +kernel
theorem d_J_go_5 : decode b_J_go 5 = .ok (.aload_n 0, 1) := by decide +kernel
theorem d_J_go_6 : decode b_J_go 6 = .ok (.iload_n 2, 1) := by decide +kernel
theorem d_J_go_7 : decode b_J_go 7 = .ok (.invokevirtual 146, 3) := by decide +kernel
theorem d_J_go_10 : decode b_J_go 10 = .ok (.i2l, 1) := by decide +kernel
theorem d_J_go_11 : decode b_J_go 11 = .ok (.iload_n 1, 1) := by decide +kernel
theorem d_J_go_12 : decode b_J_go 12 = .ok (.i2l, 1) := by decide +kernel
theorem d_J_go_13 : decode b_J_go 13 = .ok (.ladd, 1) := by decide +kernel
theorem d_J_go_14 : decode b_J_go 14 = .ok (.lstore_n 3, 1) := by decide +kernel
theorem d_J_go_15 : decode b_J_go 15 = .ok (.lload_n 3, 1) := by decide +kernel
theorem d_J_go_16 : decode b_J_go 16 = .ok (.lconst 0, 1) := by decide +kernel
theorem d_J_go_17 : decode b_J_go 17 = .ok (.lcmp, 1) := by decide +kernel
theorem d_J_go_18 : decode b_J_go 18 = .ok (.ifCond .lt 10, 3) := by decide +kernel
theorem d_J_go_21 : decode b_J_go 21 = .ok (.lload_n 3, 1) := by decide +kernel
theorem d_J_go_22 : decode b_J_go 22 = .ok (.iload_n 2, 1) := by decide +kernel
theorem d_J_go_23 : decode b_J_go 23 = .ok (.i2l, 1) := by decide +kernel
theorem d_J_go_24 : decode b_J_go 24 = .ok (.lcmp, 1) := by decide +kernel
theorem d_J_go_25 : decode b_J_go 25 = .ok (.ifCond .lt 6, 3) := by decide +kernel
theorem d_J_go_28 : decode b_J_go 28 = .ok (.bipush (-7), 2) := by decide +kernel
theorem d_J_go_30 : decode b_J_go 30 = .ok (.ireturn, 1) := by decide +kernel
theorem d_J_go_31 : decode b_J_go 31 = .ok (.aload_n 0, 1) := by decide +kernel
theorem d_J_go_32 : decode b_J_go 32 = .ok (.getfield 33, 3) := by decide +kernel
theorem d_J_go_35 : decode b_J_go 35 = .ok (.lload_n 3, 1) := by decide +kernel
theorem d_J_go_36 : decode b_J_go 36 = .ok (.l2i, 1) := by decide +kernel
theorem d_J_go_37 : decode b_J_go 37 = .ok (.iaload, 1) := by decide +kernel
theorem d_J_go_38 : decode b_J_go 38 = .ok (.istore 5, 2) := by decide +kernel
theorem d_J_go_40 : decode b_J_go 40 = .ok (.iconst 0, 1) := by decide +kernel
theorem d_J_go_41 : decode b_J_go 41 = .ok (.istore 6, 2) := by decide +kernel
theorem d_J_go_43 : decode b_J_go 43 = .ok (.iload 6, 2) := by decide +kernel
theorem d_J_go_45 : decode b_J_go 45 = .ok (.bipush 40, 2) := by decide +kernel
theorem d_J_go_47 : decode b_J_go 47 = .ok (.if_icmp .ge 31, 3) := by decide +kernel
theorem d_J_go_50 : decode b_J_go 50 = .ok (.aload_n 0, 1) := by decide +kernel
theorem d_J_go_51 : decode b_J_go 51 = .ok (.aload_n 0, 1) := by decide +kernel
theorem d_J_go_52 : decode b_J_go 52 = .ok (.iload 6, 2) := by decide +kernel
theorem d_J_go_54 : decode b_J_go 54 = .ok (.aload_n 0, 1) := by decide +kernel
theorem d_J_go_55 : decode b_J_go 55 = .ok (.getfield 96, 3) := by decide +kernel
theorem d_J_go_58 : decode b_J_go 58 = .ok (.invokevirtual 99, 3) := by decide +kernel
theorem d_J_go_61 : decode b_J_go 61 = .ok (.aload_n 0, 1) := by decide +kernel
theorem d_J_go_62 : decode b_J_go 62 = .ok (.iload 6, 2) := by decide +kernel
theorem d_J_go_64 : decode b_J_go 64 = .ok (.iload 5, 2) := by decide +kernel
theorem d_J_go_66 : decode b_J_go 66 = .ok (.invokevirtual 99, 3) := by decide +kernel
theorem d_J_go_69 : decode b_J_go 69 = .ok (.invokevirtual 149, 3) := by decide +kernel
theorem d_J_go_72 : decode b_J_go 72 = .ok (.iinc 6 1, 3) := by decide +kernel
theorem d_J_go_75 : decode b_J_go 75 = .ok (.goto (-32), 3) := by decide +kernel
theorem d_J_go_78 : decode b_J_go 78 = .ok (.aload_n 0, 1) := by decide +kernel
theorem d_J_go_79 : decode b_J_go 79 = .ok (.iload 5, 2) := by decide +kernel
theorem d_J_go_81 : decode b_J_go 81 = .ok (.putfield 96, 3) := by decide +kernel
theorem d_J_go_84 : decode b_J_go 84 = .ok (.aload_n 0, 1) := by decide +kernel
theorem d_J_go_85 : decode b_J_go 85 = .ok (.getfield 96, 3) := by decide +kernel
theorem d_J_go_88 : decode b_J_go 88 = .ok (.ireturn, 1) := by decide +kernel
theorem d_J_collectUsedSteps_0 : decode b_J_collectUsedSteps 0 = .ok (.iconst 0, 1) := by decide +kernel
theorem d_J_collectUsedSteps_1 : decode b_J_collectUsedSteps 1 = .ok (.istore_n 1, 1) := by decide +kernel
theorem d_J_collectUsedSteps_2 : decode b_J_collectUsedSteps 2 = .ok (.aload_n 0, 1) := by decide +kernel
theorem d_J_collectUsedSteps_3 : decode b_J_collectUsedSteps 3 = .ok (.getfield 29, 3) := by decide +kernel
theorem d_J_collectUsedSteps_6 : decode b_J_collectUsedSteps 6 = .ok (.astore_n 2, 1) := by decide +kernel
theorem d_J_collectUsedSteps_7 : decode b_J_collectUsedSteps 7 = .ok (.aload_n 2, 1) := by decide +kernel
theorem d_J_collectUsedSteps_8 : decode b_J_collectUsedSteps 8 = .ok (.arraylength, 1) := by decide +kernel
theorem d_J_collectUsedSteps_9 : decode b_J_collectUsedSteps 9 = .ok (.istore_n 3, 1) := by decide +kernel
theorem d_J_collectUsedSteps_10 : decode b_J_collectUsedSteps 10 = .ok (.iconst 0, 1) := by decide +kernel
theorem d_J_collectUsedSteps_11 : decode b_J_collectUsedSteps 11 = .ok (.istore 4, 2) := by decide +kernel
theorem d_J_collectUsedSteps_13 : decode b_J_collectUsedSteps 13 = .ok (.iload 4, 2) := by decide +kernel
theorem d_J_collectUsedSteps_15 : decode b_J_collectUsedSteps 15 = .ok (.iload_n 3, 1) := by decide +kernel
theorem d_J_collectUsedSteps_16 : decode b_J_collectUsedSteps 16 = .ok (.if_icmp .ge 34, 3) := by decide +kernel
theorem d_J_collectUsedSteps_19 : decode b_J_collectUsedSteps 19 = .ok (.aload_n 2, 1) := by decide +kernel
theorem d_J_collectUsedSteps_20 : decode b_J_collectUsedSteps 20 = .ok (.iload 4, 2) := by decide +kernel
theorem d_J_collectUsedSteps_22 : decode b_J_collectUsedSteps 22 = .ok (.aaload, 1) := by decide +kernel
theorem d_J_collectUsedSteps_23 : decode b_J_collectUsedSteps 23 = .ok (.astore 5, 2) := by decide +kernel
theorem d_J_collectUsedSteps_25 : decode b_J_collectUsedSteps 25 = .ok (.aload 5, 2) := by decide +kernel
theorem d_J_collectUsedSteps_27 : decode b_J_collectUsedSteps 27 = .ok (.getfield 179, 3) := by decide +kernel
theorem d_J_collectUsedSteps_30 : decode b_J_collectUsedSteps 30 = .ok (.ifCond .eq 14, 3) := by decide +kernel
theorem d_J_collectUsedSteps_33 : decode b_J_collectUsedSteps 33 = .ok (.aload_n 0, 1) := by decide +kernel
theorem d_J_collectUsedSteps_34 : decode b_J_collectUsedSteps 34 = .ok (.aload 5, 2) := by decide +kernel
theorem d_J_collectUsedSteps_36 : decode b_J_collectUsedSteps 36 = .ok (.getfield 128, 3) := by decide +kernel
theorem d_J_collectUsedSteps_39 : decode b_J_collectUsedSteps 39 = .ok (.iload_n 1, 1) := by decide +kernel
theorem d_J_collectUsedSteps_40 : decode b_J_collectUsedSteps 40 = .ok (.invokevirtual 254, 3) := by decide +kernel
theorem d_J_collectUsedSteps_43 : decode b_J_collectUsedSteps 43 = .ok (.istore_n 1, 1) := by decide +kernel
theorem d_J_collectUsedSteps_44 : decode b_J_collectUsedSteps 44 = .ok (.iinc 4 1, 3) := by decide +kernel
theorem d_J_collectUsedSteps_47 : decode b_J_collectUsedSteps 47 = .ok (.goto (-34), 3) := by decide +kernel
theorem d_J_collectUsedSteps_50 : decode b_J_collectUsedSteps 50 = .ok (.iload_n 1, 1) := by decide +kernel
theorem d_J_collectUsedSteps_51 : decode b_J_collectUsedSteps 51 = .ok (.ireturn, 1) := by decide +kernel
theorem d_J_insertStep_0 : decode b_J_insertStep 0 = .ok (.iload_n 2, 1) := by decide +kernel
theorem d_J_insertStep_1 : decode b_J_insertStep 1 = .ok (.istore_n 3, 1) := by decide +kernel
theorem d_J_insertStep_2 : decode b_J_insertStep 2 = .ok (.iload_n 3, 1) := by decide +kernel
theorem d_J_insertStep_3 : decode b_J_insertStep 3 = .ok (.ifCond .le 21, 3) := by decide +kernel
theorem d_J_insertStep_6 : decode b_J_insertStep 6 = .ok (.aload_n 0, 1) := by decide +kernel
theorem d_J_insertStep_7 : decode b_J_insertStep 7 = .ok (.getfield 33, 3) := by decide +kernel
theorem d_J_insertStep_10 : decode b_J_insertStep 10 = .ok (.iload_n 3, 1) := by decide +kernel
theorem d_J_insertStep_11 : decode b_J_insertStep 11 = .ok (.iconst 1, 1) := by decide +kernel
theorem d_J_insertStep_12 : decode b_J_insertStep 12 = .ok (.isub, 1) := by decide +kernel
theorem d_J_insertStep_13 : decode b_J_insertStep 13 = .ok (.iaload, 1) := by decide +kernel
theorem d_J_insertStep_14 : decode b_J_insertStep 14 = .ok (.iload_n 1, 1) := by decide +kernel
theorem d_J_insertStep_15 : decode b_J_insertStep 15 = .ok (.if_icmp .le 9, 3) := by decide +kernel
theorem d_J_insertStep_18 : decode b_J_insertStep 18 = .ok (.iinc 3 (-1), 3) := by decide +kernel
theorem d_J_insertStep_21 : decode b_J_insertStep 21 = .ok (.goto (-19), 3) := by decide +kernel
theorem d_J_insertStep_24 : decode b_J_insertStep 24 = .ok (.iload_n 3, 1) := by decide +kernel
theorem d_J_insertStep_25 : decode b_J_insertStep 25 = .ok (.ifCond .le 17, 3) := by decide +kernel
theorem d_J_insertStep_28 : decode b_J_insertStep 28 = .ok (.aload_n 0, 1) := by decide +kernel
theorem d_J_insertStep_29 : decode b_J_insertStep 29 = .ok (.getfield 33, 3) := by decide +kernel
theorem d_J_insertStep_32 : decode b_J_insertStep 32 = .ok (.iload_n 3, 1) := by decide +kernel
theorem d_J_insertStep_33 : decode b_J_insertStep 33 = .ok (.iconst 1, 1) := by decide +kernel
theorem d_J_insertStep_34 : decode b_J_insertStep 34 = .ok (.isub, 1) := by decide +kernel
theorem d_J_insertStep_35 : decode b_J_insertStep 35 = .ok (.iaload, 1) := by decide +kernel
theorem d_J_insertStep_36 : decode b_J_insertStep 36 = .ok (.iload_n 1, 1) := by decide +kernel
theorem d_J_insertStep_37 : decode b_J_insertStep 37 = .ok (.if_icmp .ne 5, 3) := by decide +kernel
theorem d_J_insertStep_40 : decode b_J_insertStep 40 = .ok (.iload_n 2, 1) := by decide +kernel
theorem d_J_insertStep_41 : decode b_J_insertStep 41 = .ok (.ireturn, 1) := by decide +kernel
theorem d_J_insertStep_42 : decode b_J_insertStep 42 = .ok (.iload_n 2, 1) := by decide +kernel
theorem d_J_insertStep_43 : decode b_J_insertStep 43 = .ok (.istore 4, 2) := by decide +kernel
theorem d_J_insertStep_45 : decode b_J_insertStep 45 = .ok (.iload 4, 2) := by decide +kernel
theorem d_J_insertStep_47 : decode b_J_insertStep 47 = .ok (.iload_n 3, 1) := by decide +kernel
theorem d_J_insertStep_48 : decode b_J_insertStep 48 = .ok (.if_icmp .le 25, 3) := by decide +kernel
theorem d_J_insertStep_51 : decode b_J_insertStep 51 = .ok (.aload_n 0, 1) := by decide +kernel
theorem d_J_insertStep_52 : decode b_J_insertStep 52 = .ok (.getfield 33, 3) := by decide +kernel
theorem d_J_insertStep_55 : decode b_J_insertStep 55 = .ok (.iload 4, 2) := by decide +kernel
theorem d_J_insertStep_57 : decode b_J_insertStep 57 = .ok (.aload_n 0, 1) := by decide +kernel
theorem d_J_insertStep_58 : decode b_J_insertStep 58 = .ok (.getfield 33, 3) := by decide +kernel
theorem d_J_insertStep_61 : decode b_J_insertStep 61 = .ok (.iload 4, 2) := by decide +kernel
theorem d_J_insertStep_63 : decode b_J_insertStep 63 = .ok (.iconst 1, 1) := by decide +kernel
theorem d_J_insertStep_64 : decode b_J_insertStep 64 = .ok (.isub, 1) := by decide +kernel
theorem d_J_insertStep_65 : decode b_J_insertStep 65 = .ok (.iaload, 1) := by decide +kernel
theorem d_J_insertStep_66 : decode b_J_insertStep 66 = .ok (.iastore, 1) := by decide +kernel
theorem d_J_insertStep_67 : decode b_J_insertStep 67 = .ok (.iinc 4 (-1), 3) := by decide +kernel
theorem d_J_insertStep_70 : decode b_J_insertStep 70 = .ok (.goto (-25), 3) := by decide +kernel
theorem d_J_insertStep_73 : decode b_J_insertStep 73 = .ok (.aload_n 0, 1) := by decide +kernel
theorem d_J_insertStep_74 : decode b_J_insertStep 74 = .ok (.getfield 33, 3) := by decide +kernel
theorem d_J_insertStep_77 : decode b_J_insertStep 77 = .ok (.iload_n 3, 1) := by decide +kernel
theorem d_J_insertStep_78 : decode b_J_insertStep 78 = .ok (.iload_n 1, 1) := by decide +kernel
theorem d_J_insertStep_79 : decode b_J_insertStep 79 = .ok (.iastore, 1) := by decide +kernel
theorem d_J_insertStep_80 : decode b_J_insertStep 80 = .ok (.iload_n 2, 1) := by decide +kernel
theorem d_J_insertStep_81 : decode b_J_insertStep 81 = .ok (.iconst 1, 1) := by decide +kernel
theorem d_J_insertStep_82 : decode b_J_insertStep 82 = .ok (.iadd, 1) := by decide +kernel
theorem d_J_insertStep_83 : decode b_J_insertStep 83 = .ok (.ireturn, 1) := by decide +kernel
theorem d_J_placeOfPresent_0 : decode b_J_placeOfPresent 0 = .ok (.iconst 0, 1) := by decide +kernel
theorem d_J_placeOfPresent_1 : decode b_J_placeOfPresent 1 = .ok (.istore_n 2, 1) := by decide +kernel
theorem d_J_placeOfPresent_2 : decode b_J_placeOfPresent 2 = .ok (.iload_n 2, 1) := by decide +kernel
theorem d_J_placeOfPresent_3 : decode b_J_placeOfPresent 3 = .ok (.iload_n 1, 1) := by decide +kernel
theorem d_J_placeOfPresent_4 : decode b_J_placeOfPresent 4 = .ok (.iconst 1, 1) := by decide +kernel
theorem d_J_placeOfPresent_5 : decode b_J_placeOfPresent 5 = .ok (.isub, 1) := by decide +kernel
theorem d_J_placeOfPresent_6 : decode b_J_placeOfPresent 6 = .ok (.if_icmp .ge 22, 3) := by decide +kernel
theorem d_J_placeOfPresent_9 : decode b_J_placeOfPresent 9 = .ok (.aload_n 0, 1) := by decide +kernel
theorem d_J_placeOfPresent_10 : decode b_J_placeOfPresent 10 = .ok (.getfield 33, 3) := by decide +kernel
theorem d_J_placeOfPresent_13 : decode b_J_placeOfPresent 13 = .ok (.iload_n 2, 1) := by decide +kernel
theorem d_J_placeOfPresent_14 : decode b_J_placeOfPresent 14 = .ok (.iaload, 1) := by decide +kernel
theorem d_J_placeOfPresent_15 : decode b_J_placeOfPresent 15 = .ok (.aload_n 0, 1) := by decide +kernel
theorem d_J_placeOfPresent_16 : decode b_J_placeOfPresent 16 = .ok (.getfield 96, 3) := by decide +kernel
theorem d_J_placeOfPresent_19 : decode b_J_placeOfPresent 19 = .ok (.if_icmp .ge 9, 3) := by decide +kernel
theorem d_J_placeOfPresent_22 : decode b_J_placeOfPresent 22 = .ok (.iinc 2 1, 3) := by decide +kernel
theorem d_J_placeOfPresent_25 : decode b_J_placeOfPresent 25 = .ok (.goto (-23), 3) := by decide +kernel
theorem d_J_placeOfPresent_28 : decode b_J_placeOfPresent 28 = .ok (.iload_n 2, 1) := by decide +kernel
theorem d_J_placeOfPresent_29 : decode b_J_placeOfPresent 29 = .ok (.ireturn, 1) := by decide +kernel
theorem d_J_countMove_0 : decode b_J_countMove 0 = .ok (.aload_n 1, 1) := by decide +kernel
theorem d_J_countMove_1 : decode b_J_countMove 1 = .ok (.ifnull 23, 3) := by decide +kernel
theorem d_J_countMove_4 : decode b_J_countMove 4 = .ok (.aload_n 2, 1) := by decide +kernel
theorem d_J_countMove_5 : decode b_J_countMove 5 = .ok (.ifnull 19, 3) := by decide +kernel
theorem d_J_countMove_8 : decode b_J_countMove 8 = .ok (.aload_n 1, 1) := by decide +kernel
theorem d_J_countMove_9 : decode b_J_countMove 9 = .ok (.aload_n 2, 1) := by decide +kernel
theorem d_J_countMove_10 : decode b_J_countMove 10 = .ok (.if_acmp .eq 14, 3) := by decide +kernel
theorem d_J_countMove_13 : decode b_J_countMove 13 = .ok (.aload_n 1, 1) := by decide +kernel
theorem d_J_countMove_14 : decode b_J_countMove 14 = .ok (.getfield 120, 3) := by decide +kernel
theorem d_J_countMove_17 : decode b_J_countMove 17 = .ok (.aload_n 2, 1) := by decide +kernel
theorem d_J_countMove_18 : decode b_J_countMove 18 = .ok (.getfield 120, 3) := by decide +kernel
theorem d_J_countMove_21 : decode b_J_countMove 21 = .ok (.if_acmp .eq 4, 3) := by decide +kernel
theorem d_J_countMove_24 : decode b_J_countMove 24 = .ok (.return_, 1) := by decide +kernel
theorem d_J_countMove_25 : decode b_J_countMove 25 = .ok (.aload_n 0, 1) := by decide +kernel
theorem d_J_countMove_26 : decode b_J_countMove 26 = .ok (.dup, 1) := by decide +kernel
theorem d_J_countMove_27 : decode b_J_countMove 27 = .ok (.getfield 190, 3) := by decide +kernel
theorem d_J_countMove_30 : decode b_J_countMove 30 = .ok (.iconst 1, 1) := by decide +kernel
theorem d_J_countMove_31 : decode b_J_countMove 31 = .ok (.iadd, 1) := by decide +kernel
theorem d_J_countMove_32 : decode b_J_countMove 32 = .ok (.putfield 190, 3) := by decide +kernel
theorem d_J_countMove_35 : decode b_J_countMove 35 = .ok (.aload_n 1, 1) := by decide +kernel
theorem d_J_countMove_36 : decode b_J_countMove 36 = .ok (.getfield 103, 3) := by decide +kernel
theorem d_J_countMove_39 : decode b_J_countMove 39 = .ok (.invokestatic 199, 3) := by decide +kernel
theorem d_J_countMove_42 : decode b_J_countMove 42 = .ok (.aload_n 2, 1) := by decide +kernel
theorem d_J_countMove_43 : decode b_J_countMove 43 = .ok (.getfield 103, 3) := by decide +kernel
theorem d_J_countMove_46 : decode b_J_countMove 46 = .ok (.invokestatic 199, 3) := by decide +kernel
theorem d_J_countMove_49 : decode b_J_countMove 49 = .ok (.if_icmp .eq 13, 3) := by decide +kernel
theorem d_J_countMove_52 : decode b_J_countMove 52 = .ok (.aload_n 0, 1) := by decide +kernel
theorem d_J_countMove_53 : decode b_J_countMove 53 = .ok (.dup, 1) := by decide +kernel
theorem d_J_countMove_54 : decode b_J_countMove 54 = .ok (.getfield 117, 3) := by decide +kernel
theorem d_J_countMove_57 : decode b_J_countMove 57 = .ok (.iconst 1, 1) := by decide +kernel
theorem d_J_countMove_58 : decode b_J_countMove 58 = .ok (.iadd, 1) := by decide +kernel
theorem d_J_countMove_59 : decode b_J_countMove 59 = .ok (.putfield 117, 3) := by decide +kernel
theorem d_J_countMove_62 : decode b_J_countMove 62 = .ok (.return_, 1) := by decide +kernel
theorem d_J_detach_0 : decode b_J_detach 0 = .ok (.iload_n 1, 1) := by decide +kernel
theorem d_J_detach_1 : decode b_J_detach 1 = .ok (.ifCond .ne 6, 3) := by decide +kernel
theorem d_J_detach_4 : decode b_J_detach 4 = .ok (.bipush (-3), 2) := by decide +kernel
theorem d_J_detach_6 : decode b_J_detach 6 = .ok (.ireturn, 1) := by decide +kernel
theorem d_J_detach_7 : decode b_J_detach 7 = .ok (.aload_n 0, 1) := by decide +kernel
theorem d_J_detach_8 : decode b_J_detach 8 = .ok (.iload_n 1, 1) := by decide +kernel
theorem d_J_detach_9 : decode b_J_detach 9 = .ok (.aload_n 0, 1) := by decide +kernel
theorem d_J_detach_10 : decode b_J_detach 10 = .ok (.getfield 96, 3) := by decide +kernel
theorem d_J_detach_13 : decode b_J_detach 13 = .ok (.invokevirtual 99, 3) := by decide +kernel
theorem d_J_detach_16 : decode b_J_detach 16 = .ok (.astore_n 2, 1) := by decide +kernel
theorem d_J_detach_17 : decode b_J_detach 17 = .ok (.aload_n 2, 1) := by decide +kernel
theorem d_J_detach_18 : decode b_J_detach 18 = .ok (.ifnonnull 6, 3) := by decide +kernel
theorem d_J_detach_21 : decode b_J_detach 21 = .ok (.bipush (-4), 2) := by decide +kernel
theorem d_J_detach_23 : decode b_J_detach 23 = .ok (.ireturn, 1) := by decide +kernel
theorem d_J_detach_24 : decode b_J_detach 24 = .ok (.aload_n 0, 1) := by decide +kernel
theorem d_J_detach_25 : decode b_J_detach 25 = .ok (.aload_n 2, 1) := by decide +kernel
theorem d_J_detach_26 : decode b_J_detach 26 = .ok (.getfield 135, 3) := by decide +kernel
theorem d_J_detach_29 : decode b_J_detach 29 = .ok (.invokevirtual 153, 3) := by decide +kernel
theorem d_J_detach_32 : decode b_J_detach 32 = .ok (.aload_n 0, 1) := by decide +kernel
theorem d_J_detach_33 : decode b_J_detach 33 = .ok (.invokevirtual 157, 3) := by decide +kernel
theorem d_J_detach_36 : decode b_J_detach 36 = .ok (.aload_n 0, 1) := by decide +kernel
theorem d_J_detach_37 : decode b_J_detach 37 = .ok (.invokevirtual 160, 3) := by decide +kernel
theorem d_J_detach_40 : decode b_J_detach 40 = .ok (.aload_n 0, 1) := by decide +kernel
theorem d_J_detach_41 : decode b_J_detach 41 = .ok (.getfield 96, 3) := by decide +kernel
theorem d_J_detach_44 : decode b_J_detach 44 = .ok (.ireturn, 1) := by decide +kernel
theorem d_J_takeOut_0 : decode b_J_takeOut 0 = .ok (.aload_n 1, 1) := by decide +kernel
theorem d_J_takeOut_1 : decode b_J_takeOut 1 = .ok (.getfield 208, 3) := by decide +kernel
theorem d_J_takeOut_4 : decode b_J_takeOut 4 = .ok (.astore_n 2, 1) := by decide +kernel
theorem d_J_takeOut_5 : decode b_J_takeOut 5 = .ok (.aload_n 2, 1) := by decide +kernel
theorem d_J_takeOut_6 : decode b_J_takeOut 6 = .ok (.ifnonnull 4, 3) := by decide +kernel
theorem d_J_takeOut_9 : decode b_J_takeOut 9 = .ok (.return_, 1) := by decide +kernel
theorem d_J_takeOut_10 : decode b_J_takeOut 10 = .ok (.aload_n 2, 1) := by decide +kernel
theorem d_J_takeOut_11 : decode b_J_takeOut 11 = .ok (.getfield 171, 3) := by decide +kernel
theorem d_J_takeOut_14 : decode b_J_takeOut 14 = .ok (.aload_n 1, 1) := by decide +kernel
theorem d_J_takeOut_15 : decode b_J_takeOut 15 = .ok (.if_acmp .ne 11, 3) := by decide +kernel
theorem d_J_takeOut_18 : decode b_J_takeOut 18 = .ok (.aload_n 2, 1) := by decide +kernel
theorem d_J_takeOut_19 : decode b_J_takeOut 19 = .ok (.aload_n 2, 1) := by decide +kernel
theorem d_J_takeOut_20 : decode b_J_takeOut 20 = .ok (.getfield 177, 3) := by decide +kernel
theorem d_J_takeOut_23 : decode b_J_takeOut 23 = .ok (.putfield 171, 3) := by decide +kernel
theorem d_J_takeOut_26 : decode b_J_takeOut 26 = .ok (.aload_n 2, 1) := by decide +kernel
theorem d_J_takeOut_27 : decode b_J_takeOut 27 = .ok (.aconst_null, 1) := by decide +kernel
theorem d_J_takeOut_28 : decode b_J_takeOut 28 = .ok (.putfield 177, 3) := by decide +kernel
theorem d_J_takeOut_31 : decode b_J_takeOut 31 = .ok (.aload_n 1, 1) := by decide +kernel
theorem d_J_takeOut_32 : decode b_J_takeOut 32 = .ok (.iconst 0, 1) := by decide +kernel
theorem d_J_takeOut_33 : decode b_J_takeOut 33 = .ok (.putfield 43, 3) := by decide +kernel
theorem d_J_takeOut_36 : decode b_J_takeOut 36 = .ok (.return_, 1) := by decide +kernel
theorem d_J_url_0 : decode b_J_url 0 = .ok (.aload_n 0, 1) := by decide +kernel
theorem d_J_url_1 : decode b_J_url 1 = .ok (.iload_n 1, 1) := by decide +kernel
theorem d_J_url_2 : decode b_J_url 2 = .ok (.aload_n 0, 1) := by decide +kernel
theorem d_J_url_3 : decode b_J_url 3 = .ok (.getfield 96, 3) := by decide +kernel
theorem d_J_url_6 : decode b_J_url 6 = .ok (.invokevirtual 99, 3) := by decide +kernel
theorem d_J_url_9 : decode b_J_url 9 = .ok (.astore_n 2, 1) := by decide +kernel
theorem d_J_url_10 : decode b_J_url 10 = .ok (.aload_n 2, 1) := by decide +kernel
theorem d_J_url_11 : decode b_J_url 11 = .ok (.ifnonnull 8, 3) := by decide +kernel
theorem d_J_url_14 : decode b_J_url 14 = .ok (.bipush (-4), 2) := by decide +kernel
theorem d_J_url_16 : decode b_J_url 16 = .ok (.goto 7, 3) := by decide +kernel
theorem d_J_url_19 : decode b_J_url 19 = .ok (.aload_n 2, 1) := by decide +kernel
theorem d_J_url_20 : decode b_J_url 20 = .ok (.getfield 103, 3) := by decide +kernel
theorem d_J_url_23 : decode b_J_url 23 = .ok (.ireturn, 1) := by decide +kernel
theorem d_J_state_0 : decode b_J_state 0 = .ok (.aload_n 0, 1) := by decide +kernel
theorem d_J_state_1 : decode b_J_state 1 = .ok (.iload_n 1, 1) := by decide +kernel
theorem d_J_state_2 : decode b_J_state 2 = .ok (.aload_n 0, 1) := by decide +kernel
theorem d_J_state_3 : decode b_J_state 3 = .ok (.getfield 96, 3) := by decide +kernel
theorem d_J_state_6 : decode b_J_state 6 = .ok (.invokevirtual 99, 3) := by decide +kernel
theorem d_J_state_9 : decode b_J_state 9 = .ok (.astore_n 2, 1) := by decide +kernel
theorem d_J_state_10 : decode b_J_state 10 = .ok (.aload_n 2, 1) := by decide +kernel
theorem d_J_state_11 : decode b_J_state 11 = .ok (.ifnonnull 9, 3) := by decide +kernel
theorem d_J_state_14 : decode b_J_state 14 = .ok (.ldc2_w 163, 3) := by decide +kernel
theorem d_J_state_17 : decode b_J_state 17 = .ok (.goto 8, 3) := by decide +kernel
theorem d_J_state_20 : decode b_J_state 20 = .ok (.aload_n 2, 1) := by decide +kernel
theorem d_J_state_21 : decode b_J_state 21 = .ok (.getfield 165, 3) := by decide +kernel
theorem d_J_state_24 : decode b_J_state 24 = .ok (.i2l, 1) := by decide +kernel
theorem d_J_state_25 : decode b_J_state 25 = .ok (.lreturn, 1) := by decide +kernel
theorem d_J_step_0 : decode b_J_step 0 = .ok (.aload_n 0, 1) := by decide +kernel
theorem d_J_step_1 : decode b_J_step 1 = .ok (.iload_n 1, 1) := by decide +kernel
theorem d_J_step_2 : decode b_J_step 2 = .ok (.aload_n 0, 1) := by decide +kernel
theorem d_J_step_3 : decode b_J_step 3 = .ok (.getfield 96, 3) := by decide +kernel
theorem d_J_step_6 : decode b_J_step 6 = .ok (.invokevirtual 99, 3) := by decide +kernel
theorem d_J_step_9 : decode b_J_step 9 = .ok (.astore_n 2, 1) := by decide +kernel
theorem d_J_step_10 : decode b_J_step 10 = .ok (.aload_n 2, 1) := by decide +kernel
theorem d_J_step_11 : decode b_J_step 11 = .ok (.ifnonnull 8, 3) := by decide +kernel
theorem d_J_step_14 : decode b_J_step 14 = .ok (.bipush (-4), 2) := by decide +kernel
theorem d_J_step_16 : decode b_J_step 16 = .ok (.goto 7, 3) := by decide +kernel
theorem d_J_step_19 : decode b_J_step 19 = .ok (.aload_n 2, 1) := by decide +kernel
theorem d_J_step_20 : decode b_J_step 20 = .ok (.getfield 128, 3) := by decide +kernel
theorem d_J_step_23 : decode b_J_step 23 = .ok (.ireturn, 1) := by decide +kernel
theorem d_J_origin_0 : decode b_J_origin 0 = .ok (.aload_n 0, 1) := by decide +kernel
theorem d_J_origin_1 : decode b_J_origin 1 = .ok (.iload_n 1, 1) := by decide +kernel
theorem d_J_origin_2 : decode b_J_origin 2 = .ok (.aload_n 0, 1) := by decide +kernel
theorem d_J_origin_3 : decode b_J_origin 3 = .ok (.getfield 96, 3) := by decide +kernel
theorem d_J_origin_6 : decode b_J_origin 6 = .ok (.invokevirtual 99, 3) := by decide +kernel
theorem d_J_origin_9 : decode b_J_origin 9 = .ok (.astore_n 2, 1) := by decide +kernel
theorem d_J_origin_10 : decode b_J_origin 10 = .ok (.aload_n 2, 1) := by decide +kernel
theorem d_J_origin_11 : decode b_J_origin 11 = .ok (.ifnonnull 8, 3) := by decide +kernel
theorem d_J_origin_14 : decode b_J_origin 14 = .ok (.bipush (-4), 2) := by decide +kernel
theorem d_J_origin_16 : decode b_J_origin 16 = .ok (.goto 10, 3) := by decide +kernel
theorem d_J_origin_19 : decode b_J_origin 19 = .ok (.aload_n 2, 1) := by decide +kernel
theorem d_J_origin_20 : decode b_J_origin 20 = .ok (.getfield 120, 3) := by decide +kernel
theorem d_J_origin_23 : decode b_J_origin 23 = .ok (.getfield 168, 3) := by decide +kernel
theorem d_J_origin_26 : decode b_J_origin 26 = .ok (.ireturn, 1) := by decide +kernel
theorem d_J_frame_0 : decode b_J_frame 0 = .ok (.aload_n 0, 1) := by decide +kernel
theorem d_J_frame_1 : decode b_J_frame 1 = .ok (.iload_n 1, 1) := by decide +kernel
theorem d_J_frame_2 : decode b_J_frame 2 = .ok (.aload_n 0, 1) := by decide +kernel
theorem d_J_frame_3 : decode b_J_frame 3 = .ok (.getfield 96, 3) := by decide +kernel
theorem d_J_frame_6 : decode b_J_frame 6 = .ok (.invokevirtual 99, 3) := by decide +kernel
theorem d_J_frame_9 : decode b_J_frame 9 = .ok (.astore_n 3, 1) := by decide +kernel
theorem d_J_frame_10 : decode b_J_frame 10 = .ok (.aload_n 3, 1) := by decide +kernel
theorem d_J_frame_11 : decode b_J_frame 11 = .ok (.ifnonnull 6, 3) := by decide +kernel
theorem d_J_frame_14 : decode b_J_frame 14 = .ok (.bipush (-4), 2) := by decide +kernel
theorem d_J_frame_16 : decode b_J_frame 16 = .ok (.ireturn, 1) := by decide +kernel
theorem d_J_frame_17 : decode b_J_frame 17 = .ok (.iload_n 2, 1) := by decide +kernel
theorem d_J_frame_18 : decode b_J_frame 18 = .ok (.ifCond .ne 14, 3) := by decide +kernel
theorem d_J_frame_21 : decode b_J_frame 21 = .ok (.aload_n 3, 1) := by decide +kernel
theorem d_J_frame_22 : decode b_J_frame 22 = .ok (.getfield 120, 3) := by decide +kernel
theorem d_J_frame_25 : decode b_J_frame 25 = .ok (.getfield 171, 3) := by decide +kernel
theorem d_J_frame_28 : decode b_J_frame 28 = .ok (.invokestatic 173, 3) := by decide +kernel
theorem d_J_frame_31 : decode b_J_frame 31 = .ok (.ireturn, 1) := by decide +kernel
theorem d_J_frame_32 : decode b_J_frame 32 = .ok (.iload_n 2, 1) := by decide +kernel
theorem d_J_frame_33 : decode b_J_frame 33 = .ok (.iconst 1, 1) := by decide +kernel
theorem d_J_frame_34 : decode b_J_frame 34 = .ok (.if_icmp .ne 16, 3) := by decide +kernel
theorem d_J_frame_37 : decode b_J_frame 37 = .ok (.aload_n 3, 1) := by decide +kernel
theorem d_J_frame_38 : decode b_J_frame 38 = .ok (.getfield 120, 3) := by decide +kernel
theorem d_J_frame_41 : decode b_J_frame 41 = .ok (.getfield 177, 3) := by decide +kernel
theorem d_J_frame_44 : decode b_J_frame 44 = .ok (.invokestatic 173, 3) := by decide +kernel
theorem d_J_frame_47 : decode b_J_frame 47 = .ok (.goto 5, 3) := by decide +kernel
theorem d_J_frame_50 : decode b_J_frame 50 = .ok (.bipush (-7), 2) := by decide +kernel
theorem d_J_frame_52 : decode b_J_frame 52 = .ok (.ireturn, 1) := by decide +kernel
theorem d_J_numberOf_0 : decode b_J_numberOf 0 = .ok (.aload_n 0, 1) := by decide +kernel
theorem d_J_numberOf_1 : decode b_J_numberOf 1 = .ok (.ifnonnull 8, 3) := by decide +kernel
theorem d_J_numberOf_4 : decode b_J_numberOf 4 = .ok (.bipush (-7), 2) := by decide +kernel
theorem d_J_numberOf_6 : decode b_J_numberOf 6 = .ok (.goto 7, 3) := by decide +kernel
theorem d_J_numberOf_9 : decode b_J_numberOf 9 = .ok (.aload_n 0, 1) := by decide +kernel
theorem d_J_numberOf_10 : decode b_J_numberOf 10 = .ok (.getfield 196, 3) := by decide +kernel
theorem d_J_numberOf_13 : decode b_J_numberOf 13 = .ok (.ireturn, 1) := by decide +kernel
theorem d_J_entries_0 : decode b_J_entries 0 = .ok (.aload_n 0, 1) := by decide +kernel
theorem d_J_entries_1 : decode b_J_entries 1 = .ok (.iload_n 1, 1) := by decide +kernel
theorem d_J_entries_2 : decode b_J_entries 2 = .ok (.aload_n 0, 1) := by decide +kernel
theorem d_J_entries_3 : decode b_J_entries 3 = .ok (.getfield 96, 3) := by decide +kernel
theorem d_J_entries_6 : decode b_J_entries 6 = .ok (.invokevirtual 99, 3) := by decide +kernel
theorem d_J_entries_9 : decode b_J_entries 9 = .ok (.astore_n 2, 1) := by decide +kernel
theorem d_J_entries_10 : decode b_J_entries 10 = .ok (.aload_n 2, 1) := by decide +kernel
theorem d_J_entries_11 : decode b_J_entries 11 = .ok (.ifnonnull 6, 3) := by decide +kernel
theorem d_J_entries_14 : decode b_J_entries 14 = .ok (.bipush (-4), 2) := by decide +kernel
theorem d_J_entries_16 : decode b_J_entries 16 = .ok (.ireturn, 1) := by decide +kernel
theorem d_J_entries_17 : decode b_J_entries 17 = .ok (.iconst 0, 1) := by decide +kernel
theorem d_J_entries_18 : decode b_J_entries 18 = .ok (.istore_n 3, 1) := by decide +kernel
theorem d_J_entries_19 : decode b_J_entries 19 = .ok (.aload_n 0, 1) := by decide +kernel
theorem d_J_entries_20 : decode b_J_entries 20 = .ok (.getfield 29, 3) := by decide +kernel
theorem d_J_entries_23 : decode b_J_entries 23 = .ok (.astore 4, 2) := by decide +kernel
theorem d_J_entries_25 : decode b_J_entries 25 = .ok (.aload 4, 2) := by decide +kernel
theorem d_J_entries_27 : decode b_J_entries 27 = .ok (.arraylength, 1) := by decide +kernel
theorem d_J_entries_28 : decode b_J_entries 28 = .ok (.istore 5, 2) := by decide +kernel
theorem d_J_entries_30 : decode b_J_entries 30 = .ok (.iconst 0, 1) := by decide +kernel
theorem d_J_entries_31 : decode b_J_entries 31 = .ok (.istore 6, 2) := by decide +kernel
theorem d_J_entries_33 : decode b_J_entries 33 = .ok (.iload 6, 2) := by decide +kernel
theorem d_J_entries_35 : decode b_J_entries 35 = .ok (.iload 5, 2) := by decide +kernel
theorem d_J_entries_37 : decode b_J_entries 37 = .ok (.if_icmp .ge 39, 3) := by decide +kernel
theorem d_J_entries_40 : decode b_J_entries 40 = .ok (.aload 4, 2) := by decide +kernel
theorem d_J_entries_42 : decode b_J_entries 42 = .ok (.iload 6, 2) := by decide +kernel
theorem d_J_entries_44 : decode b_J_entries 44 = .ok (.aaload, 1) := by decide +kernel
theorem d_J_entries_45 : decode b_J_entries 45 = .ok (.astore 7, 2) := by decide +kernel
theorem d_J_entries_47 : decode b_J_entries 47 = .ok (.aload 7, 2) := by decide +kernel
theorem d_J_entries_49 : decode b_J_entries 49 = .ok (.getfield 179, 3) := by decide +kernel
theorem d_J_entries_52 : decode b_J_entries 52 = .ok (.ifCond .eq 18, 3) := by decide +kernel
theorem d_J_entries_55 : decode b_J_entries 55 = .ok (.aload 7, 2) := by decide +kernel
theorem d_J_entries_57 : decode b_J_entries 57 = .ok (.getfield 135, 3) := by decide +kernel
theorem d_J_entries_60 : decode b_J_entries 60 = .ok (.aload_n 2, 1) := by decide +kernel
theorem d_J_entries_61 : decode b_J_entries 61 = .ok (.getfield 135, 3) := by decide +kernel
theorem d_J_entries_64 : decode b_J_entries 64 = .ok (.if_acmp .ne 6, 3) := by decide +kernel
theorem d_J_entries_67 : decode b_J_entries 67 = .ok (.iinc 3 1, 3) := by decide +kernel
theorem d_J_entries_70 : decode b_J_entries 70 = .ok (.iinc 6 1, 3) := by decide +kernel
theorem d_J_entries_73 : decode b_J_entries 73 = .ok (.goto (-40), 3) := by decide +kernel
theorem d_J_entries_76 : decode b_J_entries 76 = .ok (.iload_n 3, 1) := by decide +kernel
theorem d_J_entries_77 : decode b_J_entries 77 = .ok (.ireturn, 1) := by decide +kernel
end
section
theorem d_J_present_0 : decode b_J_present 0 = .ok (.aload_n 0, 1) := by decide +kernel
theorem d_J_present_1 : decode b_J_present 1 = .ok (.getfield 96, 3) := by decide +kernel
theorem d_J_present_4 : decode b_J_present 4 = .ok (.ireturn, 1) := by decide +kernel
theorem d_J_length_0 : decode b_J_length 0 = .ok (.aload_n 0, 1) := by decide +kernel
theorem d_J_length_1 : decode b_J_length 1 = .ok (.invokevirtual 142, 3) := by decide +kernel
theorem d_J_length_4 : decode b_J_length 4 = .ok (.ireturn, 1) := by decide +kernel
theorem d_J_count_0 : decode b_J_count 0 = .ok (.iload_n 1, 1) := by decide +kernel
theorem d_J_count_1 : decode b_J_count 1 = .ok (.tableswitch 71 0 5 #[39, 44, 49, 56, 61, 66], 39) := by decide +kernel
theorem d_J_count_40 : decode b_J_count 40 = .ok (.aload_n 0, 1) := by decide +kernel
theorem d_J_count_41 : decode b_J_count 41 = .ok (.invokevirtual 180, 3) := by decide +kernel
theorem d_J_count_44 : decode b_J_count 44 = .ok (.ireturn, 1) := by decide +kernel
theorem d_J_count_45 : decode b_J_count 45 = .ok (.aload_n 0, 1) := by decide +kernel
theorem d_J_count_46 : decode b_J_count 46 = .ok (.invokevirtual 183, 3) := by decide +kernel
theorem d_J_count_49 : decode b_J_count 49 = .ok (.ireturn, 1) := by decide +kernel
theorem d_J_count_50 : decode b_J_count 50 = .ok (.aload_n 0, 1) := by decide +kernel
theorem d_J_count_51 : decode b_J_count 51 = .ok (.ldc 186, 2) := by decide +kernel
theorem d_J_count_53 : decode b_J_count 53 = .ok (.invokevirtual 187, 3) := by decide +kernel
theorem d_J_count_56 : decode b_J_count 56 = .ok (.ireturn, 1) := by decide +kernel
theorem d_J_count_57 : decode b_J_count 57 = .ok (.aload_n 0, 1) := by decide +kernel
theorem d_J_count_58 : decode b_J_count 58 = .ok (.getfield 190, 3) := by decide +kernel
theorem d_J_count_61 : decode b_J_count 61 = .ok (.ireturn, 1) := by decide +kernel
theorem d_J_count_62 : decode b_J_count 62 = .ok (.aload_n 0, 1) := by decide +kernel
theorem d_J_count_63 : decode b_J_count 63 = .ok (.getfield 117, 3) := by decide +kernel
theorem d_J_count_66 : decode b_J_count 66 = .ok (.ireturn, 1) := by decide +kernel
theorem d_J_count_67 : decode b_J_count 67 = .ok (.aload_n 0, 1) := by decide +kernel
theorem d_J_count_68 : decode b_J_count 68 = .ok (.getfield 193, 3) := by decide +kernel
theorem d_J_count_71 : decode b_J_count 71 = .ok (.ireturn, 1) := by decide +kernel
theorem d_J_count_72 : decode b_J_count 72 = .ok (.bipush (-7), 2) := by decide +kernel
theorem d_J_count_74 : decode b_J_count 74 = .ok (.ireturn, 1) := by decide +kernel
theorem d_J_shownNavigables_0 : decode b_J_shownNavigables 0 = .ok (.iconst 0, 1) := by decide +kernel
theorem d_J_shownNavigables_1 : decode b_J_shownNavigables 1 = .ok (.istore_n 1, 1) := by decide +kernel
theorem d_J_shownNavigables_2 : decode b_J_shownNavigables 2 = .ok (.iconst 0, 1) := by decide +kernel
theorem d_J_shownNavigables_3 : decode b_J_shownNavigables 3 = .ok (.istore_n 2, 1) := by decide +kernel
theorem d_J_shownNavigables_4 : decode b_J_shownNavigables 4 = .ok (.iload_n 2, 1) := by decide +kernel
theorem d_J_shownNavigables_5 : decode b_J_shownNavigables 5 = .ok (.bipush 40, 2) := by decide +kernel
theorem d_J_shownNavigables_7 : decode b_J_shownNavigables 7 = .ok (.if_icmp .ge 24, 3) := by decide +kernel
theorem d_J_shownNavigables_10 : decode b_J_shownNavigables 10 = .ok (.aload_n 0, 1) := by decide +kernel
theorem d_J_shownNavigables_11 : decode b_J_shownNavigables 11 = .ok (.iload_n 2, 1) := by decide +kernel
theorem d_J_shownNavigables_12 : decode b_J_shownNavigables 12 = .ok (.aload_n 0, 1) := by decide +kernel
theorem d_J_shownNavigables_13 : decode b_J_shownNavigables 13 = .ok (.getfield 96, 3) := by decide +kernel
theorem d_J_shownNavigables_16 : decode b_J_shownNavigables 16 = .ok (.invokevirtual 99, 3) := by decide +kernel
theorem d_J_shownNavigables_19 : decode b_J_shownNavigables 19 = .ok (.ifnull 6, 3) := by decide +kernel
theorem d_J_shownNavigables_22 : decode b_J_shownNavigables 22 = .ok (.iinc 1 1, 3) := by decide +kernel
theorem d_J_shownNavigables_25 : decode b_J_shownNavigables 25 = .ok (.iinc 2 1, 3) := by decide +kernel
theorem d_J_shownNavigables_28 : decode b_J_shownNavigables 28 = .ok (.goto (-24), 3) := by decide +kernel
theorem d_J_shownNavigables_31 : decode b_J_shownNavigables 31 = .ok (.iload_n 1, 1) := by decide +kernel
theorem d_J_shownNavigables_32 : decode b_J_shownNavigables 32 = .ok (.ireturn, 1) := by decide +kernel
theorem d_J_allNavigables_0 : decode b_J_allNavigables 0 = .ok (.iconst 0, 1) := by decide +kernel
theorem d_J_allNavigables_1 : decode b_J_allNavigables 1 = .ok (.istore_n 1, 1) := by decide +kernel
theorem d_J_allNavigables_2 : decode b_J_allNavigables 2 = .ok (.aload_n 0, 1) := by decide +kernel
theorem d_J_allNavigables_3 : decode b_J_allNavigables 3 = .ok (.getfield 17, 3) := by decide +kernel
theorem d_J_allNavigables_6 : decode b_J_allNavigables 6 = .ok (.astore_n 2, 1) := by decide +kernel
theorem d_J_allNavigables_7 : decode b_J_allNavigables 7 = .ok (.aload_n 2, 1) := by decide +kernel
theorem d_J_allNavigables_8 : decode b_J_allNavigables 8 = .ok (.arraylength, 1) := by decide +kernel
theorem d_J_allNavigables_9 : decode b_J_allNavigables 9 = .ok (.istore_n 3, 1) := by decide +kernel
theorem d_J_allNavigables_10 : decode b_J_allNavigables 10 = .ok (.iconst 0, 1) := by decide +kernel
theorem d_J_allNavigables_11 : decode b_J_allNavigables 11 = .ok (.istore 4, 2) := by decide +kernel
theorem d_J_allNavigables_13 : decode b_J_allNavigables 13 = .ok (.iload 4, 2) := by decide +kernel
theorem d_J_allNavigables_15 : decode b_J_allNavigables 15 = .ok (.iload_n 3, 1) := by decide +kernel
theorem d_J_allNavigables_16 : decode b_J_allNavigables 16 = .ok (.if_icmp .ge 26, 3) := by decide +kernel
theorem d_J_allNavigables_19 : decode b_J_allNavigables 19 = .ok (.aload_n 2, 1) := by decide +kernel
theorem d_J_allNavigables_20 : decode b_J_allNavigables 20 = .ok (.iload 4, 2) := by decide +kernel
theorem d_J_allNavigables_22 : decode b_J_allNavigables 22 = .ok (.aaload, 1) := by decide +kernel
theorem d_J_allNavigables_23 : decode b_J_allNavigables 23 = .ok (.astore 5, 2) := by decide +kernel
theorem d_J_allNavigables_25 : decode b_J_allNavigables 25 = .ok (.aload 5, 2) := by decide +kernel
theorem d_J_allNavigables_27 : decode b_J_allNavigables 27 = .ok (.getfield 43, 3) := by decide +kernel
theorem d_J_allNavigables_30 : decode b_J_allNavigables 30 = .ok (.ifCond .eq 6, 3) := by decide +kernel
theorem d_J_allNavigables_33 : decode b_J_allNavigables 33 = .ok (.iinc 1 1, 3) := by decide +kernel
theorem d_J_allNavigables_36 : decode b_J_allNavigables 36 = .ok (.iinc 4 1, 3) := by decide +kernel
theorem d_J_allNavigables_39 : decode b_J_allNavigables 39 = .ok (.goto (-26), 3) := by decide +kernel
theorem d_J_allNavigables_42 : decode b_J_allNavigables 42 = .ok (.iload_n 1, 1) := by decide +kernel
theorem d_J_allNavigables_43 : decode b_J_allNavigables 43 = .ok (.ireturn, 1) := by decide +kernel
end
section
theorem d_M_init_0 : decode b_M_init 0 = .ok (.aload_n 0, 1) := by decide +kernel
theorem d_M_init_1 : decode b_M_init 1 = .ok (.invokespecial 1, 3) := by decide +kernel
theorem d_M_init_4 : decode b_M_init 4 = .ok (.aload_n 0, 1) := by decide +kernel
theorem d_M_init_5 : decode b_M_init 5 = .ok (.bipush 32, 2) := by decide +kernel
theorem d_M_init_7 : decode b_M_init 7 = .ok (.newarray .int, 2) := by decide +kernel
theorem d_M_init_9 : decode b_M_init 9 = .ok (.putfield 7, 3) := by decide +kernel
theorem d_M_init_12 : decode b_M_init 12 = .ok (.aload_n 0, 1) := by decide +kernel
theorem d_M_init_13 : decode b_M_init 13 = .ok (.bipush 32, 2) := by decide +kernel
theorem d_M_init_15 : decode b_M_init 15 = .ok (.newarray .int, 2) := by decide +kernel
theorem d_M_init_17 : decode b_M_init 17 = .ok (.putfield 13, 3) := by decide +kernel
theorem d_M_init_20 : decode b_M_init 20 = .ok (.aload_n 0, 1) := by decide +kernel
theorem d_M_init_21 : decode b_M_init 21 = .ok (.bipush 32, 2) := by decide +kernel
theorem d_M_init_23 : decode b_M_init 23 = .ok (.newarray .int, 2) := by decide +kernel
theorem d_M_init_25 : decode b_M_init 25 = .ok (.putfield 16, 3) := by decide +kernel
theorem d_M_init_28 : decode b_M_init 28 = .ok (.aload_n 0, 1) := by decide +kernel
theorem d_M_init_29 : decode b_M_init 29 = .ok (.bipush 32, 2) := by decide +kernel
theorem d_M_init_31 : decode b_M_init 31 = .ok (.newarray .boolean, 2) := by decide +kernel
theorem d_M_init_33 : decode b_M_init 33 = .ok (.putfield 19, 3) := by decide +kernel
theorem d_M_init_36 : decode b_M_init 36 = .ok (.aload_n 0, 1) := by decide +kernel
theorem d_M_init_37 : decode b_M_init 37 = .ok (.bipush 48, 2) := by decide +kernel
theorem d_M_init_39 : decode b_M_init 39 = .ok (.newarray .int, 2) := by decide +kernel
theorem d_M_init_41 : decode b_M_init 41 = .ok (.putfield 23, 3) := by decide +kernel
theorem d_M_init_44 : decode b_M_init 44 = .ok (.aload_n 0, 1) := by decide +kernel
theorem d_M_init_45 : decode b_M_init 45 = .ok (.bipush 48, 2) := by decide +kernel
theorem d_M_init_47 : decode b_M_init 47 = .ok (.newarray .int, 2) := by decide +kernel
theorem d_M_init_49 : decode b_M_init 49 = .ok (.putfield 26, 3) := by decide +kernel
theorem d_M_init_52 : decode b_M_init 52 = .ok (.aload_n 0, 1) := by decide +kernel
theorem d_M_init_53 : decode b_M_init 53 = .ok (.bipush 48, 2) := by decide +kernel
theorem d_M_init_55 : decode b_M_init 55 = .ok (.newarray .int, 2) := by decide +kernel
theorem d_M_init_57 : decode b_M_init 57 = .ok (.putfield 29, 3) := by decide +kernel
theorem d_M_init_60 : decode b_M_init 60 = .ok (.aload_n 0, 1) := by decide +kernel
theorem d_M_init_61 : decode b_M_init 61 = .ok (.bipush 48, 2) := by decide +kernel
theorem d_M_init_63 : decode b_M_init 63 = .ok (.newarray .int, 2) := by decide +kernel
theorem d_M_init_65 : decode b_M_init 65 = .ok (.putfield 32, 3) := by decide +kernel
theorem d_M_init_68 : decode b_M_init 68 = .ok (.aload_n 0, 1) := by decide +kernel
theorem d_M_init_69 : decode b_M_init 69 = .ok (.bipush 48, 2) := by decide +kernel
theorem d_M_init_71 : decode b_M_init 71 = .ok (.newarray .int, 2) := by decide +kernel
theorem d_M_init_73 : decode b_M_init 73 = .ok (.putfield 35, 3) := by decide +kernel
theorem d_M_init_76 : decode b_M_init 76 = .ok (.aload_n 0, 1) := by decide +kernel
theorem d_M_init_77 : decode b_M_init 77 = .ok (.bipush 48, 2) := by decide +kernel
theorem d_M_init_79 : decode b_M_init 79 = .ok (.newarray .boolean, 2) := by decide +kernel
theorem d_M_init_81 : decode b_M_init 81 = .ok (.putfield 38, 3) := by decide +kernel
theorem d_M_init_84 : decode b_M_init 84 = .ok (.aload_n 0, 1) := by decide +kernel
theorem d_M_init_85 : decode b_M_init 85 = .ok (.bipush 48, 2) := by decide +kernel
theorem d_M_init_87 : decode b_M_init 87 = .ok (.newarray .boolean, 2) := by decide +kernel
theorem d_M_init_89 : decode b_M_init 89 = .ok (.putfield 41, 3) := by decide +kernel
theorem d_M_init_92 : decode b_M_init 92 = .ok (.aload_n 0, 1) := by decide +kernel
theorem d_M_init_93 : decode b_M_init 93 = .ok (.bipush 48, 2) := by decide +kernel
theorem d_M_init_95 : decode b_M_init 95 = .ok (.newarray .int, 2) := by decide +kernel
theorem d_M_init_97 : decode b_M_init 97 = .ok (.putfield 44, 3) := by decide +kernel
theorem d_M_init_100 : decode b_M_init 100 = .ok (.aload_n 0, 1) := by decide +kernel
theorem d_M_init_101 : decode b_M_init 101 = .ok (.bipush 48, 2) := by decide +kernel
theorem d_M_init_103 : decode b_M_init 103 = .ok (.newarray .boolean, 2) := by decide +kernel
theorem d_M_init_105 : decode b_M_init 105 = .ok (.putfield 47, 3) := by decide +kernel
theorem d_M_init_108 : decode b_M_init 108 = .ok (.aload_n 0, 1) := by decide +kernel
theorem d_M_init_109 : decode b_M_init 109 = .ok (.bipush 48, 2) := by decide +kernel
theorem d_M_init_111 : decode b_M_init 111 = .ok (.newarray .int, 2) := by decide +kernel
theorem d_M_init_113 : decode b_M_init 113 = .ok (.putfield 50, 3) := by decide +kernel
theorem d_M_init_116 : decode b_M_init 116 = .ok (.aload_n 0, 1) := by decide +kernel
theorem d_M_init_117 : decode b_M_init 117 = .ok (.bipush 48, 2) := by decide +kernel
theorem d_M_init_119 : decode b_M_init 119 = .ok (.newarray .int, 2) := by decide +kernel
theorem d_M_init_121 : decode b_M_init 121 = .ok (.putfield 53, 3) := by decide +kernel
theorem d_M_init_124 : decode b_M_init 124 = .ok (.aload_n 0, 1) := by decide +kernel
theorem d_M_init_125 : decode b_M_init 125 = .ok (.bipush 48, 2) := by decide +kernel
theorem d_M_init_127 : decode b_M_init 127 = .ok (.newarray .boolean, 2) := by decide +kernel
theorem d_M_init_129 : decode b_M_init 129 = .ok (.putfield 56, 3) := by decide +kernel
theorem d_M_init_132 : decode b_M_init 132 = .ok (.aload_n 0, 1) := by decide +kernel
theorem d_M_init_133 : decode b_M_init 133 = .ok (.bipush 48, 2) := by decide +kernel
theorem d_M_init_135 : decode b_M_init 135 = .ok (.newarray .int, 2) := by decide +kernel
theorem d_M_init_137 : decode b_M_init 137 = .ok (.putfield 59, 3) := by decide +kernel
theorem d_M_init_140 : decode b_M_init 140 = .ok (.aload_n 0, 1) := by decide +kernel
theorem d_M_init_141 : decode b_M_init 141 = .ok (.bipush 48, 2) := by decide +kernel
theorem d_M_init_143 : decode b_M_init 143 = .ok (.newarray .boolean, 2) := by decide +kernel
theorem d_M_init_145 : decode b_M_init 145 = .ok (.putfield 62, 3) := by decide +kernel
theorem d_M_init_148 : decode b_M_init 148 = .ok (.aload_n 0, 1) := by decide +kernel
theorem d_M_init_149 : decode b_M_init 149 = .ok (.bipush 48, 2) := by decide +kernel
theorem d_M_init_151 : decode b_M_init 151 = .ok (.newarray .int, 2) := by decide +kernel
theorem d_M_init_153 : decode b_M_init 153 = .ok (.putfield 65, 3) := by decide +kernel
theorem d_M_init_156 : decode b_M_init 156 = .ok (.aload_n 0, 1) := by decide +kernel
theorem d_M_init_157 : decode b_M_init 157 = .ok (.bipush 48, 2) := by decide +kernel
theorem d_M_init_159 : decode b_M_init 159 = .ok (.newarray .boolean, 2) := by decide +kernel
theorem d_M_init_161 : decode b_M_init 161 = .ok (.putfield 68, 3) := by decide +kernel
theorem d_M_init_164 : decode b_M_init 164 = .ok (.aload_n 0, 1) := by decide +kernel
theorem d_M_init_165 : decode b_M_init 165 = .ok (.bipush 48, 2) := by decide +kernel
theorem d_M_init_167 : decode b_M_init 167 = .ok (.newarray .boolean, 2) := by decide +kernel
theorem d_M_init_169 : decode b_M_init 169 = .ok (.putfield 71, 3) := by decide +kernel
theorem d_M_init_172 : decode b_M_init 172 = .ok (.iconst 0, 1) := by decide +kernel
theorem d_M_init_173 : decode b_M_init 173 = .ok (.istore_n 1, 1) := by decide +kernel
theorem d_M_init_174 : decode b_M_init 174 = .ok (.iload_n 1, 1) := by decide +kernel
theorem d_M_init_175 : decode b_M_init 175 = .ok (.bipush 32, 2) := by decide +kernel
theorem d_M_init_177 : decode b_M_init 177 = .ok (.if_icmp .ge 25, 3) := by decide +kernel
theorem d_M_init_180 : decode b_M_init 180 = .ok (.aload_n 0, 1) := by decide +kernel
theorem d_M_init_181 : decode b_M_init 181 = .ok (.getfield 13, 3) := by decide +kernel
theorem d_M_init_184 : decode b_M_init 184 = .ok (.iload_n 1, 1) := by decide +kernel
theorem d_M_init_185 : decode b_M_init 185 = .ok (.bipush (-2), 2) := by decide +kernel
theorem d_M_init_187 : decode b_M_init 187 = .ok (.iastore, 1) := by decide +kernel
theorem d_M_init_188 : decode b_M_init 188 = .ok (.aload_n 0, 1) := by decide +kernel
theorem d_M_init_189 : decode b_M_init 189 = .ok (.getfield 16, 3) := by decide +kernel
theorem d_M_init_192 : decode b_M_init 192 = .ok (.iload_n 1, 1) := by decide +kernel
theorem d_M_init_193 : decode b_M_init 193 = .ok (.bipush (-2), 2) := by decide +kernel
theorem d_M_init_195 : decode b_M_init 195 = .ok (.iastore, 1) := by decide +kernel
theorem d_M_init_196 : decode b_M_init 196 = .ok (.iinc 1 1, 3) := by decide +kernel
theorem d_M_init_199 : decode b_M_init 199 = .ok (.goto (-25), 3) := by decide +kernel
theorem d_M_init_202 : decode b_M_init 202 = .ok (.aload_n 0, 1) := by decide +kernel
theorem d_M_init_203 : decode b_M_init 203 = .ok (.getfield 56, 3) := by decide +kernel
theorem d_M_init_206 : decode b_M_init 206 = .ok (.iconst 0, 1) := by decide +kernel
theorem d_M_init_207 : decode b_M_init 207 = .ok (.iconst 1, 1) := by decide +kernel
theorem d_M_init_208 : decode b_M_init 208 = .ok (.bastore, 1) := by decide +kernel
theorem d_M_init_209 : decode b_M_init 209 = .ok (.aload_n 0, 1) := by decide +kernel
theorem d_M_init_210 : decode b_M_init 210 = .ok (.getfield 59, 3) := by decide +kernel
theorem d_M_init_213 : decode b_M_init 213 = .ok (.iconst 0, 1) := by decide +kernel
theorem d_M_init_214 : decode b_M_init 214 = .ok (.iconst (-1), 1) := by decide +kernel
theorem d_M_init_215 : decode b_M_init 215 = .ok (.iastore, 1) := by decide +kernel
theorem d_M_init_216 : decode b_M_init 216 = .ok (.aload_n 0, 1) := by decide +kernel
theorem d_M_init_217 : decode b_M_init 217 = .ok (.iconst 0, 1) := by decide +kernel
theorem d_M_init_218 : decode b_M_init 218 = .ok (.iconst (-1), 1) := by decide +kernel
theorem d_M_init_219 : decode b_M_init 219 = .ok (.invokevirtual 74, 3) := by decide +kernel
theorem d_M_init_222 : decode b_M_init 222 = .ok (.istore_n 1, 1) := by decide +kernel
theorem d_M_init_223 : decode b_M_init 223 = .ok (.aload_n 0, 1) := by decide +kernel
theorem d_M_init_224 : decode b_M_init 224 = .ok (.iconst 0, 1) := by decide +kernel
theorem d_M_init_225 : decode b_M_init 225 = .ok (.iconst 0, 1) := by decide +kernel
theorem d_M_init_226 : decode b_M_init 226 = .ok (.iconst (-1), 1) := by decide +kernel
theorem d_M_init_227 : decode b_M_init 227 = .ok (.iload_n 1, 1) := by decide +kernel
theorem d_M_init_228 : decode b_M_init 228 = .ok (.invokevirtual 78, 3) := by decide +kernel
theorem d_M_init_231 : decode b_M_init 231 = .ok (.pop, 1) := by decide +kernel
theorem d_M_init_232 : decode b_M_init 232 = .ok (.aload_n 0, 1) := by decide +kernel
theorem d_M_init_233 : decode b_M_init 233 = .ok (.invokevirtual 82, 3) := by decide +kernel
theorem d_M_init_236 : decode b_M_init 236 = .ok (.return_, 1) := by decide +kernel
theorem d_M_make_0 : decode b_M_make 0 = .ok (.iconst 0, 1) := by decide +kernel
theorem d_M_make_1 : decode b_M_make 1 = .ok (.istore_n 3, 1) := by decide +kernel
theorem d_M_make_2 : decode b_M_make 2 = .ok (.iload_n 3, 1) := by decide +kernel
theorem d_M_make_3 : decode b_M_make 3 = .ok (.bipush 47, 2) := by decide +kernel
theorem d_M_make_5 : decode b_M_make 5 = .ok (.if_icmp .ge 18, 3) := by decide +kernel
theorem d_M_make_8 : decode b_M_make 8 = .ok (.aload_n 0, 1) := by decide +kernel
theorem d_M_make_9 : decode b_M_make 9 = .ok (.getfield 41, 3) := by decide +kernel
theorem d_M_make_12 : decode b_M_make 12 = .ok (.iload_n 3, 1) := by decide +kernel
theorem d_M_make_13 : decode b_M_make 13 = .ok (.baload, 1) := by decide +kernel
theorem d_M_make_14 : decode b_M_make 14 = .ok (.ifCond .eq 9, 3) := by decide +kernel
theorem d_M_make_17 : decode b_M_make 17 = .ok (.iinc 3 1, 3) := by decide +kernel
theorem d_M_make_20 : decode b_M_make 20 = .ok (.goto (-18), 3) := by decide +kernel
theorem d_M_make_23 : decode b_M_make 23 = .ok (.aload_n 0, 1) := by decide +kernel
theorem d_M_make_24 : decode b_M_make 24 = .ok (.getfield 41, 3) := by decide +kernel
theorem d_M_make_27 : decode b_M_make 27 = .ok (.iload_n 3, 1) := by decide +kernel
theorem d_M_make_28 : decode b_M_make 28 = .ok (.iconst 1, 1) := by decide +kernel
theorem d_M_make_29 : decode b_M_make 29 = .ok (.bastore, 1) := by decide +kernel
theorem d_M_make_30 : decode b_M_make 30 = .ok (.aload_n 0, 1) := by decide +kernel
theorem d_M_make_31 : decode b_M_make 31 = .ok (.getfield 50, 3) := by decide +kernel
theorem d_M_make_34 : decode b_M_make 34 = .ok (.iload_n 3, 1) := by decide +kernel
theorem d_M_make_35 : decode b_M_make 35 = .ok (.iconst (-1), 1) := by decide +kernel
theorem d_M_make_36 : decode b_M_make 36 = .ok (.iastore, 1) := by decide +kernel
theorem d_M_make_37 : decode b_M_make 37 = .ok (.aload_n 0, 1) := by decide +kernel
theorem d_M_make_38 : decode b_M_make 38 = .ok (.getfield 53, 3) := by decide +kernel
theorem d_M_make_41 : decode b_M_make 41 = .ok (.iload_n 3, 1) := by decide +kernel
theorem d_M_make_42 : decode b_M_make 42 = .ok (.iconst (-1), 1) := by decide +kernel
theorem d_M_make_43 : decode b_M_make 43 = .ok (.iastore, 1) := by decide +kernel
theorem d_M_make_44 : decode b_M_make 44 = .ok (.aload_n 0, 1) := by decide +kernel
theorem d_M_make_45 : decode b_M_make 45 = .ok (.getfield 59, 3) := by decide +kernel
theorem d_M_make_48 : decode b_M_make 48 = .ok (.iload_n 1, 1) := by decide +kernel
theorem d_M_make_49 : decode b_M_make 49 = .ok (.iaload, 1) := by decide +kernel
theorem d_M_make_50 : decode b_M_make 50 = .ok (.istore 4, 2) := by decide +kernel
theorem d_M_make_52 : decode b_M_make 52 = .ok (.iload 4, 2) := by decide +kernel
theorem d_M_make_54 : decode b_M_make 54 = .ok (.ifCond .lt 17, 3) := by decide +kernel
theorem d_M_make_57 : decode b_M_make 57 = .ok (.aload_n 0, 1) := by decide +kernel
theorem d_M_make_58 : decode b_M_make 58 = .ok (.getfield 47, 3) := by decide +kernel
theorem d_M_make_61 : decode b_M_make 61 = .ok (.iload 4, 2) := by decide +kernel
theorem d_M_make_63 : decode b_M_make 63 = .ok (.baload, 1) := by decide +kernel
theorem d_M_make_64 : decode b_M_make 64 = .ok (.ifCond .eq 7, 3) := by decide +kernel
theorem d_M_make_67 : decode b_M_make 67 = .ok (.iconst 1, 1) := by decide +kernel
theorem d_M_make_68 : decode b_M_make 68 = .ok (.goto 4, 3) := by decide +kernel
theorem d_M_make_71 : decode b_M_make 71 = .ok (.iconst 0, 1) := by decide +kernel
theorem d_M_make_72 : decode b_M_make 72 = .ok (.istore 5, 2) := by decide +kernel
theorem d_M_make_74 : decode b_M_make 74 = .ok (.aload_n 0, 1) := by decide +kernel
theorem d_M_make_75 : decode b_M_make 75 = .ok (.iload_n 2, 1) := by decide +kernel
theorem d_M_make_76 : decode b_M_make 76 = .ok (.putfield 93, 3) := by decide +kernel
theorem d_M_make_79 : decode b_M_make 79 = .ok (.aload_n 0, 1) := by decide +kernel
theorem d_M_make_80 : decode b_M_make 80 = .ok (.getfield 47, 3) := by decide +kernel
theorem d_M_make_83 : decode b_M_make 83 = .ok (.iload_n 3, 1) := by decide +kernel
theorem d_M_make_84 : decode b_M_make 84 = .ok (.iload 5, 2) := by decide +kernel
theorem d_M_make_86 : decode b_M_make 86 = .ok (.bastore, 1) := by decide +kernel
theorem d_M_make_87 : decode b_M_make 87 = .ok (.iload_n 2, 1) := by decide +kernel
theorem d_M_make_88 : decode b_M_make 88 = .ok (.iconst (-1), 1) := by decide +kernel
theorem d_M_make_89 : decode b_M_make 89 = .ok (.if_icmp .ne 35, 3) := by decide +kernel
theorem d_M_make_92 : decode b_M_make 92 = .ok (.aload_n 0, 1) := by decide +kernel
theorem d_M_make_93 : decode b_M_make 93 = .ok (.getfield 44, 3) := by decide +kernel
theorem d_M_make_96 : decode b_M_make 96 = .ok (.iload_n 3, 1) := by decide +kernel
theorem d_M_make_97 : decode b_M_make 97 = .ok (.iload 4, 2) := by decide +kernel
theorem d_M_make_99 : decode b_M_make 99 = .ok (.ifCond .lt 18, 3) := by decide +kernel
theorem d_M_make_102 : decode b_M_make 102 = .ok (.iload 5, 2) := by decide +kernel
theorem d_M_make_104 : decode b_M_make 104 = .ok (.ifCond .ne 13, 3) := by decide +kernel
theorem d_M_make_107 : decode b_M_make 107 = .ok (.aload_n 0, 1) := by decide +kernel
theorem d_M_make_108 : decode b_M_make 108 = .ok (.getfield 44, 3) := by decide +kernel
theorem d_M_make_111 : decode b_M_make 111 = .ok (.iload 4, 2) := by decide +kernel
theorem d_M_make_113 : decode b_M_make 113 = .ok (.iaload, 1) := by decide +kernel
theorem d_M_make_114 : decode b_M_make 114 = .ok (.goto 7, 3) := by decide +kernel
theorem d_M_make_117 : decode b_M_make 117 = .ok (.aload_n 0, 1) := by decide +kernel
theorem d_M_make_118 : decode b_M_make 118 = .ok (.invokevirtual 96, 3) := by decide +kernel
theorem d_M_make_121 : decode b_M_make 121 = .ok (.iastore, 1) := by decide +kernel
theorem d_M_make_122 : decode b_M_make 122 = .ok (.iload_n 3, 1) := by decide +kernel
theorem d_M_make_123 : decode b_M_make 123 = .ok (.ireturn, 1) := by decide +kernel
theorem d_M_make_124 : decode b_M_make 124 = .ok (.iconst 0, 1) := by decide +kernel
theorem d_M_make_125 : decode b_M_make 125 = .ok (.istore 6, 2) := by decide +kernel
theorem d_M_make_127 : decode b_M_make 127 = .ok (.iload 6, 2) := by decide +kernel
theorem d_M_make_129 : decode b_M_make 129 = .ok (.iconst 4, 1) := by decide +kernel
theorem d_M_make_130 : decode b_M_make 130 = .ok (.if_icmp .ge 66, 3) := by decide +kernel
theorem d_M_make_133 : decode b_M_make 133 = .ok (.aload_n 0, 1) := by decide +kernel
theorem d_M_make_134 : decode b_M_make 134 = .ok (.getfield 7, 3) := by decide +kernel
theorem d_M_make_137 : decode b_M_make 137 = .ok (.aload_n 0, 1) := by decide +kernel
theorem d_M_make_138 : decode b_M_make 138 = .ok (.getfield 93, 3) := by decide +kernel
theorem d_M_make_141 : decode b_M_make 141 = .ok (.bipush 8, 2) := by decide +kernel
theorem d_M_make_143 : decode b_M_make 143 = .ok (.idiv, 1) := by decide +kernel
theorem d_M_make_144 : decode b_M_make 144 = .ok (.iaload, 1) := by decide +kernel
theorem d_M_make_145 : decode b_M_make 145 = .ok (.iconst 1, 1) := by decide +kernel
theorem d_M_make_146 : decode b_M_make 146 = .ok (.if_icmp .ne 50, 3) := by decide +kernel
theorem d_M_make_149 : decode b_M_make 149 = .ok (.aload_n 0, 1) := by decide +kernel
theorem d_M_make_150 : decode b_M_make 150 = .ok (.getfield 13, 3) := by decide +kernel
theorem d_M_make_153 : decode b_M_make 153 = .ok (.aload_n 0, 1) := by decide +kernel
theorem d_M_make_154 : decode b_M_make 154 = .ok (.getfield 93, 3) := by decide +kernel
theorem d_M_make_157 : decode b_M_make 157 = .ok (.bipush 8, 2) := by decide +kernel
theorem d_M_make_159 : decode b_M_make 159 = .ok (.idiv, 1) := by decide +kernel
theorem d_M_make_160 : decode b_M_make 160 = .ok (.iaload, 1) := by decide +kernel
theorem d_M_make_161 : decode b_M_make 161 = .ok (.istore 7, 2) := by decide +kernel
theorem d_M_make_163 : decode b_M_make 163 = .ok (.aload_n 0, 1) := by decide +kernel
theorem d_M_make_164 : decode b_M_make 164 = .ok (.iload 7, 2) := by decide +kernel
theorem d_M_make_166 : decode b_M_make 166 = .ok (.bipush 8, 2) := by decide +kernel
theorem d_M_make_168 : decode b_M_make 168 = .ok (.irem, 1) := by decide +kernel
theorem d_M_make_169 : decode b_M_make 169 = .ok (.ifCond .ne 16, 3) := by decide +kernel
theorem d_M_make_172 : decode b_M_make 172 = .ok (.iload 7, 2) := by decide +kernel
theorem d_M_make_174 : decode b_M_make 174 = .ok (.aload_n 0, 1) := by decide +kernel
theorem d_M_make_175 : decode b_M_make 175 = .ok (.getfield 93, 3) := by decide +kernel
theorem d_M_make_178 : decode b_M_make 178 = .ok (.bipush 8, 2) := by decide +kernel
theorem d_M_make_180 : decode b_M_make 180 = .ok (.irem, 1) := by decide +kernel
theorem d_M_make_181 : decode b_M_make 181 = .ok (.iadd, 1) := by decide +kernel
theorem d_M_make_182 : decode b_M_make 182 = .ok (.goto 5, 3) := by decide +kernel
theorem d_M_make_185 : decode b_M_make 185 = .ok (.iload 7, 2) := by decide +kernel
theorem d_M_make_187 : decode b_M_make 187 = .ok (.putfield 93, 3) := by decide +kernel
theorem d_M_make_190 : decode b_M_make 190 = .ok (.iinc 6 1, 3) := by decide +kernel
theorem d_M_make_193 : decode b_M_make 193 = .ok (.goto (-66), 3) := by decide +kernel
theorem d_M_make_196 : decode b_M_make 196 = .ok (.aload_n 0, 1) := by decide +kernel
theorem d_M_make_197 : decode b_M_make 197 = .ok (.getfield 7, 3) := by decide +kernel
theorem d_M_make_200 : decode b_M_make 200 = .ok (.aload_n 0, 1) := by decide +kernel
theorem d_M_make_201 : decode b_M_make 201 = .ok (.getfield 93, 3) := by decide +kernel
theorem d_M_make_204 : decode b_M_make 204 = .ok (.bipush 8, 2) := by decide +kernel
theorem d_M_make_206 : decode b_M_make 206 = .ok (.idiv, 1) := by decide +kernel
theorem d_M_make_207 : decode b_M_make 207 = .ok (.iaload, 1) := by decide +kernel
theorem d_M_make_208 : decode b_M_make 208 = .ok (.ifCond .eq 22, 3) := by decide +kernel
theorem d_M_make_211 : decode b_M_make 211 = .ok (.aload_n 0, 1) := by decide +kernel
theorem d_M_make_212 : decode b_M_make 212 = .ok (.getfield 47, 3) := by decide +kernel
theorem d_M_make_215 : decode b_M_make 215 = .ok (.iload_n 3, 1) := by decide +kernel
theorem d_M_make_216 : decode b_M_make 216 = .ok (.iconst 0, 1) := by decide +kernel
theorem d_M_make_217 : decode b_M_make 217 = .ok (.bastore, 1) := by decide +kernel
theorem d_M_make_218 : decode b_M_make 218 = .ok (.aload_n 0, 1) := by decide +kernel
theorem d_M_make_219 : decode b_M_make 219 = .ok (.getfield 44, 3) := by decide +kernel
theorem d_M_make_222 : decode b_M_make 222 = .ok (.iload_n 3, 1) := by decide +kernel
theorem d_M_make_223 : decode b_M_make 223 = .ok (.aload_n 0, 1) := by decide +kernel
theorem d_M_make_224 : decode b_M_make 224 = .ok (.invokevirtual 96, 3) := by decide +kernel
theorem d_M_make_227 : decode b_M_make 227 = .ok (.iastore, 1) := by decide +kernel
theorem d_M_make_228 : decode b_M_make 228 = .ok (.iload_n 3, 1) := by decide +kernel
theorem d_M_make_229 : decode b_M_make 229 = .ok (.ireturn, 1) := by decide +kernel
theorem d_M_make_230 : decode b_M_make 230 = .ok (.aload_n 0, 1) := by decide +kernel
theorem d_M_make_231 : decode b_M_make 231 = .ok (.getfield 47, 3) := by decide +kernel
theorem d_M_make_234 : decode b_M_make 234 = .ok (.iload_n 3, 1) := by decide +kernel
theorem d_M_make_235 : decode b_M_make 235 = .ok (.iload 5, 2) := by decide +kernel
theorem d_M_make_237 : decode b_M_make 237 = .ok (.ifCond .ne 18, 3) := by decide +kernel
theorem d_M_make_240 : decode b_M_make 240 = .ok (.aload_n 0, 1) := by decide +kernel
theorem d_M_make_241 : decode b_M_make 241 = .ok (.getfield 19, 3) := by decide +kernel
theorem d_M_make_244 : decode b_M_make 244 = .ok (.aload_n 0, 1) := by decide +kernel
theorem d_M_make_245 : decode b_M_make 245 = .ok (.getfield 93, 3) := by decide +kernel
theorem d_M_make_248 : decode b_M_make 248 = .ok (.bipush 8, 2) := by decide +kernel
theorem d_M_make_250 : decode b_M_make 250 = .ok (.idiv, 1) := by decide +kernel
theorem d_M_make_251 : decode b_M_make 251 = .ok (.baload, 1) := by decide +kernel
theorem d_M_make_252 : decode b_M_make 252 = .ok (.ifCond .eq 7, 3) := by decide +kernel
theorem d_M_make_255 : decode b_M_make 255 = .ok (.iconst 1, 1) := by decide +kernel
theorem d_M_make_256 : decode b_M_make 256 = .ok (.goto 4, 3) := by decide +kernel
theorem d_M_make_259 : decode b_M_make 259 = .ok (.iconst 0, 1) := by decide +kernel
theorem d_M_make_260 : decode b_M_make 260 = .ok (.bastore, 1) := by decide +kernel
theorem d_M_make_261 : decode b_M_make 261 = .ok (.aload_n 0, 1) := by decide +kernel
theorem d_M_make_262 : decode b_M_make 262 = .ok (.getfield 44, 3) := by decide +kernel
theorem d_M_make_265 : decode b_M_make 265 = .ok (.iload_n 3, 1) := by decide +kernel
theorem d_M_make_266 : decode b_M_make 266 = .ok (.aload_n 0, 1) := by decide +kernel
theorem d_M_make_267 : decode b_M_make 267 = .ok (.getfield 47, 3) := by decide +kernel
theorem d_M_make_270 : decode b_M_make 270 = .ok (.iload_n 3, 1) := by decide +kernel
theorem d_M_make_271 : decode b_M_make 271 = .ok (.baload, 1) := by decide +kernel
theorem d_M_make_272 : decode b_M_make 272 = .ok (.ifCond .eq 10, 3) := by decide +kernel
theorem d_M_make_275 : decode b_M_make 275 = .ok (.aload_n 0, 1) := by decide +kernel
theorem d_M_make_276 : decode b_M_make 276 = .ok (.invokevirtual 96, 3) := by decide +kernel
theorem d_M_make_279 : decode b_M_make 279 = .ok (.goto 10, 3) := by decide +kernel
theorem d_M_make_282 : decode b_M_make 282 = .ok (.aload_n 0, 1) := by decide +kernel
theorem d_M_make_283 : decode b_M_make 283 = .ok (.getfield 93, 3) := by decide +kernel
theorem d_M_make_286 : decode b_M_make 286 = .ok (.bipush 64, 2) := by decide +kernel
theorem d_M_make_288 : decode b_M_make 288 = .ok (.idiv, 1) := by decide +kernel
theorem d_M_make_289 : decode b_M_make 289 = .ok (.iastore, 1) := by decide +kernel
theorem d_M_make_290 : decode b_M_make 290 = .ok (.iload_n 3, 1) := by decide +kernel
theorem d_M_make_291 : decode b_M_make 291 = .ok (.ireturn, 1) := by decide +kernel
theorem d_M_freshOrigin_0 : decode b_M_freshOrigin 0 = .ok (.aload_n 0, 1) := by decide +kernel
theorem d_M_freshOrigin_1 : decode b_M_freshOrigin 1 = .ok (.dup, 1) := by decide +kernel
theorem d_M_freshOrigin_2 : decode b_M_freshOrigin 2 = .ok (.getfield 89, 3) := by decide +kernel
theorem d_M_freshOrigin_5 : decode b_M_freshOrigin 5 = .ok (.iconst 1, 1) := by decide +kernel
theorem d_M_freshOrigin_6 : decode b_M_freshOrigin 6 = .ok (.iadd, 1) := by decide +kernel
theorem d_M_freshOrigin_7 : decode b_M_freshOrigin 7 = .ok (.putfield 89, 3) := by decide +kernel
theorem d_M_freshOrigin_10 : decode b_M_freshOrigin 10 = .ok (.iconst 3, 1) := by decide +kernel
theorem d_M_freshOrigin_11 : decode b_M_freshOrigin 11 = .ok (.aload_n 0, 1) := by decide +kernel
theorem d_M_freshOrigin_12 : decode b_M_freshOrigin 12 = .ok (.getfield 89, 3) := by decide +kernel
theorem d_M_freshOrigin_15 : decode b_M_freshOrigin 15 = .ok (.iadd, 1) := by decide +kernel
theorem d_M_freshOrigin_16 : decode b_M_freshOrigin 16 = .ok (.ireturn, 1) := by decide +kernel
theorem d_M_write_0 : decode b_M_write 0 = .ok (.iconst 0, 1) := by decide +kernel
theorem d_M_write_1 : decode b_M_write 1 = .ok (.istore 5, 2) := by decide +kernel
theorem d_M_write_3 : decode b_M_write 3 = .ok (.iload 5, 2) := by decide +kernel
theorem d_M_write_5 : decode b_M_write 5 = .ok (.bipush 47, 2) := by decide +kernel
theorem d_M_write_7 : decode b_M_write 7 = .ok (.if_icmp .ge 19, 3) := by decide +kernel
theorem d_M_write_10 : decode b_M_write 10 = .ok (.aload_n 0, 1) := by decide +kernel
theorem d_M_write_11 : decode b_M_write 11 = .ok (.getfield 38, 3) := by decide +kernel
theorem d_M_write_14 : decode b_M_write 14 = .ok (.iload 5, 2) := by decide +kernel
theorem d_M_write_16 : decode b_M_write 16 = .ok (.baload, 1) := by decide +kernel
theorem d_M_write_17 : decode b_M_write 17 = .ok (.ifCond .eq 9, 3) := by decide +kernel
theorem d_M_write_20 : decode b_M_write 20 = .ok (.iinc 5 1, 3) := by decide +kernel
theorem d_M_write_23 : decode b_M_write 23 = .ok (.goto (-20), 3) := by decide +kernel
theorem d_M_write_26 : decode b_M_write 26 = .ok (.aload_n 0, 1) := by decide +kernel
theorem d_M_write_27 : decode b_M_write 27 = .ok (.getfield 38, 3) := by decide +kernel
theorem d_M_write_30 : decode b_M_write 30 = .ok (.iload 5, 2) := by decide +kernel
theorem d_M_write_32 : decode b_M_write 32 = .ok (.iconst 1, 1) := by decide +kernel
theorem d_M_write_33 : decode b_M_write 33 = .ok (.bastore, 1) := by decide +kernel
theorem d_M_write_34 : decode b_M_write 34 = .ok (.aload_n 0, 1) := by decide +kernel
theorem d_M_write_35 : decode b_M_write 35 = .ok (.getfield 23, 3) := by decide +kernel
theorem d_M_write_38 : decode b_M_write 38 = .ok (.iload 5, 2) := by decide +kernel
theorem d_M_write_40 : decode b_M_write 40 = .ok (.iload_n 1, 1) := by decide +kernel
theorem d_M_write_41 : decode b_M_write 41 = .ok (.iastore, 1) := by decide +kernel
theorem d_M_write_42 : decode b_M_write 42 = .ok (.aload_n 0, 1) := by decide +kernel
theorem d_M_write_43 : decode b_M_write 43 = .ok (.getfield 26, 3) := by decide +kernel
theorem d_M_write_46 : decode b_M_write 46 = .ok (.iload 5, 2) := by decide +kernel
theorem d_M_write_48 : decode b_M_write 48 = .ok (.iload_n 2, 1) := by decide +kernel
theorem d_M_write_49 : decode b_M_write 49 = .ok (.iastore, 1) := by decide +kernel
theorem d_M_write_50 : decode b_M_write 50 = .ok (.aload_n 0, 1) := by decide +kernel
theorem d_M_write_51 : decode b_M_write 51 = .ok (.getfield 29, 3) := by decide +kernel
theorem d_M_write_54 : decode b_M_write 54 = .ok (.iload 5, 2) := by decide +kernel
theorem d_M_write_56 : decode b_M_write 56 = .ok (.iload_n 3, 1) := by decide +kernel
theorem d_M_write_57 : decode b_M_write 57 = .ok (.iastore, 1) := by decide +kernel
theorem d_M_write_58 : decode b_M_write 58 = .ok (.aload_n 0, 1) := by decide +kernel
theorem d_M_write_59 : decode b_M_write 59 = .ok (.getfield 32, 3) := by decide +kernel
theorem d_M_write_62 : decode b_M_write 62 = .ok (.iload 5, 2) := by decide +kernel
theorem d_M_write_64 : decode b_M_write 64 = .ok (.iconst 0, 1) := by decide +kernel
theorem d_M_write_65 : decode b_M_write 65 = .ok (.iastore, 1) := by decide +kernel
theorem d_M_write_66 : decode b_M_write 66 = .ok (.aload_n 0, 1) := by decide +kernel
theorem d_M_write_67 : decode b_M_write 67 = .ok (.getfield 35, 3) := by decide +kernel
theorem d_M_write_70 : decode b_M_write 70 = .ok (.iload 5, 2) := by decide +kernel
theorem d_M_write_72 : decode b_M_write 72 = .ok (.iload 4, 2) := by decide +kernel
theorem d_M_write_74 : decode b_M_write 74 = .ok (.iastore, 1) := by decide +kernel
theorem d_M_write_75 : decode b_M_write 75 = .ok (.iload 5, 2) := by decide +kernel
theorem d_M_write_77 : decode b_M_write 77 = .ok (.ireturn, 1) := by decide +kernel
theorem d_M_mark_0 : decode b_M_mark 0 = .ok (.iconst 0, 1) := by decide +kernel
theorem d_M_mark_1 : decode b_M_mark 1 = .ok (.istore_n 1, 1) := by decide +kernel
theorem d_M_mark_2 : decode b_M_mark 2 = .ok (.iload_n 1, 1) := by decide +kernel
theorem d_M_mark_3 : decode b_M_mark 3 = .ok (.bipush 48, 2) := by decide +kernel
theorem d_M_mark_5 : decode b_M_mark 5 = .ok (.if_icmp .ge 46, 3) := by decide +kernel
theorem d_M_mark_8 : decode b_M_mark 8 = .ok (.aload_n 0, 1) := by decide +kernel
theorem d_M_mark_9 : decode b_M_mark 9 = .ok (.getfield 68, 3) := by decide +kernel
theorem d_M_mark_12 : decode b_M_mark 12 = .ok (.iload_n 1, 1) := by decide +kernel
theorem d_M_mark_13 : decode b_M_mark 13 = .ok (.iconst 0, 1) := by decide +kernel
theorem d_M_mark_14 : decode b_M_mark 14 = .ok (.bastore, 1) := by decide +kernel
theorem d_M_mark_15 : decode b_M_mark 15 = .ok (.aload_n 0, 1) := by decide +kernel
theorem d_M_mark_16 : decode b_M_mark 16 = .ok (.getfield 71, 3) := by decide +kernel
theorem d_M_mark_19 : decode b_M_mark 19 = .ok (.iload_n 1, 1) := by decide +kernel
theorem d_M_mark_20 : decode b_M_mark 20 = .ok (.iload_n 1, 1) := by decide +kernel
theorem d_M_mark_21 : decode b_M_mark 21 = .ok (.ifCond .ne 7, 3) := by decide +kernel
theorem d_M_mark_24 : decode b_M_mark 24 = .ok (.iconst 1, 1) := by decide +kernel
theorem d_M_mark_25 : decode b_M_mark 25 = .ok (.goto 4, 3) := by decide +kernel
theorem d_M_mark_28 : decode b_M_mark 28 = .ok (.iconst 0, 1) := by decide +kernel
theorem d_M_mark_29 : decode b_M_mark 29 = .ok (.bastore, 1) := by decide +kernel
theorem d_M_mark_30 : decode b_M_mark 30 = .ok (.aload_n 0, 1) := by decide +kernel
theorem d_M_mark_31 : decode b_M_mark 31 = .ok (.getfield 62, 3) := by decide +kernel
theorem d_M_mark_34 : decode b_M_mark 34 = .ok (.iload_n 1, 1) := by decide +kernel
theorem d_M_mark_35 : decode b_M_mark 35 = .ok (.iload_n 1, 1) := by decide +kernel
theorem d_M_mark_36 : decode b_M_mark 36 = .ok (.ifCond .ne 7, 3) := by decide +kernel
theorem d_M_mark_39 : decode b_M_mark 39 = .ok (.iconst 1, 1) := by decide +kernel
theorem d_M_mark_40 : decode b_M_mark 40 = .ok (.goto 4, 3) := by decide +kernel
theorem d_M_mark_43 : decode b_M_mark 43 = .ok (.iconst 0, 1) := by decide +kernel
theorem d_M_mark_44 : decode b_M_mark 44 = .ok (.bastore, 1) := by decide +kernel
theorem d_M_mark_45 : decode b_M_mark 45 = .ok (.iinc 1 1, 3) := by decide +kernel
theorem d_M_mark_48 : decode b_M_mark 48 = .ok (.goto (-46), 3) := by decide +kernel
theorem d_M_mark_51 : decode b_M_mark 51 = .ok (.iconst 0, 1) := by decide +kernel
theorem d_M_mark_52 : decode b_M_mark 52 = .ok (.istore_n 1, 1) := by decide +kernel
theorem d_M_mark_53 : decode b_M_mark 53 = .ok (.iload_n 1, 1) := by decide +kernel
theorem d_M_mark_54 : decode b_M_mark 54 = .ok (.iconst 3, 1) := by decide +kernel
theorem d_M_mark_55 : decode b_M_mark 55 = .ok (.if_icmp .ge 88, 3) := by decide +kernel
theorem d_M_mark_58 : decode b_M_mark 58 = .ok (.iconst 0, 1) := by decide +kernel
theorem d_M_mark_59 : decode b_M_mark 59 = .ok (.istore_n 2, 1) := by decide +kernel
theorem d_M_mark_60 : decode b_M_mark 60 = .ok (.iload_n 2, 1) := by decide +kernel
theorem d_M_mark_61 : decode b_M_mark 61 = .ok (.bipush 48, 2) := by decide +kernel
theorem d_M_mark_63 : decode b_M_mark 63 = .ok (.if_icmp .ge 74, 3) := by decide +kernel
theorem d_M_mark_66 : decode b_M_mark 66 = .ok (.aload_n 0, 1) := by decide +kernel
theorem d_M_mark_67 : decode b_M_mark 67 = .ok (.getfield 38, 3) := by decide +kernel
theorem d_M_mark_70 : decode b_M_mark 70 = .ok (.iload_n 2, 1) := by decide +kernel
theorem d_M_mark_71 : decode b_M_mark 71 = .ok (.baload, 1) := by decide +kernel
theorem d_M_mark_72 : decode b_M_mark 72 = .ok (.ifCond .eq 59, 3) := by decide +kernel
theorem d_M_mark_75 : decode b_M_mark 75 = .ok (.aload_n 0, 1) := by decide +kernel
theorem d_M_mark_76 : decode b_M_mark 76 = .ok (.getfield 71, 3) := by decide +kernel
theorem d_M_mark_79 : decode b_M_mark 79 = .ok (.aload_n 0, 1) := by decide +kernel
theorem d_M_mark_80 : decode b_M_mark 80 = .ok (.getfield 23, 3) := by decide +kernel
theorem d_M_mark_83 : decode b_M_mark 83 = .ok (.iload_n 2, 1) := by decide +kernel
theorem d_M_mark_84 : decode b_M_mark 84 = .ok (.iaload, 1) := by decide +kernel
theorem d_M_mark_85 : decode b_M_mark 85 = .ok (.baload, 1) := by decide +kernel
theorem d_M_mark_86 : decode b_M_mark 86 = .ok (.ifCond .eq 45, 3) := by decide +kernel
theorem d_M_mark_89 : decode b_M_mark 89 = .ok (.aload_n 0, 1) := by decide +kernel
theorem d_M_mark_90 : decode b_M_mark 90 = .ok (.getfield 68, 3) := by decide +kernel
theorem d_M_mark_93 : decode b_M_mark 93 = .ok (.aload_n 0, 1) := by decide +kernel
theorem d_M_mark_94 : decode b_M_mark 94 = .ok (.getfield 35, 3) := by decide +kernel
theorem d_M_mark_97 : decode b_M_mark 97 = .ok (.iload_n 2, 1) := by decide +kernel
theorem d_M_mark_98 : decode b_M_mark 98 = .ok (.iaload, 1) := by decide +kernel
theorem d_M_mark_99 : decode b_M_mark 99 = .ok (.iconst 1, 1) := by decide +kernel
theorem d_M_mark_100 : decode b_M_mark 100 = .ok (.bastore, 1) := by decide +kernel
theorem d_M_mark_101 : decode b_M_mark 101 = .ok (.aload_n 0, 1) := by decide +kernel
theorem d_M_mark_102 : decode b_M_mark 102 = .ok (.aload_n 0, 1) := by decide +kernel
theorem d_M_mark_103 : decode b_M_mark 103 = .ok (.getfield 50, 3) := by decide +kernel
theorem d_M_mark_106 : decode b_M_mark 106 = .ok (.aload_n 0, 1) := by decide +kernel
theorem d_M_mark_107 : decode b_M_mark 107 = .ok (.getfield 35, 3) := by decide +kernel
theorem d_M_mark_110 : decode b_M_mark 110 = .ok (.iload_n 2, 1) := by decide +kernel
theorem d_M_mark_111 : decode b_M_mark 111 = .ok (.iaload, 1) := by decide +kernel
theorem d_M_mark_112 : decode b_M_mark 112 = .ok (.iaload, 1) := by decide +kernel
theorem d_M_mark_113 : decode b_M_mark 113 = .ok (.invokevirtual 120, 3) := by decide +kernel
theorem d_M_mark_116 : decode b_M_mark 116 = .ok (.aload_n 0, 1) := by decide +kernel
theorem d_M_mark_117 : decode b_M_mark 117 = .ok (.aload_n 0, 1) := by decide +kernel
theorem d_M_mark_118 : decode b_M_mark 118 = .ok (.getfield 53, 3) := by decide +kernel
theorem d_M_mark_121 : decode b_M_mark 121 = .ok (.aload_n 0, 1) := by decide +kernel
theorem d_M_mark_122 : decode b_M_mark 122 = .ok (.getfield 35, 3) := by decide +kernel
theorem d_M_mark_125 : decode b_M_mark 125 = .ok (.iload_n 2, 1) := by decide +kernel
theorem d_M_mark_126 : decode b_M_mark 126 = .ok (.iaload, 1) := by decide +kernel
theorem d_M_mark_127 : decode b_M_mark 127 = .ok (.iaload, 1) := by decide +kernel
theorem d_M_mark_128 : decode b_M_mark 128 = .ok (.invokevirtual 120, 3) := by decide +kernel
theorem d_M_mark_131 : decode b_M_mark 131 = .ok (.iinc 2 1, 3) := by decide +kernel
theorem d_M_mark_134 : decode b_M_mark 134 = .ok (.goto (-74), 3) := by decide +kernel
theorem d_M_mark_137 : decode b_M_mark 137 = .ok (.iinc 1 1, 3) := by decide +kernel
theorem d_M_mark_140 : decode b_M_mark 140 = .ok (.goto (-87), 3) := by decide +kernel
theorem d_M_mark_143 : decode b_M_mark 143 = .ok (.iconst 0, 1) := by decide +kernel
theorem d_M_mark_144 : decode b_M_mark 144 = .ok (.istore_n 1, 1) := by decide +kernel
theorem d_M_mark_145 : decode b_M_mark 145 = .ok (.iload_n 1, 1) := by decide +kernel
theorem d_M_mark_146 : decode b_M_mark 146 = .ok (.bipush 48, 2) := by decide +kernel
theorem d_M_mark_148 : decode b_M_mark 148 = .ok (.if_icmp .ge 101, 3) := by decide +kernel
theorem d_M_mark_151 : decode b_M_mark 151 = .ok (.aload_n 0, 1) := by decide +kernel
theorem d_M_mark_152 : decode b_M_mark 152 = .ok (.getfield 56, 3) := by decide +kernel
theorem d_M_mark_155 : decode b_M_mark 155 = .ok (.iload_n 1, 1) := by decide +kernel
theorem d_M_mark_156 : decode b_M_mark 156 = .ok (.aload_n 0, 1) := by decide +kernel
theorem d_M_mark_157 : decode b_M_mark 157 = .ok (.getfield 56, 3) := by decide +kernel
theorem d_M_mark_160 : decode b_M_mark 160 = .ok (.iload_n 1, 1) := by decide +kernel
theorem d_M_mark_161 : decode b_M_mark 161 = .ok (.baload, 1) := by decide +kernel
theorem d_M_mark_162 : decode b_M_mark 162 = .ok (.ifCond .eq 16, 3) := by decide +kernel
theorem d_M_mark_165 : decode b_M_mark 165 = .ok (.aload_n 0, 1) := by decide +kernel
theorem d_M_mark_166 : decode b_M_mark 166 = .ok (.getfield 71, 3) := by decide +kernel
theorem d_M_mark_169 : decode b_M_mark 169 = .ok (.iload_n 1, 1) := by decide +kernel
theorem d_M_mark_170 : decode b_M_mark 170 = .ok (.baload, 1) := by decide +kernel
theorem d_M_mark_171 : decode b_M_mark 171 = .ok (.ifCond .eq 7, 3) := by decide +kernel
theorem d_M_mark_174 : decode b_M_mark 174 = .ok (.iconst 1, 1) := by decide +kernel
theorem d_M_mark_175 : decode b_M_mark 175 = .ok (.goto 4, 3) := by decide +kernel
theorem d_M_mark_178 : decode b_M_mark 178 = .ok (.iconst 0, 1) := by decide +kernel
theorem d_M_mark_179 : decode b_M_mark 179 = .ok (.bastore, 1) := by decide +kernel
theorem d_M_mark_180 : decode b_M_mark 180 = .ok (.aload_n 0, 1) := by decide +kernel
theorem d_M_mark_181 : decode b_M_mark 181 = .ok (.getfield 41, 3) := by decide +kernel
theorem d_M_mark_184 : decode b_M_mark 184 = .ok (.iload_n 1, 1) := by decide +kernel
theorem d_M_mark_185 : decode b_M_mark 185 = .ok (.aload_n 0, 1) := by decide +kernel
theorem d_M_mark_186 : decode b_M_mark 186 = .ok (.getfield 41, 3) := by decide +kernel
theorem d_M_mark_189 : decode b_M_mark 189 = .ok (.iload_n 1, 1) := by decide +kernel
theorem d_M_mark_190 : decode b_M_mark 190 = .ok (.baload, 1) := by decide +kernel
theorem d_M_mark_191 : decode b_M_mark 191 = .ok (.ifCond .eq 16, 3) := by decide +kernel
theorem d_M_mark_194 : decode b_M_mark 194 = .ok (.aload_n 0, 1) := by decide +kernel
theorem d_M_mark_195 : decode b_M_mark 195 = .ok (.getfield 68, 3) := by decide +kernel
theorem d_M_mark_198 : decode b_M_mark 198 = .ok (.iload_n 1, 1) := by decide +kernel
theorem d_M_mark_199 : decode b_M_mark 199 = .ok (.baload, 1) := by decide +kernel
theorem d_M_mark_200 : decode b_M_mark 200 = .ok (.ifCond .eq 7, 3) := by decide +kernel
theorem d_M_mark_203 : decode b_M_mark 203 = .ok (.iconst 1, 1) := by decide +kernel
theorem d_M_mark_204 : decode b_M_mark 204 = .ok (.goto 4, 3) := by decide +kernel
theorem d_M_mark_207 : decode b_M_mark 207 = .ok (.iconst 0, 1) := by decide +kernel
theorem d_M_mark_208 : decode b_M_mark 208 = .ok (.bastore, 1) := by decide +kernel
theorem d_M_mark_209 : decode b_M_mark 209 = .ok (.aload_n 0, 1) := by decide +kernel
theorem d_M_mark_210 : decode b_M_mark 210 = .ok (.getfield 38, 3) := by decide +kernel
theorem d_M_mark_213 : decode b_M_mark 213 = .ok (.iload_n 1, 1) := by decide +kernel
theorem d_M_mark_214 : decode b_M_mark 214 = .ok (.aload_n 0, 1) := by decide +kernel
theorem d_M_mark_215 : decode b_M_mark 215 = .ok (.getfield 38, 3) := by decide +kernel
theorem d_M_mark_218 : decode b_M_mark 218 = .ok (.iload_n 1, 1) := by decide +kernel
theorem d_M_mark_219 : decode b_M_mark 219 = .ok (.baload, 1) := by decide +kernel
theorem d_M_mark_220 : decode b_M_mark 220 = .ok (.ifCond .eq 21, 3) := by decide +kernel
theorem d_M_mark_223 : decode b_M_mark 223 = .ok (.aload_n 0, 1) := by decide +kernel
theorem d_M_mark_224 : decode b_M_mark 224 = .ok (.getfield 71, 3) := by decide +kernel
theorem d_M_mark_227 : decode b_M_mark 227 = .ok (.aload_n 0, 1) := by decide +kernel
theorem d_M_mark_228 : decode b_M_mark 228 = .ok (.getfield 23, 3) := by decide +kernel
theorem d_M_mark_231 : decode b_M_mark 231 = .ok (.iload_n 1, 1) := by decide +kernel
theorem d_M_mark_232 : decode b_M_mark 232 = .ok (.iaload, 1) := by decide +kernel
theorem d_M_mark_233 : decode b_M_mark 233 = .ok (.baload, 1) := by decide +kernel
theorem d_M_mark_234 : decode b_M_mark 234 = .ok (.ifCond .eq 7, 3) := by decide +kernel
theorem d_M_mark_237 : decode b_M_mark 237 = .ok (.iconst 1, 1) := by decide +kernel
theorem d_M_mark_238 : decode b_M_mark 238 = .ok (.goto 4, 3) := by decide +kernel
theorem d_M_mark_241 : decode b_M_mark 241 = .ok (.iconst 0, 1) := by decide +kernel
theorem d_M_mark_242 : decode b_M_mark 242 = .ok (.bastore, 1) := by decide +kernel
theorem d_M_mark_243 : decode b_M_mark 243 = .ok (.iinc 1 1, 3) := by decide +kernel
theorem d_M_mark_246 : decode b_M_mark 246 = .ok (.goto (-101), 3) := by decide +kernel
theorem d_M_mark_249 : decode b_M_mark 249 = .ok (.iconst 0, 1) := by decide +kernel
theorem d_M_mark_250 : decode b_M_mark 250 = .ok (.istore_n 1, 1) := by decide +kernel
theorem d_M_mark_251 : decode b_M_mark 251 = .ok (.iload_n 1, 1) := by decide +kernel
theorem d_M_mark_252 : decode b_M_mark 252 = .ok (.iconst 3, 1) := by decide +kernel
theorem d_M_mark_253 : decode b_M_mark 253 = .ok (.if_icmp .ge 46, 3) := by decide +kernel
theorem d_M_mark_256 : decode b_M_mark 256 = .ok (.iconst 0, 1) := by decide +kernel
theorem d_M_mark_257 : decode b_M_mark 257 = .ok (.istore_n 2, 1) := by decide +kernel
theorem d_M_mark_258 : decode b_M_mark 258 = .ok (.iload_n 2, 1) := by decide +kernel
theorem d_M_mark_259 : decode b_M_mark 259 = .ok (.bipush 48, 2) := by decide +kernel
theorem d_M_mark_261 : decode b_M_mark 261 = .ok (.if_icmp .ge 32, 3) := by decide +kernel
theorem d_M_mark_264 : decode b_M_mark 264 = .ok (.aload_n 0, 1) := by decide +kernel
theorem d_M_mark_265 : decode b_M_mark 265 = .ok (.getfield 62, 3) := by decide +kernel
theorem d_M_mark_268 : decode b_M_mark 268 = .ok (.iload_n 2, 1) := by decide +kernel
theorem d_M_mark_269 : decode b_M_mark 269 = .ok (.baload, 1) := by decide +kernel
theorem d_M_mark_270 : decode b_M_mark 270 = .ok (.ifCond .eq 17, 3) := by decide +kernel
theorem d_M_mark_273 : decode b_M_mark 273 = .ok (.aload_n 0, 1) := by decide +kernel
theorem d_M_mark_274 : decode b_M_mark 274 = .ok (.aload_n 0, 1) := by decide +kernel
theorem d_M_mark_275 : decode b_M_mark 275 = .ok (.getfield 35, 3) := by decide +kernel
theorem d_M_mark_278 : decode b_M_mark 278 = .ok (.aload_n 0, 1) := by decide +kernel
theorem d_M_mark_279 : decode b_M_mark 279 = .ok (.iload_n 2, 1) := by decide +kernel
theorem d_M_mark_280 : decode b_M_mark 280 = .ok (.invokevirtual 124, 3) := by decide +kernel
theorem d_M_mark_283 : decode b_M_mark 283 = .ok (.iaload, 1) := by decide +kernel
theorem d_M_mark_284 : decode b_M_mark 284 = .ok (.invokevirtual 127, 3) := by decide +kernel
theorem d_M_mark_287 : decode b_M_mark 287 = .ok (.iinc 2 1, 3) := by decide +kernel
theorem d_M_mark_290 : decode b_M_mark 290 = .ok (.goto (-32), 3) := by decide +kernel
theorem d_M_mark_293 : decode b_M_mark 293 = .ok (.iinc 1 1, 3) := by decide +kernel
theorem d_M_mark_296 : decode b_M_mark 296 = .ok (.goto (-45), 3) := by decide +kernel
theorem d_M_mark_299 : decode b_M_mark 299 = .ok (.return_, 1) := by decide +kernel
end
section
theorem d_M_keep_0 : decode b_M_keep 0 = .ok (.iload_n 1, 1) := by decide +kernel
theorem d_M_keep_1 : decode b_M_keep 1 = .ok (.ifCond .lt 10, 3) := by decide +kernel
theorem d_M_keep_4 : decode b_M_keep 4 = .ok (.aload_n 0, 1) := by decide +kernel
theorem d_M_keep_5 : decode b_M_keep 5 = .ok (.getfield 71, 3) := by decide +kernel
theorem d_M_keep_8 : decode b_M_keep 8 = .ok (.iload_n 1, 1) := by decide +kernel
theorem d_M_keep_9 : decode b_M_keep 9 = .ok (.iconst 1, 1) := by decide +kernel
theorem d_M_keep_10 : decode b_M_keep 10 = .ok (.bastore, 1) := by decide +kernel
theorem d_M_keep_11 : decode b_M_keep 11 = .ok (.return_, 1) := by decide +kernel
theorem d_M_presentOf_0 : decode b_M_presentOf 0 = .ok (.iconst 0, 1) := by decide +kernel
theorem d_M_presentOf_1 : decode b_M_presentOf 1 = .ok (.istore_n 2, 1) := by decide +kernel
theorem d_M_presentOf_2 : decode b_M_presentOf 2 = .ok (.iconst (-1), 1) := by decide +kernel
theorem d_M_presentOf_3 : decode b_M_presentOf 3 = .ok (.istore_n 3, 1) := by decide +kernel
theorem d_M_presentOf_4 : decode b_M_presentOf 4 = .ok (.iconst 0, 1) := by decide +kernel
theorem d_M_presentOf_5 : decode b_M_presentOf 5 = .ok (.istore 4, 2) := by decide +kernel
theorem d_M_presentOf_7 : decode b_M_presentOf 7 = .ok (.iload 4, 2) := by decide +kernel
theorem d_M_presentOf_9 : decode b_M_presentOf 9 = .ok (.bipush 48, 2) := by decide +kernel
theorem d_M_presentOf_11 : decode b_M_presentOf 11 = .ok (.if_icmp .ge 66, 3) := by decide +kernel
theorem d_M_presentOf_14 : decode b_M_presentOf 14 = .ok (.aload_n 0, 1) := by decide +kernel
theorem d_M_presentOf_15 : decode b_M_presentOf 15 = .ok (.getfield 38, 3) := by decide +kernel
theorem d_M_presentOf_18 : decode b_M_presentOf 18 = .ok (.iload 4, 2) := by decide +kernel
theorem d_M_presentOf_20 : decode b_M_presentOf 20 = .ok (.baload, 1) := by decide +kernel
theorem d_M_presentOf_21 : decode b_M_presentOf 21 = .ok (.ifCond .eq 50, 3) := by decide +kernel
theorem d_M_presentOf_24 : decode b_M_presentOf 24 = .ok (.aload_n 0, 1) := by decide +kernel
theorem d_M_presentOf_25 : decode b_M_presentOf 25 = .ok (.getfield 23, 3) := by decide +kernel
theorem d_M_presentOf_28 : decode b_M_presentOf 28 = .ok (.iload 4, 2) := by decide +kernel
theorem d_M_presentOf_30 : decode b_M_presentOf 30 = .ok (.iaload, 1) := by decide +kernel
theorem d_M_presentOf_31 : decode b_M_presentOf 31 = .ok (.iload_n 1, 1) := by decide +kernel
theorem d_M_presentOf_32 : decode b_M_presentOf 32 = .ok (.if_icmp .ne 39, 3) := by decide +kernel
theorem d_M_presentOf_35 : decode b_M_presentOf 35 = .ok (.aload_n 0, 1) := by decide +kernel
theorem d_M_presentOf_36 : decode b_M_presentOf 36 = .ok (.getfield 26, 3) := by decide +kernel
theorem d_M_presentOf_39 : decode b_M_presentOf 39 = .ok (.iload 4, 2) := by decide +kernel
theorem d_M_presentOf_41 : decode b_M_presentOf 41 = .ok (.iaload, 1) := by decide +kernel
theorem d_M_presentOf_42 : decode b_M_presentOf 42 = .ok (.aload_n 0, 1) := by decide +kernel
theorem d_M_presentOf_43 : decode b_M_presentOf 43 = .ok (.getfield 130, 3) := by decide +kernel
theorem d_M_presentOf_46 : decode b_M_presentOf 46 = .ok (.if_icmp .gt 25, 3) := by decide +kernel
theorem d_M_presentOf_49 : decode b_M_presentOf 49 = .ok (.aload_n 0, 1) := by decide +kernel
theorem d_M_presentOf_50 : decode b_M_presentOf 50 = .ok (.getfield 26, 3) := by decide +kernel
theorem d_M_presentOf_53 : decode b_M_presentOf 53 = .ok (.iload 4, 2) := by decide +kernel
theorem d_M_presentOf_55 : decode b_M_presentOf 55 = .ok (.iaload, 1) := by decide +kernel
theorem d_M_presentOf_56 : decode b_M_presentOf 56 = .ok (.iload_n 3, 1) := by decide +kernel
theorem d_M_presentOf_57 : decode b_M_presentOf 57 = .ok (.if_icmp .le 14, 3) := by decide +kernel
theorem d_M_presentOf_60 : decode b_M_presentOf 60 = .ok (.iload 4, 2) := by decide +kernel
theorem d_M_presentOf_62 : decode b_M_presentOf 62 = .ok (.istore_n 2, 1) := by decide +kernel
theorem d_M_presentOf_63 : decode b_M_presentOf 63 = .ok (.aload_n 0, 1) := by decide +kernel
theorem d_M_presentOf_64 : decode b_M_presentOf 64 = .ok (.getfield 26, 3) := by decide +kernel
theorem d_M_presentOf_67 : decode b_M_presentOf 67 = .ok (.iload 4, 2) := by decide +kernel
theorem d_M_presentOf_69 : decode b_M_presentOf 69 = .ok (.iaload, 1) := by decide +kernel
theorem d_M_presentOf_70 : decode b_M_presentOf 70 = .ok (.istore_n 3, 1) := by decide +kernel
theorem d_M_presentOf_71 : decode b_M_presentOf 71 = .ok (.iinc 4 1, 3) := by decide +kernel
theorem d_M_presentOf_74 : decode b_M_presentOf 74 = .ok (.goto (-67), 3) := by decide +kernel
theorem d_M_presentOf_77 : decode b_M_presentOf 77 = .ok (.iload_n 2, 1) := by decide +kernel
theorem d_M_presentOf_78 : decode b_M_presentOf 78 = .ok (.ireturn, 1) := by decide +kernel
theorem d_M_show_0 : decode b_M_show 0 = .ok (.aload_n 0, 1) := by decide +kernel
theorem d_M_show_1 : decode b_M_show 1 = .ok (.getfield 50, 3) := by decide +kernel
theorem d_M_show_4 : decode b_M_show 4 = .ok (.iload_n 1, 1) := by decide +kernel
theorem d_M_show_5 : decode b_M_show 5 = .ok (.iaload, 1) := by decide +kernel
theorem d_M_show_6 : decode b_M_show 6 = .ok (.ifCond .lt 15, 3) := by decide +kernel
theorem d_M_show_9 : decode b_M_show 9 = .ok (.aload_n 0, 1) := by decide +kernel
theorem d_M_show_10 : decode b_M_show 10 = .ok (.getfield 62, 3) := by decide +kernel
theorem d_M_show_13 : decode b_M_show 13 = .ok (.aload_n 0, 1) := by decide +kernel
theorem d_M_show_14 : decode b_M_show 14 = .ok (.getfield 50, 3) := by decide +kernel
theorem d_M_show_17 : decode b_M_show 17 = .ok (.iload_n 1, 1) := by decide +kernel
theorem d_M_show_18 : decode b_M_show 18 = .ok (.iaload, 1) := by decide +kernel
theorem d_M_show_19 : decode b_M_show 19 = .ok (.iconst 1, 1) := by decide +kernel
theorem d_M_show_20 : decode b_M_show 20 = .ok (.bastore, 1) := by decide +kernel
theorem d_M_show_21 : decode b_M_show 21 = .ok (.aload_n 0, 1) := by decide +kernel
theorem d_M_show_22 : decode b_M_show 22 = .ok (.getfield 53, 3) := by decide +kernel
theorem d_M_show_25 : decode b_M_show 25 = .ok (.iload_n 1, 1) := by decide +kernel
theorem d_M_show_26 : decode b_M_show 26 = .ok (.iaload, 1) := by decide +kernel
theorem d_M_show_27 : decode b_M_show 27 = .ok (.ifCond .lt 15, 3) := by decide +kernel
theorem d_M_show_30 : decode b_M_show 30 = .ok (.aload_n 0, 1) := by decide +kernel
theorem d_M_show_31 : decode b_M_show 31 = .ok (.getfield 62, 3) := by decide +kernel
theorem d_M_show_34 : decode b_M_show 34 = .ok (.aload_n 0, 1) := by decide +kernel
theorem d_M_show_35 : decode b_M_show 35 = .ok (.getfield 53, 3) := by decide +kernel
theorem d_M_show_38 : decode b_M_show 38 = .ok (.iload_n 1, 1) := by decide +kernel
theorem d_M_show_39 : decode b_M_show 39 = .ok (.iaload, 1) := by decide +kernel
theorem d_M_show_40 : decode b_M_show 40 = .ok (.iconst 1, 1) := by decide +kernel
theorem d_M_show_41 : decode b_M_show 41 = .ok (.bastore, 1) := by decide +kernel
theorem d_M_show_42 : decode b_M_show 42 = .ok (.return_, 1) := by decide +kernel
theorem d_M_content_0 : decode b_M_content 0 = .ok (.iload_n 1, 1) := by decide +kernel
theorem d_M_content_1 : decode b_M_content 1 = .ok (.iconst 0, 1) := by decide +kernel
theorem d_M_content_2 : decode b_M_content 2 = .ok (.bipush 31, 2) := by decide +kernel
theorem d_M_content_4 : decode b_M_content 4 = .ok (.invokestatic 85, 3) := by decide +kernel
theorem d_M_content_7 : decode b_M_content 7 = .ok (.ifCond .eq 27, 3) := by decide +kernel
theorem d_M_content_10 : decode b_M_content 10 = .ok (.iload_n 2, 1) := by decide +kernel
theorem d_M_content_11 : decode b_M_content 11 = .ok (.bipush (-2), 2) := by decide +kernel
theorem d_M_content_13 : decode b_M_content 13 = .ok (.sipush 255, 3) := by decide +kernel
theorem d_M_content_16 : decode b_M_content 16 = .ok (.invokestatic 85, 3) := by decide +kernel
theorem d_M_content_19 : decode b_M_content 19 = .ok (.ifCond .eq 15, 3) := by decide +kernel
theorem d_M_content_22 : decode b_M_content 22 = .ok (.iload_n 3, 1) := by decide +kernel
theorem d_M_content_23 : decode b_M_content 23 = .ok (.bipush (-2), 2) := by decide +kernel
theorem d_M_content_25 : decode b_M_content 25 = .ok (.sipush 255, 3) := by decide +kernel
theorem d_M_content_28 : decode b_M_content 28 = .ok (.invokestatic 85, 3) := by decide +kernel
theorem d_M_content_31 : decode b_M_content 31 = .ok (.ifCond .ne 5, 3) := by decide +kernel
theorem d_M_content_34 : decode b_M_content 34 = .ok (.iconst 0, 1) := by decide +kernel
theorem d_M_content_35 : decode b_M_content 35 = .ok (.ireturn, 1) := by decide +kernel
theorem d_M_content_36 : decode b_M_content 36 = .ok (.aload_n 0, 1) := by decide +kernel
theorem d_M_content_37 : decode b_M_content 37 = .ok (.getfield 7, 3) := by decide +kernel
theorem d_M_content_40 : decode b_M_content 40 = .ok (.iload_n 1, 1) := by decide +kernel
theorem d_M_content_41 : decode b_M_content 41 = .ok (.iconst 0, 1) := by decide +kernel
theorem d_M_content_42 : decode b_M_content 42 = .ok (.iastore, 1) := by decide +kernel
theorem d_M_content_43 : decode b_M_content 43 = .ok (.aload_n 0, 1) := by decide +kernel
theorem d_M_content_44 : decode b_M_content 44 = .ok (.getfield 13, 3) := by decide +kernel
theorem d_M_content_47 : decode b_M_content 47 = .ok (.iload_n 1, 1) := by decide +kernel
theorem d_M_content_48 : decode b_M_content 48 = .ok (.iload_n 2, 1) := by decide +kernel
theorem d_M_content_49 : decode b_M_content 49 = .ok (.iastore, 1) := by decide +kernel
theorem d_M_content_50 : decode b_M_content 50 = .ok (.aload_n 0, 1) := by decide +kernel
theorem d_M_content_51 : decode b_M_content 51 = .ok (.getfield 16, 3) := by decide +kernel
theorem d_M_content_54 : decode b_M_content 54 = .ok (.iload_n 1, 1) := by decide +kernel
theorem d_M_content_55 : decode b_M_content 55 = .ok (.iload_n 3, 1) := by decide +kernel
theorem d_M_content_56 : decode b_M_content 56 = .ok (.iastore, 1) := by decide +kernel
theorem d_M_content_57 : decode b_M_content 57 = .ok (.aload_n 0, 1) := by decide +kernel
theorem d_M_content_58 : decode b_M_content 58 = .ok (.getfield 19, 3) := by decide +kernel
theorem d_M_content_61 : decode b_M_content 61 = .ok (.iload_n 1, 1) := by decide +kernel
theorem d_M_content_62 : decode b_M_content 62 = .ok (.iload 4, 2) := by decide +kernel
theorem d_M_content_64 : decode b_M_content 64 = .ok (.bastore, 1) := by decide +kernel
theorem d_M_content_65 : decode b_M_content 65 = .ok (.iconst 1, 1) := by decide +kernel
theorem d_M_content_66 : decode b_M_content 66 = .ok (.ireturn, 1) := by decide +kernel
theorem d_M_between_0 : decode b_M_between 0 = .ok (.iload_n 0, 1) := by decide +kernel
theorem d_M_between_1 : decode b_M_between 1 = .ok (.iload_n 1, 1) := by decide +kernel
theorem d_M_between_2 : decode b_M_between 2 = .ok (.if_icmp .lt 12, 3) := by decide +kernel
theorem d_M_between_5 : decode b_M_between 5 = .ok (.iload_n 0, 1) := by decide +kernel
theorem d_M_between_6 : decode b_M_between 6 = .ok (.iload_n 2, 1) := by decide +kernel
theorem d_M_between_7 : decode b_M_between 7 = .ok (.if_icmp .gt 7, 3) := by decide +kernel
theorem d_M_between_10 : decode b_M_between 10 = .ok (.iconst 1, 1) := by decide +kernel
theorem d_M_between_11 : decode b_M_between 11 = .ok (.goto 4, 3) := by decide +kernel
theorem d_M_between_14 : decode b_M_between 14 = .ok (.iconst 0, 1) := by decide +kernel
theorem d_M_between_15 : decode b_M_between 15 = .ok (.ireturn, 1) := by decide +kernel
theorem d_M_detour_0 : decode b_M_detour 0 = .ok (.iload_n 1, 1) := by decide +kernel
theorem d_M_detour_1 : decode b_M_detour 1 = .ok (.iconst 0, 1) := by decide +kernel
theorem d_M_detour_2 : decode b_M_detour 2 = .ok (.bipush 31, 2) := by decide +kernel
theorem d_M_detour_4 : decode b_M_detour 4 = .ok (.invokestatic 85, 3) := by decide +kernel
theorem d_M_detour_7 : decode b_M_detour 7 = .ok (.ifCond .eq 14, 3) := by decide +kernel
theorem d_M_detour_10 : decode b_M_detour 10 = .ok (.iload_n 2, 1) := by decide +kernel
theorem d_M_detour_11 : decode b_M_detour 11 = .ok (.iconst 0, 1) := by decide +kernel
theorem d_M_detour_12 : decode b_M_detour 12 = .ok (.sipush 255, 3) := by decide +kernel
theorem d_M_detour_15 : decode b_M_detour 15 = .ok (.invokestatic 85, 3) := by decide +kernel
theorem d_M_detour_18 : decode b_M_detour 18 = .ok (.ifCond .ne 5, 3) := by decide +kernel
theorem d_M_detour_21 : decode b_M_detour 21 = .ok (.iconst 0, 1) := by decide +kernel
theorem d_M_detour_22 : decode b_M_detour 22 = .ok (.ireturn, 1) := by decide +kernel
theorem d_M_detour_23 : decode b_M_detour 23 = .ok (.aload_n 0, 1) := by decide +kernel
theorem d_M_detour_24 : decode b_M_detour 24 = .ok (.getfield 7, 3) := by decide +kernel
theorem d_M_detour_27 : decode b_M_detour 27 = .ok (.iload_n 1, 1) := by decide +kernel
theorem d_M_detour_28 : decode b_M_detour 28 = .ok (.iconst 1, 1) := by decide +kernel
theorem d_M_detour_29 : decode b_M_detour 29 = .ok (.iastore, 1) := by decide +kernel
theorem d_M_detour_30 : decode b_M_detour 30 = .ok (.aload_n 0, 1) := by decide +kernel
theorem d_M_detour_31 : decode b_M_detour 31 = .ok (.getfield 13, 3) := by decide +kernel
theorem d_M_detour_34 : decode b_M_detour 34 = .ok (.iload_n 1, 1) := by decide +kernel
theorem d_M_detour_35 : decode b_M_detour 35 = .ok (.iload_n 2, 1) := by decide +kernel
theorem d_M_detour_36 : decode b_M_detour 36 = .ok (.iastore, 1) := by decide +kernel
theorem d_M_detour_37 : decode b_M_detour 37 = .ok (.iconst 1, 1) := by decide +kernel
theorem d_M_detour_38 : decode b_M_detour 38 = .ok (.ireturn, 1) := by decide +kernel
theorem d_M_fault_0 : decode b_M_fault 0 = .ok (.iload_n 1, 1) := by decide +kernel
theorem d_M_fault_1 : decode b_M_fault 1 = .ok (.iconst 0, 1) := by decide +kernel
theorem d_M_fault_2 : decode b_M_fault 2 = .ok (.bipush 31, 2) := by decide +kernel
theorem d_M_fault_4 : decode b_M_fault 4 = .ok (.invokestatic 85, 3) := by decide +kernel
theorem d_M_fault_7 : decode b_M_fault 7 = .ok (.ifCond .ne 5, 3) := by decide +kernel
theorem d_M_fault_10 : decode b_M_fault 10 = .ok (.iconst 0, 1) := by decide +kernel
theorem d_M_fault_11 : decode b_M_fault 11 = .ok (.ireturn, 1) := by decide +kernel
theorem d_M_fault_12 : decode b_M_fault 12 = .ok (.aload_n 0, 1) := by decide +kernel
theorem d_M_fault_13 : decode b_M_fault 13 = .ok (.getfield 7, 3) := by decide +kernel
theorem d_M_fault_16 : decode b_M_fault 16 = .ok (.iload_n 1, 1) := by decide +kernel
theorem d_M_fault_17 : decode b_M_fault 17 = .ok (.iconst 2, 1) := by decide +kernel
theorem d_M_fault_18 : decode b_M_fault 18 = .ok (.iastore, 1) := by decide +kernel
theorem d_M_fault_19 : decode b_M_fault 19 = .ok (.iconst 1, 1) := by decide +kernel
theorem d_M_fault_20 : decode b_M_fault 20 = .ok (.ireturn, 1) := by decide +kernel
theorem d_M_navigate_0 : decode b_M_navigate 0 = .ok (.iload_n 2, 1) := by decide +kernel
theorem d_M_navigate_1 : decode b_M_navigate 1 = .ok (.iconst (-1), 1) := by decide +kernel
theorem d_M_navigate_2 : decode b_M_navigate 2 = .ok (.sipush 255, 3) := by decide +kernel
theorem d_M_navigate_5 : decode b_M_navigate 5 = .ok (.invokestatic 85, 3) := by decide +kernel
theorem d_M_navigate_8 : decode b_M_navigate 8 = .ok (.ifCond .ne 6, 3) := by decide +kernel
theorem d_M_navigate_11 : decode b_M_navigate 11 = .ok (.bipush (-3), 2) := by decide +kernel
theorem d_M_navigate_13 : decode b_M_navigate 13 = .ok (.ireturn, 1) := by decide +kernel
theorem d_M_navigate_14 : decode b_M_navigate 14 = .ok (.aload_n 0, 1) := by decide +kernel
theorem d_M_navigate_15 : decode b_M_navigate 15 = .ok (.iload_n 1, 1) := by decide +kernel
theorem d_M_navigate_16 : decode b_M_navigate 16 = .ok (.invokevirtual 146, 3) := by decide +kernel
theorem d_M_navigate_19 : decode b_M_navigate 19 = .ok (.ifCond .ne 6, 3) := by decide +kernel
theorem d_M_navigate_22 : decode b_M_navigate 22 = .ok (.bipush (-4), 2) := by decide +kernel
theorem d_M_navigate_24 : decode b_M_navigate 24 = .ok (.ireturn, 1) := by decide +kernel
theorem d_M_navigate_25 : decode b_M_navigate 25 = .ok (.aload_n 0, 1) := by decide +kernel
theorem d_M_navigate_26 : decode b_M_navigate 26 = .ok (.iload_n 1, 1) := by decide +kernel
theorem d_M_navigate_27 : decode b_M_navigate 27 = .ok (.invokevirtual 124, 3) := by decide +kernel
theorem d_M_navigate_30 : decode b_M_navigate 30 = .ok (.istore 4, 2) := by decide +kernel
theorem d_M_navigate_32 : decode b_M_navigate 32 = .ok (.aload_n 0, 1) := by decide +kernel
theorem d_M_navigate_33 : decode b_M_navigate 33 = .ok (.getfield 29, 3) := by decide +kernel
theorem d_M_navigate_36 : decode b_M_navigate 36 = .ok (.iload 4, 2) := by decide +kernel
theorem d_M_navigate_38 : decode b_M_navigate 38 = .ok (.iaload, 1) := by decide +kernel
theorem d_M_navigate_39 : decode b_M_navigate 39 = .ok (.istore 5, 2) := by decide +kernel
theorem d_M_navigate_41 : decode b_M_navigate 41 = .ok (.iload_n 3, 1) := by decide +kernel
theorem d_M_navigate_42 : decode b_M_navigate 42 = .ok (.ifCond .ne 13, 3) := by decide +kernel
theorem d_M_navigate_45 : decode b_M_navigate 45 = .ok (.iload_n 2, 1) := by decide +kernel
theorem d_M_navigate_46 : decode b_M_navigate 46 = .ok (.iload 5, 2) := by decide +kernel
theorem d_M_navigate_48 : decode b_M_navigate 48 = .ok (.if_icmp .eq 7, 3) := by decide +kernel
theorem d_M_navigate_51 : decode b_M_navigate 51 = .ok (.iconst 1, 1) := by decide +kernel
theorem d_M_navigate_52 : decode b_M_navigate 52 = .ok (.goto 4, 3) := by decide +kernel
theorem d_M_navigate_55 : decode b_M_navigate 55 = .ok (.iconst 0, 1) := by decide +kernel
theorem d_M_navigate_56 : decode b_M_navigate 56 = .ok (.istore 6, 2) := by decide +kernel
theorem d_M_navigate_58 : decode b_M_navigate 58 = .ok (.aload_n 0, 1) := by decide +kernel
theorem d_M_navigate_59 : decode b_M_navigate 59 = .ok (.iload 6, 2) := by decide +kernel
theorem d_M_navigate_61 : decode b_M_navigate 61 = .ok (.invokevirtual 149, 3) := by decide +kernel
theorem d_M_navigate_64 : decode b_M_navigate 64 = .ok (.ifCond .eq 6, 3) := by decide +kernel
theorem d_M_navigate_67 : decode b_M_navigate 67 = .ok (.bipush (-5), 2) := by decide +kernel
theorem d_M_navigate_69 : decode b_M_navigate 69 = .ok (.ireturn, 1) := by decide +kernel
theorem d_M_navigate_70 : decode b_M_navigate 70 = .ok (.iload_n 2, 1) := by decide +kernel
theorem d_M_navigate_71 : decode b_M_navigate 71 = .ok (.iconst (-1), 1) := by decide +kernel
theorem d_M_navigate_72 : decode b_M_navigate 72 = .ok (.if_icmp .eq 32, 3) := by decide +kernel
theorem d_M_navigate_75 : decode b_M_navigate 75 = .ok (.iload_n 2, 1) := by decide +kernel
theorem d_M_navigate_76 : decode b_M_navigate 76 = .ok (.invokestatic 153, 3) := by decide +kernel
theorem d_M_navigate_79 : decode b_M_navigate 79 = .ok (.ifCond .eq 25, 3) := by decide +kernel
theorem d_M_navigate_82 : decode b_M_navigate 82 = .ok (.iload 5, 2) := by decide +kernel
theorem d_M_navigate_84 : decode b_M_navigate 84 = .ok (.iconst (-1), 1) := by decide +kernel
theorem d_M_navigate_85 : decode b_M_navigate 85 = .ok (.if_icmp .eq 19, 3) := by decide +kernel
theorem d_M_navigate_88 : decode b_M_navigate 88 = .ok (.iload 5, 2) := by decide +kernel
theorem d_M_navigate_90 : decode b_M_navigate 90 = .ok (.bipush 8, 2) := by decide +kernel
theorem d_M_navigate_92 : decode b_M_navigate 92 = .ok (.idiv, 1) := by decide +kernel
theorem d_M_navigate_93 : decode b_M_navigate 93 = .ok (.iload_n 2, 1) := by decide +kernel
theorem d_M_navigate_94 : decode b_M_navigate 94 = .ok (.bipush 8, 2) := by decide +kernel
theorem d_M_navigate_96 : decode b_M_navigate 96 = .ok (.idiv, 1) := by decide +kernel
theorem d_M_navigate_97 : decode b_M_navigate 97 = .ok (.if_icmp .ne 7, 3) := by decide +kernel
theorem d_M_navigate_100 : decode b_M_navigate 100 = .ok (.iconst 1, 1) := by decide +kernel
theorem d_M_navigate_101 : decode b_M_navigate 101 = .ok (.goto 4, 3) := by decide +kernel
theorem d_M_navigate_104 : decode b_M_navigate 104 = .ok (.iconst 0, 1) := by decide +kernel
theorem d_M_navigate_105 : decode b_M_navigate 105 = .ok (.istore 7, 2) := by decide +kernel
theorem d_M_navigate_107 : decode b_M_navigate 107 = .ok (.iload 7, 2) := by decide +kernel
theorem d_M_navigate_109 : decode b_M_navigate 109 = .ok (.ifCond .eq 19, 3) := by decide +kernel
theorem d_M_navigate_112 : decode b_M_navigate 112 = .ok (.iload_n 2, 1) := by decide +kernel
theorem d_M_navigate_113 : decode b_M_navigate 113 = .ok (.iload 5, 2) := by decide +kernel
theorem d_M_navigate_115 : decode b_M_navigate 115 = .ok (.if_icmp .eq 13, 3) := by decide +kernel
theorem d_M_navigate_118 : decode b_M_navigate 118 = .ok (.aload_n 0, 1) := by decide +kernel
theorem d_M_navigate_119 : decode b_M_navigate 119 = .ok (.dup, 1) := by decide +kernel
theorem d_M_navigate_120 : decode b_M_navigate 120 = .ok (.getfield 156, 3) := by decide +kernel
theorem d_M_navigate_123 : decode b_M_navigate 123 = .ok (.iconst 1, 1) := by decide +kernel
theorem d_M_navigate_124 : decode b_M_navigate 124 = .ok (.iadd, 1) := by decide +kernel
theorem d_M_navigate_125 : decode b_M_navigate 125 = .ok (.putfield 156, 3) := by decide +kernel
theorem d_M_navigate_128 : decode b_M_navigate 128 = .ok (.aload_n 0, 1) := by decide +kernel
theorem d_M_navigate_129 : decode b_M_navigate 129 = .ok (.iload_n 1, 1) := by decide +kernel
theorem d_M_navigate_130 : decode b_M_navigate 130 = .ok (.iload_n 2, 1) := by decide +kernel
theorem d_M_navigate_131 : decode b_M_navigate 131 = .ok (.iconst 0, 1) := by decide +kernel
theorem d_M_navigate_132 : decode b_M_navigate 132 = .ok (.iload 6, 2) := by decide +kernel
theorem d_M_navigate_134 : decode b_M_navigate 134 = .ok (.iload 7, 2) := by decide +kernel
theorem d_M_navigate_136 : decode b_M_navigate 136 = .ok (.ifCond .eq 13, 3) := by decide +kernel
theorem d_M_navigate_139 : decode b_M_navigate 139 = .ok (.aload_n 0, 1) := by decide +kernel
theorem d_M_navigate_140 : decode b_M_navigate 140 = .ok (.getfield 35, 3) := by decide +kernel
theorem d_M_navigate_143 : decode b_M_navigate 143 = .ok (.iload 4, 2) := by decide +kernel
theorem d_M_navigate_145 : decode b_M_navigate 145 = .ok (.iaload, 1) := by decide +kernel
theorem d_M_navigate_146 : decode b_M_navigate 146 = .ok (.goto 4, 3) := by decide +kernel
theorem d_M_navigate_149 : decode b_M_navigate 149 = .ok (.iconst (-1), 1) := by decide +kernel
theorem d_M_navigate_150 : decode b_M_navigate 150 = .ok (.invokevirtual 159, 3) := by decide +kernel
theorem d_M_navigate_153 : decode b_M_navigate 153 = .ok (.aload_n 0, 1) := by decide +kernel
theorem d_M_navigate_154 : decode b_M_navigate 154 = .ok (.getfield 130, 3) := by decide +kernel
theorem d_M_navigate_157 : decode b_M_navigate 157 = .ok (.ireturn, 1) := by decide +kernel
theorem d_M_isShown_0 : decode b_M_isShown 0 = .ok (.iload_n 1, 1) := by decide +kernel
theorem d_M_isShown_1 : decode b_M_isShown 1 = .ok (.iconst 0, 1) := by decide +kernel
theorem d_M_isShown_2 : decode b_M_isShown 2 = .ok (.bipush 47, 2) := by decide +kernel
theorem d_M_isShown_4 : decode b_M_isShown 4 = .ok (.invokestatic 85, 3) := by decide +kernel
theorem d_M_isShown_7 : decode b_M_isShown 7 = .ok (.ifCond .eq 16, 3) := by decide +kernel
theorem d_M_isShown_10 : decode b_M_isShown 10 = .ok (.aload_n 0, 1) := by decide +kernel
theorem d_M_isShown_11 : decode b_M_isShown 11 = .ok (.getfield 62, 3) := by decide +kernel
theorem d_M_isShown_14 : decode b_M_isShown 14 = .ok (.iload_n 1, 1) := by decide +kernel
theorem d_M_isShown_15 : decode b_M_isShown 15 = .ok (.baload, 1) := by decide +kernel
theorem d_M_isShown_16 : decode b_M_isShown 16 = .ok (.ifCond .eq 7, 3) := by decide +kernel
theorem d_M_isShown_19 : decode b_M_isShown 19 = .ok (.iconst 1, 1) := by decide +kernel
theorem d_M_isShown_20 : decode b_M_isShown 20 = .ok (.goto 4, 3) := by decide +kernel
theorem d_M_isShown_23 : decode b_M_isShown 23 = .ok (.iconst 0, 1) := by decide +kernel
theorem d_M_isShown_24 : decode b_M_isShown 24 = .ok (.ireturn, 1) := by decide +kernel
theorem d_M_full_0 : decode b_M_full 0 = .ok (.iconst 0, 1) := by decide +kernel
theorem d_M_full_1 : decode b_M_full 1 = .ok (.istore_n 2, 1) := by decide +kernel
theorem d_M_full_2 : decode b_M_full 2 = .ok (.iconst 0, 1) := by decide +kernel
theorem d_M_full_3 : decode b_M_full 3 = .ok (.istore_n 3, 1) := by decide +kernel
theorem d_M_full_4 : decode b_M_full 4 = .ok (.iload_n 3, 1) := by decide +kernel
theorem d_M_full_5 : decode b_M_full 5 = .ok (.bipush 48, 2) := by decide +kernel
theorem d_M_full_7 : decode b_M_full 7 = .ok (.if_icmp .ge 43, 3) := by decide +kernel
theorem d_M_full_10 : decode b_M_full 10 = .ok (.aload_n 0, 1) := by decide +kernel
theorem d_M_full_11 : decode b_M_full 11 = .ok (.getfield 38, 3) := by decide +kernel
theorem d_M_full_14 : decode b_M_full 14 = .ok (.iload_n 3, 1) := by decide +kernel
theorem d_M_full_15 : decode b_M_full 15 = .ok (.baload, 1) := by decide +kernel
theorem d_M_full_16 : decode b_M_full 16 = .ok (.ifCond .eq 26, 3) := by decide +kernel
theorem d_M_full_19 : decode b_M_full 19 = .ok (.iload_n 1, 1) := by decide +kernel
theorem d_M_full_20 : decode b_M_full 20 = .ok (.ifCond .eq 16, 3) := by decide +kernel
theorem d_M_full_23 : decode b_M_full 23 = .ok (.aload_n 0, 1) := by decide +kernel
theorem d_M_full_24 : decode b_M_full 24 = .ok (.getfield 26, 3) := by decide +kernel
theorem d_M_full_27 : decode b_M_full 27 = .ok (.iload_n 3, 1) := by decide +kernel
theorem d_M_full_28 : decode b_M_full 28 = .ok (.iaload, 1) := by decide +kernel
theorem d_M_full_29 : decode b_M_full 29 = .ok (.aload_n 0, 1) := by decide +kernel
theorem d_M_full_30 : decode b_M_full 30 = .ok (.getfield 130, 3) := by decide +kernel
theorem d_M_full_33 : decode b_M_full 33 = .ok (.if_icmp .gt 9, 3) := by decide +kernel
theorem d_M_full_36 : decode b_M_full 36 = .ok (.iload_n 2, 1) := by decide +kernel
theorem d_M_full_37 : decode b_M_full 37 = .ok (.iconst 1, 1) := by decide +kernel
theorem d_M_full_38 : decode b_M_full 38 = .ok (.iadd, 1) := by decide +kernel
theorem d_M_full_39 : decode b_M_full 39 = .ok (.goto 4, 3) := by decide +kernel
theorem d_M_full_42 : decode b_M_full 42 = .ok (.iload_n 2, 1) := by decide +kernel
theorem d_M_full_43 : decode b_M_full 43 = .ok (.istore_n 2, 1) := by decide +kernel
theorem d_M_full_44 : decode b_M_full 44 = .ok (.iinc 3 1, 3) := by decide +kernel
theorem d_M_full_47 : decode b_M_full 47 = .ok (.goto (-43), 3) := by decide +kernel
theorem d_M_full_50 : decode b_M_full 50 = .ok (.iload_n 2, 1) := by decide +kernel
theorem d_M_full_51 : decode b_M_full 51 = .ok (.bipush 36, 2) := by decide +kernel
theorem d_M_full_53 : decode b_M_full 53 = .ok (.if_icmp .lt 7, 3) := by decide +kernel
theorem d_M_full_56 : decode b_M_full 56 = .ok (.iconst 1, 1) := by decide +kernel
theorem d_M_full_57 : decode b_M_full 57 = .ok (.goto 4, 3) := by decide +kernel
theorem d_M_full_60 : decode b_M_full 60 = .ok (.iconst 0, 1) := by decide +kernel
theorem d_M_full_61 : decode b_M_full 61 = .ok (.ireturn, 1) := by decide +kernel
theorem d_M_fragment_0 : decode b_M_fragment 0 = .ok (.iload_n 0, 1) := by decide +kernel
theorem d_M_fragment_1 : decode b_M_fragment 1 = .ok (.iconst (-1), 1) := by decide +kernel
theorem d_M_fragment_2 : decode b_M_fragment 2 = .ok (.if_icmp .ne 7, 3) := by decide +kernel
theorem d_M_fragment_5 : decode b_M_fragment 5 = .ok (.iconst 0, 1) := by decide +kernel
theorem d_M_fragment_6 : decode b_M_fragment 6 = .ok (.goto 7, 3) := by decide +kernel
theorem d_M_fragment_9 : decode b_M_fragment 9 = .ok (.iload_n 0, 1) := by decide +kernel
theorem d_M_fragment_10 : decode b_M_fragment 10 = .ok (.bipush 8, 2) := by decide +kernel
theorem d_M_fragment_12 : decode b_M_fragment 12 = .ok (.irem, 1) := by decide +kernel
theorem d_M_fragment_13 : decode b_M_fragment 13 = .ok (.ireturn, 1) := by decide +kernel
theorem d_M_enter_0 : decode b_M_enter 0 = .ok (.iload_n 2, 1) := by decide +kernel
theorem d_M_enter_1 : decode b_M_enter 1 = .ok (.istore 6, 2) := by decide +kernel
theorem d_M_enter_3 : decode b_M_enter 3 = .ok (.iload 4, 2) := by decide +kernel
theorem d_M_enter_5 : decode b_M_enter 5 = .ok (.ifCond .eq 7, 3) := by decide +kernel
theorem d_M_enter_8 : decode b_M_enter 8 = .ok (.aload_n 0, 1) := by decide +kernel
theorem d_M_enter_9 : decode b_M_enter 9 = .ok (.invokevirtual 137, 3) := by decide +kernel
theorem d_M_enter_12 : decode b_M_enter 12 = .ok (.aload_n 0, 1) := by decide +kernel
theorem d_M_enter_13 : decode b_M_enter 13 = .ok (.iload_n 1, 1) := by decide +kernel
theorem d_M_enter_14 : decode b_M_enter 14 = .ok (.invokevirtual 124, 3) := by decide +kernel
theorem d_M_enter_17 : decode b_M_enter 17 = .ok (.istore 7, 2) := by decide +kernel
theorem d_M_enter_19 : decode b_M_enter 19 = .ok (.iload 5, 2) := by decide +kernel
theorem d_M_enter_21 : decode b_M_enter 21 = .ok (.istore 8, 2) := by decide +kernel
theorem d_M_enter_23 : decode b_M_enter 23 = .ok (.iload 8, 2) := by decide +kernel
theorem d_M_enter_25 : decode b_M_enter 25 = .ok (.ifCond .ge 38, 3) := by decide +kernel
theorem d_M_enter_28 : decode b_M_enter 28 = .ok (.aload_n 0, 1) := by decide +kernel
theorem d_M_enter_29 : decode b_M_enter 29 = .ok (.iload_n 1, 1) := by decide +kernel
theorem d_M_enter_30 : decode b_M_enter 30 = .ok (.iload_n 2, 1) := by decide +kernel
theorem d_M_enter_31 : decode b_M_enter 31 = .ok (.iload 4, 2) := by decide +kernel
theorem d_M_enter_33 : decode b_M_enter 33 = .ok (.ifCond .eq 12, 3) := by decide +kernel
theorem d_M_enter_36 : decode b_M_enter 36 = .ok (.aload_n 0, 1) := by decide +kernel
theorem d_M_enter_37 : decode b_M_enter 37 = .ok (.getfield 130, 3) := by decide +kernel
theorem d_M_enter_40 : decode b_M_enter 40 = .ok (.iconst 1, 1) := by decide +kernel
theorem d_M_enter_41 : decode b_M_enter 41 = .ok (.iadd, 1) := by decide +kernel
theorem d_M_enter_42 : decode b_M_enter 42 = .ok (.goto 10, 3) := by decide +kernel
theorem d_M_enter_45 : decode b_M_enter 45 = .ok (.aload_n 0, 1) := by decide +kernel
theorem d_M_enter_46 : decode b_M_enter 46 = .ok (.getfield 26, 3) := by decide +kernel
theorem d_M_enter_49 : decode b_M_enter 49 = .ok (.iload 7, 2) := by decide +kernel
theorem d_M_enter_51 : decode b_M_enter 51 = .ok (.iaload, 1) := by decide +kernel
theorem d_M_enter_52 : decode b_M_enter 52 = .ok (.invokevirtual 140, 3) := by decide +kernel
theorem d_M_enter_55 : decode b_M_enter 55 = .ok (.istore 8, 2) := by decide +kernel
theorem d_M_enter_57 : decode b_M_enter 57 = .ok (.aload_n 0, 1) := by decide +kernel
theorem d_M_enter_58 : decode b_M_enter 58 = .ok (.getfield 93, 3) := by decide +kernel
theorem d_M_enter_61 : decode b_M_enter 61 = .ok (.istore 6, 2) := by decide +kernel
theorem d_M_enter_63 : decode b_M_enter 63 = .ok (.iload 4, 2) := by decide +kernel
theorem d_M_enter_65 : decode b_M_enter 65 = .ok (.ifCond .eq 28, 3) := by decide +kernel
theorem d_M_enter_68 : decode b_M_enter 68 = .ok (.aload_n 0, 1) := by decide +kernel
theorem d_M_enter_69 : decode b_M_enter 69 = .ok (.dup, 1) := by decide +kernel
theorem d_M_enter_70 : decode b_M_enter 70 = .ok (.getfield 130, 3) := by decide +kernel
theorem d_M_enter_73 : decode b_M_enter 73 = .ok (.iconst 1, 1) := by decide +kernel
theorem d_M_enter_74 : decode b_M_enter 74 = .ok (.iadd, 1) := by decide +kernel
theorem d_M_enter_75 : decode b_M_enter 75 = .ok (.putfield 130, 3) := by decide +kernel
theorem d_M_enter_78 : decode b_M_enter 78 = .ok (.aload_n 0, 1) := by decide +kernel
theorem d_M_enter_79 : decode b_M_enter 79 = .ok (.iload_n 1, 1) := by decide +kernel
theorem d_M_enter_80 : decode b_M_enter 80 = .ok (.aload_n 0, 1) := by decide +kernel
theorem d_M_enter_81 : decode b_M_enter 81 = .ok (.getfield 130, 3) := by decide +kernel
theorem d_M_enter_84 : decode b_M_enter 84 = .ok (.iload 6, 2) := by decide +kernel
theorem d_M_enter_86 : decode b_M_enter 86 = .ok (.iload 8, 2) := by decide +kernel
theorem d_M_enter_88 : decode b_M_enter 88 = .ok (.invokevirtual 78, 3) := by decide +kernel
theorem d_M_enter_91 : decode b_M_enter 91 = .ok (.istore 7, 2) := by decide +kernel
theorem d_M_enter_93 : decode b_M_enter 93 = .ok (.aload_n 0, 1) := by decide +kernel
theorem d_M_enter_94 : decode b_M_enter 94 = .ok (.getfield 29, 3) := by decide +kernel
theorem d_M_enter_97 : decode b_M_enter 97 = .ok (.iload 7, 2) := by decide +kernel
theorem d_M_enter_99 : decode b_M_enter 99 = .ok (.iload 6, 2) := by decide +kernel
theorem d_M_enter_101 : decode b_M_enter 101 = .ok (.iastore, 1) := by decide +kernel
theorem d_M_enter_102 : decode b_M_enter 102 = .ok (.aload_n 0, 1) := by decide +kernel
theorem d_M_enter_103 : decode b_M_enter 103 = .ok (.getfield 32, 3) := by decide +kernel
theorem d_M_enter_106 : decode b_M_enter 106 = .ok (.iload 7, 2) := by decide +kernel
theorem d_M_enter_108 : decode b_M_enter 108 = .ok (.iload_n 3, 1) := by decide +kernel
theorem d_M_enter_109 : decode b_M_enter 109 = .ok (.iastore, 1) := by decide +kernel
theorem d_M_enter_110 : decode b_M_enter 110 = .ok (.aload_n 0, 1) := by decide +kernel
theorem d_M_enter_111 : decode b_M_enter 111 = .ok (.getfield 35, 3) := by decide +kernel
theorem d_M_enter_114 : decode b_M_enter 114 = .ok (.iload 7, 2) := by decide +kernel
theorem d_M_enter_116 : decode b_M_enter 116 = .ok (.iload 8, 2) := by decide +kernel
theorem d_M_enter_118 : decode b_M_enter 118 = .ok (.iastore, 1) := by decide +kernel
theorem d_M_enter_119 : decode b_M_enter 119 = .ok (.aload_n 0, 1) := by decide +kernel
theorem d_M_enter_120 : decode b_M_enter 120 = .ok (.invokevirtual 82, 3) := by decide +kernel
theorem d_M_enter_123 : decode b_M_enter 123 = .ok (.aload_n 0, 1) := by decide +kernel
theorem d_M_enter_124 : decode b_M_enter 124 = .ok (.invokevirtual 143, 3) := by decide +kernel
theorem d_M_enter_127 : decode b_M_enter 127 = .ok (.return_, 1) := by decide +kernel
theorem d_M_cutOff_0 : decode b_M_cutOff 0 = .ok (.iconst 0, 1) := by decide +kernel
theorem d_M_cutOff_1 : decode b_M_cutOff 1 = .ok (.istore_n 1, 1) := by decide +kernel
theorem d_M_cutOff_2 : decode b_M_cutOff 2 = .ok (.iload_n 1, 1) := by decide +kernel
theorem d_M_cutOff_3 : decode b_M_cutOff 3 = .ok (.bipush 48, 2) := by decide +kernel
theorem d_M_cutOff_5 : decode b_M_cutOff 5 = .ok (.if_icmp .ge 42, 3) := by decide +kernel
theorem d_M_cutOff_8 : decode b_M_cutOff 8 = .ok (.aload_n 0, 1) := by decide +kernel
theorem d_M_cutOff_9 : decode b_M_cutOff 9 = .ok (.getfield 38, 3) := by decide +kernel
theorem d_M_cutOff_12 : decode b_M_cutOff 12 = .ok (.iload_n 1, 1) := by decide +kernel
theorem d_M_cutOff_13 : decode b_M_cutOff 13 = .ok (.aload_n 0, 1) := by decide +kernel
theorem d_M_cutOff_14 : decode b_M_cutOff 14 = .ok (.getfield 38, 3) := by decide +kernel
theorem d_M_cutOff_17 : decode b_M_cutOff 17 = .ok (.iload_n 1, 1) := by decide +kernel
theorem d_M_cutOff_18 : decode b_M_cutOff 18 = .ok (.baload, 1) := by decide +kernel
theorem d_M_cutOff_19 : decode b_M_cutOff 19 = .ok (.ifCond .eq 20, 3) := by decide +kernel
theorem d_M_cutOff_22 : decode b_M_cutOff 22 = .ok (.aload_n 0, 1) := by decide +kernel
theorem d_M_cutOff_23 : decode b_M_cutOff 23 = .ok (.getfield 26, 3) := by decide +kernel
theorem d_M_cutOff_26 : decode b_M_cutOff 26 = .ok (.iload_n 1, 1) := by decide +kernel
theorem d_M_cutOff_27 : decode b_M_cutOff 27 = .ok (.iaload, 1) := by decide +kernel
theorem d_M_cutOff_28 : decode b_M_cutOff 28 = .ok (.aload_n 0, 1) := by decide +kernel
theorem d_M_cutOff_29 : decode b_M_cutOff 29 = .ok (.getfield 130, 3) := by decide +kernel
theorem d_M_cutOff_32 : decode b_M_cutOff 32 = .ok (.if_icmp .gt 7, 3) := by decide +kernel
theorem d_M_cutOff_35 : decode b_M_cutOff 35 = .ok (.iconst 1, 1) := by decide +kernel
theorem d_M_cutOff_36 : decode b_M_cutOff 36 = .ok (.goto 4, 3) := by decide +kernel
theorem d_M_cutOff_39 : decode b_M_cutOff 39 = .ok (.iconst 0, 1) := by decide +kernel
theorem d_M_cutOff_40 : decode b_M_cutOff 40 = .ok (.bastore, 1) := by decide +kernel
theorem d_M_cutOff_41 : decode b_M_cutOff 41 = .ok (.iinc 1 1, 3) := by decide +kernel
theorem d_M_cutOff_44 : decode b_M_cutOff 44 = .ok (.goto (-42), 3) := by decide +kernel
theorem d_M_cutOff_47 : decode b_M_cutOff 47 = .ok (.aload_n 0, 1) := by decide +kernel
theorem d_M_cutOff_48 : decode b_M_cutOff 48 = .ok (.invokevirtual 82, 3) := by decide +kernel
theorem d_M_cutOff_51 : decode b_M_cutOff 51 = .ok (.return_, 1) := by decide +kernel
theorem d_M_load_0 : decode b_M_load 0 = .ok (.aload_n 0, 1) := by decide +kernel
theorem d_M_load_1 : decode b_M_load 1 = .ok (.iload_n 1, 1) := by decide +kernel
theorem d_M_load_2 : decode b_M_load 2 = .ok (.invokevirtual 111, 3) := by decide +kernel
theorem d_M_load_5 : decode b_M_load 5 = .ok (.istore 4, 2) := by decide +kernel
theorem d_M_load_7 : decode b_M_load 7 = .ok (.iload 4, 2) := by decide +kernel
theorem d_M_load_9 : decode b_M_load 9 = .ok (.ifCond .ne 12, 3) := by decide +kernel
theorem d_M_load_12 : decode b_M_load 12 = .ok (.aload_n 0, 1) := by decide +kernel
theorem d_M_load_13 : decode b_M_load 13 = .ok (.iload_n 2, 1) := by decide +kernel
theorem d_M_load_14 : decode b_M_load 14 = .ok (.iload_n 3, 1) := by decide +kernel
theorem d_M_load_15 : decode b_M_load 15 = .ok (.invokevirtual 114, 3) := by decide +kernel
theorem d_M_load_18 : decode b_M_load 18 = .ok (.goto 25, 3) := by decide +kernel
theorem d_M_load_21 : decode b_M_load 21 = .ok (.iload 4, 2) := by decide +kernel
theorem d_M_load_23 : decode b_M_load 23 = .ok (.iconst 1, 1) := by decide +kernel
theorem d_M_load_24 : decode b_M_load 24 = .ok (.if_icmp .ne 13, 3) := by decide +kernel
theorem d_M_load_27 : decode b_M_load 27 = .ok (.aload_n 0, 1) := by decide +kernel
theorem d_M_load_28 : decode b_M_load 28 = .ok (.iload_n 1, 1) := by decide +kernel
theorem d_M_load_29 : decode b_M_load 29 = .ok (.iload_n 2, 1) := by decide +kernel
theorem d_M_load_30 : decode b_M_load 30 = .ok (.iload_n 3, 1) := by decide +kernel
theorem d_M_load_31 : decode b_M_load 31 = .ok (.invokevirtual 117, 3) := by decide +kernel
theorem d_M_load_34 : decode b_M_load 34 = .ok (.goto 9, 3) := by decide +kernel
theorem d_M_load_37 : decode b_M_load 37 = .ok (.aload_n 0, 1) := by decide +kernel
theorem d_M_load_38 : decode b_M_load 38 = .ok (.iload_n 1, 1) := by decide +kernel
theorem d_M_load_39 : decode b_M_load 39 = .ok (.iload_n 2, 1) := by decide +kernel
theorem d_M_load_40 : decode b_M_load 40 = .ok (.invokevirtual 74, 3) := by decide +kernel
theorem d_M_load_43 : decode b_M_load 43 = .ok (.ireturn, 1) := by decide +kernel
theorem d_M_deep_0 : decode b_M_deep 0 = .ok (.iload_n 1, 1) := by decide +kernel
theorem d_M_deep_1 : decode b_M_deep 1 = .ok (.ifCond .ne 5, 3) := by decide +kernel
theorem d_M_deep_4 : decode b_M_deep 4 = .ok (.iconst 0, 1) := by decide +kernel
theorem d_M_deep_5 : decode b_M_deep 5 = .ok (.ireturn, 1) := by decide +kernel
theorem d_M_deep_6 : decode b_M_deep 6 = .ok (.iconst 0, 1) := by decide +kernel
theorem d_M_deep_7 : decode b_M_deep 7 = .ok (.istore_n 2, 1) := by decide +kernel
theorem d_M_deep_8 : decode b_M_deep 8 = .ok (.iload_n 2, 1) := by decide +kernel
theorem d_M_deep_9 : decode b_M_deep 9 = .ok (.bipush 48, 2) := by decide +kernel
theorem d_M_deep_11 : decode b_M_deep 11 = .ok (.if_icmp .ge 44, 3) := by decide +kernel
theorem d_M_deep_14 : decode b_M_deep 14 = .ok (.aload_n 0, 1) := by decide +kernel
theorem d_M_deep_15 : decode b_M_deep 15 = .ok (.getfield 38, 3) := by decide +kernel
theorem d_M_deep_18 : decode b_M_deep 18 = .ok (.iload_n 2, 1) := by decide +kernel
theorem d_M_deep_19 : decode b_M_deep 19 = .ok (.baload, 1) := by decide +kernel
theorem d_M_deep_20 : decode b_M_deep 20 = .ok (.ifCond .eq 29, 3) := by decide +kernel
theorem d_M_deep_23 : decode b_M_deep 23 = .ok (.aload_n 0, 1) := by decide +kernel
theorem d_M_deep_24 : decode b_M_deep 24 = .ok (.getfield 23, 3) := by decide +kernel
theorem d_M_deep_27 : decode b_M_deep 27 = .ok (.iload_n 2, 1) := by decide +kernel
theorem d_M_deep_28 : decode b_M_deep 28 = .ok (.iaload, 1) := by decide +kernel
theorem d_M_deep_29 : decode b_M_deep 29 = .ok (.ifCond .ne 20, 3) := by decide +kernel
theorem d_M_deep_32 : decode b_M_deep 32 = .ok (.aload_n 0, 1) := by decide +kernel
theorem d_M_deep_33 : decode b_M_deep 33 = .ok (.getfield 35, 3) := by decide +kernel
theorem d_M_deep_36 : decode b_M_deep 36 = .ok (.iload_n 2, 1) := by decide +kernel
theorem d_M_deep_37 : decode b_M_deep 37 = .ok (.iaload, 1) := by decide +kernel
theorem d_M_deep_38 : decode b_M_deep 38 = .ok (.aload_n 0, 1) := by decide +kernel
theorem d_M_deep_39 : decode b_M_deep 39 = .ok (.getfield 59, 3) := by decide +kernel
theorem d_M_deep_42 : decode b_M_deep 42 = .ok (.iload_n 1, 1) := by decide +kernel
theorem d_M_deep_43 : decode b_M_deep 43 = .ok (.iaload, 1) := by decide +kernel
theorem d_M_deep_44 : decode b_M_deep 44 = .ok (.if_icmp .ne 5, 3) := by decide +kernel
theorem d_M_deep_47 : decode b_M_deep 47 = .ok (.iconst 1, 1) := by decide +kernel
theorem d_M_deep_48 : decode b_M_deep 48 = .ok (.ireturn, 1) := by decide +kernel
theorem d_M_deep_49 : decode b_M_deep 49 = .ok (.iinc 2 1, 3) := by decide +kernel
theorem d_M_deep_52 : decode b_M_deep 52 = .ok (.goto (-44), 3) := by decide +kernel
theorem d_M_deep_55 : decode b_M_deep 55 = .ok (.iconst 2, 1) := by decide +kernel
theorem d_M_deep_56 : decode b_M_deep 56 = .ok (.ireturn, 1) := by decide +kernel
end
section
theorem d_M_loadWindow_0 : decode b_M_loadWindow 0 = .ok (.aload_n 0, 1) := by decide +kernel
theorem d_M_loadWindow_1 : decode b_M_loadWindow 1 = .ok (.iconst 0, 1) := by decide +kernel
theorem d_M_loadWindow_2 : decode b_M_loadWindow 2 = .ok (.iload_n 1, 1) := by decide +kernel
theorem d_M_loadWindow_3 : decode b_M_loadWindow 3 = .ok (.invokevirtual 74, 3) := by decide +kernel
theorem d_M_loadWindow_6 : decode b_M_loadWindow 6 = .ok (.istore_n 3, 1) := by decide +kernel
theorem d_M_loadWindow_7 : decode b_M_loadWindow 7 = .ok (.aload_n 0, 1) := by decide +kernel
theorem d_M_loadWindow_8 : decode b_M_loadWindow 8 = .ok (.getfield 93, 3) := by decide +kernel
theorem d_M_loadWindow_11 : decode b_M_loadWindow 11 = .ok (.istore 4, 2) := by decide +kernel
theorem d_M_loadWindow_13 : decode b_M_loadWindow 13 = .ok (.iconst 0, 1) := by decide +kernel
theorem d_M_loadWindow_14 : decode b_M_loadWindow 14 = .ok (.istore 5, 2) := by decide +kernel
theorem d_M_loadWindow_16 : decode b_M_loadWindow 16 = .ok (.iload 5, 2) := by decide +kernel
theorem d_M_loadWindow_18 : decode b_M_loadWindow 18 = .ok (.iconst 2, 1) := by decide +kernel
theorem d_M_loadWindow_19 : decode b_M_loadWindow 19 = .ok (.if_icmp .ge 71, 3) := by decide +kernel
theorem d_M_loadWindow_22 : decode b_M_loadWindow 22 = .ok (.aload_n 0, 1) := by decide +kernel
theorem d_M_loadWindow_23 : decode b_M_loadWindow 23 = .ok (.iload 4, 2) := by decide +kernel
theorem d_M_loadWindow_25 : decode b_M_loadWindow 25 = .ok (.iload 5, 2) := by decide +kernel
theorem d_M_loadWindow_27 : decode b_M_loadWindow 27 = .ok (.iconst 2, 1) := by decide +kernel
theorem d_M_loadWindow_28 : decode b_M_loadWindow 28 = .ok (.invokevirtual 100, 3) := by decide +kernel
theorem d_M_loadWindow_31 : decode b_M_loadWindow 31 = .ok (.istore 6, 2) := by decide +kernel
theorem d_M_loadWindow_33 : decode b_M_loadWindow 33 = .ok (.iload 6, 2) := by decide +kernel
theorem d_M_loadWindow_35 : decode b_M_loadWindow 35 = .ok (.bipush (-2), 2) := by decide +kernel
theorem d_M_loadWindow_37 : decode b_M_loadWindow 37 = .ok (.if_icmp .eq 47, 3) := by decide +kernel
theorem d_M_loadWindow_40 : decode b_M_loadWindow 40 = .ok (.aload_n 0, 1) := by decide +kernel
theorem d_M_loadWindow_41 : decode b_M_loadWindow 41 = .ok (.iload_n 3, 1) := by decide +kernel
theorem d_M_loadWindow_42 : decode b_M_loadWindow 42 = .ok (.iload 6, 2) := by decide +kernel
theorem d_M_loadWindow_44 : decode b_M_loadWindow 44 = .ok (.iload_n 2, 1) := by decide +kernel
theorem d_M_loadWindow_45 : decode b_M_loadWindow 45 = .ok (.invokevirtual 104, 3) := by decide +kernel
theorem d_M_loadWindow_48 : decode b_M_loadWindow 48 = .ok (.istore 7, 2) := by decide +kernel
theorem d_M_loadWindow_50 : decode b_M_loadWindow 50 = .ok (.aload_n 0, 1) := by decide +kernel
theorem d_M_loadWindow_51 : decode b_M_loadWindow 51 = .ok (.aload_n 0, 1) := by decide +kernel
theorem d_M_loadWindow_52 : decode b_M_loadWindow 52 = .ok (.getfield 93, 3) := by decide +kernel
theorem d_M_loadWindow_55 : decode b_M_loadWindow 55 = .ok (.iconst 0, 1) := by decide +kernel
theorem d_M_loadWindow_56 : decode b_M_loadWindow 56 = .ok (.iconst 1, 1) := by decide +kernel
theorem d_M_loadWindow_57 : decode b_M_loadWindow 57 = .ok (.invokevirtual 100, 3) := by decide +kernel
theorem d_M_loadWindow_60 : decode b_M_loadWindow 60 = .ok (.istore 8, 2) := by decide +kernel
theorem d_M_loadWindow_62 : decode b_M_loadWindow 62 = .ok (.iload 8, 2) := by decide +kernel
theorem d_M_loadWindow_64 : decode b_M_loadWindow 64 = .ok (.bipush (-2), 2) := by decide +kernel
theorem d_M_loadWindow_66 : decode b_M_loadWindow 66 = .ok (.if_icmp .eq 18, 3) := by decide +kernel
theorem d_M_loadWindow_69 : decode b_M_loadWindow 69 = .ok (.aload_n 0, 1) := by decide +kernel
theorem d_M_loadWindow_70 : decode b_M_loadWindow 70 = .ok (.aload_n 0, 1) := by decide +kernel
theorem d_M_loadWindow_71 : decode b_M_loadWindow 71 = .ok (.iload 7, 2) := by decide +kernel
theorem d_M_loadWindow_73 : decode b_M_loadWindow 73 = .ok (.invokevirtual 107, 3) := by decide +kernel
theorem d_M_loadWindow_76 : decode b_M_loadWindow 76 = .ok (.iload 8, 2) := by decide +kernel
theorem d_M_loadWindow_78 : decode b_M_loadWindow 78 = .ok (.iload_n 2, 1) := by decide +kernel
theorem d_M_loadWindow_79 : decode b_M_loadWindow 79 = .ok (.invokevirtual 104, 3) := by decide +kernel
theorem d_M_loadWindow_82 : decode b_M_loadWindow 82 = .ok (.istore 9, 2) := by decide +kernel
theorem d_M_loadWindow_84 : decode b_M_loadWindow 84 = .ok (.iinc 5 1, 3) := by decide +kernel
theorem d_M_loadWindow_87 : decode b_M_loadWindow 87 = .ok (.goto (-71), 3) := by decide +kernel
theorem d_M_loadWindow_90 : decode b_M_loadWindow 90 = .ok (.aload_n 0, 1) := by decide +kernel
theorem d_M_loadWindow_91 : decode b_M_loadWindow 91 = .ok (.iload 4, 2) := by decide +kernel
theorem d_M_loadWindow_93 : decode b_M_loadWindow 93 = .ok (.putfield 93, 3) := by decide +kernel
theorem d_M_loadWindow_96 : decode b_M_loadWindow 96 = .ok (.iload_n 3, 1) := by decide +kernel
theorem d_M_loadWindow_97 : decode b_M_loadWindow 97 = .ok (.ireturn, 1) := by decide +kernel
theorem d_M_wanted_0 : decode b_M_wanted 0 = .ok (.iload_n 1, 1) := by decide +kernel
theorem d_M_wanted_1 : decode b_M_wanted 1 = .ok (.iconst (-1), 1) := by decide +kernel
theorem d_M_wanted_2 : decode b_M_wanted 2 = .ok (.if_icmp .eq 20, 3) := by decide +kernel
theorem d_M_wanted_5 : decode b_M_wanted 5 = .ok (.aload_n 0, 1) := by decide +kernel
theorem d_M_wanted_6 : decode b_M_wanted 6 = .ok (.getfield 7, 3) := by decide +kernel
theorem d_M_wanted_9 : decode b_M_wanted 9 = .ok (.iload_n 1, 1) := by decide +kernel
theorem d_M_wanted_10 : decode b_M_wanted 10 = .ok (.bipush 8, 2) := by decide +kernel
theorem d_M_wanted_12 : decode b_M_wanted 12 = .ok (.idiv, 1) := by decide +kernel
theorem d_M_wanted_13 : decode b_M_wanted 13 = .ok (.iaload, 1) := by decide +kernel
theorem d_M_wanted_14 : decode b_M_wanted 14 = .ok (.ifCond .ne 8, 3) := by decide +kernel
theorem d_M_wanted_17 : decode b_M_wanted 17 = .ok (.iload_n 2, 1) := by decide +kernel
theorem d_M_wanted_18 : decode b_M_wanted 18 = .ok (.iload_n 3, 1) := by decide +kernel
theorem d_M_wanted_19 : decode b_M_wanted 19 = .ok (.if_icmp .lt 6, 3) := by decide +kernel
theorem d_M_wanted_22 : decode b_M_wanted 22 = .ok (.bipush (-2), 2) := by decide +kernel
theorem d_M_wanted_24 : decode b_M_wanted 24 = .ok (.ireturn, 1) := by decide +kernel
theorem d_M_wanted_25 : decode b_M_wanted 25 = .ok (.aload_n 0, 1) := by decide +kernel
theorem d_M_wanted_26 : decode b_M_wanted 26 = .ok (.getfield 13, 3) := by decide +kernel
theorem d_M_wanted_29 : decode b_M_wanted 29 = .ok (.iload_n 1, 1) := by decide +kernel
theorem d_M_wanted_30 : decode b_M_wanted 30 = .ok (.bipush 8, 2) := by decide +kernel
theorem d_M_wanted_32 : decode b_M_wanted 32 = .ok (.idiv, 1) := by decide +kernel
theorem d_M_wanted_33 : decode b_M_wanted 33 = .ok (.iaload, 1) := by decide +kernel
theorem d_M_wanted_34 : decode b_M_wanted 34 = .ok (.istore 4, 2) := by decide +kernel
theorem d_M_wanted_36 : decode b_M_wanted 36 = .ok (.aload_n 0, 1) := by decide +kernel
theorem d_M_wanted_37 : decode b_M_wanted 37 = .ok (.getfield 16, 3) := by decide +kernel
theorem d_M_wanted_40 : decode b_M_wanted 40 = .ok (.iload_n 1, 1) := by decide +kernel
theorem d_M_wanted_41 : decode b_M_wanted 41 = .ok (.bipush 8, 2) := by decide +kernel
theorem d_M_wanted_43 : decode b_M_wanted 43 = .ok (.idiv, 1) := by decide +kernel
theorem d_M_wanted_44 : decode b_M_wanted 44 = .ok (.iaload, 1) := by decide +kernel
theorem d_M_wanted_45 : decode b_M_wanted 45 = .ok (.istore 5, 2) := by decide +kernel
theorem d_M_wanted_47 : decode b_M_wanted 47 = .ok (.iload_n 2, 1) := by decide +kernel
theorem d_M_wanted_48 : decode b_M_wanted 48 = .ok (.ifCond .ne 18, 3) := by decide +kernel
theorem d_M_wanted_51 : decode b_M_wanted 51 = .ok (.iload 4, 2) := by decide +kernel
theorem d_M_wanted_53 : decode b_M_wanted 53 = .ok (.bipush (-2), 2) := by decide +kernel
theorem d_M_wanted_55 : decode b_M_wanted 55 = .ok (.if_icmp .ne 8, 3) := by decide +kernel
theorem d_M_wanted_58 : decode b_M_wanted 58 = .ok (.iload 5, 2) := by decide +kernel
theorem d_M_wanted_60 : decode b_M_wanted 60 = .ok (.goto 5, 3) := by decide +kernel
theorem d_M_wanted_63 : decode b_M_wanted 63 = .ok (.iload 4, 2) := by decide +kernel
theorem d_M_wanted_65 : decode b_M_wanted 65 = .ok (.ireturn, 1) := by decide +kernel
theorem d_M_wanted_66 : decode b_M_wanted 66 = .ok (.iload 4, 2) := by decide +kernel
theorem d_M_wanted_68 : decode b_M_wanted 68 = .ok (.bipush (-2), 2) := by decide +kernel
theorem d_M_wanted_70 : decode b_M_wanted 70 = .ok (.if_icmp .ne 8, 3) := by decide +kernel
theorem d_M_wanted_73 : decode b_M_wanted 73 = .ok (.bipush (-2), 2) := by decide +kernel
theorem d_M_wanted_75 : decode b_M_wanted 75 = .ok (.goto 5, 3) := by decide +kernel
theorem d_M_wanted_78 : decode b_M_wanted 78 = .ok (.iload 5, 2) := by decide +kernel
theorem d_M_wanted_80 : decode b_M_wanted 80 = .ok (.ireturn, 1) := by decide +kernel
theorem d_M_frameFor_0 : decode b_M_frameFor 0 = .ok (.iconst 1, 1) := by decide +kernel
theorem d_M_frameFor_1 : decode b_M_frameFor 1 = .ok (.istore 4, 2) := by decide +kernel
theorem d_M_frameFor_3 : decode b_M_frameFor 3 = .ok (.iload 4, 2) := by decide +kernel
theorem d_M_frameFor_5 : decode b_M_frameFor 5 = .ok (.bipush 47, 2) := by decide +kernel
theorem d_M_frameFor_7 : decode b_M_frameFor 7 = .ok (.if_icmp .ge 19, 3) := by decide +kernel
theorem d_M_frameFor_10 : decode b_M_frameFor 10 = .ok (.aload_n 0, 1) := by decide +kernel
theorem d_M_frameFor_11 : decode b_M_frameFor 11 = .ok (.getfield 56, 3) := by decide +kernel
theorem d_M_frameFor_14 : decode b_M_frameFor 14 = .ok (.iload 4, 2) := by decide +kernel
theorem d_M_frameFor_16 : decode b_M_frameFor 16 = .ok (.baload, 1) := by decide +kernel
theorem d_M_frameFor_17 : decode b_M_frameFor 17 = .ok (.ifCond .eq 9, 3) := by decide +kernel
theorem d_M_frameFor_20 : decode b_M_frameFor 20 = .ok (.iinc 4 1, 3) := by decide +kernel
theorem d_M_frameFor_23 : decode b_M_frameFor 23 = .ok (.goto (-20), 3) := by decide +kernel
theorem d_M_frameFor_26 : decode b_M_frameFor 26 = .ok (.aload_n 0, 1) := by decide +kernel
theorem d_M_frameFor_27 : decode b_M_frameFor 27 = .ok (.getfield 56, 3) := by decide +kernel
theorem d_M_frameFor_30 : decode b_M_frameFor 30 = .ok (.iload 4, 2) := by decide +kernel
theorem d_M_frameFor_32 : decode b_M_frameFor 32 = .ok (.iconst 1, 1) := by decide +kernel
theorem d_M_frameFor_33 : decode b_M_frameFor 33 = .ok (.bastore, 1) := by decide +kernel
theorem d_M_frameFor_34 : decode b_M_frameFor 34 = .ok (.aload_n 0, 1) := by decide +kernel
theorem d_M_frameFor_35 : decode b_M_frameFor 35 = .ok (.getfield 59, 3) := by decide +kernel
theorem d_M_frameFor_38 : decode b_M_frameFor 38 = .ok (.iload 4, 2) := by decide +kernel
theorem d_M_frameFor_40 : decode b_M_frameFor 40 = .ok (.iload_n 1, 1) := by decide +kernel
theorem d_M_frameFor_41 : decode b_M_frameFor 41 = .ok (.iastore, 1) := by decide +kernel
theorem d_M_frameFor_42 : decode b_M_frameFor 42 = .ok (.aload_n 0, 1) := by decide +kernel
theorem d_M_frameFor_43 : decode b_M_frameFor 43 = .ok (.getfield 50, 3) := by decide +kernel
theorem d_M_frameFor_46 : decode b_M_frameFor 46 = .ok (.iload_n 1, 1) := by decide +kernel
theorem d_M_frameFor_47 : decode b_M_frameFor 47 = .ok (.iaload, 1) := by decide +kernel
theorem d_M_frameFor_48 : decode b_M_frameFor 48 = .ok (.ifCond .ge 14, 3) := by decide +kernel
theorem d_M_frameFor_51 : decode b_M_frameFor 51 = .ok (.aload_n 0, 1) := by decide +kernel
theorem d_M_frameFor_52 : decode b_M_frameFor 52 = .ok (.getfield 50, 3) := by decide +kernel
theorem d_M_frameFor_55 : decode b_M_frameFor 55 = .ok (.iload_n 1, 1) := by decide +kernel
theorem d_M_frameFor_56 : decode b_M_frameFor 56 = .ok (.iload 4, 2) := by decide +kernel
theorem d_M_frameFor_58 : decode b_M_frameFor 58 = .ok (.iastore, 1) := by decide +kernel
theorem d_M_frameFor_59 : decode b_M_frameFor 59 = .ok (.goto 11, 3) := by decide +kernel
theorem d_M_frameFor_62 : decode b_M_frameFor 62 = .ok (.aload_n 0, 1) := by decide +kernel
theorem d_M_frameFor_63 : decode b_M_frameFor 63 = .ok (.getfield 53, 3) := by decide +kernel
theorem d_M_frameFor_66 : decode b_M_frameFor 66 = .ok (.iload_n 1, 1) := by decide +kernel
theorem d_M_frameFor_67 : decode b_M_frameFor 67 = .ok (.iload 4, 2) := by decide +kernel
theorem d_M_frameFor_69 : decode b_M_frameFor 69 = .ok (.iastore, 1) := by decide +kernel
theorem d_M_frameFor_70 : decode b_M_frameFor 70 = .ok (.aload_n 0, 1) := by decide +kernel
theorem d_M_frameFor_71 : decode b_M_frameFor 71 = .ok (.iload 4, 2) := by decide +kernel
theorem d_M_frameFor_73 : decode b_M_frameFor 73 = .ok (.iload_n 2, 1) := by decide +kernel
theorem d_M_frameFor_74 : decode b_M_frameFor 74 = .ok (.invokevirtual 74, 3) := by decide +kernel
theorem d_M_frameFor_77 : decode b_M_frameFor 77 = .ok (.istore 5, 2) := by decide +kernel
theorem d_M_frameFor_79 : decode b_M_frameFor 79 = .ok (.aload_n 0, 1) := by decide +kernel
theorem d_M_frameFor_80 : decode b_M_frameFor 80 = .ok (.iload 4, 2) := by decide +kernel
theorem d_M_frameFor_82 : decode b_M_frameFor 82 = .ok (.iload_n 3, 1) := by decide +kernel
theorem d_M_frameFor_83 : decode b_M_frameFor 83 = .ok (.aload_n 0, 1) := by decide +kernel
theorem d_M_frameFor_84 : decode b_M_frameFor 84 = .ok (.getfield 93, 3) := by decide +kernel
theorem d_M_frameFor_87 : decode b_M_frameFor 87 = .ok (.iload 5, 2) := by decide +kernel
theorem d_M_frameFor_89 : decode b_M_frameFor 89 = .ok (.invokevirtual 78, 3) := by decide +kernel
theorem d_M_frameFor_92 : decode b_M_frameFor 92 = .ok (.istore 6, 2) := by decide +kernel
theorem d_M_frameFor_94 : decode b_M_frameFor 94 = .ok (.iload 4, 2) := by decide +kernel
theorem d_M_frameFor_96 : decode b_M_frameFor 96 = .ok (.ireturn, 1) := by decide +kernel
theorem d_M_paperOf_0 : decode b_M_paperOf 0 = .ok (.iconst 0, 1) := by decide +kernel
theorem d_M_paperOf_1 : decode b_M_paperOf 1 = .ok (.istore_n 2, 1) := by decide +kernel
theorem d_M_paperOf_2 : decode b_M_paperOf 2 = .ok (.iload_n 2, 1) := by decide +kernel
theorem d_M_paperOf_3 : decode b_M_paperOf 3 = .ok (.bipush 48, 2) := by decide +kernel
theorem d_M_paperOf_5 : decode b_M_paperOf 5 = .ok (.if_icmp .ge 35, 3) := by decide +kernel
theorem d_M_paperOf_8 : decode b_M_paperOf 8 = .ok (.aload_n 0, 1) := by decide +kernel
theorem d_M_paperOf_9 : decode b_M_paperOf 9 = .ok (.getfield 38, 3) := by decide +kernel
theorem d_M_paperOf_12 : decode b_M_paperOf 12 = .ok (.iload_n 2, 1) := by decide +kernel
theorem d_M_paperOf_13 : decode b_M_paperOf 13 = .ok (.baload, 1) := by decide +kernel
theorem d_M_paperOf_14 : decode b_M_paperOf 14 = .ok (.ifCond .eq 20, 3) := by decide +kernel
theorem d_M_paperOf_17 : decode b_M_paperOf 17 = .ok (.aload_n 0, 1) := by decide +kernel
theorem d_M_paperOf_18 : decode b_M_paperOf 18 = .ok (.getfield 23, 3) := by decide +kernel
theorem d_M_paperOf_21 : decode b_M_paperOf 21 = .ok (.iload_n 2, 1) := by decide +kernel
theorem d_M_paperOf_22 : decode b_M_paperOf 22 = .ok (.iaload, 1) := by decide +kernel
theorem d_M_paperOf_23 : decode b_M_paperOf 23 = .ok (.iload_n 1, 1) := by decide +kernel
theorem d_M_paperOf_24 : decode b_M_paperOf 24 = .ok (.if_icmp .ne 10, 3) := by decide +kernel
theorem d_M_paperOf_27 : decode b_M_paperOf 27 = .ok (.aload_n 0, 1) := by decide +kernel
theorem d_M_paperOf_28 : decode b_M_paperOf 28 = .ok (.getfield 35, 3) := by decide +kernel
theorem d_M_paperOf_31 : decode b_M_paperOf 31 = .ok (.iload_n 2, 1) := by decide +kernel
theorem d_M_paperOf_32 : decode b_M_paperOf 32 = .ok (.iaload, 1) := by decide +kernel
theorem d_M_paperOf_33 : decode b_M_paperOf 33 = .ok (.ireturn, 1) := by decide +kernel
theorem d_M_paperOf_34 : decode b_M_paperOf 34 = .ok (.iinc 2 1, 3) := by decide +kernel
theorem d_M_paperOf_37 : decode b_M_paperOf 37 = .ok (.goto (-35), 3) := by decide +kernel
theorem d_M_paperOf_40 : decode b_M_paperOf 40 = .ok (.iconst (-1), 1) := by decide +kernel
theorem d_M_paperOf_41 : decode b_M_paperOf 41 = .ok (.ireturn, 1) := by decide +kernel
theorem d_M_loadMiddle_0 : decode b_M_loadMiddle 0 = .ok (.aload_n 0, 1) := by decide +kernel
theorem d_M_loadMiddle_1 : decode b_M_loadMiddle 1 = .ok (.iload_n 1, 1) := by decide +kernel
theorem d_M_loadMiddle_2 : decode b_M_loadMiddle 2 = .ok (.iload_n 2, 1) := by decide +kernel
theorem d_M_loadMiddle_3 : decode b_M_loadMiddle 3 = .ok (.invokevirtual 74, 3) := by decide +kernel
theorem d_M_loadMiddle_6 : decode b_M_loadMiddle 6 = .ok (.istore 4, 2) := by decide +kernel
theorem d_M_loadMiddle_8 : decode b_M_loadMiddle 8 = .ok (.aload_n 0, 1) := by decide +kernel
theorem d_M_loadMiddle_9 : decode b_M_loadMiddle 9 = .ok (.getfield 93, 3) := by decide +kernel
theorem d_M_loadMiddle_12 : decode b_M_loadMiddle 12 = .ok (.istore 5, 2) := by decide +kernel
theorem d_M_loadMiddle_14 : decode b_M_loadMiddle 14 = .ok (.aload_n 0, 1) := by decide +kernel
theorem d_M_loadMiddle_15 : decode b_M_loadMiddle 15 = .ok (.iload 5, 2) := by decide +kernel
theorem d_M_loadMiddle_17 : decode b_M_loadMiddle 17 = .ok (.iconst 0, 1) := by decide +kernel
theorem d_M_loadMiddle_18 : decode b_M_loadMiddle 18 = .ok (.iconst 1, 1) := by decide +kernel
theorem d_M_loadMiddle_19 : decode b_M_loadMiddle 19 = .ok (.invokevirtual 100, 3) := by decide +kernel
theorem d_M_loadMiddle_22 : decode b_M_loadMiddle 22 = .ok (.istore 6, 2) := by decide +kernel
theorem d_M_loadMiddle_24 : decode b_M_loadMiddle 24 = .ok (.iload 6, 2) := by decide +kernel
theorem d_M_loadMiddle_26 : decode b_M_loadMiddle 26 = .ok (.bipush (-2), 2) := by decide +kernel
theorem d_M_loadMiddle_28 : decode b_M_loadMiddle 28 = .ok (.if_icmp .eq 14, 3) := by decide +kernel
theorem d_M_loadMiddle_31 : decode b_M_loadMiddle 31 = .ok (.aload_n 0, 1) := by decide +kernel
theorem d_M_loadMiddle_32 : decode b_M_loadMiddle 32 = .ok (.iload 4, 2) := by decide +kernel
theorem d_M_loadMiddle_34 : decode b_M_loadMiddle 34 = .ok (.iload 6, 2) := by decide +kernel
theorem d_M_loadMiddle_36 : decode b_M_loadMiddle 36 = .ok (.iload_n 3, 1) := by decide +kernel
theorem d_M_loadMiddle_37 : decode b_M_loadMiddle 37 = .ok (.invokevirtual 104, 3) := by decide +kernel
theorem d_M_loadMiddle_40 : decode b_M_loadMiddle 40 = .ok (.istore 7, 2) := by decide +kernel
theorem d_M_loadMiddle_42 : decode b_M_loadMiddle 42 = .ok (.aload_n 0, 1) := by decide +kernel
theorem d_M_loadMiddle_43 : decode b_M_loadMiddle 43 = .ok (.iload 5, 2) := by decide +kernel
theorem d_M_loadMiddle_45 : decode b_M_loadMiddle 45 = .ok (.putfield 93, 3) := by decide +kernel
theorem d_M_loadMiddle_48 : decode b_M_loadMiddle 48 = .ok (.iload 4, 2) := by decide +kernel
theorem d_M_loadMiddle_50 : decode b_M_loadMiddle 50 = .ok (.ireturn, 1) := by decide +kernel
theorem d_M_settle_0 : decode b_M_settle 0 = .ok (.aload_n 0, 1) := by decide +kernel
theorem d_M_settle_1 : decode b_M_settle 1 = .ok (.getfield 130, 3) := by decide +kernel
theorem d_M_settle_4 : decode b_M_settle 4 = .ok (.ifCond .le 27, 3) := by decide +kernel
theorem d_M_settle_7 : decode b_M_settle 7 = .ok (.aload_n 0, 1) := by decide +kernel
theorem d_M_settle_8 : decode b_M_settle 8 = .ok (.aload_n 0, 1) := by decide +kernel
theorem d_M_settle_9 : decode b_M_settle 9 = .ok (.getfield 130, 3) := by decide +kernel
theorem d_M_settle_12 : decode b_M_settle 12 = .ok (.invokevirtual 133, 3) := by decide +kernel
theorem d_M_settle_15 : decode b_M_settle 15 = .ok (.ifCond .ne 16, 3) := by decide +kernel
theorem d_M_settle_18 : decode b_M_settle 18 = .ok (.aload_n 0, 1) := by decide +kernel
theorem d_M_settle_19 : decode b_M_settle 19 = .ok (.dup, 1) := by decide +kernel
theorem d_M_settle_20 : decode b_M_settle 20 = .ok (.getfield 130, 3) := by decide +kernel
theorem d_M_settle_23 : decode b_M_settle 23 = .ok (.iconst 1, 1) := by decide +kernel
theorem d_M_settle_24 : decode b_M_settle 24 = .ok (.isub, 1) := by decide +kernel
theorem d_M_settle_25 : decode b_M_settle 25 = .ok (.putfield 130, 3) := by decide +kernel
theorem d_M_settle_28 : decode b_M_settle 28 = .ok (.goto (-28), 3) := by decide +kernel
theorem d_M_settle_31 : decode b_M_settle 31 = .ok (.aload_n 0, 1) := by decide +kernel
theorem d_M_settle_32 : decode b_M_settle 32 = .ok (.invokevirtual 82, 3) := by decide +kernel
theorem d_M_settle_35 : decode b_M_settle 35 = .ok (.return_, 1) := by decide +kernel
theorem d_M_used_0 : decode b_M_used 0 = .ok (.iconst 0, 1) := by decide +kernel
theorem d_M_used_1 : decode b_M_used 1 = .ok (.istore_n 2, 1) := by decide +kernel
theorem d_M_used_2 : decode b_M_used 2 = .ok (.iload_n 2, 1) := by decide +kernel
theorem d_M_used_3 : decode b_M_used 3 = .ok (.bipush 48, 2) := by decide +kernel
theorem d_M_used_5 : decode b_M_used 5 = .ok (.if_icmp .ge 30, 3) := by decide +kernel
theorem d_M_used_8 : decode b_M_used 8 = .ok (.aload_n 0, 1) := by decide +kernel
theorem d_M_used_9 : decode b_M_used 9 = .ok (.getfield 38, 3) := by decide +kernel
theorem d_M_used_12 : decode b_M_used 12 = .ok (.iload_n 2, 1) := by decide +kernel
theorem d_M_used_13 : decode b_M_used 13 = .ok (.baload, 1) := by decide +kernel
theorem d_M_used_14 : decode b_M_used 14 = .ok (.ifCond .eq 15, 3) := by decide +kernel
theorem d_M_used_17 : decode b_M_used 17 = .ok (.aload_n 0, 1) := by decide +kernel
theorem d_M_used_18 : decode b_M_used 18 = .ok (.getfield 26, 3) := by decide +kernel
theorem d_M_used_21 : decode b_M_used 21 = .ok (.iload_n 2, 1) := by decide +kernel
theorem d_M_used_22 : decode b_M_used 22 = .ok (.iaload, 1) := by decide +kernel
theorem d_M_used_23 : decode b_M_used 23 = .ok (.iload_n 1, 1) := by decide +kernel
theorem d_M_used_24 : decode b_M_used 24 = .ok (.if_icmp .ne 5, 3) := by decide +kernel
theorem d_M_used_27 : decode b_M_used 27 = .ok (.iconst 1, 1) := by decide +kernel
theorem d_M_used_28 : decode b_M_used 28 = .ok (.ireturn, 1) := by decide +kernel
theorem d_M_used_29 : decode b_M_used 29 = .ok (.iinc 2 1, 3) := by decide +kernel
theorem d_M_used_32 : decode b_M_used 32 = .ok (.goto (-30), 3) := by decide +kernel
theorem d_M_used_35 : decode b_M_used 35 = .ok (.iconst 0, 1) := by decide +kernel
theorem d_M_used_36 : decode b_M_used 36 = .ok (.ireturn, 1) := by decide +kernel
theorem d_M_rewrite_0 : decode b_M_rewrite 0 = .ok (.iload_n 2, 1) := by decide +kernel
theorem d_M_rewrite_1 : decode b_M_rewrite 1 = .ok (.iconst (-1), 1) := by decide +kernel
theorem d_M_rewrite_2 : decode b_M_rewrite 2 = .ok (.sipush 255, 3) := by decide +kernel
theorem d_M_rewrite_5 : decode b_M_rewrite 5 = .ok (.invokestatic 85, 3) := by decide +kernel
theorem d_M_rewrite_8 : decode b_M_rewrite 8 = .ok (.ifCond .ne 6, 3) := by decide +kernel
theorem d_M_rewrite_11 : decode b_M_rewrite 11 = .ok (.bipush (-3), 2) := by decide +kernel
theorem d_M_rewrite_13 : decode b_M_rewrite 13 = .ok (.ireturn, 1) := by decide +kernel
theorem d_M_rewrite_14 : decode b_M_rewrite 14 = .ok (.aload_n 0, 1) := by decide +kernel
theorem d_M_rewrite_15 : decode b_M_rewrite 15 = .ok (.iload_n 1, 1) := by decide +kernel
theorem d_M_rewrite_16 : decode b_M_rewrite 16 = .ok (.invokevirtual 146, 3) := by decide +kernel
theorem d_M_rewrite_19 : decode b_M_rewrite 19 = .ok (.ifCond .ne 6, 3) := by decide +kernel
theorem d_M_rewrite_22 : decode b_M_rewrite 22 = .ok (.bipush (-4), 2) := by decide +kernel
theorem d_M_rewrite_24 : decode b_M_rewrite 24 = .ok (.ireturn, 1) := by decide +kernel
theorem d_M_rewrite_25 : decode b_M_rewrite 25 = .ok (.aload_n 0, 1) := by decide +kernel
theorem d_M_rewrite_26 : decode b_M_rewrite 26 = .ok (.iload_n 1, 1) := by decide +kernel
theorem d_M_rewrite_27 : decode b_M_rewrite 27 = .ok (.invokevirtual 124, 3) := by decide +kernel
theorem d_M_rewrite_30 : decode b_M_rewrite 30 = .ok (.istore 5, 2) := by decide +kernel
theorem d_M_rewrite_32 : decode b_M_rewrite 32 = .ok (.aload_n 0, 1) := by decide +kernel
theorem d_M_rewrite_33 : decode b_M_rewrite 33 = .ok (.getfield 29, 3) := by decide +kernel
theorem d_M_rewrite_36 : decode b_M_rewrite 36 = .ok (.iload 5, 2) := by decide +kernel
theorem d_M_rewrite_38 : decode b_M_rewrite 38 = .ok (.iaload, 1) := by decide +kernel
theorem d_M_rewrite_39 : decode b_M_rewrite 39 = .ok (.istore 6, 2) := by decide +kernel
theorem d_M_rewrite_41 : decode b_M_rewrite 41 = .ok (.iload_n 2, 1) := by decide +kernel
theorem d_M_rewrite_42 : decode b_M_rewrite 42 = .ok (.iconst (-1), 1) := by decide +kernel
theorem d_M_rewrite_43 : decode b_M_rewrite 43 = .ok (.if_icmp .eq 45, 3) := by decide +kernel
theorem d_M_rewrite_46 : decode b_M_rewrite 46 = .ok (.iload 6, 2) := by decide +kernel
theorem d_M_rewrite_48 : decode b_M_rewrite 48 = .ok (.iconst (-1), 1) := by decide +kernel
theorem d_M_rewrite_49 : decode b_M_rewrite 49 = .ok (.if_icmp .eq 36, 3) := by decide +kernel
theorem d_M_rewrite_52 : decode b_M_rewrite 52 = .ok (.iload 6, 2) := by decide +kernel
theorem d_M_rewrite_54 : decode b_M_rewrite 54 = .ok (.bipush 64, 2) := by decide +kernel
theorem d_M_rewrite_56 : decode b_M_rewrite 56 = .ok (.idiv, 1) := by decide +kernel
theorem d_M_rewrite_57 : decode b_M_rewrite 57 = .ok (.iload_n 2, 1) := by decide +kernel
theorem d_M_rewrite_58 : decode b_M_rewrite 58 = .ok (.bipush 64, 2) := by decide +kernel
theorem d_M_rewrite_60 : decode b_M_rewrite 60 = .ok (.idiv, 1) := by decide +kernel
theorem d_M_rewrite_61 : decode b_M_rewrite 61 = .ok (.if_icmp .ne 24, 3) := by decide +kernel
theorem d_M_rewrite_64 : decode b_M_rewrite 64 = .ok (.iload 6, 2) := by decide +kernel
theorem d_M_rewrite_66 : decode b_M_rewrite 66 = .ok (.bipush 64, 2) := by decide +kernel
theorem d_M_rewrite_68 : decode b_M_rewrite 68 = .ok (.idiv, 1) := by decide +kernel
theorem d_M_rewrite_69 : decode b_M_rewrite 69 = .ok (.iconst 3, 1) := by decide +kernel
theorem d_M_rewrite_70 : decode b_M_rewrite 70 = .ok (.if_icmp .ne 18, 3) := by decide +kernel
theorem d_M_rewrite_73 : decode b_M_rewrite 73 = .ok (.iload 6, 2) := by decide +kernel
theorem d_M_rewrite_75 : decode b_M_rewrite 75 = .ok (.bipush 8, 2) := by decide +kernel
theorem d_M_rewrite_77 : decode b_M_rewrite 77 = .ok (.idiv, 1) := by decide +kernel
theorem d_M_rewrite_78 : decode b_M_rewrite 78 = .ok (.iload_n 2, 1) := by decide +kernel
theorem d_M_rewrite_79 : decode b_M_rewrite 79 = .ok (.bipush 8, 2) := by decide +kernel
theorem d_M_rewrite_81 : decode b_M_rewrite 81 = .ok (.idiv, 1) := by decide +kernel
theorem d_M_rewrite_82 : decode b_M_rewrite 82 = .ok (.if_icmp .eq 6, 3) := by decide +kernel
theorem d_M_rewrite_85 : decode b_M_rewrite 85 = .ok (.bipush (-6), 2) := by decide +kernel
theorem d_M_rewrite_87 : decode b_M_rewrite 87 = .ok (.ireturn, 1) := by decide +kernel
theorem d_M_rewrite_88 : decode b_M_rewrite 88 = .ok (.aload_n 0, 1) := by decide +kernel
theorem d_M_rewrite_89 : decode b_M_rewrite 89 = .ok (.iload 4, 2) := by decide +kernel
theorem d_M_rewrite_91 : decode b_M_rewrite 91 = .ok (.invokevirtual 149, 3) := by decide +kernel
theorem d_M_rewrite_94 : decode b_M_rewrite 94 = .ok (.ifCond .eq 6, 3) := by decide +kernel
theorem d_M_rewrite_97 : decode b_M_rewrite 97 = .ok (.bipush (-5), 2) := by decide +kernel
theorem d_M_rewrite_99 : decode b_M_rewrite 99 = .ok (.ireturn, 1) := by decide +kernel
theorem d_M_rewrite_100 : decode b_M_rewrite 100 = .ok (.aload_n 0, 1) := by decide +kernel
theorem d_M_rewrite_101 : decode b_M_rewrite 101 = .ok (.iload_n 1, 1) := by decide +kernel
theorem d_M_rewrite_102 : decode b_M_rewrite 102 = .ok (.iload_n 2, 1) := by decide +kernel
theorem d_M_rewrite_103 : decode b_M_rewrite 103 = .ok (.iconst (-1), 1) := by decide +kernel
theorem d_M_rewrite_104 : decode b_M_rewrite 104 = .ok (.if_icmp .ne 8, 3) := by decide +kernel
theorem d_M_rewrite_107 : decode b_M_rewrite 107 = .ok (.iload 6, 2) := by decide +kernel
theorem d_M_rewrite_109 : decode b_M_rewrite 109 = .ok (.goto 4, 3) := by decide +kernel
theorem d_M_rewrite_112 : decode b_M_rewrite 112 = .ok (.iload_n 2, 1) := by decide +kernel
theorem d_M_rewrite_113 : decode b_M_rewrite 113 = .ok (.iload_n 3, 1) := by decide +kernel
theorem d_M_rewrite_114 : decode b_M_rewrite 114 = .ok (.iload 4, 2) := by decide +kernel
theorem d_M_rewrite_116 : decode b_M_rewrite 116 = .ok (.aload_n 0, 1) := by decide +kernel
theorem d_M_rewrite_117 : decode b_M_rewrite 117 = .ok (.getfield 35, 3) := by decide +kernel
theorem d_M_rewrite_120 : decode b_M_rewrite 120 = .ok (.iload 5, 2) := by decide +kernel
theorem d_M_rewrite_122 : decode b_M_rewrite 122 = .ok (.iaload, 1) := by decide +kernel
theorem d_M_rewrite_123 : decode b_M_rewrite 123 = .ok (.invokevirtual 159, 3) := by decide +kernel
theorem d_M_rewrite_126 : decode b_M_rewrite 126 = .ok (.aload_n 0, 1) := by decide +kernel
theorem d_M_rewrite_127 : decode b_M_rewrite 127 = .ok (.getfield 130, 3) := by decide +kernel
theorem d_M_rewrite_130 : decode b_M_rewrite 130 = .ok (.ireturn, 1) := by decide +kernel
theorem d_M_go_0 : decode b_M_go 0 = .ok (.lconst 0, 1) := by decide +kernel
theorem d_M_go_1 : decode b_M_go 1 = .ok (.lstore_n 2, 1) := by decide +kernel
theorem d_M_go_2 : decode b_M_go 2 = .ok (.iconst 0, 1) := by decide +kernel
theorem d_M_go_3 : decode b_M_go 3 = .ok (.istore 4, 2) := by decide +kernel
theorem d_M_go_5 : decode b_M_go 5 = .ok (.iload 4, 2) := by decide +kernel
theorem d_M_go_7 : decode b_M_go 7 = .ok (.aload_n 0, 1) := by decide +kernel
theorem d_M_go_8 : decode b_M_go 8 = .ok (.getfield 130, 3) := by decide +kernel
theorem d_M_go_11 : decode b_M_go 11 = .ok (.if_icmp .ge 26, 3) := by decide +kernel
theorem d_M_go_14 : decode b_M_go 14 = .ok (.aload_n 0, 1) := by decide +kernel
theorem d_M_go_15 : decode b_M_go 15 = .ok (.iload 4, 2) := by decide +kernel
theorem d_M_go_17 : decode b_M_go 17 = .ok (.invokevirtual 133, 3) := by decide +kernel
theorem d_M_go_20 : decode b_M_go 20 = .ok (.ifCond .eq 9, 3) := by decide +kernel
theorem d_M_go_23 : decode b_M_go 23 = .ok (.lload_n 2, 1) := by decide +kernel
theorem d_M_go_24 : decode b_M_go 24 = .ok (.lconst 1, 1) := by decide +kernel
theorem d_M_go_25 : decode b_M_go 25 = .ok (.ladd, 1) := by decide +kernel
theorem d_M_go_26 : decode b_M_go 26 = .ok (.goto 4, 3) := by decide +kernel
theorem d_M_go_29 : decode b_M_go 29 = .ok (.lload_n 2, 1) := by decide +kernel
theorem d_M_go_30 : decode b_M_go 30 = .ok (.lstore_n 2, 1) := by decide +kernel
theorem d_M_go_31 : decode b_M_go 31 = .ok (.iinc 4 1, 3) := by decide +kernel
theorem d_M_go_34 : decode b_M_go 34 = .ok (.goto (-29), 3) := by decide +kernel
theorem d_M_go_37 : decode b_M_go 37 = .ok (.aload_n 0, 1) := by decide +kernel
theorem d_M_go_38 : decode b_M_go 38 = .ok (.lload_n 2, 1) := by decide +kernel
theorem d_M_go_39 : decode b_M_go 39 = .ok (.iload_n 1, 1) := by decide +kernel
theorem d_M_go_40 : decode b_M_go 40 = .ok (.i2l, 1) := by decide +kernel
theorem d_M_go_41 : decode b_M_go 41 = .ok (.ladd, 1) := by decide +kernel
theorem d_M_go_42 : decode b_M_go 42 = .ok (.invokevirtual 163, 3) := by decide +kernel
theorem d_M_go_45 : decode b_M_go 45 = .ok (.istore 4, 2) := by decide +kernel
theorem d_M_go_47 : decode b_M_go 47 = .ok (.iload 4, 2) := by decide +kernel
theorem d_M_go_49 : decode b_M_go 49 = .ok (.ifCond .ge 6, 3) := by decide +kernel
theorem d_M_go_52 : decode b_M_go 52 = .ok (.bipush (-7), 2) := by decide +kernel
theorem d_M_go_54 : decode b_M_go 54 = .ok (.ireturn, 1) := by decide +kernel
theorem d_M_go_55 : decode b_M_go 55 = .ok (.iconst 0, 1) := by decide +kernel
theorem d_M_go_56 : decode b_M_go 56 = .ok (.istore 5, 2) := by decide +kernel
theorem d_M_go_58 : decode b_M_go 58 = .ok (.iload 5, 2) := by decide +kernel
theorem d_M_go_60 : decode b_M_go 60 = .ok (.bipush 48, 2) := by decide +kernel
theorem d_M_go_62 : decode b_M_go 62 = .ok (.if_icmp .ge 36, 3) := by decide +kernel
theorem d_M_go_65 : decode b_M_go 65 = .ok (.aload_n 0, 1) := by decide +kernel
theorem d_M_go_66 : decode b_M_go 66 = .ok (.getfield 65, 3) := by decide +kernel
theorem d_M_go_69 : decode b_M_go 69 = .ok (.iload 5, 2) := by decide +kernel
theorem d_M_go_71 : decode b_M_go 71 = .ok (.aload_n 0, 1) := by decide +kernel
theorem d_M_go_72 : decode b_M_go 72 = .ok (.getfield 62, 3) := by decide +kernel
theorem d_M_go_75 : decode b_M_go 75 = .ok (.iload 5, 2) := by decide +kernel
theorem d_M_go_77 : decode b_M_go 77 = .ok (.baload, 1) := by decide +kernel
theorem d_M_go_78 : decode b_M_go 78 = .ok (.ifCond .eq 12, 3) := by decide +kernel
theorem d_M_go_81 : decode b_M_go 81 = .ok (.aload_n 0, 1) := by decide +kernel
theorem d_M_go_82 : decode b_M_go 82 = .ok (.iload 5, 2) := by decide +kernel
theorem d_M_go_84 : decode b_M_go 84 = .ok (.invokevirtual 124, 3) := by decide +kernel
theorem d_M_go_87 : decode b_M_go 87 = .ok (.goto 4, 3) := by decide +kernel
theorem d_M_go_90 : decode b_M_go 90 = .ok (.iconst (-1), 1) := by decide +kernel
theorem d_M_go_91 : decode b_M_go 91 = .ok (.iastore, 1) := by decide +kernel
theorem d_M_go_92 : decode b_M_go 92 = .ok (.iinc 5 1, 3) := by decide +kernel
theorem d_M_go_95 : decode b_M_go 95 = .ok (.goto (-37), 3) := by decide +kernel
theorem d_M_go_98 : decode b_M_go 98 = .ok (.aload_n 0, 1) := by decide +kernel
theorem d_M_go_99 : decode b_M_go 99 = .ok (.iload 4, 2) := by decide +kernel
theorem d_M_go_101 : decode b_M_go 101 = .ok (.putfield 130, 3) := by decide +kernel
theorem d_M_go_104 : decode b_M_go 104 = .ok (.aload_n 0, 1) := by decide +kernel
theorem d_M_go_105 : decode b_M_go 105 = .ok (.invokevirtual 82, 3) := by decide +kernel
theorem d_M_go_108 : decode b_M_go 108 = .ok (.iconst 0, 1) := by decide +kernel
theorem d_M_go_109 : decode b_M_go 109 = .ok (.istore 5, 2) := by decide +kernel
theorem d_M_go_111 : decode b_M_go 111 = .ok (.iload 5, 2) := by decide +kernel
theorem d_M_go_113 : decode b_M_go 113 = .ok (.bipush 48, 2) := by decide +kernel
theorem d_M_go_115 : decode b_M_go 115 = .ok (.if_icmp .ge 135, 3) := by decide +kernel
theorem d_M_go_118 : decode b_M_go 118 = .ok (.aload_n 0, 1) := by decide +kernel
theorem d_M_go_119 : decode b_M_go 119 = .ok (.getfield 62, 3) := by decide +kernel
theorem d_M_go_122 : decode b_M_go 122 = .ok (.iload 5, 2) := by decide +kernel
theorem d_M_go_124 : decode b_M_go 124 = .ok (.baload, 1) := by decide +kernel
theorem d_M_go_125 : decode b_M_go 125 = .ok (.ifCond .eq 12, 3) := by decide +kernel
theorem d_M_go_128 : decode b_M_go 128 = .ok (.aload_n 0, 1) := by decide +kernel
theorem d_M_go_129 : decode b_M_go 129 = .ok (.iload 5, 2) := by decide +kernel
theorem d_M_go_131 : decode b_M_go 131 = .ok (.invokevirtual 124, 3) := by decide +kernel
theorem d_M_go_134 : decode b_M_go 134 = .ok (.goto 4, 3) := by decide +kernel
theorem d_M_go_137 : decode b_M_go 137 = .ok (.iconst (-1), 1) := by decide +kernel
theorem d_M_go_138 : decode b_M_go 138 = .ok (.istore 6, 2) := by decide +kernel
theorem d_M_go_140 : decode b_M_go 140 = .ok (.iload 6, 2) := by decide +kernel
theorem d_M_go_142 : decode b_M_go 142 = .ok (.ifCond .lt 102, 3) := by decide +kernel
theorem d_M_go_145 : decode b_M_go 145 = .ok (.aload_n 0, 1) := by decide +kernel
theorem d_M_go_146 : decode b_M_go 146 = .ok (.getfield 65, 3) := by decide +kernel
theorem d_M_go_149 : decode b_M_go 149 = .ok (.iload 5, 2) := by decide +kernel
theorem d_M_go_151 : decode b_M_go 151 = .ok (.iaload, 1) := by decide +kernel
theorem d_M_go_152 : decode b_M_go 152 = .ok (.ifCond .lt 92, 3) := by decide +kernel
theorem d_M_go_155 : decode b_M_go 155 = .ok (.iload 6, 2) := by decide +kernel
theorem d_M_go_157 : decode b_M_go 157 = .ok (.aload_n 0, 1) := by decide +kernel
theorem d_M_go_158 : decode b_M_go 158 = .ok (.getfield 65, 3) := by decide +kernel
theorem d_M_go_161 : decode b_M_go 161 = .ok (.iload 5, 2) := by decide +kernel
theorem d_M_go_163 : decode b_M_go 163 = .ok (.iaload, 1) := by decide +kernel
theorem d_M_go_164 : decode b_M_go 164 = .ok (.if_icmp .eq 80, 3) := by decide +kernel
theorem d_M_go_167 : decode b_M_go 167 = .ok (.aload_n 0, 1) := by decide +kernel
theorem d_M_go_168 : decode b_M_go 168 = .ok (.getfield 35, 3) := by decide +kernel
theorem d_M_go_171 : decode b_M_go 171 = .ok (.iload 6, 2) := by decide +kernel
theorem d_M_go_173 : decode b_M_go 173 = .ok (.iaload, 1) := by decide +kernel
theorem d_M_go_174 : decode b_M_go 174 = .ok (.aload_n 0, 1) := by decide +kernel
theorem d_M_go_175 : decode b_M_go 175 = .ok (.getfield 35, 3) := by decide +kernel
theorem d_M_go_178 : decode b_M_go 178 = .ok (.aload_n 0, 1) := by decide +kernel
theorem d_M_go_179 : decode b_M_go 179 = .ok (.getfield 65, 3) := by decide +kernel
theorem d_M_go_182 : decode b_M_go 182 = .ok (.iload 5, 2) := by decide +kernel
theorem d_M_go_184 : decode b_M_go 184 = .ok (.iaload, 1) := by decide +kernel
theorem d_M_go_185 : decode b_M_go 185 = .ok (.iaload, 1) := by decide +kernel
theorem d_M_go_186 : decode b_M_go 186 = .ok (.if_icmp .ne 58, 3) := by decide +kernel
theorem d_M_go_189 : decode b_M_go 189 = .ok (.aload_n 0, 1) := by decide +kernel
theorem d_M_go_190 : decode b_M_go 190 = .ok (.dup, 1) := by decide +kernel
theorem d_M_go_191 : decode b_M_go 191 = .ok (.getfield 167, 3) := by decide +kernel
theorem d_M_go_194 : decode b_M_go 194 = .ok (.iconst 1, 1) := by decide +kernel
theorem d_M_go_195 : decode b_M_go 195 = .ok (.iadd, 1) := by decide +kernel
theorem d_M_go_196 : decode b_M_go 196 = .ok (.putfield 167, 3) := by decide +kernel
theorem d_M_go_199 : decode b_M_go 199 = .ok (.aload_n 0, 1) := by decide +kernel
theorem d_M_go_200 : decode b_M_go 200 = .ok (.aload_n 0, 1) := by decide +kernel
theorem d_M_go_201 : decode b_M_go 201 = .ok (.getfield 29, 3) := by decide +kernel
theorem d_M_go_204 : decode b_M_go 204 = .ok (.iload 6, 2) := by decide +kernel
theorem d_M_go_206 : decode b_M_go 206 = .ok (.iaload, 1) := by decide +kernel
theorem d_M_go_207 : decode b_M_go 207 = .ok (.invokestatic 153, 3) := by decide +kernel
theorem d_M_go_210 : decode b_M_go 210 = .ok (.aload_n 0, 1) := by decide +kernel
theorem d_M_go_211 : decode b_M_go 211 = .ok (.getfield 29, 3) := by decide +kernel
theorem d_M_go_214 : decode b_M_go 214 = .ok (.aload_n 0, 1) := by decide +kernel
theorem d_M_go_215 : decode b_M_go 215 = .ok (.getfield 65, 3) := by decide +kernel
theorem d_M_go_218 : decode b_M_go 218 = .ok (.iload 5, 2) := by decide +kernel
theorem d_M_go_220 : decode b_M_go 220 = .ok (.iaload, 1) := by decide +kernel
theorem d_M_go_221 : decode b_M_go 221 = .ok (.iaload, 1) := by decide +kernel
theorem d_M_go_222 : decode b_M_go 222 = .ok (.invokestatic 153, 3) := by decide +kernel
theorem d_M_go_225 : decode b_M_go 225 = .ok (.if_icmp .ne 10, 3) := by decide +kernel
theorem d_M_go_228 : decode b_M_go 228 = .ok (.aload_n 0, 1) := by decide +kernel
theorem d_M_go_229 : decode b_M_go 229 = .ok (.getfield 156, 3) := by decide +kernel
theorem d_M_go_232 : decode b_M_go 232 = .ok (.goto 9, 3) := by decide +kernel
theorem d_M_go_235 : decode b_M_go 235 = .ok (.aload_n 0, 1) := by decide +kernel
theorem d_M_go_236 : decode b_M_go 236 = .ok (.getfield 156, 3) := by decide +kernel
theorem d_M_go_239 : decode b_M_go 239 = .ok (.iconst 1, 1) := by decide +kernel
theorem d_M_go_240 : decode b_M_go 240 = .ok (.iadd, 1) := by decide +kernel
theorem d_M_go_241 : decode b_M_go 241 = .ok (.putfield 156, 3) := by decide +kernel
theorem d_M_go_244 : decode b_M_go 244 = .ok (.iinc 5 1, 3) := by decide +kernel
theorem d_M_go_247 : decode b_M_go 247 = .ok (.goto (-136), 3) := by decide +kernel
theorem d_M_go_250 : decode b_M_go 250 = .ok (.aload_n 0, 1) := by decide +kernel
theorem d_M_go_251 : decode b_M_go 251 = .ok (.getfield 130, 3) := by decide +kernel
theorem d_M_go_254 : decode b_M_go 254 = .ok (.ireturn, 1) := by decide +kernel
theorem d_M_stepAt_0 : decode b_M_stepAt 0 = .ok (.lconst 0, 1) := by decide +kernel
theorem d_M_stepAt_1 : decode b_M_stepAt 1 = .ok (.lstore_n 3, 1) := by decide +kernel
theorem d_M_stepAt_2 : decode b_M_stepAt 2 = .ok (.iconst 0, 1) := by decide +kernel
theorem d_M_stepAt_3 : decode b_M_stepAt 3 = .ok (.istore 5, 2) := by decide +kernel
theorem d_M_stepAt_5 : decode b_M_stepAt 5 = .ok (.iload 5, 2) := by decide +kernel
theorem d_M_stepAt_7 : decode b_M_stepAt 7 = .ok (.sipush 600, 3) := by decide +kernel
theorem d_M_stepAt_10 : decode b_M_stepAt 10 = .ok (.if_icmp .gt 31, 3) := by decide +kernel
theorem d_M_stepAt_13 : decode b_M_stepAt 13 = .ok (.aload_n 0, 1) := by decide +kernel
theorem d_M_stepAt_14 : decode b_M_stepAt 14 = .ok (.iload 5, 2) := by decide +kernel
theorem d_M_stepAt_16 : decode b_M_stepAt 16 = .ok (.invokevirtual 133, 3) := by decide +kernel
theorem d_M_stepAt_19 : decode b_M_stepAt 19 = .ok (.ifCond .eq 16, 3) := by decide +kernel
theorem d_M_stepAt_22 : decode b_M_stepAt 22 = .ok (.lload_n 3, 1) := by decide +kernel
theorem d_M_stepAt_23 : decode b_M_stepAt 23 = .ok (.lload_n 1, 1) := by decide +kernel
theorem d_M_stepAt_24 : decode b_M_stepAt 24 = .ok (.lcmp, 1) := by decide +kernel
theorem d_M_stepAt_25 : decode b_M_stepAt 25 = .ok (.ifCond .ne 6, 3) := by decide +kernel
theorem d_M_stepAt_28 : decode b_M_stepAt 28 = .ok (.iload 5, 2) := by decide +kernel
theorem d_M_stepAt_30 : decode b_M_stepAt 30 = .ok (.ireturn, 1) := by decide +kernel
theorem d_M_stepAt_31 : decode b_M_stepAt 31 = .ok (.lload_n 3, 1) := by decide +kernel
theorem d_M_stepAt_32 : decode b_M_stepAt 32 = .ok (.lconst 1, 1) := by decide +kernel
theorem d_M_stepAt_33 : decode b_M_stepAt 33 = .ok (.ladd, 1) := by decide +kernel
theorem d_M_stepAt_34 : decode b_M_stepAt 34 = .ok (.lstore_n 3, 1) := by decide +kernel
theorem d_M_stepAt_35 : decode b_M_stepAt 35 = .ok (.iinc 5 1, 3) := by decide +kernel
theorem d_M_stepAt_38 : decode b_M_stepAt 38 = .ok (.goto (-33), 3) := by decide +kernel
theorem d_M_stepAt_41 : decode b_M_stepAt 41 = .ok (.iconst (-1), 1) := by decide +kernel
theorem d_M_stepAt_42 : decode b_M_stepAt 42 = .ok (.ireturn, 1) := by decide +kernel
end
section
theorem d_M_detach_0 : decode b_M_detach 0 = .ok (.iload_n 1, 1) := by decide +kernel
theorem d_M_detach_1 : decode b_M_detach 1 = .ok (.ifCond .ne 6, 3) := by decide +kernel
theorem d_M_detach_4 : decode b_M_detach 4 = .ok (.bipush (-3), 2) := by decide +kernel
theorem d_M_detach_6 : decode b_M_detach 6 = .ok (.ireturn, 1) := by decide +kernel
theorem d_M_detach_7 : decode b_M_detach 7 = .ok (.aload_n 0, 1) := by decide +kernel
theorem d_M_detach_8 : decode b_M_detach 8 = .ok (.iload_n 1, 1) := by decide +kernel
theorem d_M_detach_9 : decode b_M_detach 9 = .ok (.invokevirtual 146, 3) := by decide +kernel
theorem d_M_detach_12 : decode b_M_detach 12 = .ok (.ifCond .ne 6, 3) := by decide +kernel
theorem d_M_detach_15 : decode b_M_detach 15 = .ok (.bipush (-4), 2) := by decide +kernel
theorem d_M_detach_17 : decode b_M_detach 17 = .ok (.ireturn, 1) := by decide +kernel
theorem d_M_detach_18 : decode b_M_detach 18 = .ok (.aload_n 0, 1) := by decide +kernel
theorem d_M_detach_19 : decode b_M_detach 19 = .ok (.getfield 59, 3) := by decide +kernel
theorem d_M_detach_22 : decode b_M_detach 22 = .ok (.iload_n 1, 1) := by decide +kernel
theorem d_M_detach_23 : decode b_M_detach 23 = .ok (.iaload, 1) := by decide +kernel
theorem d_M_detach_24 : decode b_M_detach 24 = .ok (.istore_n 2, 1) := by decide +kernel
theorem d_M_detach_25 : decode b_M_detach 25 = .ok (.aload_n 0, 1) := by decide +kernel
theorem d_M_detach_26 : decode b_M_detach 26 = .ok (.getfield 50, 3) := by decide +kernel
theorem d_M_detach_29 : decode b_M_detach 29 = .ok (.iload_n 2, 1) := by decide +kernel
theorem d_M_detach_30 : decode b_M_detach 30 = .ok (.iaload, 1) := by decide +kernel
theorem d_M_detach_31 : decode b_M_detach 31 = .ok (.iload_n 1, 1) := by decide +kernel
theorem d_M_detach_32 : decode b_M_detach 32 = .ok (.if_icmp .ne 15, 3) := by decide +kernel
theorem d_M_detach_35 : decode b_M_detach 35 = .ok (.aload_n 0, 1) := by decide +kernel
theorem d_M_detach_36 : decode b_M_detach 36 = .ok (.getfield 50, 3) := by decide +kernel
theorem d_M_detach_39 : decode b_M_detach 39 = .ok (.iload_n 2, 1) := by decide +kernel
theorem d_M_detach_40 : decode b_M_detach 40 = .ok (.aload_n 0, 1) := by decide +kernel
theorem d_M_detach_41 : decode b_M_detach 41 = .ok (.getfield 53, 3) := by decide +kernel
theorem d_M_detach_44 : decode b_M_detach 44 = .ok (.iload_n 2, 1) := by decide +kernel
theorem d_M_detach_45 : decode b_M_detach 45 = .ok (.iaload, 1) := by decide +kernel
theorem d_M_detach_46 : decode b_M_detach 46 = .ok (.iastore, 1) := by decide +kernel
theorem d_M_detach_47 : decode b_M_detach 47 = .ok (.aload_n 0, 1) := by decide +kernel
theorem d_M_detach_48 : decode b_M_detach 48 = .ok (.getfield 53, 3) := by decide +kernel
theorem d_M_detach_51 : decode b_M_detach 51 = .ok (.iload_n 2, 1) := by decide +kernel
theorem d_M_detach_52 : decode b_M_detach 52 = .ok (.iconst (-1), 1) := by decide +kernel
theorem d_M_detach_53 : decode b_M_detach 53 = .ok (.iastore, 1) := by decide +kernel
theorem d_M_detach_54 : decode b_M_detach 54 = .ok (.aload_n 0, 1) := by decide +kernel
theorem d_M_detach_55 : decode b_M_detach 55 = .ok (.invokevirtual 82, 3) := by decide +kernel
theorem d_M_detach_58 : decode b_M_detach 58 = .ok (.aload_n 0, 1) := by decide +kernel
theorem d_M_detach_59 : decode b_M_detach 59 = .ok (.invokevirtual 143, 3) := by decide +kernel
theorem d_M_detach_62 : decode b_M_detach 62 = .ok (.aload_n 0, 1) := by decide +kernel
theorem d_M_detach_63 : decode b_M_detach 63 = .ok (.getfield 130, 3) := by decide +kernel
theorem d_M_detach_66 : decode b_M_detach 66 = .ok (.ireturn, 1) := by decide +kernel
theorem d_M_url_0 : decode b_M_url 0 = .ok (.aload_n 0, 1) := by decide +kernel
theorem d_M_url_1 : decode b_M_url 1 = .ok (.iload_n 1, 1) := by decide +kernel
theorem d_M_url_2 : decode b_M_url 2 = .ok (.invokevirtual 146, 3) := by decide +kernel
theorem d_M_url_5 : decode b_M_url 5 = .ok (.ifCond .eq 16, 3) := by decide +kernel
theorem d_M_url_8 : decode b_M_url 8 = .ok (.aload_n 0, 1) := by decide +kernel
theorem d_M_url_9 : decode b_M_url 9 = .ok (.getfield 29, 3) := by decide +kernel
theorem d_M_url_12 : decode b_M_url 12 = .ok (.aload_n 0, 1) := by decide +kernel
theorem d_M_url_13 : decode b_M_url 13 = .ok (.iload_n 1, 1) := by decide +kernel
theorem d_M_url_14 : decode b_M_url 14 = .ok (.invokevirtual 124, 3) := by decide +kernel
theorem d_M_url_17 : decode b_M_url 17 = .ok (.iaload, 1) := by decide +kernel
theorem d_M_url_18 : decode b_M_url 18 = .ok (.goto 5, 3) := by decide +kernel
theorem d_M_url_21 : decode b_M_url 21 = .ok (.bipush (-4), 2) := by decide +kernel
theorem d_M_url_23 : decode b_M_url 23 = .ok (.ireturn, 1) := by decide +kernel
theorem d_M_state_0 : decode b_M_state 0 = .ok (.aload_n 0, 1) := by decide +kernel
theorem d_M_state_1 : decode b_M_state 1 = .ok (.iload_n 1, 1) := by decide +kernel
theorem d_M_state_2 : decode b_M_state 2 = .ok (.invokevirtual 146, 3) := by decide +kernel
theorem d_M_state_5 : decode b_M_state 5 = .ok (.ifCond .eq 17, 3) := by decide +kernel
theorem d_M_state_8 : decode b_M_state 8 = .ok (.aload_n 0, 1) := by decide +kernel
theorem d_M_state_9 : decode b_M_state 9 = .ok (.getfield 32, 3) := by decide +kernel
theorem d_M_state_12 : decode b_M_state 12 = .ok (.aload_n 0, 1) := by decide +kernel
theorem d_M_state_13 : decode b_M_state 13 = .ok (.iload_n 1, 1) := by decide +kernel
theorem d_M_state_14 : decode b_M_state 14 = .ok (.invokevirtual 124, 3) := by decide +kernel
theorem d_M_state_17 : decode b_M_state 17 = .ok (.iaload, 1) := by decide +kernel
theorem d_M_state_18 : decode b_M_state 18 = .ok (.i2l, 1) := by decide +kernel
theorem d_M_state_19 : decode b_M_state 19 = .ok (.goto 6, 3) := by decide +kernel
theorem d_M_state_22 : decode b_M_state 22 = .ok (.ldc2_w 170, 3) := by decide +kernel
theorem d_M_state_25 : decode b_M_state 25 = .ok (.lreturn, 1) := by decide +kernel
theorem d_M_step_0 : decode b_M_step 0 = .ok (.aload_n 0, 1) := by decide +kernel
theorem d_M_step_1 : decode b_M_step 1 = .ok (.iload_n 1, 1) := by decide +kernel
theorem d_M_step_2 : decode b_M_step 2 = .ok (.invokevirtual 146, 3) := by decide +kernel
theorem d_M_step_5 : decode b_M_step 5 = .ok (.ifCond .eq 16, 3) := by decide +kernel
theorem d_M_step_8 : decode b_M_step 8 = .ok (.aload_n 0, 1) := by decide +kernel
theorem d_M_step_9 : decode b_M_step 9 = .ok (.getfield 26, 3) := by decide +kernel
theorem d_M_step_12 : decode b_M_step 12 = .ok (.aload_n 0, 1) := by decide +kernel
theorem d_M_step_13 : decode b_M_step 13 = .ok (.iload_n 1, 1) := by decide +kernel
theorem d_M_step_14 : decode b_M_step 14 = .ok (.invokevirtual 124, 3) := by decide +kernel
theorem d_M_step_17 : decode b_M_step 17 = .ok (.iaload, 1) := by decide +kernel
theorem d_M_step_18 : decode b_M_step 18 = .ok (.goto 5, 3) := by decide +kernel
theorem d_M_step_21 : decode b_M_step 21 = .ok (.bipush (-4), 2) := by decide +kernel
theorem d_M_step_23 : decode b_M_step 23 = .ok (.ireturn, 1) := by decide +kernel
theorem d_M_origin_0 : decode b_M_origin 0 = .ok (.aload_n 0, 1) := by decide +kernel
theorem d_M_origin_1 : decode b_M_origin 1 = .ok (.iload_n 1, 1) := by decide +kernel
theorem d_M_origin_2 : decode b_M_origin 2 = .ok (.invokevirtual 146, 3) := by decide +kernel
theorem d_M_origin_5 : decode b_M_origin 5 = .ok (.ifCond .eq 21, 3) := by decide +kernel
theorem d_M_origin_8 : decode b_M_origin 8 = .ok (.aload_n 0, 1) := by decide +kernel
theorem d_M_origin_9 : decode b_M_origin 9 = .ok (.getfield 44, 3) := by decide +kernel
theorem d_M_origin_12 : decode b_M_origin 12 = .ok (.aload_n 0, 1) := by decide +kernel
theorem d_M_origin_13 : decode b_M_origin 13 = .ok (.getfield 35, 3) := by decide +kernel
theorem d_M_origin_16 : decode b_M_origin 16 = .ok (.aload_n 0, 1) := by decide +kernel
theorem d_M_origin_17 : decode b_M_origin 17 = .ok (.iload_n 1, 1) := by decide +kernel
theorem d_M_origin_18 : decode b_M_origin 18 = .ok (.invokevirtual 124, 3) := by decide +kernel
theorem d_M_origin_21 : decode b_M_origin 21 = .ok (.iaload, 1) := by decide +kernel
theorem d_M_origin_22 : decode b_M_origin 22 = .ok (.iaload, 1) := by decide +kernel
theorem d_M_origin_23 : decode b_M_origin 23 = .ok (.goto 5, 3) := by decide +kernel
theorem d_M_origin_26 : decode b_M_origin 26 = .ok (.bipush (-4), 2) := by decide +kernel
theorem d_M_origin_28 : decode b_M_origin 28 = .ok (.ireturn, 1) := by decide +kernel
theorem d_M_frame_0 : decode b_M_frame 0 = .ok (.aload_n 0, 1) := by decide +kernel
theorem d_M_frame_1 : decode b_M_frame 1 = .ok (.iload_n 1, 1) := by decide +kernel
theorem d_M_frame_2 : decode b_M_frame 2 = .ok (.invokevirtual 146, 3) := by decide +kernel
theorem d_M_frame_5 : decode b_M_frame 5 = .ok (.ifCond .ne 6, 3) := by decide +kernel
theorem d_M_frame_8 : decode b_M_frame 8 = .ok (.bipush (-4), 2) := by decide +kernel
theorem d_M_frame_10 : decode b_M_frame 10 = .ok (.ireturn, 1) := by decide +kernel
theorem d_M_frame_11 : decode b_M_frame 11 = .ok (.aload_n 0, 1) := by decide +kernel
theorem d_M_frame_12 : decode b_M_frame 12 = .ok (.getfield 35, 3) := by decide +kernel
theorem d_M_frame_15 : decode b_M_frame 15 = .ok (.aload_n 0, 1) := by decide +kernel
theorem d_M_frame_16 : decode b_M_frame 16 = .ok (.iload_n 1, 1) := by decide +kernel
theorem d_M_frame_17 : decode b_M_frame 17 = .ok (.invokevirtual 124, 3) := by decide +kernel
theorem d_M_frame_20 : decode b_M_frame 20 = .ok (.iaload, 1) := by decide +kernel
theorem d_M_frame_21 : decode b_M_frame 21 = .ok (.istore_n 3, 1) := by decide +kernel
theorem d_M_frame_22 : decode b_M_frame 22 = .ok (.iload_n 2, 1) := by decide +kernel
theorem d_M_frame_23 : decode b_M_frame 23 = .ok (.ifCond .ne 12, 3) := by decide +kernel
theorem d_M_frame_26 : decode b_M_frame 26 = .ok (.aload_n 0, 1) := by decide +kernel
theorem d_M_frame_27 : decode b_M_frame 27 = .ok (.getfield 50, 3) := by decide +kernel
theorem d_M_frame_30 : decode b_M_frame 30 = .ok (.iload_n 3, 1) := by decide +kernel
theorem d_M_frame_31 : decode b_M_frame 31 = .ok (.iaload, 1) := by decide +kernel
theorem d_M_frame_32 : decode b_M_frame 32 = .ok (.goto 18, 3) := by decide +kernel
theorem d_M_frame_35 : decode b_M_frame 35 = .ok (.iload_n 2, 1) := by decide +kernel
theorem d_M_frame_36 : decode b_M_frame 36 = .ok (.iconst 1, 1) := by decide +kernel
theorem d_M_frame_37 : decode b_M_frame 37 = .ok (.if_icmp .ne 12, 3) := by decide +kernel
theorem d_M_frame_40 : decode b_M_frame 40 = .ok (.aload_n 0, 1) := by decide +kernel
theorem d_M_frame_41 : decode b_M_frame 41 = .ok (.getfield 53, 3) := by decide +kernel
theorem d_M_frame_44 : decode b_M_frame 44 = .ok (.iload_n 3, 1) := by decide +kernel
theorem d_M_frame_45 : decode b_M_frame 45 = .ok (.iaload, 1) := by decide +kernel
theorem d_M_frame_46 : decode b_M_frame 46 = .ok (.goto 4, 3) := by decide +kernel
theorem d_M_frame_49 : decode b_M_frame 49 = .ok (.iconst (-1), 1) := by decide +kernel
theorem d_M_frame_50 : decode b_M_frame 50 = .ok (.istore 4, 2) := by decide +kernel
theorem d_M_frame_52 : decode b_M_frame 52 = .ok (.iload 4, 2) := by decide +kernel
theorem d_M_frame_54 : decode b_M_frame 54 = .ok (.ifCond .ge 8, 3) := by decide +kernel
theorem d_M_frame_57 : decode b_M_frame 57 = .ok (.bipush (-7), 2) := by decide +kernel
theorem d_M_frame_59 : decode b_M_frame 59 = .ok (.goto 5, 3) := by decide +kernel
theorem d_M_frame_62 : decode b_M_frame 62 = .ok (.iload 4, 2) := by decide +kernel
theorem d_M_frame_64 : decode b_M_frame 64 = .ok (.ireturn, 1) := by decide +kernel
theorem d_M_entries_0 : decode b_M_entries 0 = .ok (.iconst 0, 1) := by decide +kernel
theorem d_M_entries_1 : decode b_M_entries 1 = .ok (.istore_n 2, 1) := by decide +kernel
theorem d_M_entries_2 : decode b_M_entries 2 = .ok (.iconst 0, 1) := by decide +kernel
theorem d_M_entries_3 : decode b_M_entries 3 = .ok (.istore_n 3, 1) := by decide +kernel
theorem d_M_entries_4 : decode b_M_entries 4 = .ok (.iload_n 3, 1) := by decide +kernel
theorem d_M_entries_5 : decode b_M_entries 5 = .ok (.bipush 48, 2) := by decide +kernel
theorem d_M_entries_7 : decode b_M_entries 7 = .ok (.if_icmp .ge 36, 3) := by decide +kernel
theorem d_M_entries_10 : decode b_M_entries 10 = .ok (.aload_n 0, 1) := by decide +kernel
theorem d_M_entries_11 : decode b_M_entries 11 = .ok (.getfield 38, 3) := by decide +kernel
theorem d_M_entries_14 : decode b_M_entries 14 = .ok (.iload_n 3, 1) := by decide +kernel
theorem d_M_entries_15 : decode b_M_entries 15 = .ok (.baload, 1) := by decide +kernel
theorem d_M_entries_16 : decode b_M_entries 16 = .ok (.ifCond .eq 19, 3) := by decide +kernel
theorem d_M_entries_19 : decode b_M_entries 19 = .ok (.aload_n 0, 1) := by decide +kernel
theorem d_M_entries_20 : decode b_M_entries 20 = .ok (.getfield 23, 3) := by decide +kernel
theorem d_M_entries_23 : decode b_M_entries 23 = .ok (.iload_n 3, 1) := by decide +kernel
theorem d_M_entries_24 : decode b_M_entries 24 = .ok (.iaload, 1) := by decide +kernel
theorem d_M_entries_25 : decode b_M_entries 25 = .ok (.iload_n 1, 1) := by decide +kernel
theorem d_M_entries_26 : decode b_M_entries 26 = .ok (.if_icmp .ne 9, 3) := by decide +kernel
theorem d_M_entries_29 : decode b_M_entries 29 = .ok (.iload_n 2, 1) := by decide +kernel
theorem d_M_entries_30 : decode b_M_entries 30 = .ok (.iconst 1, 1) := by decide +kernel
theorem d_M_entries_31 : decode b_M_entries 31 = .ok (.iadd, 1) := by decide +kernel
theorem d_M_entries_32 : decode b_M_entries 32 = .ok (.goto 4, 3) := by decide +kernel
theorem d_M_entries_35 : decode b_M_entries 35 = .ok (.iload_n 2, 1) := by decide +kernel
theorem d_M_entries_36 : decode b_M_entries 36 = .ok (.istore_n 2, 1) := by decide +kernel
theorem d_M_entries_37 : decode b_M_entries 37 = .ok (.iinc 3 1, 3) := by decide +kernel
theorem d_M_entries_40 : decode b_M_entries 40 = .ok (.goto (-36), 3) := by decide +kernel
theorem d_M_entries_43 : decode b_M_entries 43 = .ok (.aload_n 0, 1) := by decide +kernel
theorem d_M_entries_44 : decode b_M_entries 44 = .ok (.iload_n 1, 1) := by decide +kernel
theorem d_M_entries_45 : decode b_M_entries 45 = .ok (.invokevirtual 146, 3) := by decide +kernel
theorem d_M_entries_48 : decode b_M_entries 48 = .ok (.ifCond .eq 7, 3) := by decide +kernel
theorem d_M_entries_51 : decode b_M_entries 51 = .ok (.iload_n 2, 1) := by decide +kernel
theorem d_M_entries_52 : decode b_M_entries 52 = .ok (.goto 5, 3) := by decide +kernel
theorem d_M_entries_55 : decode b_M_entries 55 = .ok (.bipush (-4), 2) := by decide +kernel
theorem d_M_entries_57 : decode b_M_entries 57 = .ok (.ireturn, 1) := by decide +kernel
theorem d_M_present_0 : decode b_M_present 0 = .ok (.aload_n 0, 1) := by decide +kernel
theorem d_M_present_1 : decode b_M_present 1 = .ok (.getfield 130, 3) := by decide +kernel
theorem d_M_present_4 : decode b_M_present 4 = .ok (.ireturn, 1) := by decide +kernel
theorem d_M_length_0 : decode b_M_length 0 = .ok (.iconst 0, 1) := by decide +kernel
theorem d_M_length_1 : decode b_M_length 1 = .ok (.istore_n 1, 1) := by decide +kernel
theorem d_M_length_2 : decode b_M_length 2 = .ok (.iconst 0, 1) := by decide +kernel
theorem d_M_length_3 : decode b_M_length 3 = .ok (.istore_n 2, 1) := by decide +kernel
theorem d_M_length_4 : decode b_M_length 4 = .ok (.iload_n 2, 1) := by decide +kernel
theorem d_M_length_5 : decode b_M_length 5 = .ok (.sipush 600, 3) := by decide +kernel
theorem d_M_length_8 : decode b_M_length 8 = .ok (.if_icmp .gt 25, 3) := by decide +kernel
theorem d_M_length_11 : decode b_M_length 11 = .ok (.aload_n 0, 1) := by decide +kernel
theorem d_M_length_12 : decode b_M_length 12 = .ok (.iload_n 2, 1) := by decide +kernel
theorem d_M_length_13 : decode b_M_length 13 = .ok (.invokevirtual 133, 3) := by decide +kernel
theorem d_M_length_16 : decode b_M_length 16 = .ok (.ifCond .eq 9, 3) := by decide +kernel
theorem d_M_length_19 : decode b_M_length 19 = .ok (.iload_n 1, 1) := by decide +kernel
theorem d_M_length_20 : decode b_M_length 20 = .ok (.iconst 1, 1) := by decide +kernel
theorem d_M_length_21 : decode b_M_length 21 = .ok (.iadd, 1) := by decide +kernel
theorem d_M_length_22 : decode b_M_length 22 = .ok (.goto 4, 3) := by decide +kernel
theorem d_M_length_25 : decode b_M_length 25 = .ok (.iload_n 1, 1) := by decide +kernel
theorem d_M_length_26 : decode b_M_length 26 = .ok (.istore_n 1, 1) := by decide +kernel
theorem d_M_length_27 : decode b_M_length 27 = .ok (.iinc 2 1, 3) := by decide +kernel
theorem d_M_length_30 : decode b_M_length 30 = .ok (.goto (-26), 3) := by decide +kernel
theorem d_M_length_33 : decode b_M_length 33 = .ok (.iload_n 1, 1) := by decide +kernel
theorem d_M_length_34 : decode b_M_length 34 = .ok (.ireturn, 1) := by decide +kernel
theorem d_M_count_0 : decode b_M_count 0 = .ok (.iconst 0, 1) := by decide +kernel
theorem d_M_count_1 : decode b_M_count 1 = .ok (.istore_n 2, 1) := by decide +kernel
theorem d_M_count_2 : decode b_M_count 2 = .ok (.iconst 0, 1) := by decide +kernel
theorem d_M_count_3 : decode b_M_count 3 = .ok (.istore_n 3, 1) := by decide +kernel
theorem d_M_count_4 : decode b_M_count 4 = .ok (.iconst 0, 1) := by decide +kernel
theorem d_M_count_5 : decode b_M_count 5 = .ok (.istore 4, 2) := by decide +kernel
theorem d_M_count_7 : decode b_M_count 7 = .ok (.iconst 0, 1) := by decide +kernel
theorem d_M_count_8 : decode b_M_count 8 = .ok (.istore 5, 2) := by decide +kernel
theorem d_M_count_10 : decode b_M_count 10 = .ok (.iload 5, 2) := by decide +kernel
theorem d_M_count_12 : decode b_M_count 12 = .ok (.bipush 48, 2) := by decide +kernel
theorem d_M_count_14 : decode b_M_count 14 = .ok (.if_icmp .ge 66, 3) := by decide +kernel
theorem d_M_count_17 : decode b_M_count 17 = .ok (.aload_n 0, 1) := by decide +kernel
theorem d_M_count_18 : decode b_M_count 18 = .ok (.getfield 62, 3) := by decide +kernel
theorem d_M_count_21 : decode b_M_count 21 = .ok (.iload 5, 2) := by decide +kernel
theorem d_M_count_23 : decode b_M_count 23 = .ok (.baload, 1) := by decide +kernel
theorem d_M_count_24 : decode b_M_count 24 = .ok (.ifCond .eq 9, 3) := by decide +kernel
theorem d_M_count_27 : decode b_M_count 27 = .ok (.iload_n 2, 1) := by decide +kernel
theorem d_M_count_28 : decode b_M_count 28 = .ok (.iconst 1, 1) := by decide +kernel
theorem d_M_count_29 : decode b_M_count 29 = .ok (.iadd, 1) := by decide +kernel
theorem d_M_count_30 : decode b_M_count 30 = .ok (.goto 4, 3) := by decide +kernel
theorem d_M_count_33 : decode b_M_count 33 = .ok (.iload_n 2, 1) := by decide +kernel
theorem d_M_count_34 : decode b_M_count 34 = .ok (.istore_n 2, 1) := by decide +kernel
theorem d_M_count_35 : decode b_M_count 35 = .ok (.aload_n 0, 1) := by decide +kernel
theorem d_M_count_36 : decode b_M_count 36 = .ok (.getfield 56, 3) := by decide +kernel
theorem d_M_count_39 : decode b_M_count 39 = .ok (.iload 5, 2) := by decide +kernel
theorem d_M_count_41 : decode b_M_count 41 = .ok (.baload, 1) := by decide +kernel
theorem d_M_count_42 : decode b_M_count 42 = .ok (.ifCond .eq 9, 3) := by decide +kernel
theorem d_M_count_45 : decode b_M_count 45 = .ok (.iload_n 3, 1) := by decide +kernel
theorem d_M_count_46 : decode b_M_count 46 = .ok (.iconst 1, 1) := by decide +kernel
theorem d_M_count_47 : decode b_M_count 47 = .ok (.iadd, 1) := by decide +kernel
theorem d_M_count_48 : decode b_M_count 48 = .ok (.goto 4, 3) := by decide +kernel
theorem d_M_count_51 : decode b_M_count 51 = .ok (.iload_n 3, 1) := by decide +kernel
theorem d_M_count_52 : decode b_M_count 52 = .ok (.istore_n 3, 1) := by decide +kernel
theorem d_M_count_53 : decode b_M_count 53 = .ok (.aload_n 0, 1) := by decide +kernel
theorem d_M_count_54 : decode b_M_count 54 = .ok (.getfield 38, 3) := by decide +kernel
theorem d_M_count_57 : decode b_M_count 57 = .ok (.iload 5, 2) := by decide +kernel
theorem d_M_count_59 : decode b_M_count 59 = .ok (.baload, 1) := by decide +kernel
theorem d_M_count_60 : decode b_M_count 60 = .ok (.ifCond .eq 10, 3) := by decide +kernel
theorem d_M_count_63 : decode b_M_count 63 = .ok (.iload 4, 2) := by decide +kernel
theorem d_M_count_65 : decode b_M_count 65 = .ok (.iconst 1, 1) := by decide +kernel
theorem d_M_count_66 : decode b_M_count 66 = .ok (.iadd, 1) := by decide +kernel
theorem d_M_count_67 : decode b_M_count 67 = .ok (.goto 5, 3) := by decide +kernel
theorem d_M_count_70 : decode b_M_count 70 = .ok (.iload 4, 2) := by decide +kernel
theorem d_M_count_72 : decode b_M_count 72 = .ok (.istore 4, 2) := by decide +kernel
theorem d_M_count_74 : decode b_M_count 74 = .ok (.iinc 5 1, 3) := by decide +kernel
theorem d_M_count_77 : decode b_M_count 77 = .ok (.goto (-67), 3) := by decide +kernel
theorem d_M_count_80 : decode b_M_count 80 = .ok (.iload_n 1, 1) := by decide +kernel
theorem d_M_count_81 : decode b_M_count 81 = .ok (.ifCond .ne 7, 3) := by decide +kernel
theorem d_M_count_84 : decode b_M_count 84 = .ok (.iload_n 2, 1) := by decide +kernel
theorem d_M_count_85 : decode b_M_count 85 = .ok (.goto 60, 3) := by decide +kernel
theorem d_M_count_88 : decode b_M_count 88 = .ok (.iload_n 1, 1) := by decide +kernel
theorem d_M_count_89 : decode b_M_count 89 = .ok (.iconst 1, 1) := by decide +kernel
theorem d_M_count_90 : decode b_M_count 90 = .ok (.if_icmp .ne 7, 3) := by decide +kernel
theorem d_M_count_93 : decode b_M_count 93 = .ok (.iload_n 3, 1) := by decide +kernel
theorem d_M_count_94 : decode b_M_count 94 = .ok (.goto 51, 3) := by decide +kernel
theorem d_M_count_97 : decode b_M_count 97 = .ok (.iload_n 1, 1) := by decide +kernel
theorem d_M_count_98 : decode b_M_count 98 = .ok (.iconst 2, 1) := by decide +kernel
theorem d_M_count_99 : decode b_M_count 99 = .ok (.if_icmp .ne 8, 3) := by decide +kernel
theorem d_M_count_102 : decode b_M_count 102 = .ok (.iload 4, 2) := by decide +kernel
theorem d_M_count_104 : decode b_M_count 104 = .ok (.goto 41, 3) := by decide +kernel
theorem d_M_count_107 : decode b_M_count 107 = .ok (.iload_n 1, 1) := by decide +kernel
theorem d_M_count_108 : decode b_M_count 108 = .ok (.iconst 3, 1) := by decide +kernel
theorem d_M_count_109 : decode b_M_count 109 = .ok (.if_icmp .ne 10, 3) := by decide +kernel
theorem d_M_count_112 : decode b_M_count 112 = .ok (.aload_n 0, 1) := by decide +kernel
theorem d_M_count_113 : decode b_M_count 113 = .ok (.getfield 167, 3) := by decide +kernel
theorem d_M_count_116 : decode b_M_count 116 = .ok (.goto 29, 3) := by decide +kernel
theorem d_M_count_119 : decode b_M_count 119 = .ok (.iload_n 1, 1) := by decide +kernel
theorem d_M_count_120 : decode b_M_count 120 = .ok (.iconst 4, 1) := by decide +kernel
theorem d_M_count_121 : decode b_M_count 121 = .ok (.if_icmp .ne 10, 3) := by decide +kernel
theorem d_M_count_124 : decode b_M_count 124 = .ok (.aload_n 0, 1) := by decide +kernel
theorem d_M_count_125 : decode b_M_count 125 = .ok (.getfield 156, 3) := by decide +kernel
theorem d_M_count_128 : decode b_M_count 128 = .ok (.goto 17, 3) := by decide +kernel
theorem d_M_count_131 : decode b_M_count 131 = .ok (.iload_n 1, 1) := by decide +kernel
theorem d_M_count_132 : decode b_M_count 132 = .ok (.iconst 5, 1) := by decide +kernel
theorem d_M_count_133 : decode b_M_count 133 = .ok (.if_icmp .ne 10, 3) := by decide +kernel
theorem d_M_count_136 : decode b_M_count 136 = .ok (.aload_n 0, 1) := by decide +kernel
theorem d_M_count_137 : decode b_M_count 137 = .ok (.getfield 89, 3) := by decide +kernel
theorem d_M_count_140 : decode b_M_count 140 = .ok (.goto 5, 3) := by decide +kernel
theorem d_M_count_143 : decode b_M_count 143 = .ok (.bipush (-7), 2) := by decide +kernel
theorem d_M_count_145 : decode b_M_count 145 = .ok (.ireturn, 1) := by decide +kernel
end
section
theorem d_A_init_0 : decode b_A_init 0 = .ok (.aload_n 0, 1) := by decide +kernel
theorem d_A_init_1 : decode b_A_init 1 = .ok (.invokespecial 3, 3) := by decide +kernel
theorem d_A_init_4 : decode b_A_init 4 = .ok (.aload_n 0, 1) := by decide +kernel
theorem d_A_init_5 : decode b_A_init 5 = .ok (.getstatic 9, 3) := by decide +kernel
theorem d_A_init_8 : decode b_A_init 8 = .ok (.putfield 15, 3) := by decide +kernel
theorem d_A_init_11 : decode b_A_init 11 = .ok (.aload_n 0, 1) := by decide +kernel
theorem d_A_init_12 : decode b_A_init 12 = .ok (.bipush (-2), 2) := by decide +kernel
theorem d_A_init_14 : decode b_A_init 14 = .ok (.putfield 20, 3) := by decide +kernel
theorem d_A_init_17 : decode b_A_init 17 = .ok (.aload_n 0, 1) := by decide +kernel
theorem d_A_init_18 : decode b_A_init 18 = .ok (.bipush (-2), 2) := by decide +kernel
theorem d_A_init_20 : decode b_A_init 20 = .ok (.putfield 24, 3) := by decide +kernel
theorem d_A_init_23 : decode b_A_init 23 = .ok (.return_, 1) := by decide +kernel
theorem d_N_init_0 : decode b_N_init 0 = .ok (.aload_n 0, 1) := by decide +kernel
theorem d_N_init_1 : decode b_N_init 1 = .ok (.invokespecial 1, 3) := by decide +kernel
theorem d_N_init_4 : decode b_N_init 4 = .ok (.aload_n 0, 1) := by decide +kernel
theorem d_N_init_5 : decode b_N_init 5 = .ok (.iload_n 1, 1) := by decide +kernel
theorem d_N_init_6 : decode b_N_init 6 = .ok (.putfield 7, 3) := by decide +kernel
theorem d_N_init_9 : decode b_N_init 9 = .ok (.return_, 1) := by decide +kernel
theorem d_D_init_0 : decode b_D_init 0 = .ok (.aload_n 0, 1) := by decide +kernel
theorem d_D_init_1 : decode b_D_init 1 = .ok (.invokespecial 1, 3) := by decide +kernel
theorem d_D_init_4 : decode b_D_init 4 = .ok (.return_, 1) := by decide +kernel
theorem d_E_init_0 : decode b_E_init 0 = .ok (.aload_n 0, 1) := by decide +kernel
theorem d_E_init_1 : decode b_E_init 1 = .ok (.invokespecial 1, 3) := by decide +kernel
theorem d_E_init_4 : decode b_E_init 4 = .ok (.return_, 1) := by decide +kernel
end
section
/-! The class as functions of a store: field number, row -> value. A reference is the number of its row, or -1. -/
abbrev js_S : Type := Nat → Nat → Int32
def js_up (s : js_S) (f i : Nat) (v : Int32) : js_S := fun g j => if g = f ∧ j = i then v else s g j
theorem js_up_s (s : js_S) (f i : Nat) (v : Int32) : js_up s f i v f i = v := by simp [js_up]
theorem js_up_f {s : js_S} {f i g j : Nat} {v : Int32} (h : ¬ g = f) : js_up s f i v g j = s g j := by simp [js_up, h]
theorem js_up_i {s : js_S} {f i g j : Nat} {v : Int32} (h : ¬ j = i) : js_up s f i v g j = s g j := by simp [js_up, h]
abbrev ix (x : Int32) : Nat := x.toNatClampNeg
theorem ix_nI {n : Nat} (h : n < 2 ^ 31) : ix (nI n) = n := nI_clamp h
/-- the first row from i on, among k, whose flag f isn't set; if there is none, the one behind them -/
def js_free (s : js_S) (f : Nat) : Nat → Nat → Nat
  | 0, i => i
  | k + 1, i => if s f i = 0 then i else js_free s f k (i + 1)
def js_b (p : Prop) [Decidable p] : Int32 := if p then 1 else 0
-- static methods
def jc_isPage (x : Int32) : Int32 := if x < 0 then 0 else if 32 ≤ x then 0 else 1
def jc_isUrl (x : Int32) : Int32 := if x < 0 then 0 else if 256 ≤ x then 0 else 1
def jc_isUB (x : Int32) : Int32 := if x = -1 then 1 else if jc_isUrl x = 0 then 0 else 1
def jc_isFC (x : Int32) : Int32 := if x = -2 then 1 else if jc_isUB x = 0 then 0 else 1
def jc_frag (x : Int32) : Int32 := if x = -1 then 0 else x - x / 8 * 8
def jc_isFM (x y : Int32) : Int32 := if x = -1 then 0 else if y = -1 then 0 else if jc_frag y = 0 then 0 else if x / 8 = y / 8 then 1 else 0
def jc_mayR (x y : Int32) : Int32 := if x = -1 then 0 else if x / 64 = y / 64 then (if x / 64 = 3 then (if x / 8 = y / 8 then 1 else 0) else 1) else 0
-- reading
def jc_cntE (s : js_S) (st : Int32) : Nat → Nat
  | 0 => 0
  | i + 1 => if s 14 i ≠ 0 ∧ ¬ st < s 16 i then jc_cntE s st i + 1 else jc_cntE s st i
def jc_cntN (s : js_S) : Nat → Nat
  | 0 => 0
  | i + 1 => if s 5 i ≠ 0 then jc_cntN s i + 1 else jc_cntN s i
def jc_cntO (s : js_S) (o : Int32) : Nat → Nat
  | 0 => 0
  | i + 1 => if s 14 i ≠ 0 ∧ s 15 i = o then jc_cntO s o i + 1 else jc_cntO s o i
def jc_eA (s : js_S) (nav st : Int32) : Nat → Int32
  | 0 => -1
  | i + 1 => if s 14 i ≠ 0 ∧ s 15 i = nav ∧ ¬ st < s 16 i ∧ (jc_eA s nav st i = -1 ∨ ¬ s 16 i ≤ s 16 (ix (jc_eA s nav st i))) then nI i else jc_eA s nav st i
def jc_entryAt (s : js_S) (nav st : Int32) : Int32 := jc_eA s nav st 40
/-- may the document d (or none) be seen at the step: is it its owner's there -/
def jc_held (s : js_S) (d st : Int32) : Bool := decide (d = -1 ∨ (jc_entryAt s (s 9 (ix d)) st ≠ -1 ∧ s 19 (ix (jc_entryAt s (s 9 (ix d)) st)) = d))
def jc_up1 (s : js_S) (d : Int32) : Int32 := if d = -1 then -1 else s 7 (ix (s 9 (ix d)))
def jc_shownEntry (s : js_S) (n st : Int32) : Int32 :=
  if ¬ n < 0 ∧ ¬ 40 ≤ n ∧ s 5 (ix n) ≠ 0 ∧ jc_held s (s 7 (ix n)) st = true ∧ jc_held s (jc_up1 s (s 7 (ix n))) st = true then jc_entryAt s n st else -1
def jc_cntS (s : js_S) (st : Int32) : Nat → Nat
  | 0 => 0
  | i + 1 => if jc_shownEntry s (nI i) st ≠ -1 then jc_cntS s st i + 1 else jc_cntS s st i
-- loading
def jc_isDet (s : js_S) (x : Int32) : Int32 := if x = -1 then 0 else if s 0 (ix (x / 8)) = nI 1 then 1 else 0
def jc_fd (s : js_S) : Nat → Int32 → Int32
  | 0, u => u
  | k + 1, u => if jc_isDet s u = 0 then u else jc_fd s k (if jc_frag (s 4 (ix (u / 8))) = 0 then s 4 (ix (u / 8)) + jc_frag u else s 4 (ix (u / 8)))
def jc_addEntry (s : js_S) (owner step url state doc : Int32) : js_S :=
  js_up (js_up (js_up (js_up (js_up (js_up s 14 (js_free s 14 39 0) 1) 15 (js_free s 14 39 0) owner) 16 (js_free s 14 39 0) step) 17 (js_free s 14 39 0) url) 18 (js_free s 14 39 0) state) 19 (js_free s 14 39 0) doc
def jc_freeDoc (s : js_S) (owner : Int32) : js_S :=
  js_up (js_up (js_up (js_up s 8 (js_free s 8 39 0) 1) 9 (js_free s 8 39 0) owner) 12 (js_free s 8 39 0) (-1)) 13 (js_free s 8 39 0) (-1)
def jc_opq (s : js_S) (i : Nat) : js_S := js_up (js_up s 24 0 (s 24 0 + 1)) 10 i (4 + s 24 0)
def jc_mk0 (s : js_S) (n : Nat) (doc : Int32) : js_S := js_up (js_up (js_up s 5 n 1) 6 n (js_up s 5 n 1 6 (ix (js_up s 5 n 1 9 (ix doc))) + 1)) 7 n doc
def jc_mkF (L : js_S → Int32 → Int32 → Int32 → js_S) (s : js_S) (n : Nat) (url step : Int32) : js_S :=
  jc_addEntry (L s (nI n) (jc_fd s 4 url) step) (nI n) step (jc_fd s 4 url) 0 (nI (js_free s 8 39 0))
def jc_mkFrame (L : js_S → Int32 → Int32 → Int32 → js_S) (s : js_S) (doc url step : Int32) : js_S :=
  jc_mkF L (jc_mk0 s (js_free s 5 38 1) doc) (js_free s 5 38 1) url step
def jc_mf1 (L : js_S → Int32 → Int32 → Int32 → js_S) (s : js_S) (doc a step : Int32) : js_S := js_up (jc_mkFrame L s doc (s 1 (ix a)) step) 12 (ix doc) (nI (js_free s 5 38 1))
def jc_mf2 (L : js_S → Int32 → Int32 → Int32 → js_S) (s : js_S) (doc a step : Int32) : js_S :=
  if jc_mkFrame L s doc (s 2 (ix a)) step 12 (ix doc) = -1 then js_up (jc_mkFrame L s doc (s 2 (ix a)) step) 12 (ix doc) (nI (js_free s 5 38 1)) else js_up (jc_mkFrame L s doc (s 2 (ix a)) step) 13 (ix doc) (nI (js_free s 5 38 1))
def jc_room (s : js_S) (doc : Int32) : Int32 := 2 - s 6 (ix (s 9 (ix doc)))
def jc_mfB (L : js_S → Int32 → Int32 → Int32 → js_S) (s : js_S) (doc a step room : Int32) : js_S :=
  if room ≤ 0 then s else if s 2 (ix a) = -2 then s else jc_mf2 L s doc a step
def jc_mkFrames (L : js_S → Int32 → Int32 → Int32 → js_S) (s : js_S) (doc a step : Int32) : js_S :=
  if jc_room s doc ≤ 0 then jc_mfB L s doc a step (jc_room s doc)
  else if s 1 (ix a) = -2 then jc_mfB L s doc a step (jc_room s doc)
  else jc_mfB L (jc_mf1 L s doc a step) doc a step (jc_room s doc + -1)
def jc_boxed (s : js_S) (above : Int32) : Int32 := if above = -1 then 0 else if s 11 (ix above) = 0 then 0 else 1
def jc_bx (s : js_S) (a boxed : Int32) : Int32 := if s 3 (ix a) = 0 then (if boxed = 0 then 0 else 1) else 1
/-- a blank document in row i -/
def jc_ldA (s : js_S) (i : Nat) (above boxed : Int32) : js_S :=
  if above = -1 then jc_opq (js_up s 11 i boxed) i else if boxed = 0 then js_up (js_up s 11 i boxed) 10 i (js_up s 11 i boxed 10 (ix above)) else jc_opq (js_up s 11 i boxed) i
/-- a document with content in row i, ahead of its frames -/
def jc_ldC (s : js_S) (i : Nat) (url bx : Int32) : js_S :=
  if js_up s 11 i bx 11 i = 0 then js_up (js_up s 11 i bx) 10 i (url / 64) else jc_opq (js_up s 11 i bx) i
def jc_ldU (L : js_S → Int32 → Int32 → Int32 → js_S) (s : js_S) (i : Nat) (url step boxed : Int32) : js_S :=
  if s 0 (ix (url / 8)) = nI 0 then jc_mkFrames L (jc_ldC s i url (jc_bx s (url / 8) boxed)) (nI i) (url / 8) step else jc_opq (js_up s 11 i 0) i
def jc_loadB (L : js_S → Int32 → Int32 → Int32 → js_S) (s : js_S) (owner url step : Int32) : js_S :=
  if url = -1 then jc_ldA (jc_freeDoc s owner) (js_free s 8 39 0) (s 7 (ix owner)) (jc_boxed s (s 7 (ix owner)))
  else jc_ldU L (jc_freeDoc s owner) (js_free s 8 39 0) url step (jc_boxed s (s 7 (ix owner)))
def jc_load : Nat → js_S → Int32 → Int32 → Int32 → js_S
  | 0 => jc_loadB (fun s _ _ _ => s)
  | d + 1 => jc_loadB (jc_load d)
-- dropping
def jc_kd1 (s : js_S) : Nat → js_S
  | 0 => s
  | i + 1 => js_up (jc_kd1 s i) 8 i 0
def jc_kd2 (s : js_S) : Nat → js_S
  | 0 => s
  | i + 1 => if jc_kd2 s i 14 i ≠ 0 then js_up (jc_kd2 s i) 8 (ix (jc_kd2 s i 19 i)) 1 else jc_kd2 s i
def jc_keepDocs (s : js_S) : js_S := jc_kd2 (jc_kd1 s 40) 40
def jc_df (s : js_S) : Nat → js_S
  | 0 => s
  | i + 1 => if jc_df s i 7 i ≠ -1 ∧ jc_df s i 8 (ix (jc_df s i 7 i)) = 0 then js_up (jc_df s i) 5 i 0 else jc_df s i
def jc_de (s : js_S) : Nat → js_S
  | 0 => s
  | i + 1 => if jc_de s i 14 i ≠ 0 ∧ jc_de s i 5 (ix (jc_de s i 15 i)) = 0 then js_up (jc_de s i) 14 i 0 else jc_de s i
def jc_round (s : js_S) : js_S := jc_de (jc_df (jc_keepDocs s) 40) 40
def jc_gone (s : js_S) : js_S := jc_round (jc_round (jc_round s))
def jc_dl (s : js_S) : Nat → js_S
  | 0 => s
  | i + 1 => if ¬ jc_dl s i 16 i ≤ jc_dl s i 21 0 then js_up (jc_dl s i) 14 i 0 else jc_dl s i
def jc_dropLater (s : js_S) : js_S := jc_gone (jc_dl s 40)
def jc_lt (s : js_S) : Nat → Int32
  | 0 => 0
  | i + 1 => if s 14 i ≠ 0 ∧ ¬ s 21 0 < s 16 i ∧ ¬ s 16 i ≤ jc_lt s i then s 16 i else jc_lt s i
def jc_settle (s : js_S) : js_S := js_up s 21 0 (jc_lt s 40)
def jc_takeOut (s : js_S) (n : Int32) : js_S :=
  let a := s 7 (ix n)
  if a = -1 then s else
    let s1 := if s 12 (ix a) = n then js_up s 12 (ix a) (s 13 (ix a)) else s
    js_up (js_up s1 13 (ix a) (-1)) 5 (ix n) 0
def jc_putEntry (s : js_S) (e url state doc push : Int32) : js_S :=
  if push ≠ 0 then
    let s1 := js_up s 21 0 (s 21 0 + 1)
    jc_addEntry s1 (s1 15 (ix e)) (s1 21 0) url state doc
  else jc_settle (jc_gone (js_up (js_up (js_up s 17 (ix e) url) 18 (ix e) state) 19 (ix e) doc))
-- used steps
/-- from at downwards: the place behind the last one that is not greater -/
def jc_at (s : js_S) (st : Int32) : Nat → Nat
  | 0 => 0
  | k + 1 => if s 20 k ≤ st then k + 1 else jc_at s st k
def jc_sh (s : js_S) (at_ : Nat) : Nat → js_S
  | 0 => s
  | k + 1 => if at_ < k + 1 then jc_sh (js_up s 20 (k + 1) (s 20 k)) at_ k else s
def jc_insQ (s : js_S) (st : Int32) (n : Nat) : Bool := decide (0 < jc_at s st n ∧ s 20 (jc_at s st n - 1) = st)
def jc_ins (s : js_S) (st : Int32) (n : Nat) : js_S := js_up (jc_sh s (jc_at s st n) n) 20 (jc_at s st n) st
def jc_insS (s : js_S) (st : Int32) (n : Nat) : js_S := if jc_insQ s st n = true then s else jc_ins s st n
def jc_insN (s : js_S) (st : Int32) (n : Nat) : Nat := if jc_insQ s st n = true then n else n + 1
/-- the used steps of the first i rows are collected: the store, how many -/
def jc_cu (s : js_S) : Nat → js_S × Nat
  | 0 => (s, 0)
  | i + 1 => if (jc_cu s i).1 14 i = 0 then jc_cu s i else (jc_insS (jc_cu s i).1 ((jc_cu s i).1 16 i) (jc_cu s i).2, jc_insN (jc_cu s i).1 ((jc_cu s i).1 16 i) (jc_cu s i).2)
def jc_place (s : js_S) : Nat → Nat → Nat
  | 0, i => i
  | k + 1, i => if s 21 0 ≤ s 20 i then i else jc_place s k (i + 1)
def jc_mv1 (s : js_S) (x y : Int32) : js_S := if jc_frag (s 17 (ix x)) = jc_frag (s 17 (ix y)) then s else js_up s 23 0 (s 23 0 + 1)
def jc_move (s : js_S) (x y : Int32) : js_S :=
  if x = -1 ∨ y = -1 ∨ x = y ∨ s 19 (ix x) ≠ s 19 (ix y) then s else jc_mv1 (js_up s 22 0 (s 22 0 + 1)) x y
def jc_mv (s : js_S) (st : Int32) : Nat → js_S
  | 0 => s
  | i + 1 => jc_move (jc_mv s st i) (jc_shownEntry (jc_mv s st i) (nI i) (jc_mv s st i 21 0)) (jc_shownEntry (jc_mv s st i) (nI i) st)
-- the public methods: answer and store
def jc_content (s : js_S) (page a b strict : Int32) : Int32 × js_S :=
  if jc_isPage page = 0 ∨ jc_isFC a = 0 ∨ jc_isFC b = 0 then (0, s)
  else (1, js_up (js_up (js_up (js_up s 0 (ix page) (nI 0)) 1 (ix page) a) 2 (ix page) b) 3 (ix page) strict)
def jc_detour (s : js_S) (page url : Int32) : Int32 × js_S :=
  if jc_isPage page = 0 ∨ jc_isUrl url = 0 then (0, s) else (1, js_up (js_up s 0 (ix page) (nI 1)) 4 (ix page) url)
def jc_fault (s : js_S) (page : Int32) : Int32 × js_S := if jc_isPage page = 0 then (0, s) else (1, js_up s 0 (ix page) (nI 2))
def jc_full (s : js_S) (push : Int32) : Int32 := if nI (jc_cntE s (if push = 0 then 2147483647 else s 21 0) 40) < 36 then 0 else 1
def jc_nav (s : js_S) (e url : Int32) (push : Int32) : js_S :=
  if jc_isFM (s 17 (ix e)) url ≠ 0 then
    jc_putEntry (if url ≠ s 17 (ix e) then js_up s 23 0 (s 23 0 + 1) else s) e url 0 (s 19 (ix e)) push
  else jc_putEntry (jc_load 2 s (s 15 (ix e)) (jc_fd s 4 url) (if push ≠ 0 then s 21 0 + 1 else s 16 (ix e))) e (jc_fd s 4 url) 0 (nI (js_free s 8 39 0)) push
def jc_navigate (s : js_S) (n url rep : Int32) : Int32 × js_S :=
  if jc_isUB url = 0 then (-3, s) else
  if jc_shownEntry s n (s 21 0) = -1 then (-4, s) else
  if jc_full s (js_b (rep = 0 ∧ url ≠ s 17 (ix (jc_shownEntry s n (s 21 0))))) ≠ 0 then (-5, s) else
  if rep = 0 ∧ url ≠ s 17 (ix (jc_shownEntry s n (s 21 0))) then
    (jc_nav (jc_dropLater s) (jc_shownEntry s n (s 21 0)) url 1 21 0, jc_nav (jc_dropLater s) (jc_shownEntry s n (s 21 0)) url 1)
  else (jc_nav s (jc_shownEntry s n (s 21 0)) url 0 21 0, jc_nav s (jc_shownEntry s n (s 21 0)) url 0)
def jc_rew (s : js_S) (e url state push : Int32) : js_S := jc_putEntry s e (if url = -1 then s 17 (ix e) else url) state (s 19 (ix e)) push
def jc_rewrite (s : js_S) (n url state push : Int32) : Int32 × js_S :=
  if jc_isUB url = 0 then (-3, s) else
  if jc_shownEntry s n (s 21 0) = -1 then (-4, s) else
  if url ≠ -1 ∧ jc_mayR (s 17 (ix (jc_shownEntry s n (s 21 0)))) url = 0 then (-6, s) else
  if jc_full s push ≠ 0 then (-5, s) else
  if push ≠ 0 then (jc_rew (jc_dropLater s) (jc_shownEntry s n (s 21 0)) url state push 21 0, jc_rew (jc_dropLater s) (jc_shownEntry s n (s 21 0)) url state push)
  else (jc_rew s (jc_shownEntry s n (s 21 0)) url state push 21 0, jc_rew s (jc_shownEntry s n (s 21 0)) url state push)
def jc_aim (s : js_S) (k : Nat) (delta : Int32) : Int64 := (nI (jc_place s (k - 1) 0)).toInt64 + delta.toInt64
def jc_go2 (s : js_S) (t : Int32) : js_S := js_up (jc_mv s t 40) 21 0 t
def jc_go1 (s : js_S) (k : Nat) (delta : Int32) : Int32 × js_S :=
  if lg_cmp (jc_aim s k delta) 0 < 0 then (-7, s) else
  if lg_cmp (jc_aim s k delta) (nI k).toInt64 < 0 then (s 20 (ix (jc_aim s k delta).toInt32), jc_go2 s (s 20 (ix (jc_aim s k delta).toInt32)))
  else (-7, s)
def jc_go (s : js_S) (delta : Int32) : Int32 × js_S := jc_go1 (jc_cu s 40).1 (jc_cu s 40).2 delta
def jc_detach (s : js_S) (n : Int32) : Int32 × js_S :=
  if n = 0 then (-3, s) else if jc_shownEntry s n (s 21 0) = -1 then (-4, s) else
  (jc_settle (jc_gone (jc_takeOut s (s 15 (ix (jc_shownEntry s n (s 21 0)))))) 21 0, jc_settle (jc_gone (jc_takeOut s (s 15 (ix (jc_shownEntry s n (s 21 0)))))))
def jc_url (s : js_S) (n : Int32) : Int32 := if jc_shownEntry s n (s 21 0) = -1 then -4 else s 17 (ix (jc_shownEntry s n (s 21 0)))
def jc_state (s : js_S) (n : Int32) : Int64 := if jc_shownEntry s n (s 21 0) = -1 then 1099511627776 else (s 18 (ix (jc_shownEntry s n (s 21 0)))).toInt64
def jc_step (s : js_S) (n : Int32) : Int32 := if jc_shownEntry s n (s 21 0) = -1 then -4 else s 16 (ix (jc_shownEntry s n (s 21 0)))
def jc_origin (s : js_S) (n : Int32) : Int32 := if jc_shownEntry s n (s 21 0) = -1 then -4 else s 10 (ix (s 19 (ix (jc_shownEntry s n (s 21 0)))))
def jc_numOf (x : Int32) : Int32 := if x = -1 then -7 else x
def jc_frame (s : js_S) (n k : Int32) : Int32 :=
  if jc_shownEntry s n (s 21 0) = -1 then -4 else if k = 0 then jc_numOf (s 12 (ix (s 19 (ix (jc_shownEntry s n (s 21 0)))))) else if k = 1 then jc_numOf (s 13 (ix (s 19 (ix (jc_shownEntry s n (s 21 0)))))) else -7
def jc_entries (s : js_S) (n : Int32) : Int32 := if jc_shownEntry s n (s 21 0) = -1 then -4 else nI (jc_cntO s (s 15 (ix (jc_shownEntry s n (s 21 0)))) 40)
def jc_length (s : js_S) : Int32 × js_S := (nI (jc_cu s 40).2, (jc_cu s 40).1)
def jc_count (s : js_S) (k : Int32) : Int32 :=
  if k = 0 then nI (jc_cntS s (s 21 0) 40) else if k = 1 then nI (jc_cntN s 40) else if k = 2 then nI (jc_cntE s 2147483647 40) else if k = 3 then s 22 0 else if k = 4 then s 23 0 else if k = 5 then s 24 0 else -7
end
section
/-! The reference as functions of a store: array number (or field), row -> value. -/
def jm_frag (x : Int32) : Int32 := if x = -1 then 0 else x - x / 8 * 8
def jm_btw (v lo hi : Int32) : Int32 := js_b (lo ≤ v ∧ v ≤ hi)
def jm_content (s : js_S) (page a b strict : Int32) : Int32 × js_S :=
  if jm_btw page 0 31 = 0 ∨ jm_btw a (-2) 255 = 0 ∨ jm_btw b (-2) 255 = 0 then (0, s)
  else (1, js_up (js_up (js_up (js_up s 0 (ix page) 0) 1 (ix page) a) 2 (ix page) b) 3 (ix page) strict)
def jm_detour (s : js_S) (page url : Int32) : Int32 × js_S :=
  if jm_btw page 0 31 = 0 ∨ jm_btw url 0 255 = 0 then (0, s) else (1, js_up (js_up s 0 (ix page) 1) 1 (ix page) url)
def jm_fault (s : js_S) (page : Int32) : Int32 × js_S := if jm_btw page 0 31 = 0 then (0, s) else (1, js_up s 0 (ix page) 2)
/-- a new opaque origin for the document d -/
def jm_opq (s : js_S) (d : Nat) : js_S := js_up (js_up s 22 0 (s 22 0 + 1)) 11 d (3 + (s 22 0 + 1))
def jm_fd (s : js_S) : Nat → js_S
  | 0 => s
  | k + 1 => if s 0 (ix (s 25 0 / 8)) = 1 then jm_fd (js_up s 25 0 (if s 1 (ix (s 25 0 / 8)) - s 1 (ix (s 25 0 / 8)) / 8 * 8 = 0 then s 1 (ix (s 25 0 / 8)) + (s 25 0 - s 25 0 / 8 * 8) else s 1 (ix (s 25 0 / 8)))) k else s
def jm_mk0 (s : js_S) (d : Nat) : js_S := js_up (js_up (js_up s 10 d 1) 13 d (-1)) 14 d (-1)
def jm_under (s : js_S) (nav : Int32) : Int32 := js_b (0 ≤ s 16 (ix nav) ∧ s 12 (ix (s 16 (ix nav))) ≠ 0)
def jm_mk1 (s : js_S) (d : Nat) (under : Int32) : js_S :=
  if s 0 (ix (s 25 0 / 8)) ≠ 0 then jm_opq (js_up s 12 d 0) d
  else if under ≠ 0 ∨ s 3 (ix (s 25 0 / 8)) ≠ 0 then jm_opq (js_up s 12 d 1) d
  else js_up (js_up s 12 d 0) 11 d (s 25 0 / 64)
def jm_mkB (s : js_S) (d : Nat) (nav url under : Int32) : js_S :=
  if url = -1 then
    (if 0 ≤ s 16 (ix nav) ∧ under = 0 then js_up s 11 d (s 11 (ix (s 16 (ix nav)))) else jm_opq s d)
  else jm_mk1 (jm_fd s 4) d under
/-- make: the document's row is js_free s there 47 0 -/
def jm_make (s : js_S) (nav url : Int32) : js_S :=
  jm_mkB (js_up (js_up (jm_mk0 s (js_free s 10 47 0)) 25 0 url) 12 (js_free s 10 47 0) (jm_under (jm_mk0 s (js_free s 10 47 0)) nav)) (js_free s 10 47 0) nav url (jm_under (jm_mk0 s (js_free s 10 47 0)) nav)
def jm_wr (s : js_S) (e : Nat) (nav step url d : Int32) : js_S :=
  js_up (js_up (js_up (js_up (js_up (js_up s 9 e 1) 4 e nav) 5 e step) 6 e url) 7 e 0) 8 e d
def jm_write (s : js_S) (nav step url d : Int32) : js_S := jm_wr s (js_free s 9 47 0) nav step url d
def jm_ff0 (s : js_S) (d : Int32) (nav : Nat) : js_S :=
  if js_up (js_up s 15 nav 1) 16 nav d 13 (ix d) < 0 then js_up (js_up (js_up s 15 nav 1) 16 nav d) 13 (ix d) (nI nav) else js_up (js_up (js_up s 15 nav 1) 16 nav d) 14 (ix d) (nI nav)
/-- frameFor: the navigable's row is js_free s exists 46 1 -/
def jm_frameFor (s : js_S) (d url step : Int32) : js_S :=
  jm_write (jm_make (jm_ff0 s d (js_free s 15 46 1)) (nI (js_free s 15 46 1)) url) (nI (js_free s 15 46 1)) step (jm_make (jm_ff0 s d (js_free s 15 46 1)) (nI (js_free s 15 46 1)) url 25 0) (nI (js_free (jm_ff0 s d (js_free s 15 46 1)) 10 47 0))
/-- paperOf from row e on, k rows more -/
def jm_po (s : js_S) (nav : Int32) : Nat → Nat → Int32
  | 0, _ => -1
  | k + 1, e => if s 9 e ≠ 0 ∧ s 4 e = nav then s 8 e else jm_po s nav k (e + 1)
def jm_wanted (s : js_S) (url k most : Int32) : Int32 :=
  if url = -1 ∨ s 0 (ix (url / 8)) ≠ 0 ∨ most ≤ k then -2
  else if k = 0 then (if s 1 (ix (url / 8)) = -2 then s 2 (ix (url / 8)) else s 1 (ix (url / 8)))
  else (if s 1 (ix (url / 8)) = -2 then -2 else s 2 (ix (url / 8)))
def jm_lm (s : js_S) (d step : Int32) : js_S :=
  js_up (if jm_wanted s (s 25 0) 0 1 ≠ -2 then jm_frameFor s d (jm_wanted s (s 25 0) 0 1) step else s) 25 0 (s 25 0)
def jm_loadMiddle (s : js_S) (nav url step : Int32) : js_S := jm_lm (jm_make s nav url) (nI (js_free s 10 47 0)) step
def jm_lwi (s : js_S) (f step : Int32) : js_S :=
  if jm_wanted s (s 25 0) 0 1 ≠ -2 then jm_frameFor s (jm_po s f 48 0) (jm_wanted s (s 25 0) 0 1) step else s
def jm_lw (s : js_S) (d to step k : Int32) : js_S :=
  if jm_wanted s to k 2 ≠ -2 then jm_lwi (jm_frameFor s d (jm_wanted s to k 2) step) (nI (js_free s 15 46 1)) step else s
def jm_loadWindow (s : js_S) (url step : Int32) : js_S :=
  js_up (jm_lw (jm_lw (jm_make s 0 url) (nI (js_free s 10 47 0)) (jm_make s 0 url 25 0) step 0) (nI (js_free s 10 47 0)) (jm_make s 0 url 25 0) step 1) 25 0 (jm_make s 0 url 25 0)
/-- deep, from row e on: 1 or 2 -/
def jm_dp (s : js_S) (a : Int32) : Nat → Nat → Int32
  | 0, _ => 2
  | k + 1, e => if s 9 e ≠ 0 ∧ s 4 e = 0 ∧ s 8 e = a then 1 else jm_dp s a k (e + 1)
def jm_deep (s : js_S) (nav : Int32) : Int32 := if nav = 0 then 0 else jm_dp s (s 16 (ix nav)) 48 0
def jm_load (s : js_S) (nav url step : Int32) : js_S :=
  if jm_deep s nav = 0 then jm_loadWindow s url step else if jm_deep s nav = 1 then jm_loadMiddle s nav url step else jm_make s nav url
def jm_keep (s : js_S) (n : Int32) : js_S := if 0 ≤ n then js_up s 20 (ix n) 1 else s
def jm_m0 (s : js_S) : Nat → js_S
  | 0 => s
  | k + 1 => js_up (js_up (js_up (jm_m0 s k) 19 k 0) 20 k (js_b (k = 0))) 17 k (js_b (k = 0))
def jm_me (s : js_S) (e : Nat) : js_S :=
  if s 9 e ≠ 0 ∧ s 20 (ix (s 4 e)) ≠ 0 then
    jm_keep (jm_keep (js_up s 19 (ix (s 8 e)) 1) (js_up s 19 (ix (s 8 e)) 1 13 (ix (s 8 e)))) (jm_keep (js_up s 19 (ix (s 8 e)) 1) (js_up s 19 (ix (s 8 e)) 1 13 (ix (s 8 e))) 14 (ix (s 8 e)))
  else s
def jm_m1 (s : js_S) : Nat → js_S
  | 0 => s
  | e + 1 => jm_me (jm_m1 s e) e
def jm_m2 (s : js_S) : Nat → js_S
  | 0 => s
  | k + 1 => js_up (js_up (js_up (jm_m2 s k) 15 k (js_b (jm_m2 s k 15 k ≠ 0 ∧ jm_m2 s k 20 k ≠ 0))) 10 k (js_b (jm_m2 s k 10 k ≠ 0 ∧ jm_m2 s k 19 k ≠ 0))) 9 k (js_b (jm_m2 s k 9 k ≠ 0 ∧ jm_m2 s k 20 (ix (jm_m2 s k 4 k)) ≠ 0))
/-- presentOf, over the first e rows: the best row, its step -/
def jm_pr (s : js_S) (nav : Int32) : Nat → Int32 × Int32
  | 0 => (0, -1)
  | e + 1 => if s 9 e ≠ 0 ∧ s 4 e = nav ∧ s 5 e ≤ s 21 0 ∧ (jm_pr s nav e).2 < s 5 e then (nI e, s 5 e) else jm_pr s nav e
def jm_presentOf (s : js_S) (nav : Int32) : Int32 := (jm_pr s nav 48).1
def jm_show (s : js_S) (d : Int32) : js_S :=
  let s1 := if 0 ≤ s 13 (ix d) then js_up s 17 (ix (s 13 (ix d))) 1 else s
  if 0 ≤ s1 14 (ix d) then js_up s1 17 (ix (s1 14 (ix d))) 1 else s1
def jm_m3 (s : js_S) : Nat → js_S
  | 0 => s
  | n + 1 => if jm_m3 s n 17 n ≠ 0 then jm_show (jm_m3 s n) (jm_m3 s n 8 (ix (jm_presentOf (jm_m3 s n) (nI n)))) else jm_m3 s n
def jm_mark (s : js_S) : js_S :=
  let a := jm_m1 (jm_m1 (jm_m1 (jm_m0 s 48) 48) 48) 48
  jm_m3 (jm_m3 (jm_m3 (jm_m2 a 48) 48) 48) 48
def jm_isShown (s : js_S) (n : Int32) : Int32 := js_b (0 ≤ n ∧ n ≤ 47 ∧ s 17 (ix n) ≠ 0)
def jm_us (s : js_S) (st : Int32) : Nat → Nat → Int32
  | 0, _ => 0
  | k + 1, e => if s 9 e ≠ 0 ∧ s 5 e = st then 1 else jm_us s st k (e + 1)
def jm_used (s : js_S) (st : Int32) : Int32 := jm_us s st 48 0
/-- settle's loop, at most k times -/
def jm_st (s : js_S) : Nat → js_S
  | 0 => s
  | k + 1 => if 0 < s 21 0 ∧ jm_used s (s 21 0) = 0 then jm_st (js_up s 21 0 (s 21 0 - 1)) k else s
def jm_settle (s : js_S) : js_S := jm_mark (jm_st s (ix (s 21 0)))
def jm_fu (s : js_S) (push : Int32) : Nat → Nat
  | 0 => 0
  | e + 1 => if s 9 e ≠ 0 ∧ (push = 0 ∨ s 5 e ≤ s 21 0) then jm_fu s push e + 1 else jm_fu s push e
def jm_full (s : js_S) (push : Int32) : Int32 := js_b (36 ≤ jm_fu s push 48)
def jm_co (s : js_S) : Nat → js_S
  | 0 => s
  | e + 1 => js_up (jm_co s e) 9 e (js_b (jm_co s e 9 e ≠ 0 ∧ jm_co s e 5 e ≤ jm_co s e 21 0))
def jm_cutOff (s : js_S) : js_S := jm_mark (jm_co s 48)
def jm_fin (s : js_S) (e to state p : Int32) : js_S := jm_settle (jm_mark (js_up (js_up (js_up s 6 (ix e) to) 7 (ix e) state) 8 (ix e) p))
def jm_en2 (s : js_S) (n e to state p push : Int32) : js_S :=
  if push ≠ 0 then
    let s1 := js_up s 21 0 (s 21 0 + 1)
    jm_fin (jm_write s1 n (s1 21 0) to p) (nI (js_free s1 9 47 0)) to state p
  else jm_fin s e to state p
def jm_en1 (s : js_S) (n e url state push d : Int32) : js_S :=
  if d < 0 then
    let s1 := jm_load s n url (if push ≠ 0 then s 21 0 + 1 else s 5 (ix e))
    jm_en2 s1 n e (s1 25 0) state (nI (js_free s 10 47 0)) push
  else jm_en2 s n e url state d push
def jm_enter (s : js_S) (n url state push d : Int32) : js_S :=
  if push ≠ 0 then jm_en1 (jm_cutOff s) n (jm_presentOf (jm_cutOff s) n) url state push d else jm_en1 s n (jm_presentOf s n) url state push d
def jm_within (old url : Int32) : Int32 := js_b (url ≠ -1 ∧ jm_frag url ≠ 0 ∧ old ≠ -1 ∧ old / 8 = url / 8)
def jm_nav (s : js_S) (n url e push : Int32) : js_S :=
  let w := jm_within (s 6 (ix e)) url
  let s1 := if w ≠ 0 ∧ url ≠ s 6 (ix e) then js_up s 24 0 (s 24 0 + 1) else s
  jm_enter s1 n url 0 push (if w ≠ 0 then s1 8 (ix e) else -1)
def jm_navigate (s : js_S) (n url rep : Int32) : Int32 × js_S :=
  if jm_btw url (-1) 255 = 0 then (-3, s) else
  if jm_isShown s n = 0 then (-4, s) else
  if jm_full s (js_b (rep = 0 ∧ url ≠ s 6 (ix (jm_presentOf s n)))) ≠ 0 then (-5, s) else
  (jm_nav s n url (jm_presentOf s n) (js_b (rep = 0 ∧ url ≠ s 6 (ix (jm_presentOf s n)))) 21 0, jm_nav s n url (jm_presentOf s n) (js_b (rep = 0 ∧ url ≠ s 6 (ix (jm_presentOf s n)))))
def jm_rew (s : js_S) (n url state push e : Int32) : js_S := jm_enter s n (if url = -1 then s 6 (ix e) else url) state push (s 8 (ix e))
def jm_forb (old url : Int32) : Bool := decide (url ≠ -1 ∧ (old = -1 ∨ old / 64 ≠ url / 64 ∨ (old / 64 = 3 ∧ old / 8 ≠ url / 8)))
def jm_rewrite (s : js_S) (n url state push : Int32) : Int32 × js_S :=
  if jm_btw url (-1) 255 = 0 then (-3, s) else
  if jm_isShown s n = 0 then (-4, s) else
  if jm_forb (s 6 (ix (jm_presentOf s n))) url = true then (-6, s) else
  if jm_full s push ≠ 0 then (-5, s) else
  (jm_rew s n url state push (jm_presentOf s n) 21 0, jm_rew s n url state push (jm_presentOf s n))
def jm_cu (s : js_S) : Nat → Nat
  | 0 => 0
  | k + 1 => if jm_used s (nI k) ≠ 0 then jm_cu s k + 1 else jm_cu s k
def jm_sa (s : js_S) (n : Int64) : Nat → Nat → Nat → Int32
  | 0, _, _ => -1
  | k + 1, t, b => if jm_used s (nI t) ≠ 0 then (if lN b = n then nI t else jm_sa s n k (t + 1) (b + 1)) else jm_sa s n k (t + 1) b
def jm_stepAt (s : js_S) (n : Int64) : Int32 := jm_sa s n 601 0 0
def jm_g1 (s : js_S) : Nat → js_S
  | 0 => s
  | n + 1 => js_up (jm_g1 s n) 18 n (if jm_g1 s n 17 n ≠ 0 then jm_presentOf (jm_g1 s n) (nI n) else -1)
def jm_gm (s : js_S) (e t : Int32) : js_S :=
  if 0 ≤ e ∧ 0 ≤ t ∧ e ≠ t ∧ s 8 (ix e) = s 8 (ix t) then
    js_up (js_up s 23 0 (s 23 0 + 1)) 24 0 (if jm_frag (s 6 (ix e)) = jm_frag (s 6 (ix t)) then s 24 0 else s 24 0 + 1)
  else s
def jm_g2 (s : js_S) : Nat → js_S
  | 0 => s
  | n + 1 => jm_gm (jm_g2 s n) (if jm_g2 s n 17 n ≠ 0 then jm_presentOf (jm_g2 s n) (nI n) else -1) (jm_g2 s n 18 n)
def jm_go (s : js_S) (delta : Int32) : Int32 × js_S :=
  let to := jm_stepAt s (lN (jm_cu s (ix (s 21 0))) + delta.toInt64)
  if to < 0 then (-7, s) else
    let s2 := jm_g2 (jm_mark (js_up (jm_g1 s 48) 21 0 to)) 48
    (s2 21 0, s2)
def jm_tk (s : js_S) (n : Int32) : js_S :=
  let d := s 16 (ix n)
  let s1 := if s 13 (ix d) = n then js_up s 13 (ix d) (s 14 (ix d)) else s
  js_up s1 14 (ix d) (-1)
def jm_detach (s : js_S) (n : Int32) : Int32 × js_S :=
  if n = 0 then (-3, s) else if jm_isShown s n = 0 then (-4, s) else
  (jm_settle (jm_mark (jm_tk s n)) 21 0, jm_settle (jm_mark (jm_tk s n)))
def jm_url (s : js_S) (n : Int32) : Int32 := if jm_isShown s n ≠ 0 then s 6 (ix (jm_presentOf s n)) else -4
def jm_state (s : js_S) (n : Int32) : Int64 := if jm_isShown s n ≠ 0 then (s 7 (ix (jm_presentOf s n))).toInt64 else 1099511627776
def jm_step (s : js_S) (n : Int32) : Int32 := if jm_isShown s n ≠ 0 then s 5 (ix (jm_presentOf s n)) else -4
def jm_origin (s : js_S) (n : Int32) : Int32 := if jm_isShown s n ≠ 0 then s 11 (ix (s 8 (ix (jm_presentOf s n)))) else -4
def jm_frame (s : js_S) (n k : Int32) : Int32 :=
  if jm_isShown s n = 0 then -4 else
    let d := s 8 (ix (jm_presentOf s n))
    let f := if k = 0 then s 13 (ix d) else if k = 1 then s 14 (ix d) else -1
    if f < 0 then -7 else f
def jm_cntO (s : js_S) (o : Int32) : Nat → Nat
  | 0 => 0
  | e + 1 => if s 9 e ≠ 0 ∧ s 4 e = o then jm_cntO s o e + 1 else jm_cntO s o e
def jm_entries (s : js_S) (n : Int32) : Int32 := if jm_isShown s n ≠ 0 then nI (jm_cntO s n 48) else -4
def jm_length (s : js_S) : Int32 := nI (jm_cu s 601)
def jm_cntF (s : js_S) (f : Nat) : Nat → Nat
  | 0 => 0
  | i + 1 => if s f i ≠ 0 then jm_cntF s f i + 1 else jm_cntF s f i
def jm_count (s : js_S) (k : Int32) : Int32 :=
  if k = 0 then nI (jm_cntF s 17 48) else if k = 1 then nI (jm_cntF s 15 48) else if k = 2 then nI (jm_cntF s 9 48) else if k = 3 then s 23 0 else if k = 4 then s 24 0 else if k = 5 then s 22 0 else -7
end
section
/-! One kind of world for both classes: n cells at ad 0 .. ad (n - 1), their contents a function of the store; contracts, calls and ends in one form. -/
def jx_W (n : Nat) (ad : Nat → Nat) (ce : Nat → va_E) : va_W := (List.range n).map (fun k => (ad k, ce k))
theorem jx_at {n : Nat} {ad : Nat → Nat} {ce : Nat → va_E} {k : Nat} (h : k < n) : (jx_W n ad ce)[k]? = some (ad k, ce k) := by
  simp [jx_W, h]
theorem jx_in {n : Nat} {ad : Nat → Nat} {ce : Nat → va_E} {k : Nat} {q : Nat × va_E} (h : (jx_W n ad ce)[k]? = some q) : k < n ∧ q = (ad k, ce k) := by
  by_cases hk : k < n
  · rw [jx_at hk] at h
    exact ⟨hk, (Option.some.inj h).symm⟩
  · rw [List.getElem?_eq_none (by simp [jx_W]; omega)] at h
    cases h
theorem jx_set {n : Nat} {ad : Nat → Nat} {ce ce' : Nat → va_E} {k : Nat} (hk : k < n) (h : ∀ j, j < n → j ≠ k → ce' j = ce j) : (jx_W n ad ce).set k (ad k, ce' k) = jx_W n ad ce' := by
  apply List.ext_getElem?
  intro j
  by_cases hj : j < n
  · rw [jx_at hj]
    by_cases hjk : j = k
    · subst hjk
      rw [List.getElem?_set_self (by simp [jx_W]; omega)]
    · rw [List.getElem?_set_ne (Ne.symm hjk), jx_at hj, h j hj hjk]
  · rw [List.getElem?_eq_none (by simp [jx_W]; omega), List.getElem?_eq_none (by simp [jx_W]; omega)]
def jx_A (n : Nat) (ad : Nat → Nat) (sz : Nat) : Nat → Prop := fun q => (∃ k, k < n ∧ q = ad k) ∨ sz ≤ q
theorem jx_D {n : Nat} {ad : Nat → Nat} {ce : Nat → va_E} {A : Nat → Prop} {sz : Nat} (h : va_D A (jx_W n ad ce)) : va_D (jx_A n ad sz) (jx_W n ad ce) :=
  ⟨h.1, fun k q hk => Or.inl ⟨k, (jx_in hk).1, by rw [(jx_in hk).2]⟩⟩
/-- va_D speaks of addresses alone -/
theorem jx_Dce {n : Nat} {ad : Nat → Nat} {ce ce' : Nat → va_E} {A : Nat → Prop} (h : va_D A (jx_W n ad ce)) : va_D A (jx_W n ad ce') := by
  refine ⟨fun i j p q hp hq e => ?_, fun k q hk => ?_⟩
  · obtain ⟨hi, rfl⟩ := jx_in hp
    obtain ⟨hj, rfl⟩ := jx_in hq
    exact h.1 i j (ad i, ce i) (ad j, ce j) (jx_at hi) (jx_at hj) e
  · obtain ⟨hi, rfl⟩ := jx_in hk
    exact h.2 k (ad k, ce k) (jx_at hi)
theorem jx_Aof {n : Nat} {ad : Nat → Nat} {ce : Nat → va_E} {A : Nat → Prop} (h : va_D A (jx_W n ad ce)) {k : Nat} (hk : k < n) : A (ad k) := h.2 k _ (jx_at hk)
theorem jx_inj {n : Nat} {ad : Nat → Nat} {ce : Nat → va_E} {A : Nat → Prop} (h : va_D A (jx_W n ad ce)) {i j : Nat} (hi : i < n) (hj : j < n) (e : ad i = ad j) : i = j := h.1 i j _ _ (jx_at hi) (jx_at hj) e
abbrev jk_En (aK : Nat → Nat) (A : Nat → Prop) (U : State) (H : Heap) : Prop := va_En "JointHistory$Kind" "LJointHistory$Kind;" ["CONTENT", "DETOUR", "FAULT"] [] aK A U H
/-- what stands fast in a method's body -/
def jx_C (p : Program) (s : State) (m : MethodId) (args : Array Value) (c : Code) (cc : ByteArray) (nL : Nat) (own : String) (D : va_G) (tys : List (ClassId × FieldType)) (aK : Nat → Nat) (A : Nat → Prop) : Prop :=
  p.tables.exec = Jvm.exec ∧ c.code = cc ∧ c.maxLocals = nL ∧ s.vm.findClass own = some m.cls ∧ (∀ w ∈ jw_all, w.before args s = true) ∧ va_K D classes tys s ∧ jk_En aK A s s.heap ∧ (∀ q, s.heap.size ≤ q → A q)
/-- the world now -/
def jx_H (D : va_G) (n : Nat) (ad : Nat → Nat) (ce : Nat → va_E) (A : Nat → Prop) (H0 H : Heap) (locs : List Loc) : Prop := va_P D classes (jx_W n ad ce) H ∧ va_D A (jx_W n ad ce) ∧ va_S A H0 H locs
def jx_Qc {ρ : Type} (enc : ρ → Option Value) (post : ρ → js_S → Prop) (D : va_G) (n : Nat) (ad : Nat → Nat) (ce : js_S → Nat → va_E) (A : Nat → Prop) : Array Value → State → Outcome → State → Prop := fun _ st oc t =>
  (∃ (r : ρ) (u : js_S), oc = .returned (enc r) ∧ post r u ∧ va_P D classes (jx_W n ad (ce u)) t.heap) ∧ va_F A st t
def jx_Pc (D : va_G) (tys : List (ClassId × FieldType)) (aK : Nat → Nat) (n : Nat) (ad : Nat → Nat) (ce : Nat → va_E) (sz : Nat) (av : List Value) : Array Value → State → Prop :=
  va_Pc av (fun U => U.heap.size = sz ∧ va_P D classes (jx_W n ad ce) U.heap ∧ va_D (fun _ => True) (jx_W n ad ce) ∧ va_K D classes tys U ∧ jk_En aK (jx_A n ad sz) U U.heap)
def jx_M {ρ : Type} (l : Launch) (y : MethodName) (b : ByteArray) (nL : Nat) (ret : Option FieldType) (rm : Room) (D : va_G) (tys : List (ClassId × FieldType)) (aK : Nat → Nat) (n : Nat) (ad : Nat → Nat) (ce : js_S → Nat → va_E) (av : List Value) (u : js_S) (enc : ρ → Option Value) (post : ρ → js_S → Prop) : Prop :=
  ∀ sz, Met l y (.code y b nL ret :: jw_all) rm (jx_Pc D tys aK n ad (ce u) sz av) (jx_Qc enc post D n ad ce (jx_A n ad sz)) 0 0 (jx_A n ad sz)
/-- room for k calls one in the other -/
def jr (k : Nat) : Room := { frames := k, cells := 0, slots := 0, locals := 40 * k }
theorem jx_enter {ρ : Type} {l : Launch} {y : MethodName} {b : ByteArray} {nL : Nat} {ret : Option FieldType} {rm : Room} {D : va_G} {tys : List (ClassId × FieldType)} {aK : Nat → Nat} {n : Nat} {ad : Nat → Nat} {ce : js_S → Nat → va_E} {av : List Value} {u : js_S} {enc : ρ → Option Value} {post : ρ → js_S → Prop} (own : String)
    (hy : plainName y.cls = true) (ho : y.cls = own) (hn : (lg_sl av).length ≤ nL)
    (body : ∀ (p : Program) (e : Env) (s : State) (m : MethodId) (args : Array Value) (below : List Frame) (meth : Method) (c : Code) (A : Nat → Prop) (Q : State → Prop) (H : Heap) (locs : List Loc) (ls : Array Slot), Q = MQ below (jx_Qc enc post D n ad ce A) args s 0 0 A → jx_C p s m args c b nL own D tys aK A → jx_H D n ad (ce u) A s.heap H locs → meth.sig.returnType = ret → meth.locks = false → lv_has ls nL (lv_args 0 av) →
      W p l e rm s m args below meth c H locs 0 0 Q (F0 m 0 ls [])) : jx_M l y b nL ret rm D tys aK n ad ce av u enc post := by
  intro sz
  refine Met.ofW (cc := b) (maxL := nL) (ret := ret) hy rfl ?_
  intro p e s m args below meth c s₁ B hml hv
  obtain ⟨rfl, hsz, hP, hD0, hK, hE⟩ := hv
  subst hsz
  have hts := atoms_spec (ws := .code y b nL ret :: jw_all) B.pre
  have hown : s.vm.findClass y.cls = some m.cls := findClass_of_methodNamed B.named
  have hl := lv_entry av (n := nL) hn
  rw [lg_entry_eq]
  exact body p e s m _ below meth c (jx_A n ad s.heap.size) _ s.heap [] _ rfl ⟨B.exec, B.bytes, hml, by rw [← ho]; exact hown, fun w hw => hts w (List.mem_cons_of_mem _ hw), hK, hE, fun q hq => Or.inr hq⟩ ⟨hP, jx_D hD0, va_S.rf⟩ B.returns B.notSynchronized hl
section JXR
variable {p : Program} {l : Launch} {e : Env} {R : Room} {s : State} {m : MethodId} {args : Array Value} {below : List Frame} {meth : Method} {c : Code} {H : Heap} {locs : List Loc} {cells slots : Nat} {Q : State → Prop} {cc : ByteArray} {pc nL : Nat} {ls : Array Slot} {rest : List Value} {own : String} {D : va_G} {tys : List (ClassId × FieldType)} {aK : Nat → Nat} {n : Nat} {ad : Nat → Nat} {ce : js_S → Nat → va_E} {A : Nat → Prop} {u : js_S}
theorem jx_iret {ρ : Type} {enc : ρ → Option Value} {post : ρ → js_S → Prop} (hc : jx_C p s m args c cc nL own D tys aK A) (hh : jx_H D n ad (ce u) A s.heap H locs) (hQ : Q = MQ below (jx_Qc enc post D n ad ce A) args s cells slots A) (hlk : meth.locks = false) {r : ρ} {v : Int32} {ty : FieldType} (hr : meth.sig.returnType = some ty) (hn : narrow ty (.int v) = .int v) (he : enc r = some (.int v)) (hp : post r u) (hdg : decode cc pc = .ok (.ireturn, 1)) :
    W p l e R s m args below meth c H locs cells slots Q (F0 m pc ls [.int v]) := by
  subst hQ
  exact W.zret hc.1 hc.2.1 hr hn (fun t ht _ => ⟨⟨r, u, by rw [he], hp, by rw [ht]; exact hh.1⟩, hh.2.2.F ht⟩) hh.2.2.2.2 hdg hlk
theorem jx_lret {ρ : Type} {enc : ρ → Option Value} {post : ρ → js_S → Prop} (hc : jx_C p s m args c cc nL own D tys aK A) (hh : jx_H D n ad (ce u) A s.heap H locs) (hQ : Q = MQ below (jx_Qc enc post D n ad ce A) args s cells slots A) (hlk : meth.locks = false) {r : ρ} {v : Int64} (hr : meth.sig.returnType = some .long) (he : enc r = some (.long v)) (hp : post r u) (hdg : decode cc pc = .ok (.lreturn, 1)) :
    W p l e R s m args below meth c H locs cells slots Q (F0 m pc ls [.long v]) := by
  subst hQ
  exact W.lret hc.1 hc.2.1 hr (fun t ht _ => ⟨⟨r, u, by rw [he], hp, by rw [ht]; exact hh.1⟩, hh.2.2.F ht⟩) hh.2.2.2.2 hdg hlk
theorem jx_vret {ρ : Type} {enc : ρ → Option Value} {post : ρ → js_S → Prop} (hc : jx_C p s m args c cc nL own D tys aK A) (hh : jx_H D n ad (ce u) A s.heap H locs) (hQ : Q = MQ below (jx_Qc enc post D n ad ce A) args s cells slots A) (hlk : meth.locks = false) {r : ρ} (hr : meth.sig.returnType = none) (he : enc r = none) (hp : post r u) (hdg : decode cc pc = .ok (.return_, 1)) :
    W p l e R s m args below meth c H locs cells slots Q (F0 m pc ls []) := by
  subst hQ
  exact W.vret hc.1 hc.2.1 hr (fun t ht _ => ⟨⟨r, u, by rw [he], hp, by rw [ht]; exact hh.1⟩, hh.2.2.F ht⟩) hh.2.2.2.2 hdg hlk
theorem jx_aret {ρ : Type} {enc : ρ → Option Value} {post : ρ → js_S → Prop} (hc : jx_C p s m args c cc nL own D tys aK A) (hh : jx_H D n ad (ce u) A s.heap H locs) (hQ : Q = MQ below (jx_Qc enc post D n ad ce A) args s cells slots A) (hlk : meth.locks = false) {r : ρ} {v : Value} {C : String} (hr : meth.sig.returnType = some (.object C)) (hv : v = .null ∨ ∃ a, v = .ref a) (he : enc r = some v) (hp : post r u) (hdg : decode cc pc = .ok (.areturn, 1)) :
    W p l e R s m args below meth c H locs cells slots Q (F0 m pc ls [v]) := by
  subst hQ
  exact W.aret hc.1 hc.2.1 hr (Or.inl ⟨C, rfl⟩) hv (fun t ht _ => ⟨⟨r, u, by rw [he], hp, by rw [ht]; exact hh.1⟩, hh.2.2.F ht⟩) hh.2.2.2.2 hdg hlk
/-- behind a call of a contract in this form -/
theorem jx_go {ρ : Type} {enc : ρ → Option Value} {post : ρ → js_S → Prop} {st0 : List Value} {a : Array Value} {A0 A1 : Nat → Prop} {H0 : Heap} {free : Addr → Prop} (hr : va_Run p l e R s m args below meth c H locs cells slots 0 0 (F0 m pc ls st0) rest (jx_Qc enc post D n ad ce A1 a) free) (hS : va_S A0 H0 H locs) (hA : ∀ q, q < H.size → A1 q → A0 q) (hf : ∀ q, free q → A0 q)
    (kk : ∀ (r : ρ) (u' : js_S) (H1 : Heap) (locs1 : List Loc), post r u' → va_P D classes (jx_W n ad (ce u')) H1 → H.size ≤ H1.size → (∀ q : Nat, q < H.size → ¬ A1 q → H1[q]? = H[q]?) → va_S A0 H0 H1 locs1 → W p l e R s m args below meth c H1 locs1 cells slots Q (F0 m (pc + 3) ls ((enc r).toList ++ rest))) : W p l e R s m args below meth c H locs cells slots Q (F0 m pc ls st0) := by
  intro T hT X
  obtain ⟨v, st₀, t, T', L, h0, X', hL, e1, e2, ⟨⟨r, u', hv, hp, hb⟩, hz, hk⟩, st⟩ := hr T hT X
  cases hv
  rw [h0] at hz hk
  obtain ⟨t2, a1, b1⟩ := kk r u' T'.heap (locs ++ L) hp (by rw [e1]; exact hb) (by rw [e1]; exact hz) (fun q h1 h2 => by rw [e1]; exact hk q h1 h2)
    ⟨Nat.le_trans hS.1 (by rw [e1]; exact hz), fun q h1 h2 => by rw [e1, hk q (Nat.lt_of_lt_of_le h1 hS.1) (fun z => h2 (hA q (Nat.lt_of_lt_of_le h1 hS.1) z))]; exact hS.2.1 q h1 h2, fun q hq => by
      rcases List.mem_append.mp hq with h | h
      · exact hS.2.2 q h
      · exact hf _ (hL q h)⟩ T' rfl X'
  exact ⟨t2, st t2 a1, b1⟩
end JXR
def jx_Y (own : String) (idx : Nat) (y : MethodName) (b : ByteArray) (nL : Nat) (ret : Option FieldType) (k : Nat) : Prop :=
  Cond.code y b nL ret ∈ jw_all ∧ Cond.methodLink own idx y ∈ jw_all ∧ Cond.initialized y.cls ∈ jw_all ∧ y.cls ≠ "java/lang/invoke/MethodHandle" ∧ y.cls ≠ "java/lang/invoke/VarHandle" ∧ (parseMethodDescriptor y.desc).map (fun d => d.parameters.length) = some k
def jx_YV (own : String) (idx : Nat) (y : MethodName) (b : ByteArray) (nL : Nat) (ret : Option FieldType) (k : Nat) : Prop :=
  jx_Y own idx y b nL ret k ∧ Cond.instanceMethod y ∈ jw_all ∧ Cond.selects y.cls y y ∈ jw_all
def jx_YS (own : String) (idx : Nat) (y : MethodName) (b : ByteArray) (nL : Nat) (ret : Option FieldType) (k : Nat) : Prop :=
  jx_Y own idx y b nL ret k ∧ Cond.static y ∈ jw_all
theorem jx_good {y : MethodName} {b : ByteArray} {nL : Nat} {ret : Option FieldType} (h : Cond.code y b nL ret ∈ jw_all) : GoodIn jw_all (Cond.code y b nL ret :: jw_all) := by
  intro w hw
  rcases List.mem_cons.mp hw with rfl | hw
  · exact ⟨h, jw_good _ h⟩
  · exact ⟨hw, jw_good _ hw⟩
theorem jx_blind {D : va_G} {tys : List (ClassId × FieldType)} {aK : Nat → Nat} {n : Nat} {ad : Nat → Nat} {ce : Nat → va_E} {sz : Nat} {av : List Value} : FrameBlind (jx_Pc D tys aK n ad ce sz av) := by
  intro a U g mk q
  obtain ⟨q0, q1, qP, qD, qK, qE⟩ := q
  exact ⟨q0, q1, qP, qD, va_K.moved (u := U) (U := U.calling g mk a) (Vm.Alike.refl U.vm) qK, va_En.moved (u := U) (U := U.calling g mk a) (Vm.Alike.refl U.vm) qE⟩
section JXC
variable {p : Program} {l : Launch} {e : Env} {R : Room} {s : State} {m : MethodId} {args : Array Value} {below : List Frame} {meth : Method} {c : Code} {H : Heap} {locs : List Loc} {cells slots : Nat} {Q : State → Prop} {cc : ByteArray} {pc nL : Nat} {ls : Array Slot} {own : String} {D : va_G} {tys : List (ClassId × FieldType)} {aK : Nat → Nat} {n : Nat} {ad : Nat → Nat} {ce : js_S → Nat → va_E} {A : Nat → Prop} {u : js_S}
theorem jx_sub (hc : jx_C p s m args c cc nL own D tys aK A) {ce : Nat → va_E} (hh : jx_H D n ad ce A s.heap H locs) : ∀ q, jx_A n ad H.size q → A q := by
  intro q h
  rcases h with ⟨k, hk, rfl⟩ | h
  · exact jx_Aof hh.2.1 hk
  · exact hc.2.2.2.2.2.2.2 q (Nat.le_trans hh.2.2.1 h)
theorem jx_pre (hc : jx_C p s m args c cc nL own D tys aK A) {ce : Nat → va_E} (hh : jx_H D n ad ce A s.heap H locs) {av : List Value} : ∀ U : State, U.heap = H → s.WarmedH U.vm → jx_Pc D tys aK n ad ce H.size av av.toArray U := by
  intro U hU hW
  refine ⟨rfl, by rw [hU], by rw [hU]; exact hh.1, ⟨hh.2.1.1, fun _ _ _ => trivial⟩, va_K.moved hW.alike hc.2.2.2.2.2.1, ?_⟩
  rw [hU]
  exact ((hc.2.2.2.2.2.2.1.kept hh.2.2.2.1).narrow (jx_sub hc hh)).moved hW.alike
theorem jx_callV {ρ : Type} {enc : ρ → Option Value} {post : ρ → js_S → Prop} {y : MethodName} {b : ByteArray} {nL' idx k : Nat} {ret : Option FieldType} {rm : Room} {st : List Value} (As rest : List Value) (hc : jx_C p s m args c cc nL own D tys aK A) (hh : jx_H D n ad (ce u) A s.heap H locs)
    (hM : jx_M l y b nL' ret rm D tys aK n ad ce (.ref (ad 0) :: As) u enc post) (hY : jx_YV own idx y b nL' ret k) {ci N : Nat} {T : u_T} {fs : List Value} (h0 : 0 < n ∧ ce u 0 = .inr (ci, fs) ∧ classes[ci]? = some (y.cls, T, N))
    (hrm : rm.cells = 0 ∧ rm.slots = 0 ∧ rm.frames + 1 ≤ R.frames ∧ 8 + (nL' + 11) + rm.locals ≤ R.locals) (hk : As.length = k) (hls : ls.size = nL) (hst : st = As.reverse ++ .ref (ad 0) :: rest) (hro : (rest.map fun v => v.category).sum ≤ 8) (hcs : cells ≤ R.cells ∧ slots ≤ R.slots) (hdg : decode cc pc = .ok (.invokevirtual idx, 3))
    (kk : ∀ (r : ρ) (u' : js_S) (H1 : Heap) (locs1 : List Loc), post r u' → jx_H D n ad (ce u') A s.heap H1 locs1 → H.size ≤ H1.size → (∀ q : Nat, q < H.size → ¬ jx_A n ad H.size q → H1[q]? = H[q]?) → W p l e R s m args below meth c H1 locs1 cells slots Q (F0 m (pc + 3) ls ((enc r).toList ++ rest))) : W p l e R s m args below meth c H locs cells slots Q (F0 m pc ls st) := by
  subst hst
  obtain ⟨⟨y1, y2, y3, y4, y5, y6⟩, y7, y8⟩ := hY
  have hts := hc.2.2.2.2.1
  have hcell : ∃ cellB : Cell, H[ad 0]? = some cellB ∧ cellB.vm.isStatics = false ∧ s.vm.findClass y.cls = some cellB.cls := by
    obtain ⟨r, h1, cell, q1, q2, q3, q4⟩ := hh.1 0 _ (by rw [jx_at h0.1, h0.2.1])
    obtain ⟨-, hfc, -⟩ := hc.2.2.2.2.2.1.1 ci _ h0.2.2
    exact ⟨cell, q1, by rw [q3]; rfl, by rw [q2]; exact hfc⟩
  refine jx_go (rest := rest) (va_runV (n := k) (C := y.cls) (nL := nL) (Ts := jw_all) (own := own) (As := As) ⟨hc.1, hc.2.1, hc.2.2.1, hc.2.2.2.1, hts⟩ (hM H.size) ⟨callB_of k hts (jx_good y1) rfl hrm.1 hrm.2.1 (hts _ y3) (hts _ y2) ⟨y4, y5, y6⟩ hrm.2.2, hts _ y7, hts _ y8⟩ ⟨jx_blind, hcell, jx_pre hc hh⟩ rfl hk hls rfl (lv_room hro) hdg hcs) hh.2.2 (fun q _ h => jx_sub hc hh q h) (jx_sub hc hh) ?_
  intro r u' H1 locs1 hp hP1 hz hk1 hS1
  exact kk r u' H1 locs1 hp ⟨hP1, jx_Dce hh.2.1, hS1⟩ hz hk1
theorem jx_callS {ρ : Type} {enc : ρ → Option Value} {post : ρ → js_S → Prop} {y : MethodName} {b : ByteArray} {nL' idx k : Nat} {ret : Option FieldType} {rm : Room} {st : List Value} (As rest : List Value) (hc : jx_C p s m args c cc nL own D tys aK A) (hh : jx_H D n ad (ce u) A s.heap H locs)
    (hM : jx_M l y b nL' ret rm D tys aK n ad ce As u enc post) (hY : jx_YS own idx y b nL' ret k)
    (hrm : rm.cells = 0 ∧ rm.slots = 0 ∧ rm.frames + 1 ≤ R.frames ∧ 8 + (nL' + 11) + rm.locals ≤ R.locals) (hk : As.length = k) (hls : ls.size = nL) (hst : st = As.reverse ++ rest) (hro : (rest.map fun v => v.category).sum ≤ 8) (hcs : cells ≤ R.cells ∧ slots ≤ R.slots) (hdg : decode cc pc = .ok (.invokestatic idx, 3))
    (kk : ∀ (r : ρ) (u' : js_S) (H1 : Heap) (locs1 : List Loc), post r u' → jx_H D n ad (ce u') A s.heap H1 locs1 → H.size ≤ H1.size → (∀ q : Nat, q < H.size → ¬ jx_A n ad H.size q → H1[q]? = H[q]?) → W p l e R s m args below meth c H1 locs1 cells slots Q (F0 m (pc + 3) ls ((enc r).toList ++ rest))) : W p l e R s m args below meth c H locs cells slots Q (F0 m pc ls st) := by
  subst hst
  obtain ⟨⟨y1, y2, y3, y4, y5, y6⟩, y7⟩ := hY
  have hts := hc.2.2.2.2.1
  refine jx_go (rest := rest) (va_runS (n := k) (nL := nL) (Ts := jw_all) (own := own) (As := As) ⟨hc.1, hc.2.1, hc.2.2.1, hc.2.2.2.1, hts⟩ (hM H.size) ⟨callB_of k hts (jx_good y1) rfl hrm.1 hrm.2.1 (hts _ y3) (hts _ y2) ⟨y4, y5, y6⟩ hrm.2.2, hts _ y7⟩ ⟨jx_blind, jx_pre hc hh⟩ rfl hk hls rfl (lv_room hro) hdg hcs) hh.2.2 (fun q _ h => jx_sub hc hh q h) (jx_sub hc hh) ?_
  intro r u' H1 locs1 hp hP1 hz hk1 hS1
  exact kk r u' H1 locs1 hp ⟨hP1, jx_Dce hh.2.1, hS1⟩ hz hk1
end JXC
end
section
/-! References by the number of their row, -1 for null; the class's cells. -/
def jv (ad : Nat → Nat) (off : Nat) (x : Int32) : Value := va_rf (if x = -1 then none else some (ad (off + ix x)))
/-- a number of a row, or -1 -/
def jq (n : Nat) (x : Int32) : Prop := x = -1 ∨ ∃ i, i < n ∧ x = nI i
theorem jv_null {ad : Nat → Nat} {off : Nat} : jv ad off (-1) = .null := by simp [jv, va_rf]
theorem jv_ref {ad : Nat → Nat} {off : Nat} {x : Int32} (h : ¬ x = -1) : jv ad off x = .ref (ad (off + ix x)) := by simp [jv, va_rf, h]
theorem nI_m1 {i : Nat} (h : i < 2 ^ 31) : ¬ nI i = -1 := fun e => nI_pos h (by rw [e]; decide)
theorem jv_nI {ad : Nat → Nat} {off i : Nat} (h : i < 2 ^ 31) : jv ad off (nI i) = .ref (ad (off + i)) := by rw [jv_ref (nI_m1 h), ix_nI h]
theorem jv_or (ad : Nat → Nat) (off : Nat) (x : Int32) : jv ad off x = .null ∨ ∃ a, jv ad off x = .ref a := va_rf_or _
theorem jv_cat (ad : Nat → Nat) (off : Nat) (x : Int32) : (jv ad off x).category = 1 := by
  rcases jv_or ad off x with h | ⟨a, h⟩ <;> rw [h] <;> rfl
theorem vc_int (x : Int32) : (Value.int x).category = 1 := rfl
theorem vc_ref (a : Nat) : (Value.ref a).category = 1 := rfl
theorem vc_long (x : Int64) : (Value.long x).category = 2 := rfl
theorem jq_nI {n i : Nat} (h : i < n) : jq n (nI i) := Or.inr ⟨i, h, rfl⟩
theorem jq_m1 {n : Nat} : jq n (-1) := Or.inl rfl
theorem jq_ne {n : Nat} {x : Int32} (h : jq n x) (hx : ¬ x = -1) : ∃ i, i < n ∧ x = nI i := h.resolve_left hx
theorem jv_inj {ad : Nat → Nat} {off n : Nat} (hn : n < 2 ^ 31) (hi : ∀ i j, i < n → j < n → ad (off + i) = ad (off + j) → i = j) {x y : Int32} (hx : jq n x) (hy : jq n y) : ((if x = -1 then none else some (ad (off + ix x)) : Option Nat) = (if y = -1 then none else some (ad (off + ix y)))) ↔ x = y := by
  rcases hx with rfl | ⟨i, h1, rfl⟩ <;> rcases hy with rfl | ⟨j, h2, rfl⟩
  · simp
  · simp [nI_m1 (show j < 2 ^ 31 by omega), Ne.symm (nI_m1 (show j < 2 ^ 31 by omega))]
  · simp [nI_m1 (show i < 2 ^ 31 by omega)]
  · rw [if_neg (nI_m1 (show i < 2 ^ 31 by omega)), if_neg (nI_m1 (show j < 2 ^ 31 by omega)), ix_nI (show i < 2 ^ 31 by omega), ix_nI (show j < 2 ^ 31 by omega)]
    constructor
    · intro h
      rw [hi i j h1 h2 (Option.some.inj h)]
    · intro h
      rw [(nI_eq (show i < 2 ^ 31 by omega) (show j < 2 ^ 31 by omega)).mp h]
section JV
variable {p : Program} {l : Launch} {e : Env} {R : Room} {s : State} {m : MethodId} {args : Array Value} {below : List Frame} {meth : Method} {c : Code} {H : Heap} {locs : List Loc} {cells slots : Nat} {Q : State → Prop} {cc : ByteArray} {pc : Nat} {ls : Array Slot} {rest : List Value} {ad : Nat → Nat} {off : Nat}
theorem jv_aload_n (hexec : p.tables.exec = Jvm.exec) (hb : c.code = cc) {k : Fin 4} {i : Nat} {x : Int32} (hdg : decode cc pc = .ok (.aload_n k, 1)) (hi : (k : Nat) = i) (hl : ls[i]? = some (.val (jv ad off x)))
    (kk : W p l e R s m args below meth c H locs cells slots Q (F0 m (pc + 1) ls (jv ad off x :: rest))) : W p l e R s m args below meth c H locs cells slots Q (F0 m pc ls rest) := by
  rcases jv_or ad off x with h | ⟨a, h⟩ <;> rw [h] at hl kk
  · exact lv_aload_nN hexec hb hdg hi hl kk
  · exact lv_aload_n hexec hb hdg hi hl kk
theorem jv_aload (hexec : p.tables.exec = Jvm.exec) (hb : c.code = cc) {i : Nat} {x : Int32} (hdg : decode cc pc = .ok (.aload i, 2)) (hl : ls[i]? = some (.val (jv ad off x)))
    (kk : W p l e R s m args below meth c H locs cells slots Q (F0 m (pc + 2) ls (jv ad off x :: rest))) : W p l e R s m args below meth c H locs cells slots Q (F0 m pc ls rest) := by
  rcases jv_or ad off x with h | ⟨a, h⟩ <;> rw [h] at hl kk
  · exact lv_aloadN hexec hb hdg hl kk
  · exact lv_aload hexec hb hdg hl kk
theorem jv_astore_n (hexec : p.tables.exec = Jvm.exec) (hb : c.code = cc) {k : Fin 4} {i nL : Nat} {x : Int32} {lv lv' : List (Nat × Value)} (hdg : decode cc pc = .ok (.astore_n k, 1)) (hi : (k : Nat) = i) (h : lv_has ls nL lv) (hn : i < nL) (hl : (i, jv ad off x) :: lv.filter (fun q => !(q.1 == i) && !(q.1 + 1 == i && q.2.category == 2)) = lv')
    (kk : ∀ ls' : Array Slot, lv_has ls' nL lv' → W p l e R s m args below meth c H locs cells slots Q (F0 m (pc + 1) ls' rest)) : W p l e R s m args below meth c H locs cells slots Q (F0 m pc ls (jv ad off x :: rest)) := by
  rcases jv_or ad off x with h9 | ⟨a, h9⟩ <;> rw [h9] at hl ⊢
  · exact lv_astore_nN hexec hb hdg hi h hn hl kk
  · exact lv_astore_n hexec hb hdg hi h hn hl kk
theorem jv_astore (hexec : p.tables.exec = Jvm.exec) (hb : c.code = cc) {i nL : Nat} {x : Int32} {lv lv' : List (Nat × Value)} (hdg : decode cc pc = .ok (.astore i, 2)) (h : lv_has ls nL lv) (hn : i < nL) (hl : (i, jv ad off x) :: lv.filter (fun q => !(q.1 == i) && !(q.1 + 1 == i && q.2.category == 2)) = lv')
    (kk : ∀ ls' : Array Slot, lv_has ls' nL lv' → W p l e R s m args below meth c H locs cells slots Q (F0 m (pc + 2) ls' rest)) : W p l e R s m args below meth c H locs cells slots Q (F0 m pc ls (jv ad off x :: rest)) := by
  rcases jv_or ad off x with h9 | ⟨a, h9⟩ <;> rw [h9] at hl ⊢
  · exact lv_astoreN hexec hb hdg h hn hl kk
  · exact lv_astore hexec hb hdg h hn hl kk
theorem jv_ifnull (hexec : p.tables.exec = Jvm.exec) (hb : c.code = cc) {x : Int32} {o : Int} {tgt : Nat} (hdg : decode cc pc = .ok (.ifnull o, 3)) (ht : (pc : Int) + o = (tgt : Int))
    (kt : x = -1 → W p l e R s m args below meth c H locs cells slots Q (F0 m tgt ls rest)) (kf : ¬ x = -1 → W p l e R s m args below meth c H locs cells slots Q (F0 m (pc + 3) ls rest)) : W p l e R s m args below meth c H locs cells slots Q (F0 m pc ls (jv ad off x :: rest)) := by
  by_cases h : x = -1
  · have k := kt h
    subst h
    rw [jv_null]
    exact lv_ifnullN hexec hb hdg ht k
  · rw [jv_ref h]
    exact lv_ifnull hexec hb hdg (kf h)
theorem jv_ifnonnull (hexec : p.tables.exec = Jvm.exec) (hb : c.code = cc) {x : Int32} {o : Int} {tgt : Nat} (hdg : decode cc pc = .ok (.ifnonnull o, 3)) (ht : (pc : Int) + o = (tgt : Int))
    (kt : ¬ x = -1 → W p l e R s m args below meth c H locs cells slots Q (F0 m tgt ls rest)) (kf : x = -1 → W p l e R s m args below meth c H locs cells slots Q (F0 m (pc + 3) ls rest)) : W p l e R s m args below meth c H locs cells slots Q (F0 m pc ls (jv ad off x :: rest)) := by
  by_cases h : x = -1
  · have k := kf h
    subst h
    rw [jv_null]
    exact lv_ifnonnullN hexec hb hdg k
  · rw [jv_ref h]
    exact lv_ifnonnull hexec hb hdg ht (kt h)
theorem jv_acmp_ne (hexec : p.tables.exec = Jvm.exec) (hb : c.code = cc) {x y : Int32} {o : Int} {tgt n : Nat} (hn : n < 2 ^ 31) (hi : ∀ i j, i < n → j < n → ad (off + i) = ad (off + j) → i = j) (hx : jq n x) (hy : jq n y) (hdg : decode cc pc = .ok (.if_acmp .ne o, 3)) (ht : (pc : Int) + o = (tgt : Int))
    (kt : ¬ x = y → W p l e R s m args below meth c H locs cells slots Q (F0 m tgt ls rest)) (kf : x = y → W p l e R s m args below meth c H locs cells slots Q (F0 m (pc + 3) ls rest)) : W p l e R s m args below meth c H locs cells slots Q (F0 m pc ls (jv ad off y :: jv ad off x :: rest)) :=
  lv_acmp_ne hexec hb hdg ht (fun h => kt (fun e => h ((jv_inj hn hi hx hy).mpr e))) (fun h => kf ((jv_inj hn hi hx hy).mp h))
theorem jv_acmp_eq (hexec : p.tables.exec = Jvm.exec) (hb : c.code = cc) {x y : Int32} {o : Int} {tgt n : Nat} (hn : n < 2 ^ 31) (hi : ∀ i j, i < n → j < n → ad (off + i) = ad (off + j) → i = j) (hx : jq n x) (hy : jq n y) (hdg : decode cc pc = .ok (.if_acmp .eq o, 3)) (ht : (pc : Int) + o = (tgt : Int))
    (kt : x = y → W p l e R s m args below meth c H locs cells slots Q (F0 m tgt ls rest)) (kf : ¬ x = y → W p l e R s m args below meth c H locs cells slots Q (F0 m (pc + 3) ls rest)) : W p l e R s m args below meth c H locs cells slots Q (F0 m pc ls (jv ad off y :: jv ad off x :: rest)) :=
  lv_acmp_eq hexec hb hdg ht (fun h => kt ((jv_inj hn hi hx hy).mp h)) (fun h => kf (fun e => h ((jv_inj hn hi hx hy).mpr e)))
/-- null on the stack, as a reference by number -/
theorem jv_const (hexec : p.tables.exec = Jvm.exec) (hb : c.code = cc) (hdg : decode cc pc = .ok (.aconst_null, 1)) (k : W p l e R s m args below meth c H locs cells slots Q (F0 m (pc + 1) ls (jv ad off (-1) :: rest))) : W p l e R s m args below meth c H locs cells slots Q (F0 m pc ls rest) := by
  rw [jv_null] at k
  exact lv_null hexec hb hdg k
end JV
end
section
/-! Each call: the words of its link. -/
set_option maxRecDepth 20000 in
theorem wy_J_47 : jx_YV "JointHistory" 47 y_J_load b_J_load 8 (some (.object "JointHistory$Document")) 3 := ⟨⟨jw_tb (i := 122) rfl rfl, jw_tb (i := 119) rfl rfl, jw_tb (i := 1) rfl rfl, by decide +kernel, by decide +kernel, by decide +kernel⟩, jw_tb (i := 121) rfl rfl, jw_pv (i := 0) (q := (y_J_load, 9)) rfl⟩
set_option maxRecDepth 20000 in
theorem wy_J_222 : jx_YV "JointHistory" 222 y_J_freeDocument b_J_freeDocument 4 (some (.object "JointHistory$Document")) 1 := ⟨⟨jw_tb (i := 126) rfl rfl, jw_tb (i := 123) rfl rfl, jw_tb (i := 1) rfl rfl, by decide +kernel, by decide +kernel, by decide +kernel⟩, jw_tb (i := 125) rfl rfl, jw_pv (i := 1) (q := (y_J_freeDocument, 9)) rfl⟩
set_option maxRecDepth 20000 in
theorem wy_J_226 : jx_YV "JointHistory" 226 y_J_giveOpaqueOrigin b_J_giveOpaqueOrigin 2 (some .int) 0 := ⟨⟨jw_tb (i := 130) rfl rfl, jw_tb (i := 127) rfl rfl, jw_tb (i := 1) rfl rfl, by decide +kernel, by decide +kernel, by decide +kernel⟩, jw_tb (i := 129) rfl rfl, jw_pv (i := 2) (q := (y_J_giveOpaqueOrigin, 9)) rfl⟩
set_option maxRecDepth 20000 in
theorem wy_J_202 : jx_YS "JointHistory" 202 y_J_pageOf b_J_pageOf 1 (some .int) 1 := ⟨⟨jw_tb (i := 133) rfl rfl, jw_tb (i := 131) rfl rfl, jw_tb (i := 1) rfl rfl, by decide +kernel, by decide +kernel, by decide +kernel⟩, jw_tb (i := 132) rfl rfl⟩
set_option maxRecDepth 20000 in
theorem wy_J_205 : jx_YS "JointHistory" 205 y_J_hostOf b_J_hostOf 1 (some .int) 1 := ⟨⟨jw_tb (i := 137) rfl rfl, jw_tb (i := 135) rfl rfl, jw_tb (i := 1) rfl rfl, by decide +kernel, by decide +kernel, by decide +kernel⟩, jw_tb (i := 136) rfl rfl⟩
set_option maxRecDepth 20000 in
theorem wy_J_229 : jx_YV "JointHistory" 229 y_J_makeFrames b_J_makeFrames 6 none 3 := ⟨⟨jw_tb (i := 141) rfl rfl, jw_tb (i := 138) rfl rfl, jw_tb (i := 1) rfl rfl, by decide +kernel, by decide +kernel, by decide +kernel⟩, jw_tb (i := 140) rfl rfl, jw_pv (i := 3) (q := (y_J_makeFrames, 9)) rfl⟩
set_option maxRecDepth 20000 in
theorem wy_J_236 : jx_YV "JointHistory" 236 y_J_makeFrame b_J_makeFrame 6 (some (.object "JointHistory$Navigable")) 3 := ⟨⟨jw_tb (i := 145) rfl rfl, jw_tb (i := 142) rfl rfl, jw_tb (i := 1) rfl rfl, by decide +kernel, by decide +kernel, by decide +kernel⟩, jw_tb (i := 144) rfl rfl, jw_pv (i := 4) (q := (y_J_makeFrame, 9)) rfl⟩
set_option maxRecDepth 20000 in
theorem wy_J_240 : jx_YV "JointHistory" 240 y_J_freeNavigable b_J_freeNavigable 2 (some (.object "JointHistory$Navigable")) 0 := ⟨⟨jw_tb (i := 149) rfl rfl, jw_tb (i := 146) rfl rfl, jw_tb (i := 1) rfl rfl, by decide +kernel, by decide +kernel, by decide +kernel⟩, jw_tb (i := 148) rfl rfl, jw_pv (i := 5) (q := (y_J_freeNavigable, 9)) rfl⟩
set_option maxRecDepth 20000 in
theorem wy_J_131 : jx_YV "JointHistory" 131 y_J_followDetours b_J_followDetours 5 (some .int) 1 := ⟨⟨jw_tb (i := 153) rfl rfl, jw_tb (i := 150) rfl rfl, jw_tb (i := 1) rfl rfl, by decide +kernel, by decide +kernel, by decide +kernel⟩, jw_tb (i := 152) rfl rfl, jw_pv (i := 6) (q := (y_J_followDetours, 9)) rfl⟩
set_option maxRecDepth 20000 in
theorem wy_J_216 : jx_YV "JointHistory" 216 y_J_isDetour b_J_isDetour 2 (some .boolean) 1 := ⟨⟨jw_tb (i := 157) rfl rfl, jw_tb (i := 154) rfl rfl, jw_tb (i := 1) rfl rfl, by decide +kernel, by decide +kernel, by decide +kernel⟩, jw_tb (i := 156) rfl rfl, jw_pv (i := 7) (q := (y_J_isDetour, 9)) rfl⟩
set_option maxRecDepth 20000 in
theorem wy_J_199 : jx_YS "JointHistory" 199 y_J_fragmentOf b_J_fragmentOf 1 (some .int) 1 := ⟨⟨jw_tb (i := 162) rfl rfl, jw_tb (i := 160) rfl rfl, jw_tb (i := 1) rfl rfl, by decide +kernel, by decide +kernel, by decide +kernel⟩, jw_tb (i := 161) rfl rfl⟩
set_option maxRecDepth 20000 in
theorem wy_J_51 : jx_YV "JointHistory" 51 y_J_addEntry b_J_addEntry 8 none 5 := ⟨⟨jw_tb (i := 166) rfl rfl, jw_tb (i := 163) rfl rfl, jw_tb (i := 1) rfl rfl, by decide +kernel, by decide +kernel, by decide +kernel⟩, jw_tb (i := 165) rfl rfl, jw_pv (i := 8) (q := (y_J_addEntry, 9)) rfl⟩
set_option maxRecDepth 20000 in
theorem wy_L_13 : jx_YV "JointHistoryLaw" 13 y_J_content b_J_content 6 (some .boolean) 4 := ⟨⟨jw_tb (i := 198) rfl rfl, jw_tb (i := 195) rfl rfl, jw_tb (i := 1) rfl rfl, by decide +kernel, by decide +kernel, by decide +kernel⟩, jw_tb (i := 196) rfl rfl, jw_tb (i := 197) rfl rfl⟩
set_option maxRecDepth 20000 in
theorem wy_J_55 : jx_YS "JointHistory" 55 y_J_isPage b_J_isPage 1 (some .boolean) 1 := ⟨⟨jw_tb (i := 201) rfl rfl, jw_tb (i := 199) rfl rfl, jw_tb (i := 1) rfl rfl, by decide +kernel, by decide +kernel, by decide +kernel⟩, jw_tb (i := 200) rfl rfl⟩
set_option maxRecDepth 20000 in
theorem wy_J_59 : jx_YS "JointHistory" 59 y_J_isFrameChoice b_J_isFrameChoice 1 (some .boolean) 1 := ⟨⟨jw_tb (i := 204) rfl rfl, jw_tb (i := 202) rfl rfl, jw_tb (i := 1) rfl rfl, by decide +kernel, by decide +kernel, by decide +kernel⟩, jw_tb (i := 203) rfl rfl⟩
set_option maxRecDepth 20000 in
theorem wy_J_93 : jx_YS "JointHistory" 93 y_J_isUrlOrBlank b_J_isUrlOrBlank 1 (some .boolean) 1 := ⟨⟨jw_tb (i := 207) rfl rfl, jw_tb (i := 205) rfl rfl, jw_tb (i := 1) rfl rfl, by decide +kernel, by decide +kernel, by decide +kernel⟩, jw_tb (i := 206) rfl rfl⟩
set_option maxRecDepth 20000 in
theorem wy_J_81 : jx_YS "JointHistory" 81 y_J_isUrl b_J_isUrl 1 (some .boolean) 1 := ⟨⟨jw_tb (i := 210) rfl rfl, jw_tb (i := 208) rfl rfl, jw_tb (i := 1) rfl rfl, by decide +kernel, by decide +kernel, by decide +kernel⟩, jw_tb (i := 209) rfl rfl⟩
set_option maxRecDepth 20000 in
theorem wy_L_18 : jx_YV "JointHistoryLaw" 18 y_J_detour b_J_detour 3 (some .boolean) 2 := ⟨⟨jw_tb (i := 214) rfl rfl, jw_tb (i := 211) rfl rfl, jw_tb (i := 1) rfl rfl, by decide +kernel, by decide +kernel, by decide +kernel⟩, jw_tb (i := 212) rfl rfl, jw_tb (i := 213) rfl rfl⟩
set_option maxRecDepth 20000 in
theorem wy_L_23 : jx_YV "JointHistoryLaw" 23 y_J_fault b_J_fault 2 (some .boolean) 1 := ⟨⟨jw_tb (i := 218) rfl rfl, jw_tb (i := 215) rfl rfl, jw_tb (i := 1) rfl rfl, by decide +kernel, by decide +kernel, by decide +kernel⟩, jw_tb (i := 216) rfl rfl, jw_tb (i := 217) rfl rfl⟩
set_option maxRecDepth 20000 in
theorem wy_L_28 : jx_YV "JointHistoryLaw" 28 y_J_navigate b_J_navigate 8 (some .int) 3 := ⟨⟨jw_tb (i := 224) rfl rfl, jw_tb (i := 221) rfl rfl, jw_tb (i := 1) rfl rfl, by decide +kernel, by decide +kernel, by decide +kernel⟩, jw_tb (i := 222) rfl rfl, jw_tb (i := 223) rfl rfl⟩
set_option maxRecDepth 20000 in
theorem wy_J_99 : jx_YV "JointHistory" 99 y_J_shownEntry b_J_shownEntry 6 (some (.object "JointHistory$Entry")) 2 := ⟨⟨jw_tb (i := 228) rfl rfl, jw_tb (i := 225) rfl rfl, jw_tb (i := 1) rfl rfl, by decide +kernel, by decide +kernel, by decide +kernel⟩, jw_tb (i := 227) rfl rfl, jw_pv (i := 9) (q := (y_J_shownEntry, 9)) rfl⟩
set_option maxRecDepth 20000 in
theorem wy_J_212 : jx_YV "JointHistory" 212 y_J_entryAt b_J_entryAt 8 (some (.object "JointHistory$Entry")) 2 := ⟨⟨jw_tb (i := 232) rfl rfl, jw_tb (i := 229) rfl rfl, jw_tb (i := 1) rfl rfl, by decide +kernel, by decide +kernel, by decide +kernel⟩, jw_tb (i := 231) rfl rfl, jw_pv (i := 10) (q := (y_J_entryAt, 9)) rfl⟩
set_option maxRecDepth 20000 in
theorem wy_J_106 : jx_YV "JointHistory" 106 y_J_isFull b_J_isFull 2 (some .boolean) 1 := ⟨⟨jw_tb (i := 236) rfl rfl, jw_tb (i := 233) rfl rfl, jw_tb (i := 1) rfl rfl, by decide +kernel, by decide +kernel, by decide +kernel⟩, jw_tb (i := 235) rfl rfl, jw_pv (i := 11) (q := (y_J_isFull, 9)) rfl⟩
set_option maxRecDepth 20000 in
theorem wy_J_187 : jx_YV "JointHistory" 187 y_J_entriesUpTo b_J_entriesUpTo 7 (some .int) 1 := ⟨⟨jw_tb (i := 241) rfl rfl, jw_tb (i := 238) rfl rfl, jw_tb (i := 1) rfl rfl, by decide +kernel, by decide +kernel, by decide +kernel⟩, jw_tb (i := 240) rfl rfl, jw_pv (i := 12) (q := (y_J_entriesUpTo, 9)) rfl⟩
set_option maxRecDepth 20000 in
theorem wy_J_110 : jx_YV "JointHistory" 110 y_J_dropLaterEntries b_J_dropLaterEntries 5 none 0 := ⟨⟨jw_tb (i := 245) rfl rfl, jw_tb (i := 242) rfl rfl, jw_tb (i := 1) rfl rfl, by decide +kernel, by decide +kernel, by decide +kernel⟩, jw_tb (i := 244) rfl rfl, jw_pv (i := 13) (q := (y_J_dropLaterEntries, 9)) rfl⟩
set_option maxRecDepth 20000 in
theorem wy_J_157 : jx_YV "JointHistory" 157 y_J_dropWhatIsGone b_J_dropWhatIsGone 2 none 0 := ⟨⟨jw_tb (i := 249) rfl rfl, jw_tb (i := 246) rfl rfl, jw_tb (i := 1) rfl rfl, by decide +kernel, by decide +kernel, by decide +kernel⟩, jw_tb (i := 248) rfl rfl, jw_pv (i := 14) (q := (y_J_dropWhatIsGone, 9)) rfl⟩
set_option maxRecDepth 20000 in
theorem wy_J_245 : jx_YV "JointHistory" 245 y_J_keepOnlyHeldDocuments b_J_keepOnlyHeldDocuments 5 none 0 := ⟨⟨jw_tb (i := 253) rfl rfl, jw_tb (i := 250) rfl rfl, jw_tb (i := 1) rfl rfl, by decide +kernel, by decide +kernel, by decide +kernel⟩, jw_tb (i := 252) rfl rfl, jw_pv (i := 15) (q := (y_J_keepOnlyHeldDocuments, 9)) rfl⟩
set_option maxRecDepth 20000 in
theorem wy_J_248 : jx_YV "JointHistory" 248 y_J_dropFramesOfGoneDocuments b_J_dropFramesOfGoneDocuments 5 none 0 := ⟨⟨jw_tb (i := 257) rfl rfl, jw_tb (i := 254) rfl rfl, jw_tb (i := 1) rfl rfl, by decide +kernel, by decide +kernel, by decide +kernel⟩, jw_tb (i := 256) rfl rfl, jw_pv (i := 16) (q := (y_J_dropFramesOfGoneDocuments, 9)) rfl⟩
set_option maxRecDepth 20000 in
theorem wy_J_251 : jx_YV "JointHistory" 251 y_J_dropEntriesOfGoneNavigables b_J_dropEntriesOfGoneNavigables 5 none 0 := ⟨⟨jw_tb (i := 261) rfl rfl, jw_tb (i := 258) rfl rfl, jw_tb (i := 1) rfl rfl, by decide +kernel, by decide +kernel, by decide +kernel⟩, jw_tb (i := 260) rfl rfl, jw_pv (i := 17) (q := (y_J_dropEntriesOfGoneNavigables, 9)) rfl⟩
set_option maxRecDepth 20000 in
theorem wy_J_113 : jx_YS "JointHistory" 113 y_J_isFragmentMove b_J_isFragmentMove 2 (some .boolean) 2 := ⟨⟨jw_tb (i := 264) rfl rfl, jw_tb (i := 262) rfl rfl, jw_tb (i := 1) rfl rfl, by decide +kernel, by decide +kernel, by decide +kernel⟩, jw_tb (i := 263) rfl rfl⟩
set_option maxRecDepth 20000 in
theorem wy_J_124 : jx_YV "JointHistory" 124 y_J_putEntry b_J_putEntry 6 none 5 := ⟨⟨jw_tb (i := 268) rfl rfl, jw_tb (i := 265) rfl rfl, jw_tb (i := 1) rfl rfl, by decide +kernel, by decide +kernel, by decide +kernel⟩, jw_tb (i := 267) rfl rfl, jw_pv (i := 18) (q := (y_J_putEntry, 9)) rfl⟩
set_option maxRecDepth 20000 in
theorem wy_J_160 : jx_YV "JointHistory" 160 y_J_settlePresentStep b_J_settlePresentStep 6 none 0 := ⟨⟨jw_tb (i := 272) rfl rfl, jw_tb (i := 269) rfl rfl, jw_tb (i := 1) rfl rfl, by decide +kernel, by decide +kernel, by decide +kernel⟩, jw_tb (i := 271) rfl rfl, jw_pv (i := 19) (q := (y_J_settlePresentStep, 9)) rfl⟩
set_option maxRecDepth 20000 in
theorem wy_L_33 : jx_YV "JointHistoryLaw" 33 y_J_rewrite b_J_rewrite 6 (some .int) 4 := ⟨⟨jw_tb (i := 276) rfl rfl, jw_tb (i := 273) rfl rfl, jw_tb (i := 1) rfl rfl, by decide +kernel, by decide +kernel, by decide +kernel⟩, jw_tb (i := 274) rfl rfl, jw_tb (i := 275) rfl rfl⟩
set_option maxRecDepth 20000 in
theorem wy_J_139 : jx_YS "JointHistory" 139 y_J_mayRewrite b_J_mayRewrite 2 (some .boolean) 2 := ⟨⟨jw_tb (i := 279) rfl rfl, jw_tb (i := 277) rfl rfl, jw_tb (i := 1) rfl rfl, by decide +kernel, by decide +kernel, by decide +kernel⟩, jw_tb (i := 278) rfl rfl⟩
set_option maxRecDepth 20000 in
theorem wy_L_38 : jx_YV "JointHistoryLaw" 38 y_J_go b_J_go 7 (some .int) 1 := ⟨⟨jw_tb (i := 283) rfl rfl, jw_tb (i := 280) rfl rfl, jw_tb (i := 1) rfl rfl, by decide +kernel, by decide +kernel, by decide +kernel⟩, jw_tb (i := 281) rfl rfl, jw_tb (i := 282) rfl rfl⟩
set_option maxRecDepth 20000 in
theorem wy_J_142 : jx_YV "JointHistory" 142 y_J_collectUsedSteps b_J_collectUsedSteps 6 (some .int) 0 := ⟨⟨jw_tb (i := 287) rfl rfl, jw_tb (i := 284) rfl rfl, jw_tb (i := 1) rfl rfl, by decide +kernel, by decide +kernel, by decide +kernel⟩, jw_tb (i := 286) rfl rfl, jw_pv (i := 20) (q := (y_J_collectUsedSteps, 9)) rfl⟩
set_option maxRecDepth 20000 in
theorem wy_J_254 : jx_YV "JointHistory" 254 y_J_insertStep b_J_insertStep 5 (some .int) 2 := ⟨⟨jw_tb (i := 291) rfl rfl, jw_tb (i := 288) rfl rfl, jw_tb (i := 1) rfl rfl, by decide +kernel, by decide +kernel, by decide +kernel⟩, jw_tb (i := 290) rfl rfl, jw_pv (i := 21) (q := (y_J_insertStep, 9)) rfl⟩
set_option maxRecDepth 20000 in
theorem wy_J_146 : jx_YV "JointHistory" 146 y_J_placeOfPresent b_J_placeOfPresent 3 (some .int) 1 := ⟨⟨jw_tb (i := 295) rfl rfl, jw_tb (i := 292) rfl rfl, jw_tb (i := 1) rfl rfl, by decide +kernel, by decide +kernel, by decide +kernel⟩, jw_tb (i := 294) rfl rfl, jw_pv (i := 22) (q := (y_J_placeOfPresent, 9)) rfl⟩
set_option maxRecDepth 20000 in
theorem wy_J_149 : jx_YV "JointHistory" 149 y_J_countMove b_J_countMove 3 none 2 := ⟨⟨jw_tb (i := 299) rfl rfl, jw_tb (i := 296) rfl rfl, jw_tb (i := 1) rfl rfl, by decide +kernel, by decide +kernel, by decide +kernel⟩, jw_tb (i := 298) rfl rfl, jw_pv (i := 23) (q := (y_J_countMove, 9)) rfl⟩
set_option maxRecDepth 20000 in
theorem wy_L_43 : jx_YV "JointHistoryLaw" 43 y_J_detach b_J_detach 3 (some .int) 1 := ⟨⟨jw_tb (i := 303) rfl rfl, jw_tb (i := 300) rfl rfl, jw_tb (i := 1) rfl rfl, by decide +kernel, by decide +kernel, by decide +kernel⟩, jw_tb (i := 301) rfl rfl, jw_tb (i := 302) rfl rfl⟩
set_option maxRecDepth 20000 in
theorem wy_J_153 : jx_YV "JointHistory" 153 y_J_takeOut b_J_takeOut 3 none 1 := ⟨⟨jw_tb (i := 307) rfl rfl, jw_tb (i := 304) rfl rfl, jw_tb (i := 1) rfl rfl, by decide +kernel, by decide +kernel, by decide +kernel⟩, jw_tb (i := 306) rfl rfl, jw_pv (i := 24) (q := (y_J_takeOut, 9)) rfl⟩
set_option maxRecDepth 20000 in
theorem wy_L_47 : jx_YV "JointHistoryLaw" 47 y_J_url b_J_url 3 (some .int) 1 := ⟨⟨jw_tb (i := 311) rfl rfl, jw_tb (i := 308) rfl rfl, jw_tb (i := 1) rfl rfl, by decide +kernel, by decide +kernel, by decide +kernel⟩, jw_tb (i := 309) rfl rfl, jw_tb (i := 310) rfl rfl⟩
set_option maxRecDepth 20000 in
theorem wy_L_51 : jx_YV "JointHistoryLaw" 51 y_J_state b_J_state 3 (some .long) 1 := ⟨⟨jw_tb (i := 315) rfl rfl, jw_tb (i := 312) rfl rfl, jw_tb (i := 1) rfl rfl, by decide +kernel, by decide +kernel, by decide +kernel⟩, jw_tb (i := 313) rfl rfl, jw_tb (i := 314) rfl rfl⟩
set_option maxRecDepth 20000 in
theorem wy_L_56 : jx_YV "JointHistoryLaw" 56 y_J_step b_J_step 3 (some .int) 1 := ⟨⟨jw_tb (i := 320) rfl rfl, jw_tb (i := 317) rfl rfl, jw_tb (i := 1) rfl rfl, by decide +kernel, by decide +kernel, by decide +kernel⟩, jw_tb (i := 318) rfl rfl, jw_tb (i := 319) rfl rfl⟩
set_option maxRecDepth 20000 in
theorem wy_L_60 : jx_YV "JointHistoryLaw" 60 y_J_origin b_J_origin 3 (some .int) 1 := ⟨⟨jw_tb (i := 324) rfl rfl, jw_tb (i := 321) rfl rfl, jw_tb (i := 1) rfl rfl, by decide +kernel, by decide +kernel, by decide +kernel⟩, jw_tb (i := 322) rfl rfl, jw_tb (i := 323) rfl rfl⟩
set_option maxRecDepth 20000 in
theorem wy_L_64 : jx_YV "JointHistoryLaw" 64 y_J_frame b_J_frame 4 (some .int) 2 := ⟨⟨jw_tb (i := 328) rfl rfl, jw_tb (i := 325) rfl rfl, jw_tb (i := 1) rfl rfl, by decide +kernel, by decide +kernel, by decide +kernel⟩, jw_tb (i := 326) rfl rfl, jw_tb (i := 327) rfl rfl⟩
set_option maxRecDepth 20000 in
theorem wy_J_173 : jx_YS "JointHistory" 173 y_J_numberOf b_J_numberOf 1 (some .int) 1 := ⟨⟨jw_tb (i := 331) rfl rfl, jw_tb (i := 329) rfl rfl, jw_tb (i := 1) rfl rfl, by decide +kernel, by decide +kernel, by decide +kernel⟩, jw_tb (i := 330) rfl rfl⟩
set_option maxRecDepth 20000 in
theorem wy_L_69 : jx_YV "JointHistoryLaw" 69 y_J_entries b_J_entries 8 (some .int) 1 := ⟨⟨jw_tb (i := 335) rfl rfl, jw_tb (i := 332) rfl rfl, jw_tb (i := 1) rfl rfl, by decide +kernel, by decide +kernel, by decide +kernel⟩, jw_tb (i := 333) rfl rfl, jw_tb (i := 334) rfl rfl⟩
set_option maxRecDepth 20000 in
theorem wy_L_73 : jx_YV "JointHistoryLaw" 73 y_J_present b_J_present 1 (some .int) 0 := ⟨⟨jw_tb (i := 339) rfl rfl, jw_tb (i := 336) rfl rfl, jw_tb (i := 1) rfl rfl, by decide +kernel, by decide +kernel, by decide +kernel⟩, jw_tb (i := 337) rfl rfl, jw_tb (i := 338) rfl rfl⟩
set_option maxRecDepth 20000 in
theorem wy_L_78 : jx_YV "JointHistoryLaw" 78 y_J_length b_J_length 1 (some .int) 0 := ⟨⟨jw_tb (i := 343) rfl rfl, jw_tb (i := 340) rfl rfl, jw_tb (i := 1) rfl rfl, by decide +kernel, by decide +kernel, by decide +kernel⟩, jw_tb (i := 341) rfl rfl, jw_tb (i := 342) rfl rfl⟩
set_option maxRecDepth 20000 in
theorem wy_L_82 : jx_YV "JointHistoryLaw" 82 y_J_count b_J_count 2 (some .int) 1 := ⟨⟨jw_tb (i := 347) rfl rfl, jw_tb (i := 344) rfl rfl, jw_tb (i := 1) rfl rfl, by decide +kernel, by decide +kernel, by decide +kernel⟩, jw_tb (i := 345) rfl rfl, jw_tb (i := 346) rfl rfl⟩
set_option maxRecDepth 20000 in
theorem wy_J_180 : jx_YV "JointHistory" 180 y_J_shownNavigables b_J_shownNavigables 3 (some .int) 0 := ⟨⟨jw_tb (i := 351) rfl rfl, jw_tb (i := 348) rfl rfl, jw_tb (i := 1) rfl rfl, by decide +kernel, by decide +kernel, by decide +kernel⟩, jw_tb (i := 350) rfl rfl, jw_pv (i := 25) (q := (y_J_shownNavigables, 9)) rfl⟩
set_option maxRecDepth 20000 in
theorem wy_J_183 : jx_YV "JointHistory" 183 y_J_allNavigables b_J_allNavigables 6 (some .int) 0 := ⟨⟨jw_tb (i := 355) rfl rfl, jw_tb (i := 352) rfl rfl, jw_tb (i := 1) rfl rfl, by decide +kernel, by decide +kernel, by decide +kernel⟩, jw_tb (i := 354) rfl rfl, jw_pv (i := 26) (q := (y_J_allNavigables, 9)) rfl⟩
set_option maxRecDepth 20000 in
theorem wy_M_74 : jx_YV "JointHistoryModel" 74 y_M_make b_M_make 8 (some .int) 2 := ⟨⟨jw_tb (i := 365) rfl rfl, jw_tb (i := 362) rfl rfl, jw_tb (i := 8) rfl rfl, by decide +kernel, by decide +kernel, by decide +kernel⟩, jw_tb (i := 364) rfl rfl, jw_pv (i := 27) (q := (y_M_make, 26)) rfl⟩
set_option maxRecDepth 20000 in
theorem wy_M_96 : jx_YV "JointHistoryModel" 96 y_M_freshOrigin b_M_freshOrigin 1 (some .int) 0 := ⟨⟨jw_tb (i := 369) rfl rfl, jw_tb (i := 366) rfl rfl, jw_tb (i := 8) rfl rfl, by decide +kernel, by decide +kernel, by decide +kernel⟩, jw_tb (i := 368) rfl rfl, jw_pv (i := 28) (q := (y_M_freshOrigin, 26)) rfl⟩
set_option maxRecDepth 20000 in
theorem wy_M_78 : jx_YV "JointHistoryModel" 78 y_M_write b_M_write 6 (some .int) 4 := ⟨⟨jw_tb (i := 373) rfl rfl, jw_tb (i := 370) rfl rfl, jw_tb (i := 8) rfl rfl, by decide +kernel, by decide +kernel, by decide +kernel⟩, jw_tb (i := 372) rfl rfl, jw_pv (i := 29) (q := (y_M_write, 26)) rfl⟩
set_option maxRecDepth 20000 in
theorem wy_M_82 : jx_YV "JointHistoryModel" 82 y_M_mark b_M_mark 3 none 0 := ⟨⟨jw_tb (i := 377) rfl rfl, jw_tb (i := 374) rfl rfl, jw_tb (i := 8) rfl rfl, by decide +kernel, by decide +kernel, by decide +kernel⟩, jw_tb (i := 376) rfl rfl, jw_pv (i := 30) (q := (y_M_mark, 26)) rfl⟩
set_option maxRecDepth 20000 in
theorem wy_M_120 : jx_YV "JointHistoryModel" 120 y_M_keep b_M_keep 2 none 1 := ⟨⟨jw_tb (i := 381) rfl rfl, jw_tb (i := 378) rfl rfl, jw_tb (i := 8) rfl rfl, by decide +kernel, by decide +kernel, by decide +kernel⟩, jw_tb (i := 380) rfl rfl, jw_pv (i := 31) (q := (y_M_keep, 26)) rfl⟩
set_option maxRecDepth 20000 in
theorem wy_M_124 : jx_YV "JointHistoryModel" 124 y_M_presentOf b_M_presentOf 5 (some .int) 1 := ⟨⟨jw_tb (i := 385) rfl rfl, jw_tb (i := 382) rfl rfl, jw_tb (i := 8) rfl rfl, by decide +kernel, by decide +kernel, by decide +kernel⟩, jw_tb (i := 384) rfl rfl, jw_pv (i := 32) (q := (y_M_presentOf, 26)) rfl⟩
set_option maxRecDepth 20000 in
theorem wy_M_127 : jx_YV "JointHistoryModel" 127 y_M_show b_M_show 2 none 1 := ⟨⟨jw_tb (i := 389) rfl rfl, jw_tb (i := 386) rfl rfl, jw_tb (i := 8) rfl rfl, by decide +kernel, by decide +kernel, by decide +kernel⟩, jw_tb (i := 388) rfl rfl, jw_pv (i := 33) (q := (y_M_show, 26)) rfl⟩
set_option maxRecDepth 20000 in
theorem wy_L_17 : jx_YV "JointHistoryLaw" 17 y_M_content b_M_content 5 (some .boolean) 4 := ⟨⟨jw_tb (i := 473) rfl rfl, jw_tb (i := 470) rfl rfl, jw_tb (i := 8) rfl rfl, by decide +kernel, by decide +kernel, by decide +kernel⟩, jw_tb (i := 471) rfl rfl, jw_tb (i := 472) rfl rfl⟩
set_option maxRecDepth 20000 in
theorem wy_M_85 : jx_YS "JointHistoryModel" 85 y_M_between b_M_between 3 (some .boolean) 3 := ⟨⟨jw_tb (i := 476) rfl rfl, jw_tb (i := 474) rfl rfl, jw_tb (i := 8) rfl rfl, by decide +kernel, by decide +kernel, by decide +kernel⟩, jw_tb (i := 475) rfl rfl⟩
set_option maxRecDepth 20000 in
theorem wy_L_22 : jx_YV "JointHistoryLaw" 22 y_M_detour b_M_detour 3 (some .boolean) 2 := ⟨⟨jw_tb (i := 480) rfl rfl, jw_tb (i := 477) rfl rfl, jw_tb (i := 8) rfl rfl, by decide +kernel, by decide +kernel, by decide +kernel⟩, jw_tb (i := 478) rfl rfl, jw_tb (i := 479) rfl rfl⟩
set_option maxRecDepth 20000 in
theorem wy_L_27 : jx_YV "JointHistoryLaw" 27 y_M_fault b_M_fault 2 (some .boolean) 1 := ⟨⟨jw_tb (i := 484) rfl rfl, jw_tb (i := 481) rfl rfl, jw_tb (i := 8) rfl rfl, by decide +kernel, by decide +kernel, by decide +kernel⟩, jw_tb (i := 482) rfl rfl, jw_tb (i := 483) rfl rfl⟩
set_option maxRecDepth 20000 in
theorem wy_L_32 : jx_YV "JointHistoryLaw" 32 y_M_navigate b_M_navigate 8 (some .int) 3 := ⟨⟨jw_tb (i := 488) rfl rfl, jw_tb (i := 485) rfl rfl, jw_tb (i := 8) rfl rfl, by decide +kernel, by decide +kernel, by decide +kernel⟩, jw_tb (i := 486) rfl rfl, jw_tb (i := 487) rfl rfl⟩
set_option maxRecDepth 20000 in
theorem wy_M_146 : jx_YV "JointHistoryModel" 146 y_M_isShown b_M_isShown 2 (some .boolean) 1 := ⟨⟨jw_tb (i := 492) rfl rfl, jw_tb (i := 489) rfl rfl, jw_tb (i := 8) rfl rfl, by decide +kernel, by decide +kernel, by decide +kernel⟩, jw_tb (i := 491) rfl rfl, jw_pv (i := 34) (q := (y_M_isShown, 26)) rfl⟩
set_option maxRecDepth 20000 in
theorem wy_M_149 : jx_YV "JointHistoryModel" 149 y_M_full b_M_full 4 (some .boolean) 1 := ⟨⟨jw_tb (i := 496) rfl rfl, jw_tb (i := 493) rfl rfl, jw_tb (i := 8) rfl rfl, by decide +kernel, by decide +kernel, by decide +kernel⟩, jw_tb (i := 495) rfl rfl, jw_pv (i := 35) (q := (y_M_full, 26)) rfl⟩
set_option maxRecDepth 20000 in
theorem wy_M_153 : jx_YS "JointHistoryModel" 153 y_M_fragment b_M_fragment 1 (some .int) 1 := ⟨⟨jw_tb (i := 499) rfl rfl, jw_tb (i := 497) rfl rfl, jw_tb (i := 8) rfl rfl, by decide +kernel, by decide +kernel, by decide +kernel⟩, jw_tb (i := 498) rfl rfl⟩
set_option maxRecDepth 20000 in
theorem wy_M_159 : jx_YV "JointHistoryModel" 159 y_M_enter b_M_enter 9 none 5 := ⟨⟨jw_tb (i := 503) rfl rfl, jw_tb (i := 500) rfl rfl, jw_tb (i := 8) rfl rfl, by decide +kernel, by decide +kernel, by decide +kernel⟩, jw_tb (i := 502) rfl rfl, jw_pv (i := 36) (q := (y_M_enter, 26)) rfl⟩
set_option maxRecDepth 20000 in
theorem wy_M_137 : jx_YV "JointHistoryModel" 137 y_M_cutOff b_M_cutOff 2 none 0 := ⟨⟨jw_tb (i := 507) rfl rfl, jw_tb (i := 504) rfl rfl, jw_tb (i := 8) rfl rfl, by decide +kernel, by decide +kernel, by decide +kernel⟩, jw_tb (i := 506) rfl rfl, jw_pv (i := 37) (q := (y_M_cutOff, 26)) rfl⟩
set_option maxRecDepth 20000 in
theorem wy_M_140 : jx_YV "JointHistoryModel" 140 y_M_load b_M_load 5 (some .int) 3 := ⟨⟨jw_tb (i := 511) rfl rfl, jw_tb (i := 508) rfl rfl, jw_tb (i := 8) rfl rfl, by decide +kernel, by decide +kernel, by decide +kernel⟩, jw_tb (i := 510) rfl rfl, jw_pv (i := 38) (q := (y_M_load, 26)) rfl⟩
set_option maxRecDepth 20000 in
theorem wy_M_111 : jx_YV "JointHistoryModel" 111 y_M_deep b_M_deep 3 (some .int) 1 := ⟨⟨jw_tb (i := 515) rfl rfl, jw_tb (i := 512) rfl rfl, jw_tb (i := 8) rfl rfl, by decide +kernel, by decide +kernel, by decide +kernel⟩, jw_tb (i := 514) rfl rfl, jw_pv (i := 39) (q := (y_M_deep, 26)) rfl⟩
set_option maxRecDepth 20000 in
theorem wy_M_114 : jx_YV "JointHistoryModel" 114 y_M_loadWindow b_M_loadWindow 10 (some .int) 2 := ⟨⟨jw_tb (i := 519) rfl rfl, jw_tb (i := 516) rfl rfl, jw_tb (i := 8) rfl rfl, by decide +kernel, by decide +kernel, by decide +kernel⟩, jw_tb (i := 518) rfl rfl, jw_pv (i := 40) (q := (y_M_loadWindow, 26)) rfl⟩
set_option maxRecDepth 20000 in
theorem wy_M_100 : jx_YV "JointHistoryModel" 100 y_M_wanted b_M_wanted 6 (some .int) 3 := ⟨⟨jw_tb (i := 523) rfl rfl, jw_tb (i := 520) rfl rfl, jw_tb (i := 8) rfl rfl, by decide +kernel, by decide +kernel, by decide +kernel⟩, jw_tb (i := 522) rfl rfl, jw_pv (i := 41) (q := (y_M_wanted, 26)) rfl⟩
set_option maxRecDepth 20000 in
theorem wy_M_104 : jx_YV "JointHistoryModel" 104 y_M_frameFor b_M_frameFor 7 (some .int) 3 := ⟨⟨jw_tb (i := 527) rfl rfl, jw_tb (i := 524) rfl rfl, jw_tb (i := 8) rfl rfl, by decide +kernel, by decide +kernel, by decide +kernel⟩, jw_tb (i := 526) rfl rfl, jw_pv (i := 42) (q := (y_M_frameFor, 26)) rfl⟩
set_option maxRecDepth 20000 in
theorem wy_M_107 : jx_YV "JointHistoryModel" 107 y_M_paperOf b_M_paperOf 3 (some .int) 1 := ⟨⟨jw_tb (i := 531) rfl rfl, jw_tb (i := 528) rfl rfl, jw_tb (i := 8) rfl rfl, by decide +kernel, by decide +kernel, by decide +kernel⟩, jw_tb (i := 530) rfl rfl, jw_pv (i := 43) (q := (y_M_paperOf, 26)) rfl⟩
set_option maxRecDepth 20000 in
theorem wy_M_117 : jx_YV "JointHistoryModel" 117 y_M_loadMiddle b_M_loadMiddle 8 (some .int) 3 := ⟨⟨jw_tb (i := 535) rfl rfl, jw_tb (i := 532) rfl rfl, jw_tb (i := 8) rfl rfl, by decide +kernel, by decide +kernel, by decide +kernel⟩, jw_tb (i := 534) rfl rfl, jw_pv (i := 44) (q := (y_M_loadMiddle, 26)) rfl⟩
set_option maxRecDepth 20000 in
theorem wy_M_143 : jx_YV "JointHistoryModel" 143 y_M_settle b_M_settle 1 none 0 := ⟨⟨jw_tb (i := 539) rfl rfl, jw_tb (i := 536) rfl rfl, jw_tb (i := 8) rfl rfl, by decide +kernel, by decide +kernel, by decide +kernel⟩, jw_tb (i := 538) rfl rfl, jw_pv (i := 45) (q := (y_M_settle, 26)) rfl⟩
set_option maxRecDepth 20000 in
theorem wy_M_133 : jx_YV "JointHistoryModel" 133 y_M_used b_M_used 3 (some .boolean) 1 := ⟨⟨jw_tb (i := 543) rfl rfl, jw_tb (i := 540) rfl rfl, jw_tb (i := 8) rfl rfl, by decide +kernel, by decide +kernel, by decide +kernel⟩, jw_tb (i := 542) rfl rfl, jw_pv (i := 46) (q := (y_M_used, 26)) rfl⟩
set_option maxRecDepth 20000 in
theorem wy_L_37 : jx_YV "JointHistoryLaw" 37 y_M_rewrite b_M_rewrite 7 (some .int) 4 := ⟨⟨jw_tb (i := 547) rfl rfl, jw_tb (i := 544) rfl rfl, jw_tb (i := 8) rfl rfl, by decide +kernel, by decide +kernel, by decide +kernel⟩, jw_tb (i := 545) rfl rfl, jw_tb (i := 546) rfl rfl⟩
set_option maxRecDepth 20000 in
theorem wy_L_42 : jx_YV "JointHistoryLaw" 42 y_M_go b_M_go 7 (some .int) 1 := ⟨⟨jw_tb (i := 551) rfl rfl, jw_tb (i := 548) rfl rfl, jw_tb (i := 8) rfl rfl, by decide +kernel, by decide +kernel, by decide +kernel⟩, jw_tb (i := 549) rfl rfl, jw_tb (i := 550) rfl rfl⟩
set_option maxRecDepth 20000 in
theorem wy_M_163 : jx_YV "JointHistoryModel" 163 y_M_stepAt b_M_stepAt 6 (some .int) 1 := ⟨⟨jw_tb (i := 555) rfl rfl, jw_tb (i := 552) rfl rfl, jw_tb (i := 8) rfl rfl, by decide +kernel, by decide +kernel, by decide +kernel⟩, jw_tb (i := 554) rfl rfl, jw_pv (i := 47) (q := (y_M_stepAt, 26)) rfl⟩
set_option maxRecDepth 20000 in
theorem wy_L_46 : jx_YV "JointHistoryLaw" 46 y_M_detach b_M_detach 3 (some .int) 1 := ⟨⟨jw_tb (i := 559) rfl rfl, jw_tb (i := 556) rfl rfl, jw_tb (i := 8) rfl rfl, by decide +kernel, by decide +kernel, by decide +kernel⟩, jw_tb (i := 557) rfl rfl, jw_tb (i := 558) rfl rfl⟩
set_option maxRecDepth 20000 in
theorem wy_L_50 : jx_YV "JointHistoryLaw" 50 y_M_url b_M_url 2 (some .int) 1 := ⟨⟨jw_tb (i := 563) rfl rfl, jw_tb (i := 560) rfl rfl, jw_tb (i := 8) rfl rfl, by decide +kernel, by decide +kernel, by decide +kernel⟩, jw_tb (i := 561) rfl rfl, jw_tb (i := 562) rfl rfl⟩
set_option maxRecDepth 20000 in
theorem wy_L_55 : jx_YV "JointHistoryLaw" 55 y_M_state b_M_state 2 (some .long) 1 := ⟨⟨jw_tb (i := 567) rfl rfl, jw_tb (i := 564) rfl rfl, jw_tb (i := 8) rfl rfl, by decide +kernel, by decide +kernel, by decide +kernel⟩, jw_tb (i := 565) rfl rfl, jw_tb (i := 566) rfl rfl⟩
set_option maxRecDepth 20000 in
theorem wy_L_59 : jx_YV "JointHistoryLaw" 59 y_M_step b_M_step 2 (some .int) 1 := ⟨⟨jw_tb (i := 572) rfl rfl, jw_tb (i := 569) rfl rfl, jw_tb (i := 8) rfl rfl, by decide +kernel, by decide +kernel, by decide +kernel⟩, jw_tb (i := 570) rfl rfl, jw_tb (i := 571) rfl rfl⟩
set_option maxRecDepth 20000 in
theorem wy_L_63 : jx_YV "JointHistoryLaw" 63 y_M_origin b_M_origin 2 (some .int) 1 := ⟨⟨jw_tb (i := 576) rfl rfl, jw_tb (i := 573) rfl rfl, jw_tb (i := 8) rfl rfl, by decide +kernel, by decide +kernel, by decide +kernel⟩, jw_tb (i := 574) rfl rfl, jw_tb (i := 575) rfl rfl⟩
set_option maxRecDepth 20000 in
theorem wy_L_68 : jx_YV "JointHistoryLaw" 68 y_M_frame b_M_frame 5 (some .int) 2 := ⟨⟨jw_tb (i := 580) rfl rfl, jw_tb (i := 577) rfl rfl, jw_tb (i := 8) rfl rfl, by decide +kernel, by decide +kernel, by decide +kernel⟩, jw_tb (i := 578) rfl rfl, jw_tb (i := 579) rfl rfl⟩
set_option maxRecDepth 20000 in
theorem wy_L_72 : jx_YV "JointHistoryLaw" 72 y_M_entries b_M_entries 4 (some .int) 1 := ⟨⟨jw_tb (i := 584) rfl rfl, jw_tb (i := 581) rfl rfl, jw_tb (i := 8) rfl rfl, by decide +kernel, by decide +kernel, by decide +kernel⟩, jw_tb (i := 582) rfl rfl, jw_tb (i := 583) rfl rfl⟩
set_option maxRecDepth 20000 in
theorem wy_L_77 : jx_YV "JointHistoryLaw" 77 y_M_present b_M_present 1 (some .int) 0 := ⟨⟨jw_tb (i := 588) rfl rfl, jw_tb (i := 585) rfl rfl, jw_tb (i := 8) rfl rfl, by decide +kernel, by decide +kernel, by decide +kernel⟩, jw_tb (i := 586) rfl rfl, jw_tb (i := 587) rfl rfl⟩
set_option maxRecDepth 20000 in
theorem wy_L_81 : jx_YV "JointHistoryLaw" 81 y_M_length b_M_length 3 (some .int) 0 := ⟨⟨jw_tb (i := 592) rfl rfl, jw_tb (i := 589) rfl rfl, jw_tb (i := 8) rfl rfl, by decide +kernel, by decide +kernel, by decide +kernel⟩, jw_tb (i := 590) rfl rfl, jw_tb (i := 591) rfl rfl⟩
set_option maxRecDepth 20000 in
theorem wy_L_85 : jx_YV "JointHistoryLaw" 85 y_M_count b_M_count 6 (some .int) 1 := ⟨⟨jw_tb (i := 596) rfl rfl, jw_tb (i := 593) rfl rfl, jw_tb (i := 8) rfl rfl, by decide +kernel, by decide +kernel, by decide +kernel⟩, jw_tb (i := 594) rfl rfl, jw_tb (i := 595) rfl rfl⟩
end
section
/-! The cells of the class: 0 the object, 1 .. 5 its arrays, 6 .. 37 answers, 38 .. 77 navigables, 78 .. 117 documents, 118 .. 157 entries. -/
def jc_fJ (ad : Nat → Nat) (s : js_S) : List Value := [.ref (ad 1), .ref (ad 2), .ref (ad 3), .ref (ad 4), .ref (ad 5), .int (s 21 0), .int (s 22 0), .int (s 23 0), .int (s 24 0)]
def jc_fA (aK : Nat → Nat) (s : js_S) (i : Nat) : List Value := [jv aK 0 (s 0 i), .int (s 1 i), .int (s 2 i), .int (s 3 i), .int (s 4 i)]
def jc_fN (ad : Nat → Nat) (s : js_S) (i : Nat) : List Value := [.int (nI i), .int (s 5 i), .int (s 6 i), jv ad 78 (s 7 i)]
def jc_fD (ad : Nat → Nat) (s : js_S) (i : Nat) : List Value := [.int (s 8 i), jv ad 38 (s 9 i), .int (s 10 i), .int (s 11 i), jv ad 38 (s 12 i), jv ad 38 (s 13 i)]
def jc_fE (ad : Nat → Nat) (s : js_S) (i : Nat) : List Value := [.int (s 14 i), jv ad 38 (s 15 i), .int (s 16 i), .int (s 17 i), .int (s 18 i), jv ad 78 (s 19 i)]
def jc_cell (ad aK : Nat → Nat) (cA : Nat → ClassId) (s : js_S) (k : Nat) : va_E :=
  if k = 0 then .inr (0, jc_fJ ad s)
  else if k = 1 then .inl (cA 0, 32, .inr (.inr (.inr (.inr (fun i => some (ad (6 + i)))))))
  else if k = 2 then .inl (cA 1, 40, .inr (.inr (.inr (.inr (fun i => some (ad (38 + i)))))))
  else if k = 3 then .inl (cA 2, 40, .inr (.inr (.inr (.inr (fun i => some (ad (78 + i)))))))
  else if k = 4 then .inl (cA 3, 40, .inr (.inr (.inr (.inr (fun i => some (ad (118 + i)))))))
  else if k = 5 then .inl (cA 4, 40, .inl (fun i => s 20 i))
  else if k < 38 then .inr (1, jc_fA aK s (k - 6))
  else if k < 78 then .inr (2, jc_fN ad s (k - 38))
  else if k < 118 then .inr (3, jc_fD ad s (k - 78))
  else .inr (4, jc_fE ad s (k - 118))
def jc_tys (cA : Nat → ClassId) : List (ClassId × FieldType) := [(cA 0, .object "JointHistory$Answer"), (cA 1, .object "JointHistory$Navigable"), (cA 2, .object "JointHistory$Document"), (cA 3, .object "JointHistory$Entry"), (cA 4, .int), (cA 5, .boolean)]
theorem jc_cJ {ad aK : Nat → Nat} {cA : Nat → ClassId} {s : js_S} : jc_cell ad aK cA s 0 = .inr (0, jc_fJ ad s) := rfl
theorem jc_c1 {ad aK : Nat → Nat} {cA : Nat → ClassId} {s : js_S} : jc_cell ad aK cA s 1 = .inl (cA 0, 32, .inr (.inr (.inr (.inr (fun i => some (ad (6 + i))))))) := by simp [jc_cell]
theorem jc_c2 {ad aK : Nat → Nat} {cA : Nat → ClassId} {s : js_S} : jc_cell ad aK cA s 2 = .inl (cA 1, 40, .inr (.inr (.inr (.inr (fun i => some (ad (38 + i))))))) := by simp [jc_cell]
theorem jc_c3 {ad aK : Nat → Nat} {cA : Nat → ClassId} {s : js_S} : jc_cell ad aK cA s 3 = .inl (cA 2, 40, .inr (.inr (.inr (.inr (fun i => some (ad (78 + i))))))) := by simp [jc_cell]
theorem jc_c4 {ad aK : Nat → Nat} {cA : Nat → ClassId} {s : js_S} : jc_cell ad aK cA s 4 = .inl (cA 3, 40, .inr (.inr (.inr (.inr (fun i => some (ad (118 + i))))))) := by simp [jc_cell]
theorem jc_c5 {ad aK : Nat → Nat} {cA : Nat → ClassId} {s : js_S} : jc_cell ad aK cA s 5 = .inl (cA 4, 40, .inl (fun i => s 20 i)) := by simp [jc_cell]
theorem jc_cA {ad aK : Nat → Nat} {cA : Nat → ClassId} {s : js_S} {i : Nat} (h : i < 32) : jc_cell ad aK cA s (6 + i) = .inr (1, jc_fA aK s i) := by
  unfold jc_cell
  rw [if_neg (by omega), if_neg (by omega), if_neg (by omega), if_neg (by omega), if_neg (by omega), if_neg (by omega), if_pos (by omega), show 6 + i - 6 = i by omega]
theorem jc_cN {ad aK : Nat → Nat} {cA : Nat → ClassId} {s : js_S} {i : Nat} (h : i < 40) : jc_cell ad aK cA s (38 + i) = .inr (2, jc_fN ad s i) := by
  unfold jc_cell
  rw [if_neg (by omega), if_neg (by omega), if_neg (by omega), if_neg (by omega), if_neg (by omega), if_neg (by omega), if_neg (by omega), if_pos (by omega), show 38 + i - 38 = i by omega]
theorem jc_cD {ad aK : Nat → Nat} {cA : Nat → ClassId} {s : js_S} {i : Nat} (h : i < 40) : jc_cell ad aK cA s (78 + i) = .inr (3, jc_fD ad s i) := by
  unfold jc_cell
  rw [if_neg (by omega), if_neg (by omega), if_neg (by omega), if_neg (by omega), if_neg (by omega), if_neg (by omega), if_neg (by omega), if_neg (by omega), if_pos (by omega), show 78 + i - 78 = i by omega]
theorem jc_cE {ad aK : Nat → Nat} {cA : Nat → ClassId} {s : js_S} {i : Nat} (h : i < 40) : jc_cell ad aK cA s (118 + i) = .inr (4, jc_fE ad s i) := by
  unfold jc_cell
  rw [if_neg (by omega), if_neg (by omega), if_neg (by omega), if_neg (by omega), if_neg (by omega), if_neg (by omega), if_neg (by omega), if_neg (by omega), if_neg (by omega), show 118 + i - 118 = i by omega]
/-- two stores that give the same cells -/
theorem jc_cell_eq {ad aK : Nat → Nat} {cA : Nat → ClassId} {s s' : js_S} {k : Nat} (hk : k < 158) (hJ : k = 0 → jc_fJ ad s' = jc_fJ ad s) (hU : k = 5 → ∀ i, s' 20 i = s 20 i) (hA : ∀ i, i < 32 → k = 6 + i → jc_fA aK s' i = jc_fA aK s i) (hN : ∀ i, i < 40 → k = 38 + i → jc_fN ad s' i = jc_fN ad s i) (hD : ∀ i, i < 40 → k = 78 + i → jc_fD ad s' i = jc_fD ad s i) (hE : ∀ i, i < 40 → k = 118 + i → jc_fE ad s' i = jc_fE ad s i) : jc_cell ad aK cA s' k = jc_cell ad aK cA s k := by
  by_cases h0 : k = 0
  · subst h0
    rw [jc_cJ, jc_cJ, hJ rfl]
  by_cases h1 : k = 1
  · subst h1; rw [jc_c1, jc_c1]
  by_cases h2 : k = 2
  · subst h2; rw [jc_c2, jc_c2]
  by_cases h3 : k = 3
  · subst h3; rw [jc_c3, jc_c3]
  by_cases h4 : k = 4
  · subst h4; rw [jc_c4, jc_c4]
  by_cases h5 : k = 5
  · subst h5
    have e : (fun i => s' 20 i) = (fun i => s 20 i) := funext (hU rfl)
    rw [jc_c5, jc_c5, e]
  by_cases h6 : k < 38
  · obtain ⟨i, rfl⟩ : ∃ i, k = 6 + i := ⟨k - 6, by omega⟩
    rw [jc_cA (by omega), jc_cA (by omega), hA i (by omega) rfl]
  by_cases h7 : k < 78
  · obtain ⟨i, rfl⟩ : ∃ i, k = 38 + i := ⟨k - 38, by omega⟩
    rw [jc_cN (by omega), jc_cN (by omega), hN i (by omega) rfl]
  by_cases h8 : k < 118
  · obtain ⟨i, rfl⟩ : ∃ i, k = 78 + i := ⟨k - 78, by omega⟩
    rw [jc_cD (by omega), jc_cD (by omega), hD i (by omega) rfl]
  · obtain ⟨i, rfl⟩ : ∃ i, k = 118 + i := ⟨k - 118, by omega⟩
    rw [jc_cE (by omega), jc_cE (by omega), hE i (by omega) rfl]
end
section
/-! Reading and writing the class's fields and arrays, by the store. -/
theorem jv_nar {ad : Nat → Nat} {off : Nat} {x : Int32} {C : String} : narrow (.object C) (jv ad off x) = jv ad off x := by
  rcases jv_or ad off x with h | ⟨a, h⟩ <;> rw [h] <;> rfl
theorem jv_fit {ad : Nat → Nat} {off : Nat} {x : Int32} {C : String} : fits (.object C) (jv ad off x) = true := by
  rcases jv_or ad off x with h | ⟨a, h⟩ <;> rw [h] <;> rfl
theorem js_nz {v : Int32} (h : v = 0 ∨ v = 1) : narrow .boolean (.int v) = .int v := by
  rcases h with rfl | rfl <;> rfl
section JACC
variable {p : Program} {l : Launch} {e : Env} {R : Room} {s : State} {m : MethodId} {args : Array Value} {below : List Frame} {meth : Method} {c : Code} {H : Heap} {locs : List Loc} {cells slots : Nat} {Q : State → Prop} {cc : ByteArray} {pc nL : Nat} {ls : Array Slot} {rest : List Value} {own : String} {D : va_G} {aK : Nat → Nat} {ad : Nat → Nat} {cA : Nat → ClassId} {A : Nat → Prop} {u : js_S}
theorem jg_J (hc : jx_C p s m args c cc nL own D (jc_tys cA) aK A) (hh : jx_H D 158 ad (jc_cell ad aK cA u) A s.heap H locs) (k : Nat) (hk : k < 9) {v : Value} {idx : Nat} (hv : (jc_fJ ad u)[k]? = some v) (hlink : Cond.fieldLink own idx (F_J k).1 (F_J k).2.1 (F_J k).2.2.1 ∈ jw_all) (hdg : decode cc pc = .ok (.getfield idx, 3))
    (kk : W p l e R s m args below meth c H locs cells slots Q (F0 m (pc + 3) ls (v :: rest))) : W p l e R s m args below meth c H locs cells slots Q (F0 m pc ls (.ref (ad 0) :: rest)) :=
  va_get (ci := 0) (C := R_J) (T := F_J) (N := 9) hc.1 hc.2.1 hc.2.2.2.2.1 jn_J hc.2.2.2.1 hc.2.2.2.2.2.1 hh.1 0 (by rw [jx_at (by omega), jc_cJ]) rfl k hk (hc.2.2.2.2.1 _ hlink) (fun _ h => h) hv hdg kk
theorem jp_J (hc : jx_C p s m args c cc nL own D (jc_tys cA) aK A) (hh : jx_H D 158 ad (jc_cell ad aK cA u) A s.heap H locs) (k : Nat) (hk : k < 9) {v : Value} {u' : js_S} {idx : Nat} {ty : FieldType} (hlink : Cond.fieldLink own idx (F_J k).1 (F_J k).2.1 (F_J k).2.2.1 ∈ jw_all) (hfin : (F_J k).2.2.2 = false) (hd : parseFieldDescriptor (F_J k).2.2.1 = some ty) (hn : narrow ty v = v) (hfit : fits ty v = true) (hset : (jc_fJ ad u).set k v = jc_fJ ad u') (hoth : ∀ j, j < 158 → j ≠ 0 → jc_cell ad aK cA u' j = jc_cell ad aK cA u j) (hdg : decode cc pc = .ok (.putfield idx, 3))
    (kk : ∀ (H1 : Heap) (locs1 : List Loc), jx_H D 158 ad (jc_cell ad aK cA u') A s.heap H1 locs1 → W p l e R s m args below meth c H1 locs1 cells slots Q (F0 m (pc + 3) ls rest)) : W p l e R s m args below meth c H locs cells slots Q (F0 m pc ls (v :: .ref (ad 0) :: rest)) := by
  refine va_put (fs := jc_fJ ad u) (ci := 0) (C := R_J) (T := F_J) (N := 9) hc.1 hc.2.1 hc.2.2.2.2.1 jn_J t_J t_J_ok n_J hc.2.2.2.1 hc.2.2.2.2.2.1 hh.1 hh.2.1 hh.2.2 0 (by rw [jx_at (by omega), jc_cJ]) rfl k hk (hc.2.2.2.2.1 _ hlink) (fun _ h => h) hfin hd hn hfit (show k < 9 from hk) hdg (fun H1 locs1 h1 h2 h3 => kk H1 locs1 ?_)
  have e : (jx_W 158 ad (jc_cell ad aK cA u)).set 0 (ad 0, .inr (0, (jc_fJ ad u).set k v)) = jx_W 158 ad (jc_cell ad aK cA u') := by
    rw [hset, ← jc_cJ (aK := aK) (cA := cA)]
    exact jx_set (by omega) hoth
  rw [e] at h1 h2
  exact ⟨h1, h2, h3⟩
theorem jg_A (hc : jx_C p s m args c cc nL own D (jc_tys cA) aK A) (hh : jx_H D 158 ad (jc_cell ad aK cA u) A s.heap H locs) {i : Nat} (hi : i < 32) (k : Nat) (hk : k < 5) {v : Value} {idx : Nat} (hv : (jc_fA aK u i)[k]? = some v) (hlink : Cond.fieldLink own idx (F_A k).1 (F_A k).2.1 (F_A k).2.2.1 ∈ jw_all) (hdg : decode cc pc = .ok (.getfield idx, 3))
    (kk : W p l e R s m args below meth c H locs cells slots Q (F0 m (pc + 3) ls (v :: rest))) : W p l e R s m args below meth c H locs cells slots Q (F0 m pc ls (jv ad 6 (nI i) :: rest)) := by
  rw [jv_nI (by omega)]
  exact va_get (ci := 1) (C := R_A) (T := F_A) (N := 5) hc.1 hc.2.1 hc.2.2.2.2.1 jn_A hc.2.2.2.1 hc.2.2.2.2.2.1 hh.1 (6 + i) (by rw [jx_at (by omega), jc_cA hi]) rfl k hk (hc.2.2.2.2.1 _ hlink) (fun _ h => h) hv hdg kk
theorem jgx_A (hc : jx_C p s m args c cc nL own D (jc_tys cA) aK A) (hh : jx_H D 158 ad (jc_cell ad aK cA u) A s.heap H locs) {x : Int32} (hx : ∃ i, i < 32 ∧ x = nI i) (k : Nat) (hk : k < 5) {v : Value} {idx : Nat} (hv : (jc_fA aK u (ix x))[k]? = some v) (hlink : Cond.fieldLink own idx (F_A k).1 (F_A k).2.1 (F_A k).2.2.1 ∈ jw_all) (hdg : decode cc pc = .ok (.getfield idx, 3))
    (kk : W p l e R s m args below meth c H locs cells slots Q (F0 m (pc + 3) ls (v :: rest))) : W p l e R s m args below meth c H locs cells slots Q (F0 m pc ls (jv ad 6 x :: rest)) := by
  obtain ⟨i, hi, rfl⟩ := hx
  rw [ix_nI (by omega)] at hv
  exact jg_A hc hh hi k hk hv hlink hdg kk
theorem jpx_A (hc : jx_C p s m args c cc nL own D (jc_tys cA) aK A) (hh : jx_H D 158 ad (jc_cell ad aK cA u) A s.heap H locs) {i : Nat} (hi : i < 32) (k : Nat) (hk : k < 5) {v : Value} {u' : js_S} {idx : Nat} {ty : FieldType} (hlink : Cond.fieldLink own idx (F_A k).1 (F_A k).2.1 (F_A k).2.2.1 ∈ jw_all) (hfin : (F_A k).2.2.2 = false) (hd : parseFieldDescriptor (F_A k).2.2.1 = some ty) (hn : narrow ty v = v) (hfit : fits ty v = true) (hset : (jc_fA aK u i).set k v = jc_fA aK u' i) (hoth : ∀ j, j < 158 → j ≠ 6 + i → jc_cell ad aK cA u' j = jc_cell ad aK cA u j) (hdg : decode cc pc = .ok (.putfield idx, 3))
    (kk : ∀ (H1 : Heap) (locs1 : List Loc), jx_H D 158 ad (jc_cell ad aK cA u') A s.heap H1 locs1 → W p l e R s m args below meth c H1 locs1 cells slots Q (F0 m (pc + 3) ls rest)) : W p l e R s m args below meth c H locs cells slots Q (F0 m pc ls (v :: jv ad 6 (nI i) :: rest)) := by
  rw [jv_nI (by omega)]
  refine va_put (fs := jc_fA aK u i) (ci := 1) (C := R_A) (T := F_A) (N := 5) hc.1 hc.2.1 hc.2.2.2.2.1 jn_A t_A t_A_ok n_A hc.2.2.2.1 hc.2.2.2.2.2.1 hh.1 hh.2.1 hh.2.2 (6 + i) (by rw [jx_at (by omega), jc_cA hi]) rfl k hk (hc.2.2.2.2.1 _ hlink) (fun _ h => h) hfin hd hn hfit (show k < 5 from hk) hdg (fun H1 locs1 h1 h2 h3 => kk H1 locs1 ?_)
  have e : (jx_W 158 ad (jc_cell ad aK cA u)).set (6 + i) (ad (6 + i), .inr (1, (jc_fA aK u i).set k v)) = jx_W 158 ad (jc_cell ad aK cA u') := by
    rw [hset, ← jc_cA (ad := ad) (aK := aK) (cA := cA) hi]
    exact jx_set (by omega) hoth
  rw [e] at h1 h2
  exact ⟨h1, h2, h3⟩
theorem jg_N (hc : jx_C p s m args c cc nL own D (jc_tys cA) aK A) (hh : jx_H D 158 ad (jc_cell ad aK cA u) A s.heap H locs) {i : Nat} (hi : i < 40) (k : Nat) (hk : k < 4) {v : Value} {idx : Nat} (hv : (jc_fN ad u i)[k]? = some v) (hlink : Cond.fieldLink own idx (F_N k).1 (F_N k).2.1 (F_N k).2.2.1 ∈ jw_all) (hdg : decode cc pc = .ok (.getfield idx, 3))
    (kk : W p l e R s m args below meth c H locs cells slots Q (F0 m (pc + 3) ls (v :: rest))) : W p l e R s m args below meth c H locs cells slots Q (F0 m pc ls (jv ad 38 (nI i) :: rest)) := by
  rw [jv_nI (by omega)]
  exact va_get (ci := 2) (C := R_N) (T := F_N) (N := 4) hc.1 hc.2.1 hc.2.2.2.2.1 jn_N hc.2.2.2.1 hc.2.2.2.2.2.1 hh.1 (38 + i) (by rw [jx_at (by omega), jc_cN hi]) rfl k hk (hc.2.2.2.2.1 _ hlink) (fun _ h => h) hv hdg kk
theorem jgx_N (hc : jx_C p s m args c cc nL own D (jc_tys cA) aK A) (hh : jx_H D 158 ad (jc_cell ad aK cA u) A s.heap H locs) {x : Int32} (hx : ∃ i, i < 40 ∧ x = nI i) (k : Nat) (hk : k < 4) {v : Value} {idx : Nat} (hv : (jc_fN ad u (ix x))[k]? = some v) (hlink : Cond.fieldLink own idx (F_N k).1 (F_N k).2.1 (F_N k).2.2.1 ∈ jw_all) (hdg : decode cc pc = .ok (.getfield idx, 3))
    (kk : W p l e R s m args below meth c H locs cells slots Q (F0 m (pc + 3) ls (v :: rest))) : W p l e R s m args below meth c H locs cells slots Q (F0 m pc ls (jv ad 38 x :: rest)) := by
  obtain ⟨i, hi, rfl⟩ := hx
  rw [ix_nI (by omega)] at hv
  exact jg_N hc hh hi k hk hv hlink hdg kk
theorem jpx_N (hc : jx_C p s m args c cc nL own D (jc_tys cA) aK A) (hh : jx_H D 158 ad (jc_cell ad aK cA u) A s.heap H locs) {i : Nat} (hi : i < 40) (k : Nat) (hk : k < 4) {v : Value} {u' : js_S} {idx : Nat} {ty : FieldType} (hlink : Cond.fieldLink own idx (F_N k).1 (F_N k).2.1 (F_N k).2.2.1 ∈ jw_all) (hfin : (F_N k).2.2.2 = false) (hd : parseFieldDescriptor (F_N k).2.2.1 = some ty) (hn : narrow ty v = v) (hfit : fits ty v = true) (hset : (jc_fN ad u i).set k v = jc_fN ad u' i) (hoth : ∀ j, j < 158 → j ≠ 38 + i → jc_cell ad aK cA u' j = jc_cell ad aK cA u j) (hdg : decode cc pc = .ok (.putfield idx, 3))
    (kk : ∀ (H1 : Heap) (locs1 : List Loc), jx_H D 158 ad (jc_cell ad aK cA u') A s.heap H1 locs1 → W p l e R s m args below meth c H1 locs1 cells slots Q (F0 m (pc + 3) ls rest)) : W p l e R s m args below meth c H locs cells slots Q (F0 m pc ls (v :: jv ad 38 (nI i) :: rest)) := by
  rw [jv_nI (by omega)]
  refine va_put (fs := jc_fN ad u i) (ci := 2) (C := R_N) (T := F_N) (N := 4) hc.1 hc.2.1 hc.2.2.2.2.1 jn_N t_N t_N_ok n_N hc.2.2.2.1 hc.2.2.2.2.2.1 hh.1 hh.2.1 hh.2.2 (38 + i) (by rw [jx_at (by omega), jc_cN hi]) rfl k hk (hc.2.2.2.2.1 _ hlink) (fun _ h => h) hfin hd hn hfit (show k < 4 from hk) hdg (fun H1 locs1 h1 h2 h3 => kk H1 locs1 ?_)
  have e : (jx_W 158 ad (jc_cell ad aK cA u)).set (38 + i) (ad (38 + i), .inr (2, (jc_fN ad u i).set k v)) = jx_W 158 ad (jc_cell ad aK cA u') := by
    rw [hset, ← jc_cN (ad := ad) (aK := aK) (cA := cA) hi]
    exact jx_set (by omega) hoth
  rw [e] at h1 h2
  exact ⟨h1, h2, h3⟩
theorem jg_D (hc : jx_C p s m args c cc nL own D (jc_tys cA) aK A) (hh : jx_H D 158 ad (jc_cell ad aK cA u) A s.heap H locs) {i : Nat} (hi : i < 40) (k : Nat) (hk : k < 6) {v : Value} {idx : Nat} (hv : (jc_fD ad u i)[k]? = some v) (hlink : Cond.fieldLink own idx (F_D k).1 (F_D k).2.1 (F_D k).2.2.1 ∈ jw_all) (hdg : decode cc pc = .ok (.getfield idx, 3))
    (kk : W p l e R s m args below meth c H locs cells slots Q (F0 m (pc + 3) ls (v :: rest))) : W p l e R s m args below meth c H locs cells slots Q (F0 m pc ls (jv ad 78 (nI i) :: rest)) := by
  rw [jv_nI (by omega)]
  exact va_get (ci := 3) (C := R_D) (T := F_D) (N := 6) hc.1 hc.2.1 hc.2.2.2.2.1 jn_D hc.2.2.2.1 hc.2.2.2.2.2.1 hh.1 (78 + i) (by rw [jx_at (by omega), jc_cD hi]) rfl k hk (hc.2.2.2.2.1 _ hlink) (fun _ h => h) hv hdg kk
theorem jgx_D (hc : jx_C p s m args c cc nL own D (jc_tys cA) aK A) (hh : jx_H D 158 ad (jc_cell ad aK cA u) A s.heap H locs) {x : Int32} (hx : ∃ i, i < 40 ∧ x = nI i) (k : Nat) (hk : k < 6) {v : Value} {idx : Nat} (hv : (jc_fD ad u (ix x))[k]? = some v) (hlink : Cond.fieldLink own idx (F_D k).1 (F_D k).2.1 (F_D k).2.2.1 ∈ jw_all) (hdg : decode cc pc = .ok (.getfield idx, 3))
    (kk : W p l e R s m args below meth c H locs cells slots Q (F0 m (pc + 3) ls (v :: rest))) : W p l e R s m args below meth c H locs cells slots Q (F0 m pc ls (jv ad 78 x :: rest)) := by
  obtain ⟨i, hi, rfl⟩ := hx
  rw [ix_nI (by omega)] at hv
  exact jg_D hc hh hi k hk hv hlink hdg kk
theorem jpx_D (hc : jx_C p s m args c cc nL own D (jc_tys cA) aK A) (hh : jx_H D 158 ad (jc_cell ad aK cA u) A s.heap H locs) {i : Nat} (hi : i < 40) (k : Nat) (hk : k < 6) {v : Value} {u' : js_S} {idx : Nat} {ty : FieldType} (hlink : Cond.fieldLink own idx (F_D k).1 (F_D k).2.1 (F_D k).2.2.1 ∈ jw_all) (hfin : (F_D k).2.2.2 = false) (hd : parseFieldDescriptor (F_D k).2.2.1 = some ty) (hn : narrow ty v = v) (hfit : fits ty v = true) (hset : (jc_fD ad u i).set k v = jc_fD ad u' i) (hoth : ∀ j, j < 158 → j ≠ 78 + i → jc_cell ad aK cA u' j = jc_cell ad aK cA u j) (hdg : decode cc pc = .ok (.putfield idx, 3))
    (kk : ∀ (H1 : Heap) (locs1 : List Loc), jx_H D 158 ad (jc_cell ad aK cA u') A s.heap H1 locs1 → W p l e R s m args below meth c H1 locs1 cells slots Q (F0 m (pc + 3) ls rest)) : W p l e R s m args below meth c H locs cells slots Q (F0 m pc ls (v :: jv ad 78 (nI i) :: rest)) := by
  rw [jv_nI (by omega)]
  refine va_put (fs := jc_fD ad u i) (ci := 3) (C := R_D) (T := F_D) (N := 6) hc.1 hc.2.1 hc.2.2.2.2.1 jn_D t_D t_D_ok n_D hc.2.2.2.1 hc.2.2.2.2.2.1 hh.1 hh.2.1 hh.2.2 (78 + i) (by rw [jx_at (by omega), jc_cD hi]) rfl k hk (hc.2.2.2.2.1 _ hlink) (fun _ h => h) hfin hd hn hfit (show k < 6 from hk) hdg (fun H1 locs1 h1 h2 h3 => kk H1 locs1 ?_)
  have e : (jx_W 158 ad (jc_cell ad aK cA u)).set (78 + i) (ad (78 + i), .inr (3, (jc_fD ad u i).set k v)) = jx_W 158 ad (jc_cell ad aK cA u') := by
    rw [hset, ← jc_cD (ad := ad) (aK := aK) (cA := cA) hi]
    exact jx_set (by omega) hoth
  rw [e] at h1 h2
  exact ⟨h1, h2, h3⟩
theorem jg_E (hc : jx_C p s m args c cc nL own D (jc_tys cA) aK A) (hh : jx_H D 158 ad (jc_cell ad aK cA u) A s.heap H locs) {i : Nat} (hi : i < 40) (k : Nat) (hk : k < 6) {v : Value} {idx : Nat} (hv : (jc_fE ad u i)[k]? = some v) (hlink : Cond.fieldLink own idx (F_E k).1 (F_E k).2.1 (F_E k).2.2.1 ∈ jw_all) (hdg : decode cc pc = .ok (.getfield idx, 3))
    (kk : W p l e R s m args below meth c H locs cells slots Q (F0 m (pc + 3) ls (v :: rest))) : W p l e R s m args below meth c H locs cells slots Q (F0 m pc ls (jv ad 118 (nI i) :: rest)) := by
  rw [jv_nI (by omega)]
  exact va_get (ci := 4) (C := R_E) (T := F_E) (N := 6) hc.1 hc.2.1 hc.2.2.2.2.1 jn_E hc.2.2.2.1 hc.2.2.2.2.2.1 hh.1 (118 + i) (by rw [jx_at (by omega), jc_cE hi]) rfl k hk (hc.2.2.2.2.1 _ hlink) (fun _ h => h) hv hdg kk
theorem jgx_E (hc : jx_C p s m args c cc nL own D (jc_tys cA) aK A) (hh : jx_H D 158 ad (jc_cell ad aK cA u) A s.heap H locs) {x : Int32} (hx : ∃ i, i < 40 ∧ x = nI i) (k : Nat) (hk : k < 6) {v : Value} {idx : Nat} (hv : (jc_fE ad u (ix x))[k]? = some v) (hlink : Cond.fieldLink own idx (F_E k).1 (F_E k).2.1 (F_E k).2.2.1 ∈ jw_all) (hdg : decode cc pc = .ok (.getfield idx, 3))
    (kk : W p l e R s m args below meth c H locs cells slots Q (F0 m (pc + 3) ls (v :: rest))) : W p l e R s m args below meth c H locs cells slots Q (F0 m pc ls (jv ad 118 x :: rest)) := by
  obtain ⟨i, hi, rfl⟩ := hx
  rw [ix_nI (by omega)] at hv
  exact jg_E hc hh hi k hk hv hlink hdg kk
theorem jpx_E (hc : jx_C p s m args c cc nL own D (jc_tys cA) aK A) (hh : jx_H D 158 ad (jc_cell ad aK cA u) A s.heap H locs) {i : Nat} (hi : i < 40) (k : Nat) (hk : k < 6) {v : Value} {u' : js_S} {idx : Nat} {ty : FieldType} (hlink : Cond.fieldLink own idx (F_E k).1 (F_E k).2.1 (F_E k).2.2.1 ∈ jw_all) (hfin : (F_E k).2.2.2 = false) (hd : parseFieldDescriptor (F_E k).2.2.1 = some ty) (hn : narrow ty v = v) (hfit : fits ty v = true) (hset : (jc_fE ad u i).set k v = jc_fE ad u' i) (hoth : ∀ j, j < 158 → j ≠ 118 + i → jc_cell ad aK cA u' j = jc_cell ad aK cA u j) (hdg : decode cc pc = .ok (.putfield idx, 3))
    (kk : ∀ (H1 : Heap) (locs1 : List Loc), jx_H D 158 ad (jc_cell ad aK cA u') A s.heap H1 locs1 → W p l e R s m args below meth c H1 locs1 cells slots Q (F0 m (pc + 3) ls rest)) : W p l e R s m args below meth c H locs cells slots Q (F0 m pc ls (v :: jv ad 118 (nI i) :: rest)) := by
  rw [jv_nI (by omega)]
  refine va_put (fs := jc_fE ad u i) (ci := 4) (C := R_E) (T := F_E) (N := 6) hc.1 hc.2.1 hc.2.2.2.2.1 jn_E t_E t_E_ok n_E hc.2.2.2.1 hc.2.2.2.2.2.1 hh.1 hh.2.1 hh.2.2 (118 + i) (by rw [jx_at (by omega), jc_cE hi]) rfl k hk (hc.2.2.2.2.1 _ hlink) (fun _ h => h) hfin hd hn hfit (show k < 6 from hk) hdg (fun H1 locs1 h1 h2 h3 => kk H1 locs1 ?_)
  have e : (jx_W 158 ad (jc_cell ad aK cA u)).set (118 + i) (ad (118 + i), .inr (4, (jc_fE ad u i).set k v)) = jx_W 158 ad (jc_cell ad aK cA u') := by
    rw [hset, ← jc_cE (ad := ad) (aK := aK) (cA := cA) hi]
    exact jx_set (by omega) hoth
  rw [e] at h1 h2
  exact ⟨h1, h2, h3⟩
theorem jo_21 {v : Int32} : ∀ j, j < 158 → j ≠ 0 → jc_cell ad aK cA (js_up u 21 0 v) j = jc_cell ad aK cA u j := by
  intro j hj hne
  exact jc_cell_eq hj (fun e9 => absurd e9 hne) (fun _ i9 => by simp [js_up]) (fun i9 _ _ => by simp [jc_fA, js_up]) (fun i9 _ _ => by simp [jc_fN, js_up]) (fun i9 _ _ => by simp [jc_fD, js_up]) (fun i9 _ _ => by simp [jc_fE, js_up])
theorem jo_22 {v : Int32} : ∀ j, j < 158 → j ≠ 0 → jc_cell ad aK cA (js_up u 22 0 v) j = jc_cell ad aK cA u j := by
  intro j hj hne
  exact jc_cell_eq hj (fun e9 => absurd e9 hne) (fun _ i9 => by simp [js_up]) (fun i9 _ _ => by simp [jc_fA, js_up]) (fun i9 _ _ => by simp [jc_fN, js_up]) (fun i9 _ _ => by simp [jc_fD, js_up]) (fun i9 _ _ => by simp [jc_fE, js_up])
theorem jo_23 {v : Int32} : ∀ j, j < 158 → j ≠ 0 → jc_cell ad aK cA (js_up u 23 0 v) j = jc_cell ad aK cA u j := by
  intro j hj hne
  exact jc_cell_eq hj (fun e9 => absurd e9 hne) (fun _ i9 => by simp [js_up]) (fun i9 _ _ => by simp [jc_fA, js_up]) (fun i9 _ _ => by simp [jc_fN, js_up]) (fun i9 _ _ => by simp [jc_fD, js_up]) (fun i9 _ _ => by simp [jc_fE, js_up])
theorem jo_24 {v : Int32} : ∀ j, j < 158 → j ≠ 0 → jc_cell ad aK cA (js_up u 24 0 v) j = jc_cell ad aK cA u j := by
  intro j hj hne
  exact jc_cell_eq hj (fun e9 => absurd e9 hne) (fun _ i9 => by simp [js_up]) (fun i9 _ _ => by simp [jc_fA, js_up]) (fun i9 _ _ => by simp [jc_fN, js_up]) (fun i9 _ _ => by simp [jc_fD, js_up]) (fun i9 _ _ => by simp [jc_fE, js_up])
theorem jo_0 {v : Int32} {i : Nat} : ∀ j, j < 158 → j ≠ 6 + i → jc_cell ad aK cA (js_up u 0 i v) j = jc_cell ad aK cA u j := by
  intro j hj hne
  exact jc_cell_eq hj (fun _ => by simp [jc_fJ, js_up]) (fun _ i9 => by simp [js_up]) (fun i9 _ e9 => by have n9 : ¬ i9 = i := (fun q => hne (by omega)); simp [jc_fA, js_up, n9]) (fun i9 _ _ => by simp [jc_fN, js_up]) (fun i9 _ _ => by simp [jc_fD, js_up]) (fun i9 _ _ => by simp [jc_fE, js_up])
theorem jo_1 {v : Int32} {i : Nat} : ∀ j, j < 158 → j ≠ 6 + i → jc_cell ad aK cA (js_up u 1 i v) j = jc_cell ad aK cA u j := by
  intro j hj hne
  exact jc_cell_eq hj (fun _ => by simp [jc_fJ, js_up]) (fun _ i9 => by simp [js_up]) (fun i9 _ e9 => by have n9 : ¬ i9 = i := (fun q => hne (by omega)); simp [jc_fA, js_up, n9]) (fun i9 _ _ => by simp [jc_fN, js_up]) (fun i9 _ _ => by simp [jc_fD, js_up]) (fun i9 _ _ => by simp [jc_fE, js_up])
theorem jo_2 {v : Int32} {i : Nat} : ∀ j, j < 158 → j ≠ 6 + i → jc_cell ad aK cA (js_up u 2 i v) j = jc_cell ad aK cA u j := by
  intro j hj hne
  exact jc_cell_eq hj (fun _ => by simp [jc_fJ, js_up]) (fun _ i9 => by simp [js_up]) (fun i9 _ e9 => by have n9 : ¬ i9 = i := (fun q => hne (by omega)); simp [jc_fA, js_up, n9]) (fun i9 _ _ => by simp [jc_fN, js_up]) (fun i9 _ _ => by simp [jc_fD, js_up]) (fun i9 _ _ => by simp [jc_fE, js_up])
theorem jo_3 {v : Int32} {i : Nat} : ∀ j, j < 158 → j ≠ 6 + i → jc_cell ad aK cA (js_up u 3 i v) j = jc_cell ad aK cA u j := by
  intro j hj hne
  exact jc_cell_eq hj (fun _ => by simp [jc_fJ, js_up]) (fun _ i9 => by simp [js_up]) (fun i9 _ e9 => by have n9 : ¬ i9 = i := (fun q => hne (by omega)); simp [jc_fA, js_up, n9]) (fun i9 _ _ => by simp [jc_fN, js_up]) (fun i9 _ _ => by simp [jc_fD, js_up]) (fun i9 _ _ => by simp [jc_fE, js_up])
theorem jo_4 {v : Int32} {i : Nat} : ∀ j, j < 158 → j ≠ 6 + i → jc_cell ad aK cA (js_up u 4 i v) j = jc_cell ad aK cA u j := by
  intro j hj hne
  exact jc_cell_eq hj (fun _ => by simp [jc_fJ, js_up]) (fun _ i9 => by simp [js_up]) (fun i9 _ e9 => by have n9 : ¬ i9 = i := (fun q => hne (by omega)); simp [jc_fA, js_up, n9]) (fun i9 _ _ => by simp [jc_fN, js_up]) (fun i9 _ _ => by simp [jc_fD, js_up]) (fun i9 _ _ => by simp [jc_fE, js_up])
theorem jo_5 {v : Int32} {i : Nat} : ∀ j, j < 158 → j ≠ 38 + i → jc_cell ad aK cA (js_up u 5 i v) j = jc_cell ad aK cA u j := by
  intro j hj hne
  exact jc_cell_eq hj (fun _ => by simp [jc_fJ, js_up]) (fun _ i9 => by simp [js_up]) (fun i9 _ _ => by simp [jc_fA, js_up]) (fun i9 _ e9 => by have n9 : ¬ i9 = i := (fun q => hne (by omega)); simp [jc_fN, js_up, n9]) (fun i9 _ _ => by simp [jc_fD, js_up]) (fun i9 _ _ => by simp [jc_fE, js_up])
theorem jo_6 {v : Int32} {i : Nat} : ∀ j, j < 158 → j ≠ 38 + i → jc_cell ad aK cA (js_up u 6 i v) j = jc_cell ad aK cA u j := by
  intro j hj hne
  exact jc_cell_eq hj (fun _ => by simp [jc_fJ, js_up]) (fun _ i9 => by simp [js_up]) (fun i9 _ _ => by simp [jc_fA, js_up]) (fun i9 _ e9 => by have n9 : ¬ i9 = i := (fun q => hne (by omega)); simp [jc_fN, js_up, n9]) (fun i9 _ _ => by simp [jc_fD, js_up]) (fun i9 _ _ => by simp [jc_fE, js_up])
theorem jo_7 {v : Int32} {i : Nat} : ∀ j, j < 158 → j ≠ 38 + i → jc_cell ad aK cA (js_up u 7 i v) j = jc_cell ad aK cA u j := by
  intro j hj hne
  exact jc_cell_eq hj (fun _ => by simp [jc_fJ, js_up]) (fun _ i9 => by simp [js_up]) (fun i9 _ _ => by simp [jc_fA, js_up]) (fun i9 _ e9 => by have n9 : ¬ i9 = i := (fun q => hne (by omega)); simp [jc_fN, js_up, n9]) (fun i9 _ _ => by simp [jc_fD, js_up]) (fun i9 _ _ => by simp [jc_fE, js_up])
theorem jo_8 {v : Int32} {i : Nat} : ∀ j, j < 158 → j ≠ 78 + i → jc_cell ad aK cA (js_up u 8 i v) j = jc_cell ad aK cA u j := by
  intro j hj hne
  exact jc_cell_eq hj (fun _ => by simp [jc_fJ, js_up]) (fun _ i9 => by simp [js_up]) (fun i9 _ _ => by simp [jc_fA, js_up]) (fun i9 _ _ => by simp [jc_fN, js_up]) (fun i9 _ e9 => by have n9 : ¬ i9 = i := (fun q => hne (by omega)); simp [jc_fD, js_up, n9]) (fun i9 _ _ => by simp [jc_fE, js_up])
theorem jo_9 {v : Int32} {i : Nat} : ∀ j, j < 158 → j ≠ 78 + i → jc_cell ad aK cA (js_up u 9 i v) j = jc_cell ad aK cA u j := by
  intro j hj hne
  exact jc_cell_eq hj (fun _ => by simp [jc_fJ, js_up]) (fun _ i9 => by simp [js_up]) (fun i9 _ _ => by simp [jc_fA, js_up]) (fun i9 _ _ => by simp [jc_fN, js_up]) (fun i9 _ e9 => by have n9 : ¬ i9 = i := (fun q => hne (by omega)); simp [jc_fD, js_up, n9]) (fun i9 _ _ => by simp [jc_fE, js_up])
theorem jo_10 {v : Int32} {i : Nat} : ∀ j, j < 158 → j ≠ 78 + i → jc_cell ad aK cA (js_up u 10 i v) j = jc_cell ad aK cA u j := by
  intro j hj hne
  exact jc_cell_eq hj (fun _ => by simp [jc_fJ, js_up]) (fun _ i9 => by simp [js_up]) (fun i9 _ _ => by simp [jc_fA, js_up]) (fun i9 _ _ => by simp [jc_fN, js_up]) (fun i9 _ e9 => by have n9 : ¬ i9 = i := (fun q => hne (by omega)); simp [jc_fD, js_up, n9]) (fun i9 _ _ => by simp [jc_fE, js_up])
theorem jo_11 {v : Int32} {i : Nat} : ∀ j, j < 158 → j ≠ 78 + i → jc_cell ad aK cA (js_up u 11 i v) j = jc_cell ad aK cA u j := by
  intro j hj hne
  exact jc_cell_eq hj (fun _ => by simp [jc_fJ, js_up]) (fun _ i9 => by simp [js_up]) (fun i9 _ _ => by simp [jc_fA, js_up]) (fun i9 _ _ => by simp [jc_fN, js_up]) (fun i9 _ e9 => by have n9 : ¬ i9 = i := (fun q => hne (by omega)); simp [jc_fD, js_up, n9]) (fun i9 _ _ => by simp [jc_fE, js_up])
theorem jo_12 {v : Int32} {i : Nat} : ∀ j, j < 158 → j ≠ 78 + i → jc_cell ad aK cA (js_up u 12 i v) j = jc_cell ad aK cA u j := by
  intro j hj hne
  exact jc_cell_eq hj (fun _ => by simp [jc_fJ, js_up]) (fun _ i9 => by simp [js_up]) (fun i9 _ _ => by simp [jc_fA, js_up]) (fun i9 _ _ => by simp [jc_fN, js_up]) (fun i9 _ e9 => by have n9 : ¬ i9 = i := (fun q => hne (by omega)); simp [jc_fD, js_up, n9]) (fun i9 _ _ => by simp [jc_fE, js_up])
theorem jo_13 {v : Int32} {i : Nat} : ∀ j, j < 158 → j ≠ 78 + i → jc_cell ad aK cA (js_up u 13 i v) j = jc_cell ad aK cA u j := by
  intro j hj hne
  exact jc_cell_eq hj (fun _ => by simp [jc_fJ, js_up]) (fun _ i9 => by simp [js_up]) (fun i9 _ _ => by simp [jc_fA, js_up]) (fun i9 _ _ => by simp [jc_fN, js_up]) (fun i9 _ e9 => by have n9 : ¬ i9 = i := (fun q => hne (by omega)); simp [jc_fD, js_up, n9]) (fun i9 _ _ => by simp [jc_fE, js_up])
theorem jo_14 {v : Int32} {i : Nat} : ∀ j, j < 158 → j ≠ 118 + i → jc_cell ad aK cA (js_up u 14 i v) j = jc_cell ad aK cA u j := by
  intro j hj hne
  exact jc_cell_eq hj (fun _ => by simp [jc_fJ, js_up]) (fun _ i9 => by simp [js_up]) (fun i9 _ _ => by simp [jc_fA, js_up]) (fun i9 _ _ => by simp [jc_fN, js_up]) (fun i9 _ _ => by simp [jc_fD, js_up]) (fun i9 _ e9 => by have n9 : ¬ i9 = i := (fun q => hne (by omega)); simp [jc_fE, js_up, n9])
theorem jo_15 {v : Int32} {i : Nat} : ∀ j, j < 158 → j ≠ 118 + i → jc_cell ad aK cA (js_up u 15 i v) j = jc_cell ad aK cA u j := by
  intro j hj hne
  exact jc_cell_eq hj (fun _ => by simp [jc_fJ, js_up]) (fun _ i9 => by simp [js_up]) (fun i9 _ _ => by simp [jc_fA, js_up]) (fun i9 _ _ => by simp [jc_fN, js_up]) (fun i9 _ _ => by simp [jc_fD, js_up]) (fun i9 _ e9 => by have n9 : ¬ i9 = i := (fun q => hne (by omega)); simp [jc_fE, js_up, n9])
theorem jo_16 {v : Int32} {i : Nat} : ∀ j, j < 158 → j ≠ 118 + i → jc_cell ad aK cA (js_up u 16 i v) j = jc_cell ad aK cA u j := by
  intro j hj hne
  exact jc_cell_eq hj (fun _ => by simp [jc_fJ, js_up]) (fun _ i9 => by simp [js_up]) (fun i9 _ _ => by simp [jc_fA, js_up]) (fun i9 _ _ => by simp [jc_fN, js_up]) (fun i9 _ _ => by simp [jc_fD, js_up]) (fun i9 _ e9 => by have n9 : ¬ i9 = i := (fun q => hne (by omega)); simp [jc_fE, js_up, n9])
theorem jo_17 {v : Int32} {i : Nat} : ∀ j, j < 158 → j ≠ 118 + i → jc_cell ad aK cA (js_up u 17 i v) j = jc_cell ad aK cA u j := by
  intro j hj hne
  exact jc_cell_eq hj (fun _ => by simp [jc_fJ, js_up]) (fun _ i9 => by simp [js_up]) (fun i9 _ _ => by simp [jc_fA, js_up]) (fun i9 _ _ => by simp [jc_fN, js_up]) (fun i9 _ _ => by simp [jc_fD, js_up]) (fun i9 _ e9 => by have n9 : ¬ i9 = i := (fun q => hne (by omega)); simp [jc_fE, js_up, n9])
theorem jo_18 {v : Int32} {i : Nat} : ∀ j, j < 158 → j ≠ 118 + i → jc_cell ad aK cA (js_up u 18 i v) j = jc_cell ad aK cA u j := by
  intro j hj hne
  exact jc_cell_eq hj (fun _ => by simp [jc_fJ, js_up]) (fun _ i9 => by simp [js_up]) (fun i9 _ _ => by simp [jc_fA, js_up]) (fun i9 _ _ => by simp [jc_fN, js_up]) (fun i9 _ _ => by simp [jc_fD, js_up]) (fun i9 _ e9 => by have n9 : ¬ i9 = i := (fun q => hne (by omega)); simp [jc_fE, js_up, n9])
theorem jo_19 {v : Int32} {i : Nat} : ∀ j, j < 158 → j ≠ 118 + i → jc_cell ad aK cA (js_up u 19 i v) j = jc_cell ad aK cA u j := by
  intro j hj hne
  exact jc_cell_eq hj (fun _ => by simp [jc_fJ, js_up]) (fun _ i9 => by simp [js_up]) (fun i9 _ _ => by simp [jc_fA, js_up]) (fun i9 _ _ => by simp [jc_fN, js_up]) (fun i9 _ _ => by simp [jc_fD, js_up]) (fun i9 _ e9 => by have n9 : ¬ i9 = i := (fun q => hne (by omega)); simp [jc_fE, js_up, n9])
theorem jp_21 (hc : jx_C p s m args c cc nL own D (jc_tys cA) aK A) (hh : jx_H D 158 ad (jc_cell ad aK cA u) A s.heap H locs) {v : Int32} {idx : Nat} (hlink : Cond.fieldLink own idx (F_J 5).1 (F_J 5).2.1 (F_J 5).2.2.1 ∈ jw_all) (hdg : decode cc pc = .ok (.putfield idx, 3))
    (kk : ∀ (H1 : Heap) (locs1 : List Loc), jx_H D 158 ad (jc_cell ad aK cA (js_up u 21 0 v)) A s.heap H1 locs1 → W p l e R s m args below meth c H1 locs1 cells slots Q (F0 m (pc + 3) ls rest)) : W p l e R s m args below meth c H locs cells slots Q (F0 m pc ls (.int v :: .ref (ad 0) :: rest)) :=
  jp_J hc hh 5 (by omega) (ty := .int) hlink rfl (by decide +kernel) rfl rfl (by simp [jc_fJ, js_up]) jo_21 hdg kk
theorem jp_22 (hc : jx_C p s m args c cc nL own D (jc_tys cA) aK A) (hh : jx_H D 158 ad (jc_cell ad aK cA u) A s.heap H locs) {v : Int32} {idx : Nat} (hlink : Cond.fieldLink own idx (F_J 6).1 (F_J 6).2.1 (F_J 6).2.2.1 ∈ jw_all) (hdg : decode cc pc = .ok (.putfield idx, 3))
    (kk : ∀ (H1 : Heap) (locs1 : List Loc), jx_H D 158 ad (jc_cell ad aK cA (js_up u 22 0 v)) A s.heap H1 locs1 → W p l e R s m args below meth c H1 locs1 cells slots Q (F0 m (pc + 3) ls rest)) : W p l e R s m args below meth c H locs cells slots Q (F0 m pc ls (.int v :: .ref (ad 0) :: rest)) :=
  jp_J hc hh 6 (by omega) (ty := .int) hlink rfl (by decide +kernel) rfl rfl (by simp [jc_fJ, js_up]) jo_22 hdg kk
theorem jp_23 (hc : jx_C p s m args c cc nL own D (jc_tys cA) aK A) (hh : jx_H D 158 ad (jc_cell ad aK cA u) A s.heap H locs) {v : Int32} {idx : Nat} (hlink : Cond.fieldLink own idx (F_J 7).1 (F_J 7).2.1 (F_J 7).2.2.1 ∈ jw_all) (hdg : decode cc pc = .ok (.putfield idx, 3))
    (kk : ∀ (H1 : Heap) (locs1 : List Loc), jx_H D 158 ad (jc_cell ad aK cA (js_up u 23 0 v)) A s.heap H1 locs1 → W p l e R s m args below meth c H1 locs1 cells slots Q (F0 m (pc + 3) ls rest)) : W p l e R s m args below meth c H locs cells slots Q (F0 m pc ls (.int v :: .ref (ad 0) :: rest)) :=
  jp_J hc hh 7 (by omega) (ty := .int) hlink rfl (by decide +kernel) rfl rfl (by simp [jc_fJ, js_up]) jo_23 hdg kk
theorem jp_24 (hc : jx_C p s m args c cc nL own D (jc_tys cA) aK A) (hh : jx_H D 158 ad (jc_cell ad aK cA u) A s.heap H locs) {v : Int32} {idx : Nat} (hlink : Cond.fieldLink own idx (F_J 8).1 (F_J 8).2.1 (F_J 8).2.2.1 ∈ jw_all) (hdg : decode cc pc = .ok (.putfield idx, 3))
    (kk : ∀ (H1 : Heap) (locs1 : List Loc), jx_H D 158 ad (jc_cell ad aK cA (js_up u 24 0 v)) A s.heap H1 locs1 → W p l e R s m args below meth c H1 locs1 cells slots Q (F0 m (pc + 3) ls rest)) : W p l e R s m args below meth c H locs cells slots Q (F0 m pc ls (.int v :: .ref (ad 0) :: rest)) :=
  jp_J hc hh 8 (by omega) (ty := .int) hlink rfl (by decide +kernel) rfl rfl (by simp [jc_fJ, js_up]) jo_24 hdg kk
theorem jp_0 (hc : jx_C p s m args c cc nL own D (jc_tys cA) aK A) (hh : jx_H D 158 ad (jc_cell ad aK cA u) A s.heap H locs) {i : Nat} (hi : i < 32) {v : Int32} {idx : Nat} (hlink : Cond.fieldLink own idx (F_A 0).1 (F_A 0).2.1 (F_A 0).2.2.1 ∈ jw_all) (hdg : decode cc pc = .ok (.putfield idx, 3))
    (kk : ∀ (H1 : Heap) (locs1 : List Loc), jx_H D 158 ad (jc_cell ad aK cA (js_up u 0 i v)) A s.heap H1 locs1 → W p l e R s m args below meth c H1 locs1 cells slots Q (F0 m (pc + 3) ls rest)) : W p l e R s m args below meth c H locs cells slots Q (F0 m pc ls (jv aK 0 v :: jv ad 6 (nI i) :: rest)) :=
  jpx_A hc hh hi 0 (by omega) (ty := .object "JointHistory$Kind") hlink rfl (by decide +kernel) jv_nar jv_fit (by simp [jc_fA, js_up]) jo_0 hdg kk
theorem jpy_0 (hc : jx_C p s m args c cc nL own D (jc_tys cA) aK A) (hh : jx_H D 158 ad (jc_cell ad aK cA u) A s.heap H locs) {x : Int32} (hx : ∃ i, i < 32 ∧ x = nI i) {v : Int32} {idx : Nat} (hlink : Cond.fieldLink own idx (F_A 0).1 (F_A 0).2.1 (F_A 0).2.2.1 ∈ jw_all) (hdg : decode cc pc = .ok (.putfield idx, 3))
    (kk : ∀ (H1 : Heap) (locs1 : List Loc), jx_H D 158 ad (jc_cell ad aK cA (js_up u 0 (ix x) v)) A s.heap H1 locs1 → W p l e R s m args below meth c H1 locs1 cells slots Q (F0 m (pc + 3) ls rest)) : W p l e R s m args below meth c H locs cells slots Q (F0 m pc ls (jv aK 0 v :: jv ad 6 x :: rest)) := by
  obtain ⟨i, hi, rfl⟩ := hx
  rw [ix_nI (by omega)] at kk
  exact jp_0 hc hh hi hlink hdg kk
theorem jp_1 (hc : jx_C p s m args c cc nL own D (jc_tys cA) aK A) (hh : jx_H D 158 ad (jc_cell ad aK cA u) A s.heap H locs) {i : Nat} (hi : i < 32) {v : Int32} {idx : Nat} (hlink : Cond.fieldLink own idx (F_A 1).1 (F_A 1).2.1 (F_A 1).2.2.1 ∈ jw_all) (hdg : decode cc pc = .ok (.putfield idx, 3))
    (kk : ∀ (H1 : Heap) (locs1 : List Loc), jx_H D 158 ad (jc_cell ad aK cA (js_up u 1 i v)) A s.heap H1 locs1 → W p l e R s m args below meth c H1 locs1 cells slots Q (F0 m (pc + 3) ls rest)) : W p l e R s m args below meth c H locs cells slots Q (F0 m pc ls (.int v :: jv ad 6 (nI i) :: rest)) :=
  jpx_A hc hh hi 1 (by omega) (ty := .int) hlink rfl (by decide +kernel) rfl rfl (by simp [jc_fA, js_up]) jo_1 hdg kk
theorem jpy_1 (hc : jx_C p s m args c cc nL own D (jc_tys cA) aK A) (hh : jx_H D 158 ad (jc_cell ad aK cA u) A s.heap H locs) {x : Int32} (hx : ∃ i, i < 32 ∧ x = nI i) {v : Int32} {idx : Nat} (hlink : Cond.fieldLink own idx (F_A 1).1 (F_A 1).2.1 (F_A 1).2.2.1 ∈ jw_all) (hdg : decode cc pc = .ok (.putfield idx, 3))
    (kk : ∀ (H1 : Heap) (locs1 : List Loc), jx_H D 158 ad (jc_cell ad aK cA (js_up u 1 (ix x) v)) A s.heap H1 locs1 → W p l e R s m args below meth c H1 locs1 cells slots Q (F0 m (pc + 3) ls rest)) : W p l e R s m args below meth c H locs cells slots Q (F0 m pc ls (.int v :: jv ad 6 x :: rest)) := by
  obtain ⟨i, hi, rfl⟩ := hx
  rw [ix_nI (by omega)] at kk
  exact jp_1 hc hh hi hlink hdg kk
theorem jp_2 (hc : jx_C p s m args c cc nL own D (jc_tys cA) aK A) (hh : jx_H D 158 ad (jc_cell ad aK cA u) A s.heap H locs) {i : Nat} (hi : i < 32) {v : Int32} {idx : Nat} (hlink : Cond.fieldLink own idx (F_A 2).1 (F_A 2).2.1 (F_A 2).2.2.1 ∈ jw_all) (hdg : decode cc pc = .ok (.putfield idx, 3))
    (kk : ∀ (H1 : Heap) (locs1 : List Loc), jx_H D 158 ad (jc_cell ad aK cA (js_up u 2 i v)) A s.heap H1 locs1 → W p l e R s m args below meth c H1 locs1 cells slots Q (F0 m (pc + 3) ls rest)) : W p l e R s m args below meth c H locs cells slots Q (F0 m pc ls (.int v :: jv ad 6 (nI i) :: rest)) :=
  jpx_A hc hh hi 2 (by omega) (ty := .int) hlink rfl (by decide +kernel) rfl rfl (by simp [jc_fA, js_up]) jo_2 hdg kk
theorem jpy_2 (hc : jx_C p s m args c cc nL own D (jc_tys cA) aK A) (hh : jx_H D 158 ad (jc_cell ad aK cA u) A s.heap H locs) {x : Int32} (hx : ∃ i, i < 32 ∧ x = nI i) {v : Int32} {idx : Nat} (hlink : Cond.fieldLink own idx (F_A 2).1 (F_A 2).2.1 (F_A 2).2.2.1 ∈ jw_all) (hdg : decode cc pc = .ok (.putfield idx, 3))
    (kk : ∀ (H1 : Heap) (locs1 : List Loc), jx_H D 158 ad (jc_cell ad aK cA (js_up u 2 (ix x) v)) A s.heap H1 locs1 → W p l e R s m args below meth c H1 locs1 cells slots Q (F0 m (pc + 3) ls rest)) : W p l e R s m args below meth c H locs cells slots Q (F0 m pc ls (.int v :: jv ad 6 x :: rest)) := by
  obtain ⟨i, hi, rfl⟩ := hx
  rw [ix_nI (by omega)] at kk
  exact jp_2 hc hh hi hlink hdg kk
theorem jp_3 (hc : jx_C p s m args c cc nL own D (jc_tys cA) aK A) (hh : jx_H D 158 ad (jc_cell ad aK cA u) A s.heap H locs) {i : Nat} (hi : i < 32) {v : Int32} (hz : v = 0 ∨ v = 1) {idx : Nat} (hlink : Cond.fieldLink own idx (F_A 3).1 (F_A 3).2.1 (F_A 3).2.2.1 ∈ jw_all) (hdg : decode cc pc = .ok (.putfield idx, 3))
    (kk : ∀ (H1 : Heap) (locs1 : List Loc), jx_H D 158 ad (jc_cell ad aK cA (js_up u 3 i v)) A s.heap H1 locs1 → W p l e R s m args below meth c H1 locs1 cells slots Q (F0 m (pc + 3) ls rest)) : W p l e R s m args below meth c H locs cells slots Q (F0 m pc ls (.int v :: jv ad 6 (nI i) :: rest)) :=
  jpx_A hc hh hi 3 (by omega) (ty := .boolean) hlink rfl (by decide +kernel) (js_nz hz) (by rcases hz with rfl | rfl <;> rfl) (by simp [jc_fA, js_up]) jo_3 hdg kk
theorem jpy_3 (hc : jx_C p s m args c cc nL own D (jc_tys cA) aK A) (hh : jx_H D 158 ad (jc_cell ad aK cA u) A s.heap H locs) {x : Int32} (hx : ∃ i, i < 32 ∧ x = nI i) {v : Int32} (hz : v = 0 ∨ v = 1) {idx : Nat} (hlink : Cond.fieldLink own idx (F_A 3).1 (F_A 3).2.1 (F_A 3).2.2.1 ∈ jw_all) (hdg : decode cc pc = .ok (.putfield idx, 3))
    (kk : ∀ (H1 : Heap) (locs1 : List Loc), jx_H D 158 ad (jc_cell ad aK cA (js_up u 3 (ix x) v)) A s.heap H1 locs1 → W p l e R s m args below meth c H1 locs1 cells slots Q (F0 m (pc + 3) ls rest)) : W p l e R s m args below meth c H locs cells slots Q (F0 m pc ls (.int v :: jv ad 6 x :: rest)) := by
  obtain ⟨i, hi, rfl⟩ := hx
  rw [ix_nI (by omega)] at kk
  exact jp_3 hc hh hi hz hlink hdg kk
theorem jp_4 (hc : jx_C p s m args c cc nL own D (jc_tys cA) aK A) (hh : jx_H D 158 ad (jc_cell ad aK cA u) A s.heap H locs) {i : Nat} (hi : i < 32) {v : Int32} {idx : Nat} (hlink : Cond.fieldLink own idx (F_A 4).1 (F_A 4).2.1 (F_A 4).2.2.1 ∈ jw_all) (hdg : decode cc pc = .ok (.putfield idx, 3))
    (kk : ∀ (H1 : Heap) (locs1 : List Loc), jx_H D 158 ad (jc_cell ad aK cA (js_up u 4 i v)) A s.heap H1 locs1 → W p l e R s m args below meth c H1 locs1 cells slots Q (F0 m (pc + 3) ls rest)) : W p l e R s m args below meth c H locs cells slots Q (F0 m pc ls (.int v :: jv ad 6 (nI i) :: rest)) :=
  jpx_A hc hh hi 4 (by omega) (ty := .int) hlink rfl (by decide +kernel) rfl rfl (by simp [jc_fA, js_up]) jo_4 hdg kk
theorem jpy_4 (hc : jx_C p s m args c cc nL own D (jc_tys cA) aK A) (hh : jx_H D 158 ad (jc_cell ad aK cA u) A s.heap H locs) {x : Int32} (hx : ∃ i, i < 32 ∧ x = nI i) {v : Int32} {idx : Nat} (hlink : Cond.fieldLink own idx (F_A 4).1 (F_A 4).2.1 (F_A 4).2.2.1 ∈ jw_all) (hdg : decode cc pc = .ok (.putfield idx, 3))
    (kk : ∀ (H1 : Heap) (locs1 : List Loc), jx_H D 158 ad (jc_cell ad aK cA (js_up u 4 (ix x) v)) A s.heap H1 locs1 → W p l e R s m args below meth c H1 locs1 cells slots Q (F0 m (pc + 3) ls rest)) : W p l e R s m args below meth c H locs cells slots Q (F0 m pc ls (.int v :: jv ad 6 x :: rest)) := by
  obtain ⟨i, hi, rfl⟩ := hx
  rw [ix_nI (by omega)] at kk
  exact jp_4 hc hh hi hlink hdg kk
theorem jp_5 (hc : jx_C p s m args c cc nL own D (jc_tys cA) aK A) (hh : jx_H D 158 ad (jc_cell ad aK cA u) A s.heap H locs) {i : Nat} (hi : i < 40) {v : Int32} (hz : v = 0 ∨ v = 1) {idx : Nat} (hlink : Cond.fieldLink own idx (F_N 1).1 (F_N 1).2.1 (F_N 1).2.2.1 ∈ jw_all) (hdg : decode cc pc = .ok (.putfield idx, 3))
    (kk : ∀ (H1 : Heap) (locs1 : List Loc), jx_H D 158 ad (jc_cell ad aK cA (js_up u 5 i v)) A s.heap H1 locs1 → W p l e R s m args below meth c H1 locs1 cells slots Q (F0 m (pc + 3) ls rest)) : W p l e R s m args below meth c H locs cells slots Q (F0 m pc ls (.int v :: jv ad 38 (nI i) :: rest)) :=
  jpx_N hc hh hi 1 (by omega) (ty := .boolean) hlink rfl (by decide +kernel) (js_nz hz) (by rcases hz with rfl | rfl <;> rfl) (by simp [jc_fN, js_up]) jo_5 hdg kk
theorem jpy_5 (hc : jx_C p s m args c cc nL own D (jc_tys cA) aK A) (hh : jx_H D 158 ad (jc_cell ad aK cA u) A s.heap H locs) {x : Int32} (hx : ∃ i, i < 40 ∧ x = nI i) {v : Int32} (hz : v = 0 ∨ v = 1) {idx : Nat} (hlink : Cond.fieldLink own idx (F_N 1).1 (F_N 1).2.1 (F_N 1).2.2.1 ∈ jw_all) (hdg : decode cc pc = .ok (.putfield idx, 3))
    (kk : ∀ (H1 : Heap) (locs1 : List Loc), jx_H D 158 ad (jc_cell ad aK cA (js_up u 5 (ix x) v)) A s.heap H1 locs1 → W p l e R s m args below meth c H1 locs1 cells slots Q (F0 m (pc + 3) ls rest)) : W p l e R s m args below meth c H locs cells slots Q (F0 m pc ls (.int v :: jv ad 38 x :: rest)) := by
  obtain ⟨i, hi, rfl⟩ := hx
  rw [ix_nI (by omega)] at kk
  exact jp_5 hc hh hi hz hlink hdg kk
theorem jp_6 (hc : jx_C p s m args c cc nL own D (jc_tys cA) aK A) (hh : jx_H D 158 ad (jc_cell ad aK cA u) A s.heap H locs) {i : Nat} (hi : i < 40) {v : Int32} {idx : Nat} (hlink : Cond.fieldLink own idx (F_N 2).1 (F_N 2).2.1 (F_N 2).2.2.1 ∈ jw_all) (hdg : decode cc pc = .ok (.putfield idx, 3))
    (kk : ∀ (H1 : Heap) (locs1 : List Loc), jx_H D 158 ad (jc_cell ad aK cA (js_up u 6 i v)) A s.heap H1 locs1 → W p l e R s m args below meth c H1 locs1 cells slots Q (F0 m (pc + 3) ls rest)) : W p l e R s m args below meth c H locs cells slots Q (F0 m pc ls (.int v :: jv ad 38 (nI i) :: rest)) :=
  jpx_N hc hh hi 2 (by omega) (ty := .int) hlink rfl (by decide +kernel) rfl rfl (by simp [jc_fN, js_up]) jo_6 hdg kk
theorem jpy_6 (hc : jx_C p s m args c cc nL own D (jc_tys cA) aK A) (hh : jx_H D 158 ad (jc_cell ad aK cA u) A s.heap H locs) {x : Int32} (hx : ∃ i, i < 40 ∧ x = nI i) {v : Int32} {idx : Nat} (hlink : Cond.fieldLink own idx (F_N 2).1 (F_N 2).2.1 (F_N 2).2.2.1 ∈ jw_all) (hdg : decode cc pc = .ok (.putfield idx, 3))
    (kk : ∀ (H1 : Heap) (locs1 : List Loc), jx_H D 158 ad (jc_cell ad aK cA (js_up u 6 (ix x) v)) A s.heap H1 locs1 → W p l e R s m args below meth c H1 locs1 cells slots Q (F0 m (pc + 3) ls rest)) : W p l e R s m args below meth c H locs cells slots Q (F0 m pc ls (.int v :: jv ad 38 x :: rest)) := by
  obtain ⟨i, hi, rfl⟩ := hx
  rw [ix_nI (by omega)] at kk
  exact jp_6 hc hh hi hlink hdg kk
theorem jp_7 (hc : jx_C p s m args c cc nL own D (jc_tys cA) aK A) (hh : jx_H D 158 ad (jc_cell ad aK cA u) A s.heap H locs) {i : Nat} (hi : i < 40) {v : Int32} {idx : Nat} (hlink : Cond.fieldLink own idx (F_N 3).1 (F_N 3).2.1 (F_N 3).2.2.1 ∈ jw_all) (hdg : decode cc pc = .ok (.putfield idx, 3))
    (kk : ∀ (H1 : Heap) (locs1 : List Loc), jx_H D 158 ad (jc_cell ad aK cA (js_up u 7 i v)) A s.heap H1 locs1 → W p l e R s m args below meth c H1 locs1 cells slots Q (F0 m (pc + 3) ls rest)) : W p l e R s m args below meth c H locs cells slots Q (F0 m pc ls (jv ad 78 v :: jv ad 38 (nI i) :: rest)) :=
  jpx_N hc hh hi 3 (by omega) (ty := .object "JointHistory$Document") hlink rfl (by decide +kernel) jv_nar jv_fit (by simp [jc_fN, js_up]) jo_7 hdg kk
theorem jpy_7 (hc : jx_C p s m args c cc nL own D (jc_tys cA) aK A) (hh : jx_H D 158 ad (jc_cell ad aK cA u) A s.heap H locs) {x : Int32} (hx : ∃ i, i < 40 ∧ x = nI i) {v : Int32} {idx : Nat} (hlink : Cond.fieldLink own idx (F_N 3).1 (F_N 3).2.1 (F_N 3).2.2.1 ∈ jw_all) (hdg : decode cc pc = .ok (.putfield idx, 3))
    (kk : ∀ (H1 : Heap) (locs1 : List Loc), jx_H D 158 ad (jc_cell ad aK cA (js_up u 7 (ix x) v)) A s.heap H1 locs1 → W p l e R s m args below meth c H1 locs1 cells slots Q (F0 m (pc + 3) ls rest)) : W p l e R s m args below meth c H locs cells slots Q (F0 m pc ls (jv ad 78 v :: jv ad 38 x :: rest)) := by
  obtain ⟨i, hi, rfl⟩ := hx
  rw [ix_nI (by omega)] at kk
  exact jp_7 hc hh hi hlink hdg kk
theorem jp_8 (hc : jx_C p s m args c cc nL own D (jc_tys cA) aK A) (hh : jx_H D 158 ad (jc_cell ad aK cA u) A s.heap H locs) {i : Nat} (hi : i < 40) {v : Int32} (hz : v = 0 ∨ v = 1) {idx : Nat} (hlink : Cond.fieldLink own idx (F_D 0).1 (F_D 0).2.1 (F_D 0).2.2.1 ∈ jw_all) (hdg : decode cc pc = .ok (.putfield idx, 3))
    (kk : ∀ (H1 : Heap) (locs1 : List Loc), jx_H D 158 ad (jc_cell ad aK cA (js_up u 8 i v)) A s.heap H1 locs1 → W p l e R s m args below meth c H1 locs1 cells slots Q (F0 m (pc + 3) ls rest)) : W p l e R s m args below meth c H locs cells slots Q (F0 m pc ls (.int v :: jv ad 78 (nI i) :: rest)) :=
  jpx_D hc hh hi 0 (by omega) (ty := .boolean) hlink rfl (by decide +kernel) (js_nz hz) (by rcases hz with rfl | rfl <;> rfl) (by simp [jc_fD, js_up]) jo_8 hdg kk
theorem jpy_8 (hc : jx_C p s m args c cc nL own D (jc_tys cA) aK A) (hh : jx_H D 158 ad (jc_cell ad aK cA u) A s.heap H locs) {x : Int32} (hx : ∃ i, i < 40 ∧ x = nI i) {v : Int32} (hz : v = 0 ∨ v = 1) {idx : Nat} (hlink : Cond.fieldLink own idx (F_D 0).1 (F_D 0).2.1 (F_D 0).2.2.1 ∈ jw_all) (hdg : decode cc pc = .ok (.putfield idx, 3))
    (kk : ∀ (H1 : Heap) (locs1 : List Loc), jx_H D 158 ad (jc_cell ad aK cA (js_up u 8 (ix x) v)) A s.heap H1 locs1 → W p l e R s m args below meth c H1 locs1 cells slots Q (F0 m (pc + 3) ls rest)) : W p l e R s m args below meth c H locs cells slots Q (F0 m pc ls (.int v :: jv ad 78 x :: rest)) := by
  obtain ⟨i, hi, rfl⟩ := hx
  rw [ix_nI (by omega)] at kk
  exact jp_8 hc hh hi hz hlink hdg kk
theorem jp_9 (hc : jx_C p s m args c cc nL own D (jc_tys cA) aK A) (hh : jx_H D 158 ad (jc_cell ad aK cA u) A s.heap H locs) {i : Nat} (hi : i < 40) {v : Int32} {idx : Nat} (hlink : Cond.fieldLink own idx (F_D 1).1 (F_D 1).2.1 (F_D 1).2.2.1 ∈ jw_all) (hdg : decode cc pc = .ok (.putfield idx, 3))
    (kk : ∀ (H1 : Heap) (locs1 : List Loc), jx_H D 158 ad (jc_cell ad aK cA (js_up u 9 i v)) A s.heap H1 locs1 → W p l e R s m args below meth c H1 locs1 cells slots Q (F0 m (pc + 3) ls rest)) : W p l e R s m args below meth c H locs cells slots Q (F0 m pc ls (jv ad 38 v :: jv ad 78 (nI i) :: rest)) :=
  jpx_D hc hh hi 1 (by omega) (ty := .object "JointHistory$Navigable") hlink rfl (by decide +kernel) jv_nar jv_fit (by simp [jc_fD, js_up]) jo_9 hdg kk
theorem jpy_9 (hc : jx_C p s m args c cc nL own D (jc_tys cA) aK A) (hh : jx_H D 158 ad (jc_cell ad aK cA u) A s.heap H locs) {x : Int32} (hx : ∃ i, i < 40 ∧ x = nI i) {v : Int32} {idx : Nat} (hlink : Cond.fieldLink own idx (F_D 1).1 (F_D 1).2.1 (F_D 1).2.2.1 ∈ jw_all) (hdg : decode cc pc = .ok (.putfield idx, 3))
    (kk : ∀ (H1 : Heap) (locs1 : List Loc), jx_H D 158 ad (jc_cell ad aK cA (js_up u 9 (ix x) v)) A s.heap H1 locs1 → W p l e R s m args below meth c H1 locs1 cells slots Q (F0 m (pc + 3) ls rest)) : W p l e R s m args below meth c H locs cells slots Q (F0 m pc ls (jv ad 38 v :: jv ad 78 x :: rest)) := by
  obtain ⟨i, hi, rfl⟩ := hx
  rw [ix_nI (by omega)] at kk
  exact jp_9 hc hh hi hlink hdg kk
theorem jp_10 (hc : jx_C p s m args c cc nL own D (jc_tys cA) aK A) (hh : jx_H D 158 ad (jc_cell ad aK cA u) A s.heap H locs) {i : Nat} (hi : i < 40) {v : Int32} {idx : Nat} (hlink : Cond.fieldLink own idx (F_D 2).1 (F_D 2).2.1 (F_D 2).2.2.1 ∈ jw_all) (hdg : decode cc pc = .ok (.putfield idx, 3))
    (kk : ∀ (H1 : Heap) (locs1 : List Loc), jx_H D 158 ad (jc_cell ad aK cA (js_up u 10 i v)) A s.heap H1 locs1 → W p l e R s m args below meth c H1 locs1 cells slots Q (F0 m (pc + 3) ls rest)) : W p l e R s m args below meth c H locs cells slots Q (F0 m pc ls (.int v :: jv ad 78 (nI i) :: rest)) :=
  jpx_D hc hh hi 2 (by omega) (ty := .int) hlink rfl (by decide +kernel) rfl rfl (by simp [jc_fD, js_up]) jo_10 hdg kk
theorem jpy_10 (hc : jx_C p s m args c cc nL own D (jc_tys cA) aK A) (hh : jx_H D 158 ad (jc_cell ad aK cA u) A s.heap H locs) {x : Int32} (hx : ∃ i, i < 40 ∧ x = nI i) {v : Int32} {idx : Nat} (hlink : Cond.fieldLink own idx (F_D 2).1 (F_D 2).2.1 (F_D 2).2.2.1 ∈ jw_all) (hdg : decode cc pc = .ok (.putfield idx, 3))
    (kk : ∀ (H1 : Heap) (locs1 : List Loc), jx_H D 158 ad (jc_cell ad aK cA (js_up u 10 (ix x) v)) A s.heap H1 locs1 → W p l e R s m args below meth c H1 locs1 cells slots Q (F0 m (pc + 3) ls rest)) : W p l e R s m args below meth c H locs cells slots Q (F0 m pc ls (.int v :: jv ad 78 x :: rest)) := by
  obtain ⟨i, hi, rfl⟩ := hx
  rw [ix_nI (by omega)] at kk
  exact jp_10 hc hh hi hlink hdg kk
theorem jp_11 (hc : jx_C p s m args c cc nL own D (jc_tys cA) aK A) (hh : jx_H D 158 ad (jc_cell ad aK cA u) A s.heap H locs) {i : Nat} (hi : i < 40) {v : Int32} (hz : v = 0 ∨ v = 1) {idx : Nat} (hlink : Cond.fieldLink own idx (F_D 3).1 (F_D 3).2.1 (F_D 3).2.2.1 ∈ jw_all) (hdg : decode cc pc = .ok (.putfield idx, 3))
    (kk : ∀ (H1 : Heap) (locs1 : List Loc), jx_H D 158 ad (jc_cell ad aK cA (js_up u 11 i v)) A s.heap H1 locs1 → W p l e R s m args below meth c H1 locs1 cells slots Q (F0 m (pc + 3) ls rest)) : W p l e R s m args below meth c H locs cells slots Q (F0 m pc ls (.int v :: jv ad 78 (nI i) :: rest)) :=
  jpx_D hc hh hi 3 (by omega) (ty := .boolean) hlink rfl (by decide +kernel) (js_nz hz) (by rcases hz with rfl | rfl <;> rfl) (by simp [jc_fD, js_up]) jo_11 hdg kk
theorem jpy_11 (hc : jx_C p s m args c cc nL own D (jc_tys cA) aK A) (hh : jx_H D 158 ad (jc_cell ad aK cA u) A s.heap H locs) {x : Int32} (hx : ∃ i, i < 40 ∧ x = nI i) {v : Int32} (hz : v = 0 ∨ v = 1) {idx : Nat} (hlink : Cond.fieldLink own idx (F_D 3).1 (F_D 3).2.1 (F_D 3).2.2.1 ∈ jw_all) (hdg : decode cc pc = .ok (.putfield idx, 3))
    (kk : ∀ (H1 : Heap) (locs1 : List Loc), jx_H D 158 ad (jc_cell ad aK cA (js_up u 11 (ix x) v)) A s.heap H1 locs1 → W p l e R s m args below meth c H1 locs1 cells slots Q (F0 m (pc + 3) ls rest)) : W p l e R s m args below meth c H locs cells slots Q (F0 m pc ls (.int v :: jv ad 78 x :: rest)) := by
  obtain ⟨i, hi, rfl⟩ := hx
  rw [ix_nI (by omega)] at kk
  exact jp_11 hc hh hi hz hlink hdg kk
theorem jp_12 (hc : jx_C p s m args c cc nL own D (jc_tys cA) aK A) (hh : jx_H D 158 ad (jc_cell ad aK cA u) A s.heap H locs) {i : Nat} (hi : i < 40) {v : Int32} {idx : Nat} (hlink : Cond.fieldLink own idx (F_D 4).1 (F_D 4).2.1 (F_D 4).2.2.1 ∈ jw_all) (hdg : decode cc pc = .ok (.putfield idx, 3))
    (kk : ∀ (H1 : Heap) (locs1 : List Loc), jx_H D 158 ad (jc_cell ad aK cA (js_up u 12 i v)) A s.heap H1 locs1 → W p l e R s m args below meth c H1 locs1 cells slots Q (F0 m (pc + 3) ls rest)) : W p l e R s m args below meth c H locs cells slots Q (F0 m pc ls (jv ad 38 v :: jv ad 78 (nI i) :: rest)) :=
  jpx_D hc hh hi 4 (by omega) (ty := .object "JointHistory$Navigable") hlink rfl (by decide +kernel) jv_nar jv_fit (by simp [jc_fD, js_up]) jo_12 hdg kk
theorem jpy_12 (hc : jx_C p s m args c cc nL own D (jc_tys cA) aK A) (hh : jx_H D 158 ad (jc_cell ad aK cA u) A s.heap H locs) {x : Int32} (hx : ∃ i, i < 40 ∧ x = nI i) {v : Int32} {idx : Nat} (hlink : Cond.fieldLink own idx (F_D 4).1 (F_D 4).2.1 (F_D 4).2.2.1 ∈ jw_all) (hdg : decode cc pc = .ok (.putfield idx, 3))
    (kk : ∀ (H1 : Heap) (locs1 : List Loc), jx_H D 158 ad (jc_cell ad aK cA (js_up u 12 (ix x) v)) A s.heap H1 locs1 → W p l e R s m args below meth c H1 locs1 cells slots Q (F0 m (pc + 3) ls rest)) : W p l e R s m args below meth c H locs cells slots Q (F0 m pc ls (jv ad 38 v :: jv ad 78 x :: rest)) := by
  obtain ⟨i, hi, rfl⟩ := hx
  rw [ix_nI (by omega)] at kk
  exact jp_12 hc hh hi hlink hdg kk
theorem jp_13 (hc : jx_C p s m args c cc nL own D (jc_tys cA) aK A) (hh : jx_H D 158 ad (jc_cell ad aK cA u) A s.heap H locs) {i : Nat} (hi : i < 40) {v : Int32} {idx : Nat} (hlink : Cond.fieldLink own idx (F_D 5).1 (F_D 5).2.1 (F_D 5).2.2.1 ∈ jw_all) (hdg : decode cc pc = .ok (.putfield idx, 3))
    (kk : ∀ (H1 : Heap) (locs1 : List Loc), jx_H D 158 ad (jc_cell ad aK cA (js_up u 13 i v)) A s.heap H1 locs1 → W p l e R s m args below meth c H1 locs1 cells slots Q (F0 m (pc + 3) ls rest)) : W p l e R s m args below meth c H locs cells slots Q (F0 m pc ls (jv ad 38 v :: jv ad 78 (nI i) :: rest)) :=
  jpx_D hc hh hi 5 (by omega) (ty := .object "JointHistory$Navigable") hlink rfl (by decide +kernel) jv_nar jv_fit (by simp [jc_fD, js_up]) jo_13 hdg kk
theorem jpy_13 (hc : jx_C p s m args c cc nL own D (jc_tys cA) aK A) (hh : jx_H D 158 ad (jc_cell ad aK cA u) A s.heap H locs) {x : Int32} (hx : ∃ i, i < 40 ∧ x = nI i) {v : Int32} {idx : Nat} (hlink : Cond.fieldLink own idx (F_D 5).1 (F_D 5).2.1 (F_D 5).2.2.1 ∈ jw_all) (hdg : decode cc pc = .ok (.putfield idx, 3))
    (kk : ∀ (H1 : Heap) (locs1 : List Loc), jx_H D 158 ad (jc_cell ad aK cA (js_up u 13 (ix x) v)) A s.heap H1 locs1 → W p l e R s m args below meth c H1 locs1 cells slots Q (F0 m (pc + 3) ls rest)) : W p l e R s m args below meth c H locs cells slots Q (F0 m pc ls (jv ad 38 v :: jv ad 78 x :: rest)) := by
  obtain ⟨i, hi, rfl⟩ := hx
  rw [ix_nI (by omega)] at kk
  exact jp_13 hc hh hi hlink hdg kk
theorem jp_14 (hc : jx_C p s m args c cc nL own D (jc_tys cA) aK A) (hh : jx_H D 158 ad (jc_cell ad aK cA u) A s.heap H locs) {i : Nat} (hi : i < 40) {v : Int32} (hz : v = 0 ∨ v = 1) {idx : Nat} (hlink : Cond.fieldLink own idx (F_E 0).1 (F_E 0).2.1 (F_E 0).2.2.1 ∈ jw_all) (hdg : decode cc pc = .ok (.putfield idx, 3))
    (kk : ∀ (H1 : Heap) (locs1 : List Loc), jx_H D 158 ad (jc_cell ad aK cA (js_up u 14 i v)) A s.heap H1 locs1 → W p l e R s m args below meth c H1 locs1 cells slots Q (F0 m (pc + 3) ls rest)) : W p l e R s m args below meth c H locs cells slots Q (F0 m pc ls (.int v :: jv ad 118 (nI i) :: rest)) :=
  jpx_E hc hh hi 0 (by omega) (ty := .boolean) hlink rfl (by decide +kernel) (js_nz hz) (by rcases hz with rfl | rfl <;> rfl) (by simp [jc_fE, js_up]) jo_14 hdg kk
theorem jpy_14 (hc : jx_C p s m args c cc nL own D (jc_tys cA) aK A) (hh : jx_H D 158 ad (jc_cell ad aK cA u) A s.heap H locs) {x : Int32} (hx : ∃ i, i < 40 ∧ x = nI i) {v : Int32} (hz : v = 0 ∨ v = 1) {idx : Nat} (hlink : Cond.fieldLink own idx (F_E 0).1 (F_E 0).2.1 (F_E 0).2.2.1 ∈ jw_all) (hdg : decode cc pc = .ok (.putfield idx, 3))
    (kk : ∀ (H1 : Heap) (locs1 : List Loc), jx_H D 158 ad (jc_cell ad aK cA (js_up u 14 (ix x) v)) A s.heap H1 locs1 → W p l e R s m args below meth c H1 locs1 cells slots Q (F0 m (pc + 3) ls rest)) : W p l e R s m args below meth c H locs cells slots Q (F0 m pc ls (.int v :: jv ad 118 x :: rest)) := by
  obtain ⟨i, hi, rfl⟩ := hx
  rw [ix_nI (by omega)] at kk
  exact jp_14 hc hh hi hz hlink hdg kk
theorem jp_15 (hc : jx_C p s m args c cc nL own D (jc_tys cA) aK A) (hh : jx_H D 158 ad (jc_cell ad aK cA u) A s.heap H locs) {i : Nat} (hi : i < 40) {v : Int32} {idx : Nat} (hlink : Cond.fieldLink own idx (F_E 1).1 (F_E 1).2.1 (F_E 1).2.2.1 ∈ jw_all) (hdg : decode cc pc = .ok (.putfield idx, 3))
    (kk : ∀ (H1 : Heap) (locs1 : List Loc), jx_H D 158 ad (jc_cell ad aK cA (js_up u 15 i v)) A s.heap H1 locs1 → W p l e R s m args below meth c H1 locs1 cells slots Q (F0 m (pc + 3) ls rest)) : W p l e R s m args below meth c H locs cells slots Q (F0 m pc ls (jv ad 38 v :: jv ad 118 (nI i) :: rest)) :=
  jpx_E hc hh hi 1 (by omega) (ty := .object "JointHistory$Navigable") hlink rfl (by decide +kernel) jv_nar jv_fit (by simp [jc_fE, js_up]) jo_15 hdg kk
theorem jpy_15 (hc : jx_C p s m args c cc nL own D (jc_tys cA) aK A) (hh : jx_H D 158 ad (jc_cell ad aK cA u) A s.heap H locs) {x : Int32} (hx : ∃ i, i < 40 ∧ x = nI i) {v : Int32} {idx : Nat} (hlink : Cond.fieldLink own idx (F_E 1).1 (F_E 1).2.1 (F_E 1).2.2.1 ∈ jw_all) (hdg : decode cc pc = .ok (.putfield idx, 3))
    (kk : ∀ (H1 : Heap) (locs1 : List Loc), jx_H D 158 ad (jc_cell ad aK cA (js_up u 15 (ix x) v)) A s.heap H1 locs1 → W p l e R s m args below meth c H1 locs1 cells slots Q (F0 m (pc + 3) ls rest)) : W p l e R s m args below meth c H locs cells slots Q (F0 m pc ls (jv ad 38 v :: jv ad 118 x :: rest)) := by
  obtain ⟨i, hi, rfl⟩ := hx
  rw [ix_nI (by omega)] at kk
  exact jp_15 hc hh hi hlink hdg kk
theorem jp_16 (hc : jx_C p s m args c cc nL own D (jc_tys cA) aK A) (hh : jx_H D 158 ad (jc_cell ad aK cA u) A s.heap H locs) {i : Nat} (hi : i < 40) {v : Int32} {idx : Nat} (hlink : Cond.fieldLink own idx (F_E 2).1 (F_E 2).2.1 (F_E 2).2.2.1 ∈ jw_all) (hdg : decode cc pc = .ok (.putfield idx, 3))
    (kk : ∀ (H1 : Heap) (locs1 : List Loc), jx_H D 158 ad (jc_cell ad aK cA (js_up u 16 i v)) A s.heap H1 locs1 → W p l e R s m args below meth c H1 locs1 cells slots Q (F0 m (pc + 3) ls rest)) : W p l e R s m args below meth c H locs cells slots Q (F0 m pc ls (.int v :: jv ad 118 (nI i) :: rest)) :=
  jpx_E hc hh hi 2 (by omega) (ty := .int) hlink rfl (by decide +kernel) rfl rfl (by simp [jc_fE, js_up]) jo_16 hdg kk
theorem jpy_16 (hc : jx_C p s m args c cc nL own D (jc_tys cA) aK A) (hh : jx_H D 158 ad (jc_cell ad aK cA u) A s.heap H locs) {x : Int32} (hx : ∃ i, i < 40 ∧ x = nI i) {v : Int32} {idx : Nat} (hlink : Cond.fieldLink own idx (F_E 2).1 (F_E 2).2.1 (F_E 2).2.2.1 ∈ jw_all) (hdg : decode cc pc = .ok (.putfield idx, 3))
    (kk : ∀ (H1 : Heap) (locs1 : List Loc), jx_H D 158 ad (jc_cell ad aK cA (js_up u 16 (ix x) v)) A s.heap H1 locs1 → W p l e R s m args below meth c H1 locs1 cells slots Q (F0 m (pc + 3) ls rest)) : W p l e R s m args below meth c H locs cells slots Q (F0 m pc ls (.int v :: jv ad 118 x :: rest)) := by
  obtain ⟨i, hi, rfl⟩ := hx
  rw [ix_nI (by omega)] at kk
  exact jp_16 hc hh hi hlink hdg kk
theorem jp_17 (hc : jx_C p s m args c cc nL own D (jc_tys cA) aK A) (hh : jx_H D 158 ad (jc_cell ad aK cA u) A s.heap H locs) {i : Nat} (hi : i < 40) {v : Int32} {idx : Nat} (hlink : Cond.fieldLink own idx (F_E 3).1 (F_E 3).2.1 (F_E 3).2.2.1 ∈ jw_all) (hdg : decode cc pc = .ok (.putfield idx, 3))
    (kk : ∀ (H1 : Heap) (locs1 : List Loc), jx_H D 158 ad (jc_cell ad aK cA (js_up u 17 i v)) A s.heap H1 locs1 → W p l e R s m args below meth c H1 locs1 cells slots Q (F0 m (pc + 3) ls rest)) : W p l e R s m args below meth c H locs cells slots Q (F0 m pc ls (.int v :: jv ad 118 (nI i) :: rest)) :=
  jpx_E hc hh hi 3 (by omega) (ty := .int) hlink rfl (by decide +kernel) rfl rfl (by simp [jc_fE, js_up]) jo_17 hdg kk
theorem jpy_17 (hc : jx_C p s m args c cc nL own D (jc_tys cA) aK A) (hh : jx_H D 158 ad (jc_cell ad aK cA u) A s.heap H locs) {x : Int32} (hx : ∃ i, i < 40 ∧ x = nI i) {v : Int32} {idx : Nat} (hlink : Cond.fieldLink own idx (F_E 3).1 (F_E 3).2.1 (F_E 3).2.2.1 ∈ jw_all) (hdg : decode cc pc = .ok (.putfield idx, 3))
    (kk : ∀ (H1 : Heap) (locs1 : List Loc), jx_H D 158 ad (jc_cell ad aK cA (js_up u 17 (ix x) v)) A s.heap H1 locs1 → W p l e R s m args below meth c H1 locs1 cells slots Q (F0 m (pc + 3) ls rest)) : W p l e R s m args below meth c H locs cells slots Q (F0 m pc ls (.int v :: jv ad 118 x :: rest)) := by
  obtain ⟨i, hi, rfl⟩ := hx
  rw [ix_nI (by omega)] at kk
  exact jp_17 hc hh hi hlink hdg kk
theorem jp_18 (hc : jx_C p s m args c cc nL own D (jc_tys cA) aK A) (hh : jx_H D 158 ad (jc_cell ad aK cA u) A s.heap H locs) {i : Nat} (hi : i < 40) {v : Int32} {idx : Nat} (hlink : Cond.fieldLink own idx (F_E 4).1 (F_E 4).2.1 (F_E 4).2.2.1 ∈ jw_all) (hdg : decode cc pc = .ok (.putfield idx, 3))
    (kk : ∀ (H1 : Heap) (locs1 : List Loc), jx_H D 158 ad (jc_cell ad aK cA (js_up u 18 i v)) A s.heap H1 locs1 → W p l e R s m args below meth c H1 locs1 cells slots Q (F0 m (pc + 3) ls rest)) : W p l e R s m args below meth c H locs cells slots Q (F0 m pc ls (.int v :: jv ad 118 (nI i) :: rest)) :=
  jpx_E hc hh hi 4 (by omega) (ty := .int) hlink rfl (by decide +kernel) rfl rfl (by simp [jc_fE, js_up]) jo_18 hdg kk
theorem jpy_18 (hc : jx_C p s m args c cc nL own D (jc_tys cA) aK A) (hh : jx_H D 158 ad (jc_cell ad aK cA u) A s.heap H locs) {x : Int32} (hx : ∃ i, i < 40 ∧ x = nI i) {v : Int32} {idx : Nat} (hlink : Cond.fieldLink own idx (F_E 4).1 (F_E 4).2.1 (F_E 4).2.2.1 ∈ jw_all) (hdg : decode cc pc = .ok (.putfield idx, 3))
    (kk : ∀ (H1 : Heap) (locs1 : List Loc), jx_H D 158 ad (jc_cell ad aK cA (js_up u 18 (ix x) v)) A s.heap H1 locs1 → W p l e R s m args below meth c H1 locs1 cells slots Q (F0 m (pc + 3) ls rest)) : W p l e R s m args below meth c H locs cells slots Q (F0 m pc ls (.int v :: jv ad 118 x :: rest)) := by
  obtain ⟨i, hi, rfl⟩ := hx
  rw [ix_nI (by omega)] at kk
  exact jp_18 hc hh hi hlink hdg kk
theorem jp_19 (hc : jx_C p s m args c cc nL own D (jc_tys cA) aK A) (hh : jx_H D 158 ad (jc_cell ad aK cA u) A s.heap H locs) {i : Nat} (hi : i < 40) {v : Int32} {idx : Nat} (hlink : Cond.fieldLink own idx (F_E 5).1 (F_E 5).2.1 (F_E 5).2.2.1 ∈ jw_all) (hdg : decode cc pc = .ok (.putfield idx, 3))
    (kk : ∀ (H1 : Heap) (locs1 : List Loc), jx_H D 158 ad (jc_cell ad aK cA (js_up u 19 i v)) A s.heap H1 locs1 → W p l e R s m args below meth c H1 locs1 cells slots Q (F0 m (pc + 3) ls rest)) : W p l e R s m args below meth c H locs cells slots Q (F0 m pc ls (jv ad 78 v :: jv ad 118 (nI i) :: rest)) :=
  jpx_E hc hh hi 5 (by omega) (ty := .object "JointHistory$Document") hlink rfl (by decide +kernel) jv_nar jv_fit (by simp [jc_fE, js_up]) jo_19 hdg kk
theorem jpy_19 (hc : jx_C p s m args c cc nL own D (jc_tys cA) aK A) (hh : jx_H D 158 ad (jc_cell ad aK cA u) A s.heap H locs) {x : Int32} (hx : ∃ i, i < 40 ∧ x = nI i) {v : Int32} {idx : Nat} (hlink : Cond.fieldLink own idx (F_E 5).1 (F_E 5).2.1 (F_E 5).2.2.1 ∈ jw_all) (hdg : decode cc pc = .ok (.putfield idx, 3))
    (kk : ∀ (H1 : Heap) (locs1 : List Loc), jx_H D 158 ad (jc_cell ad aK cA (js_up u 19 (ix x) v)) A s.heap H1 locs1 → W p l e R s m args below meth c H1 locs1 cells slots Q (F0 m (pc + 3) ls rest)) : W p l e R s m args below meth c H locs cells slots Q (F0 m pc ls (jv ad 78 v :: jv ad 118 x :: rest)) := by
  obtain ⟨i, hi, rfl⟩ := hx
  rw [ix_nI (by omega)] at kk
  exact jp_19 hc hh hi hlink hdg kk
theorem ja_A (hc : jx_C p s m args c cc nL own D (jc_tys cA) aK A) (hh : jx_H D 158 ad (jc_cell ad aK cA u) A s.heap H locs) {i : Nat} (hi : i < 32) (hdg : decode cc pc = .ok (.aaload, 1))
    (kk : W p l e R s m args below meth c H locs cells slots Q (F0 m (pc + 1) ls (jv ad 6 (nI i) :: rest))) : W p l e R s m args below meth c H locs cells slots Q (F0 m pc ls (.int (nI i) :: .ref (ad 1) :: rest)) := by
  refine va_aldq (C := "JointHistory$Answer") (cA := cA 0) (n := 32) (f := fun i => some (ad (6 + i))) hc.1 hc.2.1 hc.2.2.2.2.2.1 hh.1 1 0 (by rw [jx_at (by omega), jc_c1]) rfl (vp_in_nI hi (by omega)) hdg ?_
  rw [jv_nI (by omega)] at kk
  rw [show (nI i).toNatClampNeg = i from ix_nI (by omega)]
  exact kk
theorem jax_A (hc : jx_C p s m args c cc nL own D (jc_tys cA) aK A) (hh : jx_H D 158 ad (jc_cell ad aK cA u) A s.heap H locs) {x : Int32} (hx : ∃ i, i < 32 ∧ x = nI i) (hdg : decode cc pc = .ok (.aaload, 1))
    (kk : W p l e R s m args below meth c H locs cells slots Q (F0 m (pc + 1) ls (jv ad 6 x :: rest))) : W p l e R s m args below meth c H locs cells slots Q (F0 m pc ls (.int x :: .ref (ad 1) :: rest)) := by
  obtain ⟨i, hi, rfl⟩ := hx
  exact ja_A hc hh hi hdg kk
theorem jl_A (hc : jx_C p s m args c cc nL own D (jc_tys cA) aK A) (hh : jx_H D 158 ad (jc_cell ad aK cA u) A s.heap H locs) (hdg : decode cc pc = .ok (.arraylength, 1))
    (kk : W p l e R s m args below meth c H locs cells slots Q (F0 m (pc + 1) ls (.int (nI 32) :: rest))) : W p l e R s m args below meth c H locs cells slots Q (F0 m pc ls (.ref (ad 1) :: rest)) :=
  va_alen (cA := cA 0) (x := (32, .inr (.inr (.inr (.inr (fun i => some (ad (6 + i)))))))) (ty := .object "JointHistory$Answer") hc.1 hc.2.1 hc.2.2.2.2.2.1 hh.1 1 0 (by rw [jx_at (by omega), jc_c1]) rfl rfl hdg kk
theorem ja_N (hc : jx_C p s m args c cc nL own D (jc_tys cA) aK A) (hh : jx_H D 158 ad (jc_cell ad aK cA u) A s.heap H locs) {i : Nat} (hi : i < 40) (hdg : decode cc pc = .ok (.aaload, 1))
    (kk : W p l e R s m args below meth c H locs cells slots Q (F0 m (pc + 1) ls (jv ad 38 (nI i) :: rest))) : W p l e R s m args below meth c H locs cells slots Q (F0 m pc ls (.int (nI i) :: .ref (ad 2) :: rest)) := by
  refine va_aldq (C := "JointHistory$Navigable") (cA := cA 1) (n := 40) (f := fun i => some (ad (38 + i))) hc.1 hc.2.1 hc.2.2.2.2.2.1 hh.1 2 1 (by rw [jx_at (by omega), jc_c2]) rfl (vp_in_nI hi (by omega)) hdg ?_
  rw [jv_nI (by omega)] at kk
  rw [show (nI i).toNatClampNeg = i from ix_nI (by omega)]
  exact kk
theorem jax_N (hc : jx_C p s m args c cc nL own D (jc_tys cA) aK A) (hh : jx_H D 158 ad (jc_cell ad aK cA u) A s.heap H locs) {x : Int32} (hx : ∃ i, i < 40 ∧ x = nI i) (hdg : decode cc pc = .ok (.aaload, 1))
    (kk : W p l e R s m args below meth c H locs cells slots Q (F0 m (pc + 1) ls (jv ad 38 x :: rest))) : W p l e R s m args below meth c H locs cells slots Q (F0 m pc ls (.int x :: .ref (ad 2) :: rest)) := by
  obtain ⟨i, hi, rfl⟩ := hx
  exact ja_N hc hh hi hdg kk
theorem jl_N (hc : jx_C p s m args c cc nL own D (jc_tys cA) aK A) (hh : jx_H D 158 ad (jc_cell ad aK cA u) A s.heap H locs) (hdg : decode cc pc = .ok (.arraylength, 1))
    (kk : W p l e R s m args below meth c H locs cells slots Q (F0 m (pc + 1) ls (.int (nI 40) :: rest))) : W p l e R s m args below meth c H locs cells slots Q (F0 m pc ls (.ref (ad 2) :: rest)) :=
  va_alen (cA := cA 1) (x := (40, .inr (.inr (.inr (.inr (fun i => some (ad (38 + i)))))))) (ty := .object "JointHistory$Navigable") hc.1 hc.2.1 hc.2.2.2.2.2.1 hh.1 2 1 (by rw [jx_at (by omega), jc_c2]) rfl rfl hdg kk
theorem ja_D (hc : jx_C p s m args c cc nL own D (jc_tys cA) aK A) (hh : jx_H D 158 ad (jc_cell ad aK cA u) A s.heap H locs) {i : Nat} (hi : i < 40) (hdg : decode cc pc = .ok (.aaload, 1))
    (kk : W p l e R s m args below meth c H locs cells slots Q (F0 m (pc + 1) ls (jv ad 78 (nI i) :: rest))) : W p l e R s m args below meth c H locs cells slots Q (F0 m pc ls (.int (nI i) :: .ref (ad 3) :: rest)) := by
  refine va_aldq (C := "JointHistory$Document") (cA := cA 2) (n := 40) (f := fun i => some (ad (78 + i))) hc.1 hc.2.1 hc.2.2.2.2.2.1 hh.1 3 2 (by rw [jx_at (by omega), jc_c3]) rfl (vp_in_nI hi (by omega)) hdg ?_
  rw [jv_nI (by omega)] at kk
  rw [show (nI i).toNatClampNeg = i from ix_nI (by omega)]
  exact kk
theorem jax_D (hc : jx_C p s m args c cc nL own D (jc_tys cA) aK A) (hh : jx_H D 158 ad (jc_cell ad aK cA u) A s.heap H locs) {x : Int32} (hx : ∃ i, i < 40 ∧ x = nI i) (hdg : decode cc pc = .ok (.aaload, 1))
    (kk : W p l e R s m args below meth c H locs cells slots Q (F0 m (pc + 1) ls (jv ad 78 x :: rest))) : W p l e R s m args below meth c H locs cells slots Q (F0 m pc ls (.int x :: .ref (ad 3) :: rest)) := by
  obtain ⟨i, hi, rfl⟩ := hx
  exact ja_D hc hh hi hdg kk
theorem jl_D (hc : jx_C p s m args c cc nL own D (jc_tys cA) aK A) (hh : jx_H D 158 ad (jc_cell ad aK cA u) A s.heap H locs) (hdg : decode cc pc = .ok (.arraylength, 1))
    (kk : W p l e R s m args below meth c H locs cells slots Q (F0 m (pc + 1) ls (.int (nI 40) :: rest))) : W p l e R s m args below meth c H locs cells slots Q (F0 m pc ls (.ref (ad 3) :: rest)) :=
  va_alen (cA := cA 2) (x := (40, .inr (.inr (.inr (.inr (fun i => some (ad (78 + i)))))))) (ty := .object "JointHistory$Document") hc.1 hc.2.1 hc.2.2.2.2.2.1 hh.1 3 2 (by rw [jx_at (by omega), jc_c3]) rfl rfl hdg kk
theorem ja_E (hc : jx_C p s m args c cc nL own D (jc_tys cA) aK A) (hh : jx_H D 158 ad (jc_cell ad aK cA u) A s.heap H locs) {i : Nat} (hi : i < 40) (hdg : decode cc pc = .ok (.aaload, 1))
    (kk : W p l e R s m args below meth c H locs cells slots Q (F0 m (pc + 1) ls (jv ad 118 (nI i) :: rest))) : W p l e R s m args below meth c H locs cells slots Q (F0 m pc ls (.int (nI i) :: .ref (ad 4) :: rest)) := by
  refine va_aldq (C := "JointHistory$Entry") (cA := cA 3) (n := 40) (f := fun i => some (ad (118 + i))) hc.1 hc.2.1 hc.2.2.2.2.2.1 hh.1 4 3 (by rw [jx_at (by omega), jc_c4]) rfl (vp_in_nI hi (by omega)) hdg ?_
  rw [jv_nI (by omega)] at kk
  rw [show (nI i).toNatClampNeg = i from ix_nI (by omega)]
  exact kk
theorem jax_E (hc : jx_C p s m args c cc nL own D (jc_tys cA) aK A) (hh : jx_H D 158 ad (jc_cell ad aK cA u) A s.heap H locs) {x : Int32} (hx : ∃ i, i < 40 ∧ x = nI i) (hdg : decode cc pc = .ok (.aaload, 1))
    (kk : W p l e R s m args below meth c H locs cells slots Q (F0 m (pc + 1) ls (jv ad 118 x :: rest))) : W p l e R s m args below meth c H locs cells slots Q (F0 m pc ls (.int x :: .ref (ad 4) :: rest)) := by
  obtain ⟨i, hi, rfl⟩ := hx
  exact ja_E hc hh hi hdg kk
theorem jl_E (hc : jx_C p s m args c cc nL own D (jc_tys cA) aK A) (hh : jx_H D 158 ad (jc_cell ad aK cA u) A s.heap H locs) (hdg : decode cc pc = .ok (.arraylength, 1))
    (kk : W p l e R s m args below meth c H locs cells slots Q (F0 m (pc + 1) ls (.int (nI 40) :: rest))) : W p l e R s m args below meth c H locs cells slots Q (F0 m pc ls (.ref (ad 4) :: rest)) :=
  va_alen (cA := cA 3) (x := (40, .inr (.inr (.inr (.inr (fun i => some (ad (118 + i)))))))) (ty := .object "JointHistory$Entry") hc.1 hc.2.1 hc.2.2.2.2.2.1 hh.1 4 3 (by rw [jx_at (by omega), jc_c4]) rfl rfl hdg kk
theorem ja_U (hc : jx_C p s m args c cc nL own D (jc_tys cA) aK A) (hh : jx_H D 158 ad (jc_cell ad aK cA u) A s.heap H locs) {i : Nat} (hi : i < 40) (hdg : decode cc pc = .ok (.iaload, 1))
    (kk : W p l e R s m args below meth c H locs cells slots Q (F0 m (pc + 1) ls (.int (u 20 i) :: rest))) : W p l e R s m args below meth c H locs cells slots Q (F0 m pc ls (.int (nI i) :: .ref (ad 5) :: rest)) := by
  refine va_iald (cA := cA 4) (n := 40) (f := fun i => u 20 i) hc.1 hc.2.1 hc.2.2.2.2.2.1 hh.1 5 4 (by rw [jx_at (by omega), jc_c5]) rfl (vp_in_nI hi (by omega)) hdg ?_
  rw [show (nI i).toNatClampNeg = i from ix_nI (by omega)]
  exact kk
theorem jo_U {v : Int32} {i : Nat} : ∀ j, j < 158 → j ≠ 5 → jc_cell ad aK cA (js_up u 20 i v) j = jc_cell ad aK cA u j := by
  intro j hj hne
  exact jc_cell_eq hj (fun _ => by simp [jc_fJ, js_up]) (fun e9 => absurd e9 hne) (fun i9 _ _ => by simp [jc_fA, js_up]) (fun i9 _ _ => by simp [jc_fN, js_up]) (fun i9 _ _ => by simp [jc_fD, js_up]) (fun i9 _ _ => by simp [jc_fE, js_up])
theorem jp_U (hc : jx_C p s m args c cc nL own D (jc_tys cA) aK A) (hh : jx_H D 158 ad (jc_cell ad aK cA u) A s.heap H locs) {i : Nat} (hi : i < 40) {v : Int32} (hdg : decode cc pc = .ok (.iastore, 1))
    (kk : ∀ (H1 : Heap) (locs1 : List Loc), jx_H D 158 ad (jc_cell ad aK cA (js_up u 20 i v)) A s.heap H1 locs1 → W p l e R s m args below meth c H1 locs1 cells slots Q (F0 m (pc + 1) ls rest)) : W p l e R s m args below meth c H locs cells slots Q (F0 m pc ls (.int v :: .int (nI i) :: .ref (ad 5) :: rest)) := by
  refine va_iast (cA := cA 4) (n := 40) (f := fun i => u 20 i) hc.1 hc.2.1 hc.2.2.2.2.2.1 hh.1 hh.2.1 hh.2.2 5 4 (by rw [jx_at (by omega), jc_c5]) rfl (vp_in_nI hi (by omega)) hdg (fun H1 locs1 h1 h2 h3 => kk H1 locs1 ?_)
  have e : (jx_W 158 ad (jc_cell ad aK cA u)).set 5 (ad 5, .inl (cA 4, 40, .inl (upd (fun i => u 20 i) (nI i).toNatClampNeg v))) = jx_W 158 ad (jc_cell ad aK cA (js_up u 20 i v)) := by
    have e2 : upd (fun i => u 20 i) (nI i).toNatClampNeg v = fun j => js_up u 20 i v 20 j := by
      funext j
      rw [show (nI i).toNatClampNeg = i from ix_nI (by omega)]
      simp [upd, js_up]
    rw [e2, ← jc_c5 (ad := ad) (aK := aK) (cA := cA) (s := js_up u 20 i v)]
    exact jx_set (by omega) jo_U
  rw [e] at h1 h2
  exact ⟨h1, h2, h3⟩
/-- a constant of Kind -/
theorem jk_get (hc : jx_C p s m args c cc nL own D (jc_tys cA) aK A) (hh : jx_H D 158 ad (jc_cell ad aK cA u) A s.heap H locs) {j : Nat} (hj : j < 3) {idx : Nat} (hlink : Cond.fieldLink own idx "JointHistory$Kind" (["CONTENT", "DETOUR", "FAULT"].getD j "") "LJointHistory$Kind;" ∈ jw_all) (hdg : decode cc pc = .ok (.getstatic idx, 3))
    (kk : W p l e R s m args below meth c H locs cells slots Q (F0 m (pc + 3) ls (jv aK 0 (nI j) :: rest))) : W p l e R s m args below meth c H locs cells slots Q (F0 m pc ls rest) := by
  rw [jv_nI (by omega), show 0 + j = j by omega] at kk
  exact va_gets hc.1 hc.2.1 (hc.2.2.2.2.2.2.1.1 j hj).1 hh.2.2 hc.2.2.2.1 (hc.2.2.2.2.1 _ hlink) (fun _ h => h) hdg kk
theorem jk_inj (hc : jx_C p s m args c cc nL own D (jc_tys cA) aK A) : ∀ i j, i < 3 → j < 3 → aK (0 + i) = aK (0 + j) → i = j := by
  intro i j hi hj h
  rw [show 0 + i = i by omega, show 0 + j = j by omega] at h
  exact hc.2.2.2.2.2.2.1.2 i j hi hj h
theorem jd_inj {n off k : Nat} {ce : Nat → va_E} {H0 : Heap} (hh : jx_H D n ad ce A H0 H locs) (h : off + k ≤ n) : ∀ i j, i < k → j < k → ad (off + i) = ad (off + j) → i = j := by
  intro i j hi hj e
  have := jx_inj hh.2.1 (show off + i < n by omega) (show off + j < n by omega) e
  omega
end JACC
end
section
/-! What the references and numbers of the class's store always are: so no call meets null where it must not, and no place is out of its array. -/
def jc_Sh (u : js_S) : Prop :=
  (∀ i, i < 32 → (∃ j, j < 3 ∧ u 0 i = nI j) ∧ (∃ j, j < 256 ∧ u 4 i = nI j) ∧ (u 1 i = -2 ∨ jq 256 (u 1 i)) ∧ (u 2 i = -2 ∨ jq 256 (u 2 i))) ∧
  (∀ i, i < 40 → jq 40 (u 7 i) ∧ jq 40 (u 9 i) ∧ jq 40 (u 12 i) ∧ jq 40 (u 13 i) ∧ jq 40 (u 15 i) ∧ jq 40 (u 19 i)) ∧
  (∀ i, i < 40 → u 14 i ≠ 0 → u 15 i ≠ -1 ∧ u 19 i ≠ -1) ∧
  (∀ i, i < 40 → u 7 i ≠ -1 → u 9 (ix (u 7 i)) ≠ -1)
theorem jc_S7 {u : js_S} (h : jc_Sh u) {i : Nat} (hi : i < 40) : jq 40 (u 7 i) := (h.2.1 i hi).1
theorem jc_S7x {u : js_S} (h : jc_Sh u) {x : Int32} (hx : ∃ i, i < 40 ∧ x = nI i) : jq 40 (u 7 (ix x)) := by
  obtain ⟨i, hi, rfl⟩ := hx
  rw [ix_nI (by omega)]
  exact jc_S7 h hi
theorem jc_S9 {u : js_S} (h : jc_Sh u) {i : Nat} (hi : i < 40) : jq 40 (u 9 i) := (h.2.1 i hi).2.1
theorem jc_S9x {u : js_S} (h : jc_Sh u) {x : Int32} (hx : ∃ i, i < 40 ∧ x = nI i) : jq 40 (u 9 (ix x)) := by
  obtain ⟨i, hi, rfl⟩ := hx
  rw [ix_nI (by omega)]
  exact jc_S9 h hi
theorem jc_S12 {u : js_S} (h : jc_Sh u) {i : Nat} (hi : i < 40) : jq 40 (u 12 i) := (h.2.1 i hi).2.2.1
theorem jc_S12x {u : js_S} (h : jc_Sh u) {x : Int32} (hx : ∃ i, i < 40 ∧ x = nI i) : jq 40 (u 12 (ix x)) := by
  obtain ⟨i, hi, rfl⟩ := hx
  rw [ix_nI (by omega)]
  exact jc_S12 h hi
theorem jc_S13 {u : js_S} (h : jc_Sh u) {i : Nat} (hi : i < 40) : jq 40 (u 13 i) := (h.2.1 i hi).2.2.2.1
theorem jc_S13x {u : js_S} (h : jc_Sh u) {x : Int32} (hx : ∃ i, i < 40 ∧ x = nI i) : jq 40 (u 13 (ix x)) := by
  obtain ⟨i, hi, rfl⟩ := hx
  rw [ix_nI (by omega)]
  exact jc_S13 h hi
theorem jc_S15 {u : js_S} (h : jc_Sh u) {i : Nat} (hi : i < 40) : jq 40 (u 15 i) := (h.2.1 i hi).2.2.2.2.1
theorem jc_S15x {u : js_S} (h : jc_Sh u) {x : Int32} (hx : ∃ i, i < 40 ∧ x = nI i) : jq 40 (u 15 (ix x)) := by
  obtain ⟨i, hi, rfl⟩ := hx
  rw [ix_nI (by omega)]
  exact jc_S15 h hi
theorem jc_S19 {u : js_S} (h : jc_Sh u) {i : Nat} (hi : i < 40) : jq 40 (u 19 i) := (h.2.1 i hi).2.2.2.2.2
theorem jc_S19x {u : js_S} (h : jc_Sh u) {x : Int32} (hx : ∃ i, i < 40 ∧ x = nI i) : jq 40 (u 19 (ix x)) := by
  obtain ⟨i, hi, rfl⟩ := hx
  rw [ix_nI (by omega)]
  exact jc_S19 h hi
theorem jc_Sk {u : js_S} (h : jc_Sh u) {i : Nat} (hi : i < 32) : jq 3 (u 0 i) := Or.inr (h.1 i hi).1
theorem jc_So {u : js_S} (h : jc_Sh u) {i : Nat} (hi : i < 40) (ht : ¬ u 14 i = 0) : ∃ j, j < 40 ∧ u 15 i = nI j := jq_ne (jc_S15 h hi) (h.2.2.1 i hi ht).1
theorem jc_Sd {u : js_S} (h : jc_Sh u) {i : Nat} (hi : i < 40) (ht : ¬ u 14 i = 0) : ∃ j, j < 40 ∧ u 19 i = nI j := jq_ne (jc_S19 h hi) (h.2.2.1 i hi ht).2
theorem jc_Sa {u : js_S} (h : jc_Sh u) {i : Nat} (hi : i < 40) (ht : ¬ u 7 i = -1) : ∃ j, j < 40 ∧ u 9 (ix (u 7 i)) = nI j := jq_ne (jc_S9x h (jq_ne (jc_S7 h hi) ht)) (h.2.2.2 i hi ht)
/-- entryAt answers a row that is there, or none -/
theorem jc_eA_ok {u : js_S} {nav st : Int32} (k : Nat) (hk : k ≤ 40) : jc_eA u nav st k = -1 ∨ ∃ i, i < 40 ∧ jc_eA u nav st k = nI i ∧ ¬ u 14 i = 0 ∧ u 15 i = nav := by
  induction k with
  | zero => exact Or.inl rfl
  | succ k ih =>
    unfold jc_eA
    split
    · rename_i h
      exact Or.inr ⟨k, by omega, rfl, h.1, h.2.1⟩
    · exact ih (by omega)
theorem jc_eA_jq {u : js_S} {nav st : Int32} (k : Nat) (hk : k ≤ 40) : jq 40 (jc_eA u nav st k) := by
  rcases jc_eA_ok (u := u) (nav := nav) (st := st) k hk with h | ⟨i, hi, h, -⟩
  · exact Or.inl h
  · exact Or.inr ⟨i, hi, h⟩
end
section
/-! The shape stays. -/
theorem jc_Sh_eq {u v : js_S} (h : jc_Sh u) (e0 : ∀ i, v 0 i = u 0 i) (e4 : ∀ i, v 4 i = u 4 i) (e1 : ∀ i, v 1 i = u 1 i) (e2 : ∀ i, v 2 i = u 2 i) (e7 : ∀ i, v 7 i = u 7 i) (e9 : ∀ i, v 9 i = u 9 i) (e12 : ∀ i, v 12 i = u 12 i) (e13 : ∀ i, v 13 i = u 13 i) (e15 : ∀ i, v 15 i = u 15 i) (e19 : ∀ i, v 19 i = u 19 i) (e14 : ∀ i, v 14 i = u 14 i) : jc_Sh v := by
  obtain ⟨h1, h2, h3, h4⟩ := h
  refine ⟨fun i hi => ?_, fun i hi => ?_, fun i hi => ?_, fun i hi => ?_⟩
  · rw [e0, e4, e1, e2]; exact h1 i hi
  · rw [e7, e9, e12, e13, e15, e19]; exact h2 i hi
  · rw [e14, e15, e19]; exact h3 i hi
  · rw [e7, e9]; exact h4 i hi
theorem jc_Sh_3 {u : js_S} (h : jc_Sh u) {i : Nat} {v : Int32} : jc_Sh (js_up u 3 i v) := jc_Sh_eq h (fun _ => js_up_f (by decide)) (fun _ => js_up_f (by decide)) (fun _ => js_up_f (by decide)) (fun _ => js_up_f (by decide)) (fun _ => js_up_f (by decide)) (fun _ => js_up_f (by decide)) (fun _ => js_up_f (by decide)) (fun _ => js_up_f (by decide)) (fun _ => js_up_f (by decide)) (fun _ => js_up_f (by decide)) (fun _ => js_up_f (by decide))
theorem jc_Sh_5 {u : js_S} (h : jc_Sh u) {i : Nat} {v : Int32} : jc_Sh (js_up u 5 i v) := jc_Sh_eq h (fun _ => js_up_f (by decide)) (fun _ => js_up_f (by decide)) (fun _ => js_up_f (by decide)) (fun _ => js_up_f (by decide)) (fun _ => js_up_f (by decide)) (fun _ => js_up_f (by decide)) (fun _ => js_up_f (by decide)) (fun _ => js_up_f (by decide)) (fun _ => js_up_f (by decide)) (fun _ => js_up_f (by decide)) (fun _ => js_up_f (by decide))
theorem jc_Sh_6 {u : js_S} (h : jc_Sh u) {i : Nat} {v : Int32} : jc_Sh (js_up u 6 i v) := jc_Sh_eq h (fun _ => js_up_f (by decide)) (fun _ => js_up_f (by decide)) (fun _ => js_up_f (by decide)) (fun _ => js_up_f (by decide)) (fun _ => js_up_f (by decide)) (fun _ => js_up_f (by decide)) (fun _ => js_up_f (by decide)) (fun _ => js_up_f (by decide)) (fun _ => js_up_f (by decide)) (fun _ => js_up_f (by decide)) (fun _ => js_up_f (by decide))
theorem jc_Sh_8 {u : js_S} (h : jc_Sh u) {i : Nat} {v : Int32} : jc_Sh (js_up u 8 i v) := jc_Sh_eq h (fun _ => js_up_f (by decide)) (fun _ => js_up_f (by decide)) (fun _ => js_up_f (by decide)) (fun _ => js_up_f (by decide)) (fun _ => js_up_f (by decide)) (fun _ => js_up_f (by decide)) (fun _ => js_up_f (by decide)) (fun _ => js_up_f (by decide)) (fun _ => js_up_f (by decide)) (fun _ => js_up_f (by decide)) (fun _ => js_up_f (by decide))
theorem jc_Sh_10 {u : js_S} (h : jc_Sh u) {i : Nat} {v : Int32} : jc_Sh (js_up u 10 i v) := jc_Sh_eq h (fun _ => js_up_f (by decide)) (fun _ => js_up_f (by decide)) (fun _ => js_up_f (by decide)) (fun _ => js_up_f (by decide)) (fun _ => js_up_f (by decide)) (fun _ => js_up_f (by decide)) (fun _ => js_up_f (by decide)) (fun _ => js_up_f (by decide)) (fun _ => js_up_f (by decide)) (fun _ => js_up_f (by decide)) (fun _ => js_up_f (by decide))
theorem jc_Sh_11 {u : js_S} (h : jc_Sh u) {i : Nat} {v : Int32} : jc_Sh (js_up u 11 i v) := jc_Sh_eq h (fun _ => js_up_f (by decide)) (fun _ => js_up_f (by decide)) (fun _ => js_up_f (by decide)) (fun _ => js_up_f (by decide)) (fun _ => js_up_f (by decide)) (fun _ => js_up_f (by decide)) (fun _ => js_up_f (by decide)) (fun _ => js_up_f (by decide)) (fun _ => js_up_f (by decide)) (fun _ => js_up_f (by decide)) (fun _ => js_up_f (by decide))
theorem jc_Sh_16 {u : js_S} (h : jc_Sh u) {i : Nat} {v : Int32} : jc_Sh (js_up u 16 i v) := jc_Sh_eq h (fun _ => js_up_f (by decide)) (fun _ => js_up_f (by decide)) (fun _ => js_up_f (by decide)) (fun _ => js_up_f (by decide)) (fun _ => js_up_f (by decide)) (fun _ => js_up_f (by decide)) (fun _ => js_up_f (by decide)) (fun _ => js_up_f (by decide)) (fun _ => js_up_f (by decide)) (fun _ => js_up_f (by decide)) (fun _ => js_up_f (by decide))
theorem jc_Sh_17 {u : js_S} (h : jc_Sh u) {i : Nat} {v : Int32} : jc_Sh (js_up u 17 i v) := jc_Sh_eq h (fun _ => js_up_f (by decide)) (fun _ => js_up_f (by decide)) (fun _ => js_up_f (by decide)) (fun _ => js_up_f (by decide)) (fun _ => js_up_f (by decide)) (fun _ => js_up_f (by decide)) (fun _ => js_up_f (by decide)) (fun _ => js_up_f (by decide)) (fun _ => js_up_f (by decide)) (fun _ => js_up_f (by decide)) (fun _ => js_up_f (by decide))
theorem jc_Sh_18 {u : js_S} (h : jc_Sh u) {i : Nat} {v : Int32} : jc_Sh (js_up u 18 i v) := jc_Sh_eq h (fun _ => js_up_f (by decide)) (fun _ => js_up_f (by decide)) (fun _ => js_up_f (by decide)) (fun _ => js_up_f (by decide)) (fun _ => js_up_f (by decide)) (fun _ => js_up_f (by decide)) (fun _ => js_up_f (by decide)) (fun _ => js_up_f (by decide)) (fun _ => js_up_f (by decide)) (fun _ => js_up_f (by decide)) (fun _ => js_up_f (by decide))
theorem jc_Sh_20 {u : js_S} (h : jc_Sh u) {i : Nat} {v : Int32} : jc_Sh (js_up u 20 i v) := jc_Sh_eq h (fun _ => js_up_f (by decide)) (fun _ => js_up_f (by decide)) (fun _ => js_up_f (by decide)) (fun _ => js_up_f (by decide)) (fun _ => js_up_f (by decide)) (fun _ => js_up_f (by decide)) (fun _ => js_up_f (by decide)) (fun _ => js_up_f (by decide)) (fun _ => js_up_f (by decide)) (fun _ => js_up_f (by decide)) (fun _ => js_up_f (by decide))
theorem jc_Sh_21 {u : js_S} (h : jc_Sh u) {i : Nat} {v : Int32} : jc_Sh (js_up u 21 i v) := jc_Sh_eq h (fun _ => js_up_f (by decide)) (fun _ => js_up_f (by decide)) (fun _ => js_up_f (by decide)) (fun _ => js_up_f (by decide)) (fun _ => js_up_f (by decide)) (fun _ => js_up_f (by decide)) (fun _ => js_up_f (by decide)) (fun _ => js_up_f (by decide)) (fun _ => js_up_f (by decide)) (fun _ => js_up_f (by decide)) (fun _ => js_up_f (by decide))
theorem jc_Sh_22 {u : js_S} (h : jc_Sh u) {i : Nat} {v : Int32} : jc_Sh (js_up u 22 i v) := jc_Sh_eq h (fun _ => js_up_f (by decide)) (fun _ => js_up_f (by decide)) (fun _ => js_up_f (by decide)) (fun _ => js_up_f (by decide)) (fun _ => js_up_f (by decide)) (fun _ => js_up_f (by decide)) (fun _ => js_up_f (by decide)) (fun _ => js_up_f (by decide)) (fun _ => js_up_f (by decide)) (fun _ => js_up_f (by decide)) (fun _ => js_up_f (by decide))
theorem jc_Sh_23 {u : js_S} (h : jc_Sh u) {i : Nat} {v : Int32} : jc_Sh (js_up u 23 i v) := jc_Sh_eq h (fun _ => js_up_f (by decide)) (fun _ => js_up_f (by decide)) (fun _ => js_up_f (by decide)) (fun _ => js_up_f (by decide)) (fun _ => js_up_f (by decide)) (fun _ => js_up_f (by decide)) (fun _ => js_up_f (by decide)) (fun _ => js_up_f (by decide)) (fun _ => js_up_f (by decide)) (fun _ => js_up_f (by decide)) (fun _ => js_up_f (by decide))
theorem jc_Sh_24 {u : js_S} (h : jc_Sh u) {i : Nat} {v : Int32} : jc_Sh (js_up u 24 i v) := jc_Sh_eq h (fun _ => js_up_f (by decide)) (fun _ => js_up_f (by decide)) (fun _ => js_up_f (by decide)) (fun _ => js_up_f (by decide)) (fun _ => js_up_f (by decide)) (fun _ => js_up_f (by decide)) (fun _ => js_up_f (by decide)) (fun _ => js_up_f (by decide)) (fun _ => js_up_f (by decide)) (fun _ => js_up_f (by decide)) (fun _ => js_up_f (by decide))
theorem jc_Sh_0 {u : js_S} (h : jc_Sh u) {i j : Nat} (hj : j < 3) : jc_Sh (js_up u 0 i (nI j)) := by
  obtain ⟨h1, h2, h3, h4⟩ := h
  refine ⟨fun k hk => ⟨?_, ?_⟩, h2, h3, h4⟩
  · by_cases e : k = i
    · subst e; rw [js_up_s]; exact ⟨j, hj, rfl⟩
    · rw [js_up_i e]; exact (h1 k hk).1
  · rw [js_up_f (by decide), js_up_f (by decide), js_up_f (by decide)]; exact (h1 k hk).2
theorem jc_Sh_1 {u : js_S} (h : jc_Sh u) {i : Nat} {v : Int32} (hv : v = -2 ∨ jq 256 v) : jc_Sh (js_up u 1 i v) := by
  obtain ⟨h1, h2, h3, h4⟩ := h
  refine ⟨fun k hk => ⟨(h1 k hk).1, (h1 k hk).2.1, ?_, (h1 k hk).2.2.2⟩, h2, h3, h4⟩
  by_cases e : k = i
  · subst e; rw [js_up_s]; exact hv
  · rw [js_up_i e]; exact (h1 k hk).2.2.1
theorem jc_Sh_2 {u : js_S} (h : jc_Sh u) {i : Nat} {v : Int32} (hv : v = -2 ∨ jq 256 v) : jc_Sh (js_up u 2 i v) := by
  obtain ⟨h1, h2, h3, h4⟩ := h
  refine ⟨fun k hk => ⟨(h1 k hk).1, (h1 k hk).2.1, (h1 k hk).2.2.1, ?_⟩, h2, h3, h4⟩
  by_cases e : k = i
  · subst e; rw [js_up_s]; exact hv
  · rw [js_up_i e]; exact (h1 k hk).2.2.2
theorem jc_Sh_4 {u : js_S} (h : jc_Sh u) {i j : Nat} (hj : j < 256) : jc_Sh (js_up u 4 i (nI j)) := by
  obtain ⟨h1, h2, h3, h4⟩ := h
  refine ⟨fun k hk => ⟨(h1 k hk).1, ?_, (h1 k hk).2.2⟩, h2, h3, h4⟩
  by_cases e : k = i
  · subst e; rw [js_up_s]; exact ⟨j, hj, rfl⟩
  · rw [js_up_i e]; exact (h1 k hk).2.1
theorem jc_Sh_7 {u : js_S} (h : jc_Sh u) {i d : Nat} (hd : d < 40) (ho : ¬ u 9 d = -1) : jc_Sh (js_up u 7 i (nI d)) := by
  obtain ⟨h1, h2, h3, h4⟩ := h
  refine ⟨h1, fun k hk => ⟨?_, (h2 k hk).2⟩, h3, fun k hk => ?_⟩
  · by_cases e : k = i
    · subst e; rw [js_up_s]; exact jq_nI hd
    · rw [js_up_i e]; exact (h2 k hk).1
  · rw [js_up_f (show ¬ 9 = 7 by decide)]
    by_cases e : k = i
    · subst e; rw [js_up_s, ix_nI (by omega)]; exact fun _ => ho
    · rw [js_up_i e]; exact h4 k hk
theorem jc_Sh_9 {u : js_S} (h : jc_Sh u) {i o : Nat} (ho : o < 40) : jc_Sh (js_up u 9 i (nI o)) := by
  obtain ⟨h1, h2, h3, h4⟩ := h
  refine ⟨h1, fun k hk => ⟨(h2 k hk).1, ?_, (h2 k hk).2.2⟩, h3, fun k hk => ?_⟩
  · by_cases e : k = i
    · subst e; rw [js_up_s]; exact jq_nI ho
    · rw [js_up_i e]; exact (h2 k hk).2.1
  · rw [js_up_f (show ¬ 7 = 9 by decide)]
    intro hn
    by_cases e : ix (u 7 k) = i
    · rw [e, js_up_s]; exact nI_m1 (by omega)
    · rw [js_up_i e]; exact h4 k hk hn
theorem jc_Sh_12 {u : js_S} (h : jc_Sh u) {i : Nat} {v : Int32} (hv : jq 40 v) : jc_Sh (js_up u 12 i v) := by
  obtain ⟨h1, h2, h3, h4⟩ := h
  refine ⟨h1, fun k hk => ⟨(h2 k hk).1, (h2 k hk).2.1, ?_, (h2 k hk).2.2.2⟩, h3, h4⟩
  by_cases e : k = i
  · subst e; rw [js_up_s]; exact hv
  · rw [js_up_i e]; exact (h2 k hk).2.2.1
theorem jc_Sh_13 {u : js_S} (h : jc_Sh u) {i : Nat} {v : Int32} (hv : jq 40 v) : jc_Sh (js_up u 13 i v) := by
  obtain ⟨h1, h2, h3, h4⟩ := h
  refine ⟨h1, fun k hk => ⟨(h2 k hk).1, (h2 k hk).2.1, (h2 k hk).2.2.1, ?_, (h2 k hk).2.2.2.2⟩, h3, h4⟩
  by_cases e : k = i
  · subst e; rw [js_up_s]; exact hv
  · rw [js_up_i e]; exact (h2 k hk).2.2.2.1
theorem jc_Sh_14 {u : js_S} (h : jc_Sh u) {i : Nat} : jc_Sh (js_up u 14 i 0) := by
  obtain ⟨h1, h2, h3, h4⟩ := h
  refine ⟨h1, h2, fun k hk => ?_, h4⟩
  rw [js_up_f (show ¬ 15 = 14 by decide), js_up_f (show ¬ 19 = 14 by decide)]
  by_cases e : k = i
  · subst e; rw [js_up_s]; exact fun q => absurd rfl q
  · rw [js_up_i e]; exact h3 k hk
theorem jc_Sh_19 {u : js_S} (h : jc_Sh u) {i d : Nat} (hd : d < 40) : jc_Sh (js_up u 19 i (nI d)) := by
  obtain ⟨h1, h2, h3, h4⟩ := h
  refine ⟨h1, fun k hk => ⟨(h2 k hk).1, (h2 k hk).2.1, (h2 k hk).2.2.1, (h2 k hk).2.2.2.1, (h2 k hk).2.2.2.2.1, ?_⟩, fun k hk => ?_, h4⟩
  · by_cases e : k = i
    · subst e; rw [js_up_s]; exact jq_nI hd
    · rw [js_up_i e]; exact (h2 k hk).2.2.2.2.2
  · rw [js_up_f (show ¬ 14 = 19 by decide), js_up_f (show ¬ 15 = 19 by decide)]
    by_cases e : k = i
    · subst e; rw [js_up_s]; exact fun q => ⟨(h3 k hk q).1, nI_m1 (by omega)⟩
    · rw [js_up_i e]; exact h3 k hk
theorem js_free_le {u : js_S} {f : Nat} : ∀ (k i : Nat), i ≤ js_free u f k i ∧ js_free u f k i ≤ i + k
  | 0, i => ⟨Nat.le_refl _, Nat.le_refl _⟩
  | k + 1, i => by
    unfold js_free
    split
    · exact ⟨Nat.le_refl _, by omega⟩
    · have := js_free_le (u := u) (f := f) k (i + 1)
      omega
theorem js_f39 {u : js_S} {f : Nat} : js_free u f 39 0 < 40 := by have := js_free_le (u := u) (f := f) 39 0; omega
theorem js_f38 {u : js_S} {f : Nat} : js_free u f 38 1 < 40 := by have := js_free_le (u := u) (f := f) 38 1; omega
theorem jc_Sh_add {u : js_S} (h : jc_Sh u) {o d : Nat} (ho : o < 40) (hd : d < 40) {st url state : Int32} : jc_Sh (jc_addEntry u (nI o) st url state (nI d)) := by
  unfold jc_addEntry
  generalize js_free u 14 39 0 = i
  have h5 : jc_Sh (js_up (js_up (js_up u 16 i st) 17 i url) 18 i state) := jc_Sh_18 (jc_Sh_17 (jc_Sh_16 h))
  obtain ⟨h1, h2, h3, h4⟩ := h5
  refine ⟨fun k hk => ?_, fun k hk => ?_, fun k hk => ?_, fun k hk => ?_⟩
  · have := h1 k hk
    simp only [js_up] at this ⊢
    simpa using this
  · have := h2 k hk
    simp only [js_up] at this ⊢
    by_cases e : k = i
    · subst e
      simp at this ⊢
      exact ⟨this.1, this.2.1, this.2.2.1, this.2.2.2.1, jq_nI ho, jq_nI hd⟩
    · simpa [e] using this
  · have := h3 k hk
    simp only [js_up] at this ⊢
    by_cases e : k = i
    · subst e
      simp
      exact ⟨nI_m1 (by omega), nI_m1 (by omega)⟩
    · simpa [e] using this
  · have := h4 k hk
    simp only [js_up] at this ⊢
    simpa using this
theorem jc_Sh_fd {u : js_S} (h : jc_Sh u) {o : Nat} (ho : o < 40) : jc_Sh (jc_freeDoc u (nI o)) := jc_Sh_13 (jc_Sh_12 (jc_Sh_9 (jc_Sh_8 h) ho) jq_m1) jq_m1
theorem jc_Sh_opq {u : js_S} (h : jc_Sh u) {i : Nat} : jc_Sh (jc_opq u i) := jc_Sh_10 (jc_Sh_24 h)
theorem jc_Sh_kd1 {u : js_S} (h : jc_Sh u) : ∀ k, jc_Sh (jc_kd1 u k)
  | 0 => h
  | k + 1 => jc_Sh_8 (jc_Sh_kd1 h k)
theorem jc_Sh_kd2 {u : js_S} (h : jc_Sh u) : ∀ k, jc_Sh (jc_kd2 u k)
  | 0 => h
  | k + 1 => by
    unfold jc_kd2
    split
    · exact jc_Sh_8 (jc_Sh_kd2 h k)
    · exact jc_Sh_kd2 h k
theorem jc_Sh_df {u : js_S} (h : jc_Sh u) : ∀ k, jc_Sh (jc_df u k)
  | 0 => h
  | k + 1 => by
    unfold jc_df
    split
    · exact jc_Sh_5 (jc_Sh_df h k)
    · exact jc_Sh_df h k
theorem jc_Sh_de {u : js_S} (h : jc_Sh u) : ∀ k, jc_Sh (jc_de u k)
  | 0 => h
  | k + 1 => by
    unfold jc_de
    split
    · exact jc_Sh_14 (jc_Sh_de h k)
    · exact jc_Sh_de h k
theorem jc_Sh_keep {u : js_S} (h : jc_Sh u) : jc_Sh (jc_keepDocs u) := jc_Sh_kd2 (jc_Sh_kd1 h 40) 40
theorem jc_Sh_round {u : js_S} (h : jc_Sh u) : jc_Sh (jc_round u) := jc_Sh_de (jc_Sh_df (jc_Sh_keep h) 40) 40
theorem jc_Sh_gone {u : js_S} (h : jc_Sh u) : jc_Sh (jc_gone u) := jc_Sh_round (jc_Sh_round (jc_Sh_round h))
theorem jc_Sh_dl {u : js_S} (h : jc_Sh u) : ∀ k, jc_Sh (jc_dl u k)
  | 0 => h
  | k + 1 => by
    unfold jc_dl
    split
    · exact jc_Sh_14 (jc_Sh_dl h k)
    · exact jc_Sh_dl h k
theorem jc_Sh_later {u : js_S} (h : jc_Sh u) : jc_Sh (jc_dropLater u) := jc_Sh_gone (jc_Sh_dl h 40)
theorem jc_Sh_settle {u : js_S} (h : jc_Sh u) : jc_Sh (jc_settle u) := jc_Sh_21 h
end
section
/-! The cells of the reference: 0 the object, 1 + f the array of field f (f < 21). -/
def jm_fM (ad : Nat → Nat) (s : js_S) : List Value := [.ref (ad 1), .ref (ad 2), .ref (ad 3), .ref (ad 4), .ref (ad 5), .ref (ad 6), .ref (ad 7), .ref (ad 8), .ref (ad 9), .ref (ad 10), .ref (ad 11), .ref (ad 12), .ref (ad 13), .ref (ad 14), .ref (ad 15), .ref (ad 16), .ref (ad 17), .ref (ad 18), .ref (ad 19), .ref (ad 20), .ref (ad 21), .int (s 21 0), .int (s 22 0), .int (s 23 0), .int (s 24 0), .int (s 25 0)]
def jm_ty (f : Nat) : Nat := if f = 3 ∨ f = 9 ∨ f = 10 ∨ f = 12 ∨ f = 15 ∨ f = 17 ∨ f = 19 ∨ f = 20 then 5 else 4
def jm_len (f : Nat) : Nat := if f < 4 then 32 else 48
def jm_cell (ad : Nat → Nat) (cA : Nat → ClassId) (s : js_S) (k : Nat) : va_E :=
  if k = 0 then .inr (5, jm_fM ad s) else .inl (cA (jm_ty (k - 1)), jm_len (k - 1), .inl (fun i => s (k - 1) i))
theorem jm_c0 {ad : Nat → Nat} {cA : Nat → ClassId} {s : js_S} : jm_cell ad cA s 0 = .inr (5, jm_fM ad s) := rfl
theorem jm_cf {ad : Nat → Nat} {cA : Nat → ClassId} {s : js_S} {f : Nat} : jm_cell ad cA s (1 + f) = .inl (cA (jm_ty f), jm_len f, .inl (fun i => s f i)) := by
  unfold jm_cell
  rw [if_neg (by omega), show 1 + f - 1 = f by omega]
theorem jm_len31 (f : Nat) : jm_len f < 2 ^ 31 := by
  unfold jm_len
  split <;> decide
theorem js_narz {v : Int32} (h : v = 0 ∨ v = 1) : vp_nar .boolean v = v := by
  rcases h with rfl | rfl <;> rfl
section JMA
variable {p : Program} {l : Launch} {e : Env} {R : Room} {s : State} {m : MethodId} {args : Array Value} {below : List Frame} {meth : Method} {c : Code} {H : Heap} {locs : List Loc} {cells slots : Nat} {Q : State → Prop} {cc : ByteArray} {pc nL : Nat} {ls : Array Slot} {rest : List Value} {own : String} {D : va_G} {aK : Nat → Nat} {ad : Nat → Nat} {cA : Nat → ClassId} {A : Nat → Prop} {u : js_S}
theorem jg_M (hc : jx_C p s m args c cc nL own D (jc_tys cA) aK A) (hh : jx_H D 22 ad (jm_cell ad cA u) A s.heap H locs) (k : Nat) (hk : k < 26) {v : Value} {idx : Nat} (hv : (jm_fM ad u)[k]? = some v) (hlink : Cond.fieldLink own idx (F_M k).1 (F_M k).2.1 (F_M k).2.2.1 ∈ jw_all) (hdg : decode cc pc = .ok (.getfield idx, 3))
    (kk : W p l e R s m args below meth c H locs cells slots Q (F0 m (pc + 3) ls (v :: rest))) : W p l e R s m args below meth c H locs cells slots Q (F0 m pc ls (.ref (ad 0) :: rest)) :=
  va_get (ci := 5) (C := R_M) (T := F_M) (N := 26) hc.1 hc.2.1 hc.2.2.2.2.1 jn_M hc.2.2.2.1 hc.2.2.2.2.2.1 hh.1 0 (by rw [jx_at (by omega), jm_c0]) rfl k hk (hc.2.2.2.2.1 _ hlink) (fun _ h => h) hv hdg kk
theorem jp_M (hc : jx_C p s m args c cc nL own D (jc_tys cA) aK A) (hh : jx_H D 22 ad (jm_cell ad cA u) A s.heap H locs) (k : Nat) (hk : k < 26) {v : Int32} {u' : js_S} {idx : Nat} (hlink : Cond.fieldLink own idx (F_M k).1 (F_M k).2.1 (F_M k).2.2.1 ∈ jw_all) (hfin : (F_M k).2.2.2 = false) (hd : parseFieldDescriptor (F_M k).2.2.1 = some .int) (hset : (jm_fM ad u).set k (.int v) = jm_fM ad u') (hoth : ∀ j, j < 22 → j ≠ 0 → jm_cell ad cA u' j = jm_cell ad cA u j) (hdg : decode cc pc = .ok (.putfield idx, 3))
    (kk : ∀ (H1 : Heap) (locs1 : List Loc), jx_H D 22 ad (jm_cell ad cA u') A s.heap H1 locs1 → W p l e R s m args below meth c H1 locs1 cells slots Q (F0 m (pc + 3) ls rest)) : W p l e R s m args below meth c H locs cells slots Q (F0 m pc ls (.int v :: .ref (ad 0) :: rest)) := by
  refine va_put (fs := jm_fM ad u) (ci := 5) (C := R_M) (T := F_M) (N := 26) hc.1 hc.2.1 hc.2.2.2.2.1 jn_M t_M t_M_ok n_M hc.2.2.2.1 hc.2.2.2.2.2.1 hh.1 hh.2.1 hh.2.2 0 (by rw [jx_at (by omega), jm_c0]) rfl k hk (hc.2.2.2.2.1 _ hlink) (fun _ h => h) hfin hd rfl rfl (show k < 26 from hk) hdg (fun H1 locs1 h1 h2 h3 => kk H1 locs1 ?_)
  have e : (jx_W 22 ad (jm_cell ad cA u)).set 0 (ad 0, .inr (5, (jm_fM ad u).set k (.int v))) = jx_W 22 ad (jm_cell ad cA u') := by
    rw [hset, ← jm_c0 (cA := cA)]
    exact jx_set (by omega) hoth
  rw [e] at h1 h2
  exact ⟨h1, h2, h3⟩
theorem jpm_21 (hc : jx_C p s m args c cc nL own D (jc_tys cA) aK A) (hh : jx_H D 22 ad (jm_cell ad cA u) A s.heap H locs) {v : Int32} {idx : Nat} (hlink : Cond.fieldLink own idx (F_M 21).1 (F_M 21).2.1 (F_M 21).2.2.1 ∈ jw_all) (hdg : decode cc pc = .ok (.putfield idx, 3))
    (kk : ∀ (H1 : Heap) (locs1 : List Loc), jx_H D 22 ad (jm_cell ad cA (js_up u 21 0 v)) A s.heap H1 locs1 → W p l e R s m args below meth c H1 locs1 cells slots Q (F0 m (pc + 3) ls rest)) : W p l e R s m args below meth c H locs cells slots Q (F0 m pc ls (.int v :: .ref (ad 0) :: rest)) :=
  jp_M hc hh 21 (by omega) hlink rfl (by decide +kernel) (by simp [jm_fM, js_up]) (fun j hj hne => by
    obtain ⟨f9, rfl⟩ : ∃ f9, j = 1 + f9 := ⟨j - 1, by omega⟩
    rw [jm_cf, jm_cf]
    have e9 : (fun i => js_up u 21 0 v f9 i) = (fun i => u f9 i) := by
      funext i
      exact js_up_f (by omega)
    rw [e9]) hdg kk
theorem jpm_22 (hc : jx_C p s m args c cc nL own D (jc_tys cA) aK A) (hh : jx_H D 22 ad (jm_cell ad cA u) A s.heap H locs) {v : Int32} {idx : Nat} (hlink : Cond.fieldLink own idx (F_M 22).1 (F_M 22).2.1 (F_M 22).2.2.1 ∈ jw_all) (hdg : decode cc pc = .ok (.putfield idx, 3))
    (kk : ∀ (H1 : Heap) (locs1 : List Loc), jx_H D 22 ad (jm_cell ad cA (js_up u 22 0 v)) A s.heap H1 locs1 → W p l e R s m args below meth c H1 locs1 cells slots Q (F0 m (pc + 3) ls rest)) : W p l e R s m args below meth c H locs cells slots Q (F0 m pc ls (.int v :: .ref (ad 0) :: rest)) :=
  jp_M hc hh 22 (by omega) hlink rfl (by decide +kernel) (by simp [jm_fM, js_up]) (fun j hj hne => by
    obtain ⟨f9, rfl⟩ : ∃ f9, j = 1 + f9 := ⟨j - 1, by omega⟩
    rw [jm_cf, jm_cf]
    have e9 : (fun i => js_up u 22 0 v f9 i) = (fun i => u f9 i) := by
      funext i
      exact js_up_f (by omega)
    rw [e9]) hdg kk
theorem jpm_23 (hc : jx_C p s m args c cc nL own D (jc_tys cA) aK A) (hh : jx_H D 22 ad (jm_cell ad cA u) A s.heap H locs) {v : Int32} {idx : Nat} (hlink : Cond.fieldLink own idx (F_M 23).1 (F_M 23).2.1 (F_M 23).2.2.1 ∈ jw_all) (hdg : decode cc pc = .ok (.putfield idx, 3))
    (kk : ∀ (H1 : Heap) (locs1 : List Loc), jx_H D 22 ad (jm_cell ad cA (js_up u 23 0 v)) A s.heap H1 locs1 → W p l e R s m args below meth c H1 locs1 cells slots Q (F0 m (pc + 3) ls rest)) : W p l e R s m args below meth c H locs cells slots Q (F0 m pc ls (.int v :: .ref (ad 0) :: rest)) :=
  jp_M hc hh 23 (by omega) hlink rfl (by decide +kernel) (by simp [jm_fM, js_up]) (fun j hj hne => by
    obtain ⟨f9, rfl⟩ : ∃ f9, j = 1 + f9 := ⟨j - 1, by omega⟩
    rw [jm_cf, jm_cf]
    have e9 : (fun i => js_up u 23 0 v f9 i) = (fun i => u f9 i) := by
      funext i
      exact js_up_f (by omega)
    rw [e9]) hdg kk
theorem jpm_24 (hc : jx_C p s m args c cc nL own D (jc_tys cA) aK A) (hh : jx_H D 22 ad (jm_cell ad cA u) A s.heap H locs) {v : Int32} {idx : Nat} (hlink : Cond.fieldLink own idx (F_M 24).1 (F_M 24).2.1 (F_M 24).2.2.1 ∈ jw_all) (hdg : decode cc pc = .ok (.putfield idx, 3))
    (kk : ∀ (H1 : Heap) (locs1 : List Loc), jx_H D 22 ad (jm_cell ad cA (js_up u 24 0 v)) A s.heap H1 locs1 → W p l e R s m args below meth c H1 locs1 cells slots Q (F0 m (pc + 3) ls rest)) : W p l e R s m args below meth c H locs cells slots Q (F0 m pc ls (.int v :: .ref (ad 0) :: rest)) :=
  jp_M hc hh 24 (by omega) hlink rfl (by decide +kernel) (by simp [jm_fM, js_up]) (fun j hj hne => by
    obtain ⟨f9, rfl⟩ : ∃ f9, j = 1 + f9 := ⟨j - 1, by omega⟩
    rw [jm_cf, jm_cf]
    have e9 : (fun i => js_up u 24 0 v f9 i) = (fun i => u f9 i) := by
      funext i
      exact js_up_f (by omega)
    rw [e9]) hdg kk
theorem jpm_25 (hc : jx_C p s m args c cc nL own D (jc_tys cA) aK A) (hh : jx_H D 22 ad (jm_cell ad cA u) A s.heap H locs) {v : Int32} {idx : Nat} (hlink : Cond.fieldLink own idx (F_M 25).1 (F_M 25).2.1 (F_M 25).2.2.1 ∈ jw_all) (hdg : decode cc pc = .ok (.putfield idx, 3))
    (kk : ∀ (H1 : Heap) (locs1 : List Loc), jx_H D 22 ad (jm_cell ad cA (js_up u 25 0 v)) A s.heap H1 locs1 → W p l e R s m args below meth c H1 locs1 cells slots Q (F0 m (pc + 3) ls rest)) : W p l e R s m args below meth c H locs cells slots Q (F0 m pc ls (.int v :: .ref (ad 0) :: rest)) :=
  jp_M hc hh 25 (by omega) hlink rfl (by decide +kernel) (by simp [jm_fM, js_up]) (fun j hj hne => by
    obtain ⟨f9, rfl⟩ : ∃ f9, j = 1 + f9 := ⟨j - 1, by omega⟩
    rw [jm_cf, jm_cf]
    have e9 : (fun i => js_up u 25 0 v f9 i) = (fun i => u f9 i) := by
      funext i
      exact js_up_f (by omega)
    rw [e9]) hdg kk
theorem jm_ild (hc : jx_C p s m args c cc nL own D (jc_tys cA) aK A) (hh : jx_H D 22 ad (jm_cell ad cA u) A s.heap H locs) (f : Nat) (hf : f < 21) (ht : jm_ty f = 4) {x : Int32} (hx : ∃ i, i < jm_len f ∧ x = nI i) (hdg : decode cc pc = .ok (.iaload, 1))
    (kk : W p l e R s m args below meth c H locs cells slots Q (F0 m (pc + 1) ls (.int (u f (ix x)) :: rest))) : W p l e R s m args below meth c H locs cells slots Q (F0 m pc ls (.int x :: .ref (ad (1 + f)) :: rest)) := by
  obtain ⟨i, hi, rfl⟩ := hx
  exact va_iald (cA := cA 4) (n := jm_len f) (f := fun i => u f i) hc.1 hc.2.1 hc.2.2.2.2.2.1 hh.1 (1 + f) 4 (by rw [jx_at (by omega), jm_cf, ht]) rfl (vp_in_nI hi (jm_len31 f)) hdg kk
theorem jm_zld (hc : jx_C p s m args c cc nL own D (jc_tys cA) aK A) (hh : jx_H D 22 ad (jm_cell ad cA u) A s.heap H locs) (f : Nat) (hf : f < 21) (ht : jm_ty f = 5) {x : Int32} (hx : ∃ i, i < jm_len f ∧ x = nI i) (hdg : decode cc pc = .ok (.baload, 1))
    (kk : W p l e R s m args below meth c H locs cells slots Q (F0 m (pc + 1) ls (.int (u f (ix x)) :: rest))) : W p l e R s m args below meth c H locs cells slots Q (F0 m pc ls (.int x :: .ref (ad (1 + f)) :: rest)) := by
  obtain ⟨i, hi, rfl⟩ := hx
  exact va_zald (cA := cA 5) (n := jm_len f) (f := fun i => u f i) hc.1 hc.2.1 hc.2.2.2.2.2.1 hh.1 (1 + f) 5 (by rw [jx_at (by omega), jm_cf, ht]) rfl (vp_in_nI hi (jm_len31 f)) hdg kk
theorem jm_oth {f i : Nat} {v : Int32} (hf : f < 21) : ∀ j, j < 22 → j ≠ 1 + f → jm_cell ad cA (js_up u f i v) j = jm_cell ad cA u j := by
  intro j hj hne
  by_cases h0 : j = 0
  · subst h0
    rw [jm_c0, jm_c0]
    simp only [jm_fM]
    rw [js_up_f (show ¬ 21 = f by omega), js_up_f (show ¬ 22 = f by omega), js_up_f (show ¬ 23 = f by omega), js_up_f (show ¬ 24 = f by omega), js_up_f (show ¬ 25 = f by omega)]
  · obtain ⟨f9, rfl⟩ : ∃ f9, j = 1 + f9 := ⟨j - 1, by omega⟩
    rw [jm_cf, jm_cf]
    have e9 : (fun i9 => js_up u f i v f9 i9) = (fun i9 => u f9 i9) := by
      funext i9
      exact js_up_f (by omega)
    rw [e9]
theorem jm_upd {f i : Nat} {v : Int32} : upd (fun j => u f j) i v = fun j => js_up u f i v f j := by
  funext j
  simp [upd, js_up]
theorem jm_ist (hc : jx_C p s m args c cc nL own D (jc_tys cA) aK A) (hh : jx_H D 22 ad (jm_cell ad cA u) A s.heap H locs) (f : Nat) (hf : f < 21) (ht : jm_ty f = 4) {x v : Int32} (hx : ∃ i, i < jm_len f ∧ x = nI i) (hdg : decode cc pc = .ok (.iastore, 1))
    (kk : ∀ (H1 : Heap) (locs1 : List Loc), jx_H D 22 ad (jm_cell ad cA (js_up u f (ix x) v)) A s.heap H1 locs1 → W p l e R s m args below meth c H1 locs1 cells slots Q (F0 m (pc + 1) ls rest)) : W p l e R s m args below meth c H locs cells slots Q (F0 m pc ls (.int v :: .int x :: .ref (ad (1 + f)) :: rest)) := by
  obtain ⟨i, hi, rfl⟩ := hx
  refine va_iast (cA := cA 4) (n := jm_len f) (f := fun i => u f i) hc.1 hc.2.1 hc.2.2.2.2.2.1 hh.1 hh.2.1 hh.2.2 (1 + f) 4 (by rw [jx_at (by omega), jm_cf, ht]) rfl (vp_in_nI hi (jm_len31 f)) hdg (fun H1 locs1 h1 h2 h3 => kk H1 locs1 ?_)
  have e : (jx_W 22 ad (jm_cell ad cA u)).set (1 + f) (ad (1 + f), .inl (cA 4, jm_len f, .inl (upd (fun j => u f j) (nI i).toNatClampNeg v))) = jx_W 22 ad (jm_cell ad cA (js_up u f (ix (nI i)) v)) := by
    rw [jm_upd, ← jx_set (ce' := jm_cell ad cA (js_up u f (ix (nI i)) v)) (show 1 + f < 22 by omega) (jm_oth hf), jm_cf, ht]
  rw [e] at h1 h2
  exact ⟨h1, h2, h3⟩
theorem jm_zst (hc : jx_C p s m args c cc nL own D (jc_tys cA) aK A) (hh : jx_H D 22 ad (jm_cell ad cA u) A s.heap H locs) (f : Nat) (hf : f < 21) (ht : jm_ty f = 5) {x v : Int32} (hx : ∃ i, i < jm_len f ∧ x = nI i) (hz : v = 0 ∨ v = 1) (hdg : decode cc pc = .ok (.bastore, 1))
    (kk : ∀ (H1 : Heap) (locs1 : List Loc), jx_H D 22 ad (jm_cell ad cA (js_up u f (ix x) v)) A s.heap H1 locs1 → W p l e R s m args below meth c H1 locs1 cells slots Q (F0 m (pc + 1) ls rest)) : W p l e R s m args below meth c H locs cells slots Q (F0 m pc ls (.int v :: .int x :: .ref (ad (1 + f)) :: rest)) := by
  obtain ⟨i, hi, rfl⟩ := hx
  refine va_zast (cA := cA 5) (n := jm_len f) (f := fun i => u f i) hc.1 hc.2.1 hc.2.2.2.2.2.1 hh.1 hh.2.1 hh.2.2 (1 + f) 5 (by rw [jx_at (by omega), jm_cf, ht]) rfl (vp_in_nI hi (jm_len31 f)) hdg (fun H1 locs1 h1 h2 h3 => kk H1 locs1 ?_)
  rw [js_narz hz] at h1 h2
  have e : (jx_W 22 ad (jm_cell ad cA u)).set (1 + f) (ad (1 + f), .inl (cA 5, jm_len f, .inl (upd (fun j => u f j) (nI i).toNatClampNeg v))) = jx_W 22 ad (jm_cell ad cA (js_up u f (ix (nI i)) v)) := by
    rw [jm_upd, ← jx_set (ce' := jm_cell ad cA (js_up u f (ix (nI i)) v)) (show 1 + f < 22 by omega) (jm_oth hf), jm_cf, ht]
  rw [e] at h1 h2
  exact ⟨h1, h2, h3⟩
end JMA
end
section
/-! Small facts of numbers that the walks of the class want. -/
theorem js_in {x : Int32} (k : Nat) (hk : k < 2 ^ 31) (h0 : ¬ x < 0) (h1 : ¬ nI k ≤ x) : ∃ i, i < k ∧ x = nI i := by
  rcases pk_ix x hk with h | h | h
  · exact absurd h h0
  · exact absurd h h1
  · exact h
theorem js_pg {x : Int32} (h : jq 256 x) (hx : ¬ x = -1) : ∃ i, i < 32 ∧ x / 8 = nI i := by
  obtain ⟨j, hj, rfl⟩ := jq_ne h hx
  exact ⟨j / 8, by omega, pk_div (d := 8) (by omega) (by decide) (by decide)⟩
theorem js_hs {x : Int32} (h : jq 256 x) (hx : ¬ x = -1) : ∃ i, i < 4 ∧ x / 64 = nI i := by
  obtain ⟨j, hj, rfl⟩ := jq_ne h hx
  exact ⟨j / 64, by omega, pk_div (d := 64) (by omega) (by decide) (by decide)⟩
theorem jc_frag_nI {j : Nat} (hj : j < 2 ^ 31) : jc_frag (nI j) = nI (j % 8) := by
  unfold jc_frag
  rw [if_neg (nI_m1 hj)]
  exact pk_rem (d := 8) hj (by decide) (by decide)
theorem jc_isDet_ne {u : js_S} {x : Int32} (h : ¬ jc_isDet u x = 0) : ¬ x = -1 := by
  intro e
  apply h
  simp [jc_isDet, e]
theorem jc_Sax {u : js_S} (h : jc_Sh u) {x : Int32} (hx : ∃ i, i < 40 ∧ x = nI i) (ht : ¬ u 7 (ix x) = -1) : ∃ j, j < 40 ∧ u 9 (ix (u 7 (ix x))) = nI j := by
  obtain ⟨i, hi, rfl⟩ := hx
  rw [ix_nI (by omega)] at ht ⊢
  exact jc_Sa h hi ht
theorem jc_Skx {u : js_S} (h : jc_Sh u) {x : Int32} (hx : ∃ i, i < 32 ∧ x = nI i) : jq 3 (u 0 (ix x)) := by
  obtain ⟨i, hi, rfl⟩ := hx
  rw [ix_nI (by omega)]
  exact jc_Sk h hi
theorem jc_Stx {u : js_S} (h : jc_Sh u) {x : Int32} (hx : ∃ i, i < 32 ∧ x = nI i) : ∃ j, j < 256 ∧ u 4 (ix x) = nI j := by
  obtain ⟨i, hi, rfl⟩ := hx
  rw [ix_nI (by omega)]
  exact (h.1 i hi).2.1
theorem jc_Sfx {u : js_S} (h : jc_Sh u) {x : Int32} (hx : ∃ i, i < 32 ∧ x = nI i) (hn : ¬ u 1 (ix x) = -2) : jq 256 (u 1 (ix x)) := by
  obtain ⟨i, hi, rfl⟩ := hx
  rw [ix_nI (by omega)] at hn ⊢
  exact (h.1 i hi).2.2.1.resolve_left hn
theorem jc_Ssx {u : js_S} (h : jc_Sh u) {x : Int32} (hx : ∃ i, i < 32 ∧ x = nI i) (hn : ¬ u 2 (ix x) = -2) : jq 256 (u 2 (ix x)) := by
  obtain ⟨i, hi, rfl⟩ := hx
  rw [ix_nI (by omega)] at hn ⊢
  exact (h.1 i hi).2.2.2.resolve_left hn
theorem js_tf {t x : Int32} (ht : ∃ j, j < 256 ∧ t = nI j) (hx : jq 256 x) (h0 : jc_frag t = 0) : jq 256 (t + jc_frag x) := by
  obtain ⟨j, hj, rfl⟩ := ht
  rw [jc_frag_nI (by omega)] at h0
  have h8 : j % 8 = 0 := by
    have := (nI_eq (a := j % 8) (b := 0) (by omega) (by omega)).mp h0
    exact this
  rcases hx with rfl | ⟨k, hk, rfl⟩
  · simp only [jc_frag]
    exact Or.inr ⟨j, hj, by simp⟩
  · rw [jc_frag_nI (by omega), nI_add]
    exact jq_nI (by omega)
theorem jc_led {u : js_S} (h : jc_Sh u) {x : Int32} (hx : jq 256 x) (hd : ¬ jc_isDet u x = 0) : jq 256 (if jc_frag (u 4 (ix (x / 8))) = 0 then u 4 (ix (x / 8)) + jc_frag x else u 4 (ix (x / 8))) := by
  have ht := jc_Stx h (js_pg hx (jc_isDet_ne hd))
  split
  · rename_i h0
    exact js_tf ht hx h0
  · exact Or.inr ht
theorem jc_fd_ok {u : js_S} (h : jc_Sh u) : ∀ (k : Nat) {x : Int32}, jq 256 x → jq 256 (jc_fd u k x)
  | 0, x, hx => hx
  | k + 1, x, hx => by
    unfold jc_fd
    split
    · exact hx
    · rename_i hd
      exact jc_fd_ok h k (jc_led h hx hd)
theorem jc_boxed_z {u : js_S} {a : Int32} : jc_boxed u a = 0 ∨ jc_boxed u a = 1 := by
  unfold jc_boxed
  split
  · exact Or.inl rfl
  · split
    · exact Or.inl rfl
    · exact Or.inr rfl
theorem jc_bx_z {u : js_S} {a b : Int32} : jc_bx u a b = 0 ∨ jc_bx u a b = 1 := by
  unfold jc_bx
  split
  · split
    · exact Or.inl rfl
    · exact Or.inr rfl
  · exact Or.inr rfl
theorem jc_Sh_fdx {u : js_S} (h : jc_Sh u) {o : Int32} (ho : ∃ i, i < 40 ∧ o = nI i) : jc_Sh (jc_freeDoc u o) := by
  obtain ⟨i, hi, rfl⟩ := ho
  exact jc_Sh_fd h hi
theorem jc_Sh_ldC {u : js_S} (h : jc_Sh u) {i : Nat} {url bx : Int32} : jc_Sh (jc_ldC u i url bx) := by
  unfold jc_ldC
  split
  · exact jc_Sh_10 (jc_Sh_11 h)
  · exact jc_Sh_opq (jc_Sh_11 h)
theorem jc_Sh_ldA {u : js_S} (h : jc_Sh u) {i : Nat} {a b : Int32} : jc_Sh (jc_ldA u i a b) := by
  unfold jc_ldA
  split
  · exact jc_Sh_opq (jc_Sh_11 h)
  · split
    · exact jc_Sh_10 (jc_Sh_11 h)
    · exact jc_Sh_opq (jc_Sh_11 h)
end
section
set_option maxHeartbeats 4000000 in
set_option maxRecDepth 100000 in
theorem c_isPage (l : Launch) (D : va_G) (aK ad : Nat → Nat) (cA : Nat → ClassId) (u : js_S) (x : Int32) : jx_M l y_J_isPage b_J_isPage 1 (some .boolean) (jr 1) D (jc_tys cA) aK 158 ad (jc_cell ad aK cA) [.int x] u (fun r : Int32 => some (.int r)) (fun r u' => r = jc_isPage x ∧ u' = u) := by
  refine jx_enter "JointHistory" (by decide) rfl (by simp [lg_sl, vc_int, vc_ref, vc_long, jv_cat]) ?_
  intro p e s m args below meth c A Q H locs ls hQ hc hh hr hlk hl
  have hx := hc.1
  have hb := hc.2.1
  have hl : lv_has ls 1 [(0, .int x)] := by simpa [lv_args, vc_int, vc_ref, vc_long, jv_cat] using hl
  refine lv_iload_n hx hb d_J_isPage_0 rfl (lv_at hl 0 rfl) ?_
  refine lv_if_lt (tgt := 14) hx hb d_J_isPage_1 rfl (fun h1 => ?_) (fun h1 => ?_)
  ·
    refine lv_iconst (v := 0) hx hb d_J_isPage_14 (by decide) ?_
    exact jx_iret (r := 0) hc hh hQ hlk hr (by decide) rfl ⟨by simp [jc_isPage, h1], rfl⟩ d_J_isPage_15
  refine lv_iload_n hx hb d_J_isPage_4 rfl (lv_at hl 0 rfl) ?_
  refine lv_bipush (v := 32) hx hb d_J_isPage_5 (by decide) ?_
  refine lv_icmp_ge (tgt := 14) hx hb d_J_isPage_7 rfl (fun h7 => ?_) (fun h7 => ?_)
  ·
    refine lv_iconst (v := 0) hx hb d_J_isPage_14 (by decide) ?_
    exact jx_iret (r := 0) hc hh hQ hlk hr (by decide) rfl ⟨by simp [jc_isPage, h1, h7], rfl⟩ d_J_isPage_15
  refine lv_iconst (v := 1) hx hb d_J_isPage_10 (by decide) ?_
  refine lv_goto (tgt := 15) hx hb d_J_isPage_11 rfl ?_
  exact jx_iret (r := 1) hc hh hQ hlk hr (by decide) rfl ⟨by simp [jc_isPage, h1, h7], rfl⟩ d_J_isPage_15
set_option maxHeartbeats 4000000 in
set_option maxRecDepth 100000 in
theorem c_isUrl (l : Launch) (D : va_G) (aK ad : Nat → Nat) (cA : Nat → ClassId) (u : js_S) (x : Int32) : jx_M l y_J_isUrl b_J_isUrl 1 (some .boolean) (jr 1) D (jc_tys cA) aK 158 ad (jc_cell ad aK cA) [.int x] u (fun r : Int32 => some (.int r)) (fun r u' => r = jc_isUrl x ∧ u' = u) := by
  refine jx_enter "JointHistory" (by decide) rfl (by simp [lg_sl, vc_int, vc_ref, vc_long, jv_cat]) ?_
  intro p e s m args below meth c A Q H locs ls hQ hc hh hr hlk hl
  have hx := hc.1
  have hb := hc.2.1
  have hl : lv_has ls 1 [(0, .int x)] := by simpa [lv_args, vc_int, vc_ref, vc_long, jv_cat] using hl
  refine lv_iload_n hx hb d_J_isUrl_0 rfl (lv_at hl 0 rfl) ?_
  refine lv_if_lt (tgt := 15) hx hb d_J_isUrl_1 rfl (fun h1 => ?_) (fun h1 => ?_)
  ·
    refine lv_iconst (v := 0) hx hb d_J_isUrl_15 (by decide) ?_
    exact jx_iret (r := 0) hc hh hQ hlk hr (by decide) rfl ⟨by simp [jc_isUrl, h1], rfl⟩ d_J_isUrl_16
  refine lv_iload_n hx hb d_J_isUrl_4 rfl (lv_at hl 0 rfl) ?_
  refine lv_sipush (v := 256) hx hb d_J_isUrl_5 (by decide) ?_
  refine lv_icmp_ge (tgt := 15) hx hb d_J_isUrl_8 rfl (fun h8 => ?_) (fun h8 => ?_)
  ·
    refine lv_iconst (v := 0) hx hb d_J_isUrl_15 (by decide) ?_
    exact jx_iret (r := 0) hc hh hQ hlk hr (by decide) rfl ⟨by simp [jc_isUrl, h1, h8], rfl⟩ d_J_isUrl_16
  refine lv_iconst (v := 1) hx hb d_J_isUrl_11 (by decide) ?_
  refine lv_goto (tgt := 16) hx hb d_J_isUrl_12 rfl ?_
  exact jx_iret (r := 1) hc hh hQ hlk hr (by decide) rfl ⟨by simp [jc_isUrl, h1, h8], rfl⟩ d_J_isUrl_16
set_option maxHeartbeats 4000000 in
set_option maxRecDepth 100000 in
theorem c_isUrlOrBlank (l : Launch) (D : va_G) (aK ad : Nat → Nat) (cA : Nat → ClassId) (u : js_S) (x : Int32) : jx_M l y_J_isUrlOrBlank b_J_isUrlOrBlank 1 (some .boolean) (jr 2) D (jc_tys cA) aK 158 ad (jc_cell ad aK cA) [.int x] u (fun r : Int32 => some (.int r)) (fun r u' => r = jc_isUB x ∧ u' = u) := by
  refine jx_enter "JointHistory" (by decide) rfl (by simp [lg_sl, vc_int, vc_ref, vc_long, jv_cat]) ?_
  intro p e s m args below meth c A Q H locs ls hQ hc hh hr hlk hl
  have hx := hc.1
  have hb := hc.2.1
  have hl : lv_has ls 1 [(0, .int x)] := by simpa [lv_args, vc_int, vc_ref, vc_long, jv_cat] using hl
  refine lv_iload_n hx hb d_J_isUrlOrBlank_0 rfl (lv_at hl 0 rfl) ?_
  refine lv_iconst (v := -1) hx hb d_J_isUrlOrBlank_1 (by decide) ?_
  refine lv_icmp_eq (tgt := 12) hx hb d_J_isUrlOrBlank_2 rfl (fun h2 => ?_) (fun h2 => ?_)
  ·
    refine lv_iconst (v := 1) hx hb d_J_isUrlOrBlank_12 (by decide) ?_
    refine lv_goto (tgt := 17) hx hb d_J_isUrlOrBlank_13 rfl ?_
    exact jx_iret (r := 1) hc hh hQ hlk hr (by decide) rfl ⟨by first | (simp [jc_isUB, h2]; done) | (simp [jc_isUB, eq_true h2]; done), rfl⟩ d_J_isUrlOrBlank_17
  refine lv_iload_n hx hb d_J_isUrlOrBlank_5 rfl (lv_at hl 0 rfl) ?_
  refine jx_callS [.int x] [] hc hh (c_isUrl l D aK ad cA u x) wy_J_81 (by decide) rfl hl.1 rfl (by decide) ⟨Nat.zero_le _, Nat.zero_le _⟩ d_J_isUrlOrBlank_6 (fun r u9 H locs hp hh _ _ => ?_)
  rw [hp.2] at hh
  refine W.eq (g2 := F0 m 9 ls [.int (jc_isUrl x)]) (by first | rfl | (rw [hp.1]; rfl)) ?_
  refine lv_if_eq (tgt := 16) hx hb d_J_isUrlOrBlank_9 rfl (fun h9 => ?_) (fun h9 => ?_)
  ·
    refine lv_iconst (v := 0) hx hb d_J_isUrlOrBlank_16 (by decide) ?_
    exact jx_iret (r := 0) hc hh hQ hlk hr (by decide) rfl ⟨by first | (simp [jc_isUB, h2, h9]; done) | (simp [jc_isUB, h2, eq_true h9]; done), rfl⟩ d_J_isUrlOrBlank_17
  refine lv_iconst (v := 1) hx hb d_J_isUrlOrBlank_12 (by decide) ?_
  refine lv_goto (tgt := 17) hx hb d_J_isUrlOrBlank_13 rfl ?_
  exact jx_iret (r := 1) hc hh hQ hlk hr (by decide) rfl ⟨by simp [jc_isUB, h2, h9], rfl⟩ d_J_isUrlOrBlank_17
set_option maxHeartbeats 4000000 in
set_option maxRecDepth 100000 in
theorem c_isFrameChoice (l : Launch) (D : va_G) (aK ad : Nat → Nat) (cA : Nat → ClassId) (u : js_S) (x : Int32) : jx_M l y_J_isFrameChoice b_J_isFrameChoice 1 (some .boolean) (jr 3) D (jc_tys cA) aK 158 ad (jc_cell ad aK cA) [.int x] u (fun r : Int32 => some (.int r)) (fun r u' => r = jc_isFC x ∧ u' = u) := by
  refine jx_enter "JointHistory" (by decide) rfl (by simp [lg_sl, vc_int, vc_ref, vc_long, jv_cat]) ?_
  intro p e s m args below meth c A Q H locs ls hQ hc hh hr hlk hl
  have hx := hc.1
  have hb := hc.2.1
  have hl : lv_has ls 1 [(0, .int x)] := by simpa [lv_args, vc_int, vc_ref, vc_long, jv_cat] using hl
  refine lv_iload_n hx hb d_J_isFrameChoice_0 rfl (lv_at hl 0 rfl) ?_
  refine lv_bipush (v := -2) hx hb d_J_isFrameChoice_1 (by decide) ?_
  refine lv_icmp_eq (tgt := 13) hx hb d_J_isFrameChoice_3 rfl (fun h3 => ?_) (fun h3 => ?_)
  ·
    refine lv_iconst (v := 1) hx hb d_J_isFrameChoice_13 (by decide) ?_
    refine lv_goto (tgt := 18) hx hb d_J_isFrameChoice_14 rfl ?_
    exact jx_iret (r := 1) hc hh hQ hlk hr (by decide) rfl ⟨by first | (simp [jc_isFC, h3]; done) | (simp [jc_isFC, eq_true h3]; done), rfl⟩ d_J_isFrameChoice_18
  refine lv_iload_n hx hb d_J_isFrameChoice_6 rfl (lv_at hl 0 rfl) ?_
  refine jx_callS [.int x] [] hc hh (c_isUrlOrBlank l D aK ad cA u x) wy_J_93 (by decide) rfl hl.1 rfl (by decide) ⟨Nat.zero_le _, Nat.zero_le _⟩ d_J_isFrameChoice_7 (fun r u9 H locs hp hh _ _ => ?_)
  rw [hp.2] at hh
  refine W.eq (g2 := F0 m 10 ls [.int (jc_isUB x)]) (by first | rfl | (rw [hp.1]; rfl)) ?_
  refine lv_if_eq (tgt := 17) hx hb d_J_isFrameChoice_10 rfl (fun h10 => ?_) (fun h10 => ?_)
  ·
    refine lv_iconst (v := 0) hx hb d_J_isFrameChoice_17 (by decide) ?_
    exact jx_iret (r := 0) hc hh hQ hlk hr (by decide) rfl ⟨by first | (simp [jc_isFC, h3, h10]; done) | (simp [jc_isFC, h3, eq_true h10]; done), rfl⟩ d_J_isFrameChoice_18
  refine lv_iconst (v := 1) hx hb d_J_isFrameChoice_13 (by decide) ?_
  refine lv_goto (tgt := 18) hx hb d_J_isFrameChoice_14 rfl ?_
  exact jx_iret (r := 1) hc hh hQ hlk hr (by decide) rfl ⟨by simp [jc_isFC, h3, h10], rfl⟩ d_J_isFrameChoice_18
set_option maxHeartbeats 4000000 in
set_option maxRecDepth 100000 in
theorem c_hostOf (l : Launch) (D : va_G) (aK ad : Nat → Nat) (cA : Nat → ClassId) (u : js_S) (x : Int32) : jx_M l y_J_hostOf b_J_hostOf 1 (some .int) (jr 1) D (jc_tys cA) aK 158 ad (jc_cell ad aK cA) [.int x] u (fun r : Int32 => some (.int r)) (fun r u' => r = x / 64 ∧ u' = u) := by
  refine jx_enter "JointHistory" (by decide) rfl (by simp [lg_sl, vc_int, vc_ref, vc_long, jv_cat]) ?_
  intro p e s m args below meth c A Q H locs ls hQ hc hh hr hlk hl
  have hx := hc.1
  have hb := hc.2.1
  have hl : lv_has ls 1 [(0, .int x)] := by simpa [lv_args, vc_int, vc_ref, vc_long, jv_cat] using hl
  refine lv_iload_n hx hb d_J_hostOf_0 rfl (lv_at hl 0 rfl) ?_
  refine lv_bipush (v := 64) hx hb d_J_hostOf_1 (by decide) ?_
  refine lv_idiv hx hb d_J_hostOf_3 (by decide) ?_
  exact jx_iret (r := (x / 64)) hc hh hQ hlk hr rfl rfl ⟨rfl, rfl⟩ d_J_hostOf_4
set_option maxHeartbeats 4000000 in
set_option maxRecDepth 100000 in
theorem c_pageOf (l : Launch) (D : va_G) (aK ad : Nat → Nat) (cA : Nat → ClassId) (u : js_S) (x : Int32) : jx_M l y_J_pageOf b_J_pageOf 1 (some .int) (jr 1) D (jc_tys cA) aK 158 ad (jc_cell ad aK cA) [.int x] u (fun r : Int32 => some (.int r)) (fun r u' => r = x / 8 ∧ u' = u) := by
  refine jx_enter "JointHistory" (by decide) rfl (by simp [lg_sl, vc_int, vc_ref, vc_long, jv_cat]) ?_
  intro p e s m args below meth c A Q H locs ls hQ hc hh hr hlk hl
  have hx := hc.1
  have hb := hc.2.1
  have hl : lv_has ls 1 [(0, .int x)] := by simpa [lv_args, vc_int, vc_ref, vc_long, jv_cat] using hl
  refine lv_iload_n hx hb d_J_pageOf_0 rfl (lv_at hl 0 rfl) ?_
  refine lv_bipush (v := 8) hx hb d_J_pageOf_1 (by decide) ?_
  refine lv_idiv hx hb d_J_pageOf_3 (by decide) ?_
  exact jx_iret (r := (x / 8)) hc hh hQ hlk hr rfl rfl ⟨rfl, rfl⟩ d_J_pageOf_4
set_option maxHeartbeats 4000000 in
set_option maxRecDepth 100000 in
theorem c_fragmentOf (l : Launch) (D : va_G) (aK ad : Nat → Nat) (cA : Nat → ClassId) (u : js_S) (x : Int32) : jx_M l y_J_fragmentOf b_J_fragmentOf 1 (some .int) (jr 1) D (jc_tys cA) aK 158 ad (jc_cell ad aK cA) [.int x] u (fun r : Int32 => some (.int r)) (fun r u' => r = jc_frag x ∧ u' = u) := by
  refine jx_enter "JointHistory" (by decide) rfl (by simp [lg_sl, vc_int, vc_ref, vc_long, jv_cat]) ?_
  intro p e s m args below meth c A Q H locs ls hQ hc hh hr hlk hl
  have hx := hc.1
  have hb := hc.2.1
  have hl : lv_has ls 1 [(0, .int x)] := by simpa [lv_args, vc_int, vc_ref, vc_long, jv_cat] using hl
  refine lv_iload_n hx hb d_J_fragmentOf_0 rfl (lv_at hl 0 rfl) ?_
  refine lv_iconst (v := -1) hx hb d_J_fragmentOf_1 (by decide) ?_
  refine lv_icmp_ne (tgt := 9) hx hb d_J_fragmentOf_2 rfl (fun h2 => ?_) (fun h2 => ?_)
  ·
    refine lv_iload_n hx hb d_J_fragmentOf_9 rfl (lv_at hl 0 rfl) ?_
    refine lv_bipush (v := 8) hx hb d_J_fragmentOf_10 (by decide) ?_
    refine lv_irem hx hb d_J_fragmentOf_12 (by decide) ?_
    exact jx_iret (r := (x - x / 8 * 8)) hc hh hQ hlk hr rfl rfl ⟨by simp [jc_frag, h2], rfl⟩ d_J_fragmentOf_13
  refine lv_iconst (v := 0) hx hb d_J_fragmentOf_5 (by decide) ?_
  refine lv_goto (tgt := 13) hx hb d_J_fragmentOf_6 rfl ?_
  exact jx_iret (r := 0) hc hh hQ hlk hr rfl rfl ⟨by first | (simp [jc_frag, h2]; done) | (simp [jc_frag, eq_true h2]; done), rfl⟩ d_J_fragmentOf_13
set_option maxHeartbeats 4000000 in
set_option maxRecDepth 100000 in
theorem c_isFragmentMove (l : Launch) (D : va_G) (aK ad : Nat → Nat) (cA : Nat → ClassId) (u : js_S) (x : Int32) (y : Int32) : jx_M l y_J_isFragmentMove b_J_isFragmentMove 2 (some .boolean) (jr 2) D (jc_tys cA) aK 158 ad (jc_cell ad aK cA) [.int x, .int y] u (fun r : Int32 => some (.int r)) (fun r u' => r = jc_isFM x y ∧ u' = u) := by
  refine jx_enter "JointHistory" (by decide) rfl (by simp [lg_sl, vc_int, vc_ref, vc_long, jv_cat]) ?_
  intro p e s m args below meth c A Q H locs ls hQ hc hh hr hlk hl
  have hx := hc.1
  have hb := hc.2.1
  have hl : lv_has ls 2 [(0, .int x), (1, .int y)] := by simpa [lv_args, vc_int, vc_ref, vc_long, jv_cat] using hl
  refine lv_iload_n hx hb d_J_isFragmentMove_0 rfl (lv_at hl 0 rfl) ?_
  refine lv_iconst (v := -1) hx hb d_J_isFragmentMove_1 (by decide) ?_
  refine lv_icmp_eq (tgt := 32) hx hb d_J_isFragmentMove_2 rfl (fun h2 => ?_) (fun h2 => ?_)
  ·
    refine lv_iconst (v := 0) hx hb d_J_isFragmentMove_32 (by decide) ?_
    exact jx_iret (r := 0) hc hh hQ hlk hr (by decide) rfl ⟨by first | (simp [jc_isFM, h2]; done) | (simp [jc_isFM, eq_true h2]; done), rfl⟩ d_J_isFragmentMove_33
  refine lv_iload_n hx hb d_J_isFragmentMove_5 rfl (lv_at hl 1 rfl) ?_
  refine lv_iconst (v := -1) hx hb d_J_isFragmentMove_6 (by decide) ?_
  refine lv_icmp_eq (tgt := 32) hx hb d_J_isFragmentMove_7 rfl (fun h7 => ?_) (fun h7 => ?_)
  ·
    refine lv_iconst (v := 0) hx hb d_J_isFragmentMove_32 (by decide) ?_
    exact jx_iret (r := 0) hc hh hQ hlk hr (by decide) rfl ⟨by first | (simp [jc_isFM, h2, h7]; done) | (simp [jc_isFM, h2, eq_true h7]; done), rfl⟩ d_J_isFragmentMove_33
  refine lv_iload_n hx hb d_J_isFragmentMove_10 rfl (lv_at hl 1 rfl) ?_
  refine jx_callS [.int y] [] hc hh (c_fragmentOf l D aK ad cA u y) wy_J_199 (by decide) rfl hl.1 rfl (by decide) ⟨Nat.zero_le _, Nat.zero_le _⟩ d_J_isFragmentMove_11 (fun r u9 H locs hp hh _ _ => ?_)
  rw [hp.2] at hh
  refine W.eq (g2 := F0 m 14 ls [.int (jc_frag y)]) (by first | rfl | (rw [hp.1]; rfl)) ?_
  refine lv_if_eq (tgt := 32) hx hb d_J_isFragmentMove_14 rfl (fun h14 => ?_) (fun h14 => ?_)
  ·
    refine lv_iconst (v := 0) hx hb d_J_isFragmentMove_32 (by decide) ?_
    exact jx_iret (r := 0) hc hh hQ hlk hr (by decide) rfl ⟨by first | (simp [jc_isFM, h2, h7, h14]; done) | (simp [jc_isFM, h2, h7, eq_true h14]; done), rfl⟩ d_J_isFragmentMove_33
  refine lv_iload_n hx hb d_J_isFragmentMove_17 rfl (lv_at hl 0 rfl) ?_
  refine jx_callS [.int x] [] hc hh (c_pageOf l D aK ad cA u x) wy_J_202 (by decide) rfl hl.1 rfl (by decide) ⟨Nat.zero_le _, Nat.zero_le _⟩ d_J_isFragmentMove_18 (fun r u9 H locs hp hh _ _ => ?_)
  rw [hp.2] at hh
  refine W.eq (g2 := F0 m 21 ls [.int (x / 8)]) (by first | rfl | (rw [hp.1]; rfl)) ?_
  refine lv_iload_n hx hb d_J_isFragmentMove_21 rfl (lv_at hl 1 rfl) ?_
  refine jx_callS [.int y] [.int (x / 8)] hc hh (c_pageOf l D aK ad cA u y) wy_J_202 (by decide) rfl hl.1 rfl (by simp [vc_int, vc_ref, vc_long, jv_cat]) ⟨Nat.zero_le _, Nat.zero_le _⟩ d_J_isFragmentMove_22 (fun r u9 H locs hp hh _ _ => ?_)
  rw [hp.2] at hh
  refine W.eq (g2 := F0 m 25 ls [.int (y / 8), .int (x / 8)]) (by first | rfl | (rw [hp.1]; rfl)) ?_
  refine lv_icmp_ne (tgt := 32) hx hb d_J_isFragmentMove_25 rfl (fun h25 => ?_) (fun h25 => ?_)
  ·
    refine lv_iconst (v := 0) hx hb d_J_isFragmentMove_32 (by decide) ?_
    exact jx_iret (r := 0) hc hh hQ hlk hr (by decide) rfl ⟨by simp [jc_isFM, h2, h7, h14, h25], rfl⟩ d_J_isFragmentMove_33
  refine lv_iconst (v := 1) hx hb d_J_isFragmentMove_28 (by decide) ?_
  refine lv_goto (tgt := 33) hx hb d_J_isFragmentMove_29 rfl ?_
  exact jx_iret (r := 1) hc hh hQ hlk hr (by decide) rfl ⟨by first | (simp [jc_isFM, h2, h7, h14, h25]; done) | (simp [jc_isFM, h2, h7, h14, eq_true h25]; done), rfl⟩ d_J_isFragmentMove_33
set_option maxHeartbeats 4000000 in
set_option maxRecDepth 100000 in
theorem c_mayRewrite (l : Launch) (D : va_G) (aK ad : Nat → Nat) (cA : Nat → ClassId) (u : js_S) (x : Int32) (y : Int32) : jx_M l y_J_mayRewrite b_J_mayRewrite 2 (some .boolean) (jr 2) D (jc_tys cA) aK 158 ad (jc_cell ad aK cA) [.int x, .int y] u (fun r : Int32 => some (.int r)) (fun r u' => r = jc_mayR x y ∧ u' = u) := by
  refine jx_enter "JointHistory" (by decide) rfl (by simp [lg_sl, vc_int, vc_ref, vc_long, jv_cat]) ?_
  intro p e s m args below meth c A Q H locs ls hQ hc hh hr hlk hl
  have hx := hc.1
  have hb := hc.2.1
  have hl : lv_has ls 2 [(0, .int x), (1, .int y)] := by simpa [lv_args, vc_int, vc_ref, vc_long, jv_cat] using hl
  refine lv_iload_n hx hb d_J_mayRewrite_0 rfl (lv_at hl 0 rfl) ?_
  refine lv_iconst (v := -1) hx hb d_J_mayRewrite_1 (by decide) ?_
  refine lv_icmp_eq (tgt := 16) hx hb d_J_mayRewrite_2 rfl (fun h2 => ?_) (fun h2 => ?_)
  ·
    refine lv_iconst (v := 0) hx hb d_J_mayRewrite_16 (by decide) ?_
    exact jx_iret (r := 0) hc hh hQ hlk hr (by decide) rfl ⟨by first | (simp [jc_mayR, h2]; done) | (simp [jc_mayR, eq_true h2]; done), rfl⟩ d_J_mayRewrite_17
  refine lv_iload_n hx hb d_J_mayRewrite_5 rfl (lv_at hl 0 rfl) ?_
  refine jx_callS [.int x] [] hc hh (c_hostOf l D aK ad cA u x) wy_J_205 (by decide) rfl hl.1 rfl (by decide) ⟨Nat.zero_le _, Nat.zero_le _⟩ d_J_mayRewrite_6 (fun r u9 H locs hp hh _ _ => ?_)
  rw [hp.2] at hh
  refine W.eq (g2 := F0 m 9 ls [.int (x / 64)]) (by first | rfl | (rw [hp.1]; rfl)) ?_
  refine lv_iload_n hx hb d_J_mayRewrite_9 rfl (lv_at hl 1 rfl) ?_
  refine jx_callS [.int y] [.int (x / 64)] hc hh (c_hostOf l D aK ad cA u y) wy_J_205 (by decide) rfl hl.1 rfl (by simp [vc_int, vc_ref, vc_long, jv_cat]) ⟨Nat.zero_le _, Nat.zero_le _⟩ d_J_mayRewrite_10 (fun r u9 H locs hp hh _ _ => ?_)
  rw [hp.2] at hh
  refine W.eq (g2 := F0 m 13 ls [.int (y / 64), .int (x / 64)]) (by first | rfl | (rw [hp.1]; rfl)) ?_
  refine lv_icmp_eq (tgt := 18) hx hb d_J_mayRewrite_13 rfl (fun h13 => ?_) (fun h13 => ?_)
  ·
    refine lv_iload_n hx hb d_J_mayRewrite_18 rfl (lv_at hl 0 rfl) ?_
    refine jx_callS [.int x] [] hc hh (c_hostOf l D aK ad cA u x) wy_J_205 (by decide) rfl hl.1 rfl (by decide) ⟨Nat.zero_le _, Nat.zero_le _⟩ d_J_mayRewrite_19 (fun r u9 H locs hp hh _ _ => ?_)
    rw [hp.2] at hh
    refine W.eq (g2 := F0 m 22 ls [.int (x / 64)]) (by first | rfl | (rw [hp.1]; rfl)) ?_
    refine lv_iconst (v := 3) hx hb d_J_mayRewrite_22 (by decide) ?_
    refine lv_icmp_ne (tgt := 37) hx hb d_J_mayRewrite_23 rfl (fun h23 => ?_) (fun h23 => ?_)
    ·
      refine lv_iconst (v := 1) hx hb d_J_mayRewrite_37 (by decide) ?_
      refine lv_goto (tgt := 42) hx hb d_J_mayRewrite_38 rfl ?_
      exact jx_iret (r := 1) hc hh hQ hlk hr (by decide) rfl ⟨by first | (simp [jc_mayR, h2, h13, h23]; done) | (simp [jc_mayR, h2, eq_true h13, h23]; done), rfl⟩ d_J_mayRewrite_42
    refine lv_iload_n hx hb d_J_mayRewrite_26 rfl (lv_at hl 0 rfl) ?_
    refine jx_callS [.int x] [] hc hh (c_pageOf l D aK ad cA u x) wy_J_202 (by decide) rfl hl.1 rfl (by decide) ⟨Nat.zero_le _, Nat.zero_le _⟩ d_J_mayRewrite_27 (fun r u9 H locs hp hh _ _ => ?_)
    rw [hp.2] at hh
    refine W.eq (g2 := F0 m 30 ls [.int (x / 8)]) (by first | rfl | (rw [hp.1]; rfl)) ?_
    refine lv_iload_n hx hb d_J_mayRewrite_30 rfl (lv_at hl 1 rfl) ?_
    refine jx_callS [.int y] [.int (x / 8)] hc hh (c_pageOf l D aK ad cA u y) wy_J_202 (by decide) rfl hl.1 rfl (by simp [vc_int, vc_ref, vc_long, jv_cat]) ⟨Nat.zero_le _, Nat.zero_le _⟩ d_J_mayRewrite_31 (fun r u9 H locs hp hh _ _ => ?_)
    rw [hp.2] at hh
    refine W.eq (g2 := F0 m 34 ls [.int (y / 8), .int (x / 8)]) (by first | rfl | (rw [hp.1]; rfl)) ?_
    refine lv_icmp_ne (tgt := 41) hx hb d_J_mayRewrite_34 rfl (fun h34 => ?_) (fun h34 => ?_)
    ·
      refine lv_iconst (v := 0) hx hb d_J_mayRewrite_41 (by decide) ?_
      exact jx_iret (r := 0) hc hh hQ hlk hr (by decide) rfl ⟨by first | (simp [jc_mayR, h2, h13, h23, h34]; done) | (simp [jc_mayR, h2, eq_true h13, eq_true h23, h34]; done), rfl⟩ d_J_mayRewrite_42
    refine lv_iconst (v := 1) hx hb d_J_mayRewrite_37 (by decide) ?_
    refine lv_goto (tgt := 42) hx hb d_J_mayRewrite_38 rfl ?_
    exact jx_iret (r := 1) hc hh hQ hlk hr (by decide) rfl ⟨by first | (simp [jc_mayR, h2, h13, h23, h34]; done) | (simp [jc_mayR, h2, eq_true h13, eq_true h23, eq_true h34]; done), rfl⟩ d_J_mayRewrite_42
  refine lv_iconst (v := 0) hx hb d_J_mayRewrite_16 (by decide) ?_
  exact jx_iret (r := 0) hc hh hQ hlk hr (by decide) rfl ⟨by simp [jc_mayR, h2, h13], rfl⟩ d_J_mayRewrite_17
set_option maxHeartbeats 4000000 in
set_option maxRecDepth 100000 in
theorem c_numberOf (l : Launch) (D : va_G) (aK ad : Nat → Nat) (cA : Nat → ClassId) (u : js_S) (x : Int32) (q_x : jq 40 x) : jx_M l y_J_numberOf b_J_numberOf 1 (some .int) (jr 1) D (jc_tys cA) aK 158 ad (jc_cell ad aK cA) [jv ad 38 x] u (fun r : Int32 => some (.int r)) (fun r u' => r = jc_numOf x ∧ u' = u) := by
  refine jx_enter "JointHistory" (by decide) rfl (by simp [lg_sl, vc_int, vc_ref, vc_long, jv_cat]) ?_
  intro p e s m args below meth c A Q H locs ls hQ hc hh hr hlk hl
  have hx := hc.1
  have hb := hc.2.1
  have hl : lv_has ls 1 [(0, jv ad 38 x)] := by simpa [lv_args, vc_int, vc_ref, vc_long, jv_cat] using hl
  refine jv_aload_n hx hb d_J_numberOf_0 rfl (lv_at hl 0 rfl) ?_
  refine jv_ifnonnull (tgt := 9) hx hb d_J_numberOf_1 rfl (fun h1 => ?_) (fun h1 => ?_)
  ·
    refine jv_aload_n hx hb d_J_numberOf_9 rfl (lv_at hl 0 rfl) ?_
    refine jgx_N hc hh (jq_ne q_x h1) 0 (by decide) rfl wf_J_196 d_J_numberOf_10 ?_
    exact jx_iret (r := nI (ix x)) hc hh hQ hlk hr rfl rfl ⟨by obtain ⟨i, hi, rfl⟩ := jq_ne q_x h1; simp [jc_numOf, ix_nI (show i < 2 ^ 31 by omega), nI_m1 (show i < 2 ^ 31 by omega)], rfl⟩ d_J_numberOf_13
  refine lv_bipush (v := -7) hx hb d_J_numberOf_4 (by decide) ?_
  refine lv_goto (tgt := 13) hx hb d_J_numberOf_6 rfl ?_
  exact jx_iret (r := (-7)) hc hh hQ hlk hr rfl rfl ⟨by first | (simp [jc_numOf, h1]; done) | (simp [jc_numOf, eq_true h1]; done), rfl⟩ d_J_numberOf_13
set_option maxHeartbeats 4000000 in
set_option maxRecDepth 100000 in
theorem c_entriesUpTo (l : Launch) (D : va_G) (aK ad : Nat → Nat) (cA : Nat → ClassId) (u : js_S) (st : Int32) : jx_M l y_J_entriesUpTo b_J_entriesUpTo 7 (some .int) (jr 1) D (jc_tys cA) aK 158 ad (jc_cell ad aK cA) [.ref (ad 0), .int st] u (fun r : Int32 => some (.int r)) (fun r u' => r = nI (jc_cntE u st 40) ∧ u' = u) := by
  refine jx_enter "JointHistory" (by decide) rfl (by simp [lg_sl, vc_int, vc_ref, vc_long, jv_cat]) ?_
  intro p e s m args below meth c A Q H locs ls hQ hc hh hr hlk hl
  have hx := hc.1
  have hb := hc.2.1
  have hl : lv_has ls 7 [(0, .ref (ad 0)), (1, .int st)] := by simpa [lv_args, vc_int, vc_ref, vc_long, jv_cat] using hl
  refine lv_iconst (v := 0) hx hb d_J_entriesUpTo_0 (by decide) ?_
  refine lv_istore_n (i := 2) (lv' := [(2, .int 0), (0, .ref (ad 0)), (1, .int st)]) hx hb d_J_entriesUpTo_1 rfl hl (by decide) rfl (fun ls hl => ?_)
  refine lv_aload_n hx hb d_J_entriesUpTo_2 rfl (lv_at hl 1 rfl) ?_
  refine jg_J hc hh 3 (by decide) rfl wf_J_29 d_J_entriesUpTo_3 ?_
  refine lv_astore_n (i := 3) (lv' := [(3, .ref (ad 4)), (2, .int 0), (0, .ref (ad 0)), (1, .int st)]) hx hb d_J_entriesUpTo_6 rfl hl (by decide) rfl (fun ls hl => ?_)
  refine lv_aload_n hx hb d_J_entriesUpTo_7 rfl (lv_at hl 0 rfl) ?_
  refine jl_E hc hh d_J_entriesUpTo_8 ?_
  refine lv_istore (i := 4) (lv' := [(4, .int (nI 40)), (3, .ref (ad 4)), (2, .int 0), (0, .ref (ad 0)), (1, .int st)]) hx hb d_J_entriesUpTo_9 hl (by decide) rfl (fun ls hl => ?_)
  refine lv_iconst (v := 0) hx hb d_J_entriesUpTo_11 (by decide) ?_
  refine lv_istore (i := 5) (lv' := [(5, .int 0), (4, .int (nI 40)), (3, .ref (ad 4)), (2, .int 0), (0, .ref (ad 0)), (1, .int st)]) hx hb d_J_entriesUpTo_12 hl (by decide) rfl (fun ls hl => ?_)
  have L14 : ∀ (n : Nat) (i : Nat) (ls : Array Slot), i + n = 40 → lv_has ls 7 [(0, .ref (ad 0)), (1, .int st), (2, .int (nI (jc_cntE u st i))), (3, .ref (ad 4)), (4, .int (nI 40)), (5, .int (nI i))] → W p l e (jr 1) s m args below meth c H locs 0 0 Q (F0 m 14 ls []) := by
    intro n
    induction n with
    | zero =>
      intro i ls hm hl
      have hi : i = 40 := by omega
      refine lv_iload hx hb d_J_entriesUpTo_14 (lv_at hl 5 rfl) ?_
      refine lv_iload hx hb d_J_entriesUpTo_16 (lv_at hl 4 rfl) ?_
      refine lv_icmp_ge (tgt := 53) hx hb d_J_entriesUpTo_18 rfl (fun h18 => ?_) (fun hq => absurd (nI_le (show 40 ≤ i by omega) (show i < 2 ^ 31 by omega)) hq)
      refine lv_iload_n hx hb d_J_entriesUpTo_53 rfl (lv_at hl 2 rfl) ?_
      exact jx_iret (r := nI (jc_cntE u st i)) hc hh hQ hlk hr rfl rfl ⟨by first | (rw [hi]; done) | (rw [hi]; rfl) | (rw [hi]; simp []; done), rfl⟩ d_J_entriesUpTo_54
    | succ n ih =>
      intro i ls hm hl
      have hi : i < 40 := by omega
      refine lv_iload hx hb d_J_entriesUpTo_14 (lv_at hl 5 rfl) ?_
      refine lv_iload hx hb d_J_entriesUpTo_16 (lv_at hl 4 rfl) ?_
      refine lv_icmp_ge (tgt := 53) hx hb d_J_entriesUpTo_18 rfl (fun hq => absurd hq (nI_ge hi (by decide))) (fun h18 => ?_)
      refine lv_aload_n hx hb d_J_entriesUpTo_21 rfl (lv_at hl 3 rfl) ?_
      refine lv_iload hx hb d_J_entriesUpTo_22 (lv_at hl 5 rfl) ?_
      refine ja_E hc hh hi d_J_entriesUpTo_24 ?_
      refine jv_astore (i := 6) (lv' := [(6, jv ad 118 (nI i)), (0, .ref (ad 0)), (1, .int st), (2, .int (nI (jc_cntE u st i))), (3, .ref (ad 4)), (4, .int (nI 40)), (5, .int (nI i))]) hx hb d_J_entriesUpTo_25 hl (by decide) rfl (fun ls hl => ?_)
      refine jv_aload hx hb d_J_entriesUpTo_27 (lv_at hl 0 rfl) ?_
      refine jg_E hc hh hi 0 (by decide) rfl wf_J_179 d_J_entriesUpTo_29 ?_
      refine lv_if_eq (tgt := 47) hx hb d_J_entriesUpTo_32 rfl (fun h32 => ?_) (fun h32 => ?_)
      ·
        refine lv_iinc (k := 6) (v := nI (i + 1)) (lv' := [(5, .int (nI (i + 1))), (6, jv ad 118 (nI i)), (0, .ref (ad 0)), (1, .int st), (2, .int (nI (jc_cntE u st i))), (3, .ref (ad 4)), (4, .int (nI 40))]) hx hb d_J_entriesUpTo_47 hl rfl (nI_1 i) (by decide) rfl (fun ls hl => ?_)
        refine lv_goto (tgt := 14) hx hb d_J_entriesUpTo_50 rfl ?_
        have e1 : nI (jc_cntE u st (i + 1)) = nI (jc_cntE u st i) := by first | (simp [nI_0, jc_cntE, h32]; done) | (simp [nI_0, jc_cntE, eq_true h32]; done)
        refine ih (i + 1) _ (by omega) ?_
        try rw [e1]
        exact lv_sub hl [2, 3, 4, 5, 6, 0] rfl
      refine jv_aload hx hb d_J_entriesUpTo_35 (lv_at hl 0 rfl) ?_
      refine jg_E hc hh hi 2 (by decide) rfl wf_J_128 d_J_entriesUpTo_37 ?_
      refine lv_iload_n hx hb d_J_entriesUpTo_40 rfl (lv_at hl 2 rfl) ?_
      refine lv_icmp_gt (tgt := 47) hx hb d_J_entriesUpTo_41 rfl (fun h41 => ?_) (fun h41 => ?_)
      ·
        refine lv_iinc (k := 6) (v := nI (i + 1)) (lv' := [(5, .int (nI (i + 1))), (6, jv ad 118 (nI i)), (0, .ref (ad 0)), (1, .int st), (2, .int (nI (jc_cntE u st i))), (3, .ref (ad 4)), (4, .int (nI 40))]) hx hb d_J_entriesUpTo_47 hl rfl (nI_1 i) (by decide) rfl (fun ls hl => ?_)
        refine lv_goto (tgt := 14) hx hb d_J_entriesUpTo_50 rfl ?_
        have e2 : nI (jc_cntE u st (i + 1)) = nI (jc_cntE u st i) := by simp [nI_0, jc_cntE, h32, h41]
        refine ih (i + 1) _ (by omega) ?_
        try rw [e2]
        exact lv_sub hl [2, 3, 4, 5, 6, 0] rfl
      refine lv_iinc (k := 3) (v := nI ((jc_cntE u st i) + 1)) (lv' := [(2, .int (nI ((jc_cntE u st i) + 1))), (6, jv ad 118 (nI i)), (0, .ref (ad 0)), (1, .int st), (3, .ref (ad 4)), (4, .int (nI 40)), (5, .int (nI i))]) hx hb d_J_entriesUpTo_44 hl rfl (nI_1 (jc_cntE u st i)) (by decide) rfl (fun ls hl => ?_)
      refine lv_iinc (k := 6) (v := nI (i + 1)) (lv' := [(5, .int (nI (i + 1))), (2, .int (nI ((jc_cntE u st i) + 1))), (6, jv ad 118 (nI i)), (0, .ref (ad 0)), (1, .int st), (3, .ref (ad 4)), (4, .int (nI 40))]) hx hb d_J_entriesUpTo_47 hl rfl (nI_1 i) (by decide) rfl (fun ls hl => ?_)
      refine lv_goto (tgt := 14) hx hb d_J_entriesUpTo_50 rfl ?_
      have e3 : nI (jc_cntE u st (i + 1)) = nI ((jc_cntE u st i) + 1) := by simp [nI_0, jc_cntE, h32, h41]
      refine ih (i + 1) _ (by omega) ?_
      try rw [e3]
      exact lv_sub hl [3, 4, 1, 5, 6, 0] rfl
  have e4 : nI (jc_cntE u st 0) = 0 := by simp [nI_0, jc_cntE]
  have e5 : nI 0 = 0 := rfl
  refine L14 40 0 _ (by omega) ?_
  try rw [e4]
  try rw [e5]
  exact lv_sub hl [4, 5, 3, 2, 1, 0] rfl
set_option maxHeartbeats 4000000 in
set_option maxRecDepth 100000 in
theorem c_allNavigables (l : Launch) (D : va_G) (aK ad : Nat → Nat) (cA : Nat → ClassId) (u : js_S) : jx_M l y_J_allNavigables b_J_allNavigables 6 (some .int) (jr 1) D (jc_tys cA) aK 158 ad (jc_cell ad aK cA) [.ref (ad 0)] u (fun r : Int32 => some (.int r)) (fun r u' => r = nI (jc_cntN u 40) ∧ u' = u) := by
  refine jx_enter "JointHistory" (by decide) rfl (by simp [lg_sl, vc_int, vc_ref, vc_long, jv_cat]) ?_
  intro p e s m args below meth c A Q H locs ls hQ hc hh hr hlk hl
  have hx := hc.1
  have hb := hc.2.1
  have hl : lv_has ls 6 [(0, .ref (ad 0))] := by simpa [lv_args, vc_int, vc_ref, vc_long, jv_cat] using hl
  refine lv_iconst (v := 0) hx hb d_J_allNavigables_0 (by decide) ?_
  refine lv_istore_n (i := 1) (lv' := [(1, .int 0), (0, .ref (ad 0))]) hx hb d_J_allNavigables_1 rfl hl (by decide) rfl (fun ls hl => ?_)
  refine lv_aload_n hx hb d_J_allNavigables_2 rfl (lv_at hl 1 rfl) ?_
  refine jg_J hc hh 1 (by decide) rfl wf_J_17 d_J_allNavigables_3 ?_
  refine lv_astore_n (i := 2) (lv' := [(2, .ref (ad 2)), (1, .int 0), (0, .ref (ad 0))]) hx hb d_J_allNavigables_6 rfl hl (by decide) rfl (fun ls hl => ?_)
  refine lv_aload_n hx hb d_J_allNavigables_7 rfl (lv_at hl 0 rfl) ?_
  refine jl_N hc hh d_J_allNavigables_8 ?_
  refine lv_istore_n (i := 3) (lv' := [(3, .int (nI 40)), (2, .ref (ad 2)), (1, .int 0), (0, .ref (ad 0))]) hx hb d_J_allNavigables_9 rfl hl (by decide) rfl (fun ls hl => ?_)
  refine lv_iconst (v := 0) hx hb d_J_allNavigables_10 (by decide) ?_
  refine lv_istore (i := 4) (lv' := [(4, .int 0), (3, .int (nI 40)), (2, .ref (ad 2)), (1, .int 0), (0, .ref (ad 0))]) hx hb d_J_allNavigables_11 hl (by decide) rfl (fun ls hl => ?_)
  have L13 : ∀ (n : Nat) (i : Nat) (ls : Array Slot), i + n = 40 → lv_has ls 6 [(0, .ref (ad 0)), (1, .int (nI (jc_cntN u i))), (2, .ref (ad 2)), (3, .int (nI 40)), (4, .int (nI i))] → W p l e (jr 1) s m args below meth c H locs 0 0 Q (F0 m 13 ls []) := by
    intro n
    induction n with
    | zero =>
      intro i ls hm hl
      have hi : i = 40 := by omega
      refine lv_iload hx hb d_J_allNavigables_13 (lv_at hl 4 rfl) ?_
      refine lv_iload_n hx hb d_J_allNavigables_15 rfl (lv_at hl 3 rfl) ?_
      refine lv_icmp_ge (tgt := 42) hx hb d_J_allNavigables_16 rfl (fun h16 => ?_) (fun hq => absurd (nI_le (show 40 ≤ i by omega) (show i < 2 ^ 31 by omega)) hq)
      refine lv_iload_n hx hb d_J_allNavigables_42 rfl (lv_at hl 1 rfl) ?_
      exact jx_iret (r := nI (jc_cntN u i)) hc hh hQ hlk hr rfl rfl ⟨by first | (rw [hi]; done) | (rw [hi]; rfl) | (rw [hi]; simp []; done), rfl⟩ d_J_allNavigables_43
    | succ n ih =>
      intro i ls hm hl
      have hi : i < 40 := by omega
      refine lv_iload hx hb d_J_allNavigables_13 (lv_at hl 4 rfl) ?_
      refine lv_iload_n hx hb d_J_allNavigables_15 rfl (lv_at hl 3 rfl) ?_
      refine lv_icmp_ge (tgt := 42) hx hb d_J_allNavigables_16 rfl (fun hq => absurd hq (nI_ge hi (by decide))) (fun h16 => ?_)
      refine lv_aload_n hx hb d_J_allNavigables_19 rfl (lv_at hl 2 rfl) ?_
      refine lv_iload hx hb d_J_allNavigables_20 (lv_at hl 4 rfl) ?_
      refine ja_N hc hh hi d_J_allNavigables_22 ?_
      refine jv_astore (i := 5) (lv' := [(5, jv ad 38 (nI i)), (0, .ref (ad 0)), (1, .int (nI (jc_cntN u i))), (2, .ref (ad 2)), (3, .int (nI 40)), (4, .int (nI i))]) hx hb d_J_allNavigables_23 hl (by decide) rfl (fun ls hl => ?_)
      refine jv_aload hx hb d_J_allNavigables_25 (lv_at hl 0 rfl) ?_
      refine jg_N hc hh hi 1 (by decide) rfl wf_J_43 d_J_allNavigables_27 ?_
      refine lv_if_eq (tgt := 36) hx hb d_J_allNavigables_30 rfl (fun h30 => ?_) (fun h30 => ?_)
      ·
        refine lv_iinc (k := 5) (v := nI (i + 1)) (lv' := [(4, .int (nI (i + 1))), (5, jv ad 38 (nI i)), (0, .ref (ad 0)), (1, .int (nI (jc_cntN u i))), (2, .ref (ad 2)), (3, .int (nI 40))]) hx hb d_J_allNavigables_36 hl rfl (nI_1 i) (by decide) rfl (fun ls hl => ?_)
        refine lv_goto (tgt := 13) hx hb d_J_allNavigables_39 rfl ?_
        have e1 : nI (jc_cntN u (i + 1)) = nI (jc_cntN u i) := by first | (simp [nI_0, jc_cntN, h30]; done) | (simp [nI_0, jc_cntN, eq_true h30]; done)
        refine ih (i + 1) _ (by omega) ?_
        try rw [e1]
        exact lv_sub hl [2, 3, 4, 5, 0] rfl
      refine lv_iinc (k := 2) (v := nI ((jc_cntN u i) + 1)) (lv' := [(1, .int (nI ((jc_cntN u i) + 1))), (5, jv ad 38 (nI i)), (0, .ref (ad 0)), (2, .ref (ad 2)), (3, .int (nI 40)), (4, .int (nI i))]) hx hb d_J_allNavigables_33 hl rfl (nI_1 (jc_cntN u i)) (by decide) rfl (fun ls hl => ?_)
      refine lv_iinc (k := 5) (v := nI (i + 1)) (lv' := [(4, .int (nI (i + 1))), (1, .int (nI ((jc_cntN u i) + 1))), (5, jv ad 38 (nI i)), (0, .ref (ad 0)), (2, .ref (ad 2)), (3, .int (nI 40))]) hx hb d_J_allNavigables_36 hl rfl (nI_1 i) (by decide) rfl (fun ls hl => ?_)
      refine lv_goto (tgt := 13) hx hb d_J_allNavigables_39 rfl ?_
      have e2 : nI (jc_cntN u (i + 1)) = nI ((jc_cntN u i) + 1) := by simp [nI_0, jc_cntN, h30]
      refine ih (i + 1) _ (by omega) ?_
      try rw [e2]
      exact lv_sub hl [3, 1, 4, 5, 0] rfl
  have e3 : nI (jc_cntN u 0) = 0 := by simp [nI_0, jc_cntN]
  have e4 : nI 0 = 0 := rfl
  refine L13 40 0 _ (by omega) ?_
  try rw [e3]
  try rw [e4]
  exact lv_sub hl [4, 3, 2, 1, 0] rfl
set_option maxHeartbeats 4000000 in
set_option maxRecDepth 100000 in
theorem c_entryAt (l : Launch) (D : va_G) (aK ad : Nat → Nat) (cA : Nat → ClassId) (u : js_S) (nav : Int32) (st : Int32) (hS : jc_Sh u) (q_nav : jq 40 nav) : jx_M l y_J_entryAt b_J_entryAt 8 (some (.object "JointHistory$Entry")) (jr 1) D (jc_tys cA) aK 158 ad (jc_cell ad aK cA) [.ref (ad 0), jv ad 38 nav, .int st] u (fun r : Int32 => some (jv ad 118 r)) (fun r u' => r = jc_entryAt u nav st ∧ u' = u) := by
  refine jx_enter "JointHistory" (by decide) rfl (by simp [lg_sl, vc_int, vc_ref, vc_long, jv_cat]) ?_
  intro p e s m args below meth c A Q H locs ls hQ hc hh hr hlk hl
  have hx := hc.1
  have hb := hc.2.1
  have hl : lv_has ls 8 [(0, .ref (ad 0)), (1, jv ad 38 nav), (2, .int st)] := by simpa [lv_args, vc_int, vc_ref, vc_long, jv_cat] using hl
  refine jv_const (ad := ad) (off := 118) hx hb d_J_entryAt_0 ?_
  refine jv_astore_n (i := 3) (lv' := [(3, jv ad 118 (-1)), (0, .ref (ad 0)), (1, jv ad 38 nav), (2, .int st)]) hx hb d_J_entryAt_1 rfl hl (by decide) rfl (fun ls hl => ?_)
  refine lv_aload_n hx hb d_J_entryAt_2 rfl (lv_at hl 1 rfl) ?_
  refine jg_J hc hh 3 (by decide) rfl wf_J_29 d_J_entryAt_3 ?_
  refine lv_astore (i := 4) (lv' := [(4, .ref (ad 4)), (3, jv ad 118 (-1)), (0, .ref (ad 0)), (1, jv ad 38 nav), (2, .int st)]) hx hb d_J_entryAt_6 hl (by decide) (by simp [vc_int, vc_ref, vc_long, jv_cat]) (fun ls hl => ?_)
  refine lv_aload hx hb d_J_entryAt_8 (lv_at hl 0 rfl) ?_
  refine jl_E hc hh d_J_entryAt_10 ?_
  refine lv_istore (i := 5) (lv' := [(5, .int (nI 40)), (4, .ref (ad 4)), (3, jv ad 118 (-1)), (0, .ref (ad 0)), (1, jv ad 38 nav), (2, .int st)]) hx hb d_J_entryAt_11 hl (by decide) rfl (fun ls hl => ?_)
  refine lv_iconst (v := 0) hx hb d_J_entryAt_13 (by decide) ?_
  refine lv_istore (i := 6) (lv' := [(6, .int 0), (5, .int (nI 40)), (4, .ref (ad 4)), (3, jv ad 118 (-1)), (0, .ref (ad 0)), (1, jv ad 38 nav), (2, .int st)]) hx hb d_J_entryAt_14 hl (by decide) rfl (fun ls hl => ?_)
  have L16 : ∀ (n : Nat) (i : Nat) (ls : Array Slot), i + n = 40 → lv_has ls 8 [(0, .ref (ad 0)), (1, jv ad 38 nav), (2, .int st), (3, jv ad 118 (jc_eA u nav st i)), (4, .ref (ad 4)), (5, .int (nI 40)), (6, .int (nI i))] → W p l e (jr 1) s m args below meth c H locs 0 0 Q (F0 m 16 ls []) := by
    intro n
    induction n with
    | zero =>
      intro i ls hm hl
      have hi : i = 40 := by omega
      refine lv_iload hx hb d_J_entryAt_16 (lv_at hl 6 rfl) ?_
      refine lv_iload hx hb d_J_entryAt_18 (lv_at hl 5 rfl) ?_
      refine lv_icmp_ge (tgt := 81) hx hb d_J_entryAt_20 rfl (fun h20 => ?_) (fun hq => absurd (nI_le (show 40 ≤ i by omega) (show i < 2 ^ 31 by omega)) hq)
      refine jv_aload_n hx hb d_J_entryAt_81 rfl (lv_at hl 3 rfl) ?_
      exact jx_aret (r := jc_eA u nav st i) hc hh hQ hlk hr (jv_or _ _ _) rfl ⟨by first | (rw [hi]; done) | (rw [hi]; rfl) | (rw [hi]; simp [jc_entryAt]; done), rfl⟩ d_J_entryAt_82
    | succ n ih =>
      intro i ls hm hl
      have hi : i < 40 := by omega
      refine lv_iload hx hb d_J_entryAt_16 (lv_at hl 6 rfl) ?_
      refine lv_iload hx hb d_J_entryAt_18 (lv_at hl 5 rfl) ?_
      refine lv_icmp_ge (tgt := 81) hx hb d_J_entryAt_20 rfl (fun hq => absurd hq (nI_ge hi (by decide))) (fun h20 => ?_)
      refine lv_aload hx hb d_J_entryAt_23 (lv_at hl 4 rfl) ?_
      refine lv_iload hx hb d_J_entryAt_25 (lv_at hl 6 rfl) ?_
      refine ja_E hc hh hi d_J_entryAt_27 ?_
      refine jv_astore (i := 7) (lv' := [(7, jv ad 118 (nI i)), (0, .ref (ad 0)), (1, jv ad 38 nav), (2, .int st), (3, jv ad 118 (jc_eA u nav st i)), (4, .ref (ad 4)), (5, .int (nI 40)), (6, .int (nI i))]) hx hb d_J_entryAt_28 hl (by decide) rfl (fun ls hl => ?_)
      refine jv_aload hx hb d_J_entryAt_30 (lv_at hl 0 rfl) ?_
      refine jg_E hc hh hi 0 (by decide) rfl wf_J_179 d_J_entryAt_32 ?_
      refine lv_if_eq (tgt := 75) hx hb d_J_entryAt_35 rfl (fun h35 => ?_) (fun h35 => ?_)
      ·
        refine lv_iinc (k := 7) (v := nI (i + 1)) (lv' := [(6, .int (nI (i + 1))), (7, jv ad 118 (nI i)), (0, .ref (ad 0)), (1, jv ad 38 nav), (2, .int st), (3, jv ad 118 (jc_eA u nav st i)), (4, .ref (ad 4)), (5, .int (nI 40))]) hx hb d_J_entryAt_75 hl rfl (nI_1 i) (by decide) rfl (fun ls hl => ?_)
        refine lv_goto (tgt := 16) hx hb d_J_entryAt_78 rfl ?_
        have e1 : jc_eA u nav st (i + 1) = jc_eA u nav st i := by first | (simp [nI_0, jc_eA, h35]; done) | (simp [nI_0, jc_eA, eq_true h35]; done)
        refine ih (i + 1) _ (by omega) ?_
        try rw [e1]
        exact lv_sub hl [2, 3, 4, 5, 6, 7, 0] rfl
      refine jv_aload hx hb d_J_entryAt_38 (lv_at hl 0 rfl) ?_
      refine jg_E hc hh hi 1 (by decide) rfl wf_J_135 d_J_entryAt_40 ?_
      refine jv_aload_n hx hb d_J_entryAt_43 rfl (lv_at hl 2 rfl) ?_
      refine jv_acmp_ne (tgt := 75) (n := 40) hx hb (by decide) (jd_inj hh (by decide)) (jc_S15 hS hi) q_nav d_J_entryAt_44 rfl (fun h44 => ?_) (fun h44 => ?_)
      ·
        refine lv_iinc (k := 7) (v := nI (i + 1)) (lv' := [(6, .int (nI (i + 1))), (7, jv ad 118 (nI i)), (0, .ref (ad 0)), (1, jv ad 38 nav), (2, .int st), (3, jv ad 118 (jc_eA u nav st i)), (4, .ref (ad 4)), (5, .int (nI 40))]) hx hb d_J_entryAt_75 hl rfl (nI_1 i) (by decide) rfl (fun ls hl => ?_)
        refine lv_goto (tgt := 16) hx hb d_J_entryAt_78 rfl ?_
        have e2 : jc_eA u nav st (i + 1) = jc_eA u nav st i := by simp [nI_0, jc_eA, h35, h44]
        refine ih (i + 1) _ (by omega) ?_
        try rw [e2]
        exact lv_sub hl [2, 3, 4, 5, 6, 7, 0] rfl
      refine jv_aload hx hb d_J_entryAt_47 (lv_at hl 0 rfl) ?_
      refine jg_E hc hh hi 2 (by decide) rfl wf_J_128 d_J_entryAt_49 ?_
      refine lv_iload_n hx hb d_J_entryAt_52 rfl (lv_at hl 3 rfl) ?_
      refine lv_icmp_gt (tgt := 75) hx hb d_J_entryAt_53 rfl (fun h53 => ?_) (fun h53 => ?_)
      ·
        refine lv_iinc (k := 7) (v := nI (i + 1)) (lv' := [(6, .int (nI (i + 1))), (7, jv ad 118 (nI i)), (0, .ref (ad 0)), (1, jv ad 38 nav), (2, .int st), (3, jv ad 118 (jc_eA u nav st i)), (4, .ref (ad 4)), (5, .int (nI 40))]) hx hb d_J_entryAt_75 hl rfl (nI_1 i) (by decide) rfl (fun ls hl => ?_)
        refine lv_goto (tgt := 16) hx hb d_J_entryAt_78 rfl ?_
        have e3 : jc_eA u nav st (i + 1) = jc_eA u nav st i := by first | (simp [nI_0, jc_eA, h35, h44, h53]; done) | (simp [nI_0, jc_eA, h35, eq_true h44, h53]; done)
        refine ih (i + 1) _ (by omega) ?_
        try rw [e3]
        exact lv_sub hl [2, 3, 4, 5, 6, 7, 0] rfl
      refine jv_aload_n hx hb d_J_entryAt_56 rfl (lv_at hl 4 rfl) ?_
      refine jv_ifnull (tgt := 72) hx hb d_J_entryAt_57 rfl (fun h57 => ?_) (fun h57 => ?_)
      ·
        refine jv_aload hx hb d_J_entryAt_72 (lv_at hl 0 rfl) ?_
        refine jv_astore_n (i := 3) (lv' := [(3, jv ad 118 (nI i)), (7, jv ad 118 (nI i)), (0, .ref (ad 0)), (1, jv ad 38 nav), (2, .int st), (4, .ref (ad 4)), (5, .int (nI 40)), (6, .int (nI i))]) hx hb d_J_entryAt_74 rfl hl (by decide) rfl (fun ls hl => ?_)
        refine lv_iinc (k := 7) (v := nI (i + 1)) (lv' := [(6, .int (nI (i + 1))), (3, jv ad 118 (nI i)), (7, jv ad 118 (nI i)), (0, .ref (ad 0)), (1, jv ad 38 nav), (2, .int st), (4, .ref (ad 4)), (5, .int (nI 40))]) hx hb d_J_entryAt_75 hl rfl (nI_1 i) (by decide) rfl (fun ls hl => ?_)
        refine lv_goto (tgt := 16) hx hb d_J_entryAt_78 rfl ?_
        have e4 : jc_eA u nav st (i + 1) = nI i := by first | (simp [nI_0, jc_eA, h35, h44, h53, h57]; done) | (simp [nI_0, jc_eA, h35, eq_true h44, h53, eq_true h57]; done)
        refine ih (i + 1) _ (by omega) ?_
        try rw [e4]
        exact lv_sub hl [3, 4, 5, 1, 6, 7, 0] rfl
      refine jv_aload hx hb d_J_entryAt_60 (lv_at hl 0 rfl) ?_
      refine jg_E hc hh hi 2 (by decide) rfl wf_J_128 d_J_entryAt_62 ?_
      refine jv_aload_n hx hb d_J_entryAt_65 rfl (lv_at hl 4 rfl) ?_
      refine jgx_E hc hh (jq_ne (jc_eA_jq i (by omega)) h57) 2 (by decide) rfl wf_J_128 d_J_entryAt_66 ?_
      refine lv_icmp_le (tgt := 75) hx hb d_J_entryAt_69 rfl (fun h69 => ?_) (fun h69 => ?_)
      ·
        refine lv_iinc (k := 7) (v := nI (i + 1)) (lv' := [(6, .int (nI (i + 1))), (7, jv ad 118 (nI i)), (0, .ref (ad 0)), (1, jv ad 38 nav), (2, .int st), (3, jv ad 118 (jc_eA u nav st i)), (4, .ref (ad 4)), (5, .int (nI 40))]) hx hb d_J_entryAt_75 hl rfl (nI_1 i) (by decide) rfl (fun ls hl => ?_)
        refine lv_goto (tgt := 16) hx hb d_J_entryAt_78 rfl ?_
        have e5 : jc_eA u nav st (i + 1) = jc_eA u nav st i := by first | (simp [nI_0, jc_eA, h35, h44, h53, h57, h69]; done) | (simp [nI_0, jc_eA, h35, eq_true h44, h53, h57, h69]; done)
        refine ih (i + 1) _ (by omega) ?_
        try rw [e5]
        exact lv_sub hl [2, 3, 4, 5, 6, 7, 0] rfl
      refine jv_aload hx hb d_J_entryAt_72 (lv_at hl 0 rfl) ?_
      refine jv_astore_n (i := 3) (lv' := [(3, jv ad 118 (nI i)), (7, jv ad 118 (nI i)), (0, .ref (ad 0)), (1, jv ad 38 nav), (2, .int st), (4, .ref (ad 4)), (5, .int (nI 40)), (6, .int (nI i))]) hx hb d_J_entryAt_74 rfl hl (by decide) rfl (fun ls hl => ?_)
      refine lv_iinc (k := 7) (v := nI (i + 1)) (lv' := [(6, .int (nI (i + 1))), (3, jv ad 118 (nI i)), (7, jv ad 118 (nI i)), (0, .ref (ad 0)), (1, jv ad 38 nav), (2, .int st), (4, .ref (ad 4)), (5, .int (nI 40))]) hx hb d_J_entryAt_75 hl rfl (nI_1 i) (by decide) rfl (fun ls hl => ?_)
      refine lv_goto (tgt := 16) hx hb d_J_entryAt_78 rfl ?_
      have e6 : jc_eA u nav st (i + 1) = nI i := by first | (simp [nI_0, jc_eA, h35, h44, h53, h57, h69]; done) | (simp [nI_0, jc_eA, h35, eq_true h44, h53, h57, h69]; done)
      refine ih (i + 1) _ (by omega) ?_
      try rw [e6]
      exact lv_sub hl [3, 4, 5, 1, 6, 7, 0] rfl
  have e7 : jc_eA u nav st 0 = (-1) := by simp [nI_0, jc_eA]
  have e8 : nI 0 = 0 := rfl
  refine L16 40 0 _ (by omega) ?_
  try rw [e7]
  try rw [e8]
  exact lv_sub hl [4, 5, 6, 3, 2, 1, 0] rfl
end
section
set_option maxHeartbeats 4000000 in
set_option maxRecDepth 100000 in
theorem c_giveOpaqueOrigin (l : Launch) (D : va_G) (aK ad : Nat → Nat) (cA : Nat → ClassId) (u : js_S) : jx_M l y_J_giveOpaqueOrigin b_J_giveOpaqueOrigin 2 (some .int) (jr 1) D (jc_tys cA) aK 158 ad (jc_cell ad aK cA) [.ref (ad 0)] u (fun r : Int32 => some (.int r)) (fun r u' => r = 4 + u 24 0 ∧ u' = (js_up u 24 0 (u 24 0 + 1))) := by
  refine jx_enter "JointHistory" (by decide) rfl (by simp [lg_sl, vc_int, vc_ref, vc_long, jv_cat]) ?_
  intro p e s m args below meth c A Q H locs ls hQ hc hh hr hlk hl
  have hx := hc.1
  have hb := hc.2.1
  have hl : lv_has ls 2 [(0, .ref (ad 0))] := by simpa [lv_args, vc_int, vc_ref, vc_long, jv_cat] using hl
  refine lv_iconst (v := 4) hx hb d_J_giveOpaqueOrigin_0 (by decide) ?_
  refine lv_aload_n hx hb d_J_giveOpaqueOrigin_1 rfl (lv_at hl 0 rfl) ?_
  refine jg_J hc hh 8 (by decide) rfl wf_J_193 d_J_giveOpaqueOrigin_2 ?_
  refine lv_iadd hx hb d_J_giveOpaqueOrigin_5 ?_
  refine lv_istore_n (i := 1) (lv' := [(1, .int (4 + (u 24 0))), (0, .ref (ad 0))]) hx hb d_J_giveOpaqueOrigin_6 rfl hl (by decide) rfl (fun ls hl => ?_)
  refine lv_aload_n hx hb d_J_giveOpaqueOrigin_7 rfl (lv_at hl 1 rfl) ?_
  refine lv_dup hx hb d_J_giveOpaqueOrigin_8 rfl ?_
  refine jg_J hc hh 8 (by decide) rfl wf_J_193 d_J_giveOpaqueOrigin_9 ?_
  refine lv_iconst (v := 1) hx hb d_J_giveOpaqueOrigin_12 (by decide) ?_
  refine lv_iadd hx hb d_J_giveOpaqueOrigin_13 ?_
  refine jp_24 hc hh wf_J_193 d_J_giveOpaqueOrigin_14 (fun H locs hh => ?_)
  refine lv_iload_n hx hb d_J_giveOpaqueOrigin_17 rfl (lv_at hl 0 rfl) ?_
  exact jx_iret (r := (4 + (u 24 0))) hc hh hQ hlk hr rfl rfl ⟨by simp [], by simp []⟩ d_J_giveOpaqueOrigin_18
set_option maxHeartbeats 4000000 in
set_option maxRecDepth 100000 in
theorem c_freeNavigable (l : Launch) (D : va_G) (aK ad : Nat → Nat) (cA : Nat → ClassId) (u : js_S) : jx_M l y_J_freeNavigable b_J_freeNavigable 2 (some (.object "JointHistory$Navigable")) (jr 1) D (jc_tys cA) aK 158 ad (jc_cell ad aK cA) [.ref (ad 0)] u (fun r : Int32 => some (jv ad 38 r)) (fun r u' => r = nI (js_free u 5 38 1) ∧ u' = u) := by
  refine jx_enter "JointHistory" (by decide) rfl (by simp [lg_sl, vc_int, vc_ref, vc_long, jv_cat]) ?_
  intro p e s m args below meth c A Q H locs ls hQ hc hh hr hlk hl
  have hx := hc.1
  have hb := hc.2.1
  have hl : lv_has ls 2 [(0, .ref (ad 0))] := by simpa [lv_args, vc_int, vc_ref, vc_long, jv_cat] using hl
  refine lv_iconst (v := 1) hx hb d_J_freeNavigable_0 (by decide) ?_
  refine lv_istore_n (i := 1) (lv' := [(1, .int 1), (0, .ref (ad 0))]) hx hb d_J_freeNavigable_1 rfl hl (by decide) rfl (fun ls hl => ?_)
  have L2 : ∀ (n : Nat) (i : Nat) (ls : Array Slot), i + n = 39 → (js_free u 5 n i = js_free u 5 38 1) → lv_has ls 2 [(0, .ref (ad 0)), (1, .int (nI i))] → W p l e (jr 1) s m args below meth c H locs 0 0 Q (F0 m 2 ls []) := by
    intro n
    induction n with
    | zero =>
      intro i ls hm hf hl
      have hi : i < 40 := by omega
      refine lv_iload_n hx hb d_J_freeNavigable_2 rfl (lv_at hl 1 rfl) ?_
      refine lv_bipush (v := 39) hx hb d_J_freeNavigable_3 (by decide) ?_
      refine lv_icmp_ge (tgt := 26) hx hb d_J_freeNavigable_5 rfl (fun h5 => ?_) (fun hq => absurd (nI_le (show 39 ≤ i by omega) (show i < 2 ^ 31 by omega)) hq)
      have J26 : ∀ (i : Nat) (ls : Array Slot), (i < 40) → (i = js_free u 5 38 1) → lv_has ls 2 [(0, .ref (ad 0)), (1, .int (nI i))] → W p l e (jr 1) s m args below meth c H locs 0 0 Q (F0 m 26 ls []) := by
        intro i ls hi hf hl
        refine lv_aload_n hx hb d_J_freeNavigable_26 rfl (lv_at hl 0 rfl) ?_
        refine jg_J hc hh 1 (by decide) rfl wf_J_17 d_J_freeNavigable_27 ?_
        refine lv_iload_n hx hb d_J_freeNavigable_30 rfl (lv_at hl 1 rfl) ?_
        refine ja_N hc hh hi d_J_freeNavigable_31 ?_
        exact jx_aret (r := nI i) hc hh hQ hlk hr (jv_or _ _ _) rfl ⟨by rw [← hf], rfl⟩ d_J_freeNavigable_32
      refine J26 i _ hi (by rw [← hf]; first | rfl | simp [js_free, h17]) ?_
      exact lv_sub hl [0, 1] rfl
    | succ n ih =>
      intro i ls hm hf hl
      have hi : i < 40 := by omega
      have hi9 : i < 39 := by omega
      refine lv_iload_n hx hb d_J_freeNavigable_2 rfl (lv_at hl 1 rfl) ?_
      refine lv_bipush (v := 39) hx hb d_J_freeNavigable_3 (by decide) ?_
      refine lv_icmp_ge (tgt := 26) hx hb d_J_freeNavigable_5 rfl (fun hq => absurd hq (nI_ge hi9 (by decide))) (fun h5 => ?_)
      refine lv_aload_n hx hb d_J_freeNavigable_8 rfl (lv_at hl 0 rfl) ?_
      refine jg_J hc hh 1 (by decide) rfl wf_J_17 d_J_freeNavigable_9 ?_
      refine lv_iload_n hx hb d_J_freeNavigable_12 rfl (lv_at hl 1 rfl) ?_
      refine ja_N hc hh hi d_J_freeNavigable_13 ?_
      refine jg_N hc hh hi 1 (by decide) rfl wf_J_43 d_J_freeNavigable_14 ?_
      refine lv_if_eq (tgt := 26) hx hb d_J_freeNavigable_17 rfl (fun h17 => ?_) (fun h17 => ?_)
      ·
        have J26 : ∀ (i : Nat) (ls : Array Slot), (i < 40) → (i = js_free u 5 38 1) → lv_has ls 2 [(0, .ref (ad 0)), (1, .int (nI i))] → W p l e (jr 1) s m args below meth c H locs 0 0 Q (F0 m 26 ls []) := by
          intro i ls hi hf hl
          refine lv_aload_n hx hb d_J_freeNavigable_26 rfl (lv_at hl 0 rfl) ?_
          refine jg_J hc hh 1 (by decide) rfl wf_J_17 d_J_freeNavigable_27 ?_
          refine lv_iload_n hx hb d_J_freeNavigable_30 rfl (lv_at hl 1 rfl) ?_
          refine ja_N hc hh hi d_J_freeNavigable_31 ?_
          exact jx_aret (r := nI i) hc hh hQ hlk hr (jv_or _ _ _) rfl ⟨by rw [← hf], rfl⟩ d_J_freeNavigable_32
        refine J26 i _ hi (by rw [← hf]; first | rfl | simp [js_free, h17]) ?_
        exact lv_sub hl [0, 1] rfl
      refine lv_iinc (k := 1) (v := nI (i + 1)) (lv' := [(1, .int (nI (i + 1))), (0, .ref (ad 0))]) hx hb d_J_freeNavigable_20 hl rfl (nI_1 i) (by decide) rfl (fun ls hl => ?_)
      refine lv_goto (tgt := 2) hx hb d_J_freeNavigable_23 rfl ?_
      refine ih (i + 1) _ (by omega) (by rw [← hf]; simp [js_free, h17]) ?_
      exact lv_sub hl [1, 0] rfl
  have e1 : nI 1 = 1 := rfl
  refine L2 38 1 _ (by omega) rfl ?_
  try rw [e1]
  exact lv_sub hl [1, 0] rfl
set_option maxHeartbeats 4000000 in
set_option maxRecDepth 100000 in
theorem c_freeDocument (l : Launch) (D : va_G) (aK ad : Nat → Nat) (cA : Nat → ClassId) (u : js_S) (o : Int32) : jx_M l y_J_freeDocument b_J_freeDocument 4 (some (.object "JointHistory$Document")) (jr 1) D (jc_tys cA) aK 158 ad (jc_cell ad aK cA) [.ref (ad 0), jv ad 38 o] u (fun r : Int32 => some (jv ad 78 r)) (fun r u' => r = nI (js_free u 8 39 0) ∧ u' = (jc_freeDoc u o)) := by
  refine jx_enter "JointHistory" (by decide) rfl (by simp [lg_sl, vc_int, vc_ref, vc_long, jv_cat]) ?_
  intro p e s m args below meth c A Q H locs ls hQ hc hh hr hlk hl
  have hx := hc.1
  have hb := hc.2.1
  have hl : lv_has ls 4 [(0, .ref (ad 0)), (1, jv ad 38 o)] := by simpa [lv_args, vc_int, vc_ref, vc_long, jv_cat] using hl
  refine lv_iconst (v := 0) hx hb d_J_freeDocument_0 (by decide) ?_
  refine lv_istore_n (i := 2) (lv' := [(2, .int 0), (0, .ref (ad 0)), (1, jv ad 38 o)]) hx hb d_J_freeDocument_1 rfl hl (by decide) (by simp [vc_int, vc_ref, vc_long, jv_cat]) (fun ls hl => ?_)
  have L2 : ∀ (n : Nat) (i : Nat) (ls : Array Slot), i + n = 39 → (js_free u 8 n i = js_free u 8 39 0) → lv_has ls 4 [(0, .ref (ad 0)), (1, jv ad 38 o), (2, .int (nI i))] → W p l e (jr 1) s m args below meth c H locs 0 0 Q (F0 m 2 ls []) := by
    intro n
    induction n with
    | zero =>
      intro i ls hm hf hl
      have hi : i < 40 := by omega
      refine lv_iload_n hx hb d_J_freeDocument_2 rfl (lv_at hl 2 rfl) ?_
      refine lv_bipush (v := 39) hx hb d_J_freeDocument_3 (by decide) ?_
      refine lv_icmp_ge (tgt := 26) hx hb d_J_freeDocument_5 rfl (fun h5 => ?_) (fun hq => absurd (nI_le (show 39 ≤ i by omega) (show i < 2 ^ 31 by omega)) hq)
      have J26 : ∀ (i : Nat) (ls : Array Slot), (i < 40) → (i = js_free u 8 39 0) → lv_has ls 4 [(0, .ref (ad 0)), (1, jv ad 38 o), (2, .int (nI i))] → W p l e (jr 1) s m args below meth c H locs 0 0 Q (F0 m 26 ls []) := by
        intro i ls hi hf hl
        refine lv_aload_n hx hb d_J_freeDocument_26 rfl (lv_at hl 0 rfl) ?_
        refine jg_J hc hh 2 (by decide) rfl wf_J_23 d_J_freeDocument_27 ?_
        refine lv_iload_n hx hb d_J_freeDocument_30 rfl (lv_at hl 2 rfl) ?_
        refine ja_D hc hh hi d_J_freeDocument_31 ?_
        refine jv_astore_n (i := 3) (lv' := [(3, jv ad 78 (nI i)), (0, .ref (ad 0)), (1, jv ad 38 o), (2, .int (nI i))]) hx hb d_J_freeDocument_32 rfl hl (by decide) rfl (fun ls hl => ?_)
        refine jv_aload_n hx hb d_J_freeDocument_33 rfl (lv_at hl 0 rfl) ?_
        refine lv_iconst (v := 1) hx hb d_J_freeDocument_34 (by decide) ?_
        refine jp_8 hc hh hi (by decide) wf_J_244 d_J_freeDocument_35 (fun H locs hh => ?_)
        refine jv_aload_n hx hb d_J_freeDocument_38 rfl (lv_at hl 0 rfl) ?_
        refine jv_aload_n hx hb d_J_freeDocument_39 rfl (lv_at hl 2 rfl) ?_
        refine jp_9 hc hh hi wf_J_211 d_J_freeDocument_40 (fun H locs hh => ?_)
        refine jv_aload_n hx hb d_J_freeDocument_43 rfl (lv_at hl 0 rfl) ?_
        refine jv_const (ad := ad) (off := 38) hx hb d_J_freeDocument_44 ?_
        refine jp_12 hc hh hi wf_J_171 d_J_freeDocument_45 (fun H locs hh => ?_)
        refine jv_aload_n hx hb d_J_freeDocument_48 rfl (lv_at hl 0 rfl) ?_
        refine jv_const (ad := ad) (off := 38) hx hb d_J_freeDocument_49 ?_
        refine jp_13 hc hh hi wf_J_177 d_J_freeDocument_50 (fun H locs hh => ?_)
        refine jv_aload_n hx hb d_J_freeDocument_53 rfl (lv_at hl 0 rfl) ?_
        exact jx_aret (r := nI i) hc hh hQ hlk hr (jv_or _ _ _) rfl ⟨by rw [← hf], by rw [hf]; rfl⟩ d_J_freeDocument_54
      refine J26 i _ hi (by rw [← hf]; first | rfl | simp [js_free, h17]) ?_
      exact lv_sub hl [0, 1, 2] rfl
    | succ n ih =>
      intro i ls hm hf hl
      have hi : i < 40 := by omega
      have hi9 : i < 39 := by omega
      refine lv_iload_n hx hb d_J_freeDocument_2 rfl (lv_at hl 2 rfl) ?_
      refine lv_bipush (v := 39) hx hb d_J_freeDocument_3 (by decide) ?_
      refine lv_icmp_ge (tgt := 26) hx hb d_J_freeDocument_5 rfl (fun hq => absurd hq (nI_ge hi9 (by decide))) (fun h5 => ?_)
      refine lv_aload_n hx hb d_J_freeDocument_8 rfl (lv_at hl 0 rfl) ?_
      refine jg_J hc hh 2 (by decide) rfl wf_J_23 d_J_freeDocument_9 ?_
      refine lv_iload_n hx hb d_J_freeDocument_12 rfl (lv_at hl 2 rfl) ?_
      refine ja_D hc hh hi d_J_freeDocument_13 ?_
      refine jg_D hc hh hi 0 (by decide) rfl wf_J_244 d_J_freeDocument_14 ?_
      refine lv_if_eq (tgt := 26) hx hb d_J_freeDocument_17 rfl (fun h17 => ?_) (fun h17 => ?_)
      ·
        have J26 : ∀ (i : Nat) (ls : Array Slot), (i < 40) → (i = js_free u 8 39 0) → lv_has ls 4 [(0, .ref (ad 0)), (1, jv ad 38 o), (2, .int (nI i))] → W p l e (jr 1) s m args below meth c H locs 0 0 Q (F0 m 26 ls []) := by
          intro i ls hi hf hl
          refine lv_aload_n hx hb d_J_freeDocument_26 rfl (lv_at hl 0 rfl) ?_
          refine jg_J hc hh 2 (by decide) rfl wf_J_23 d_J_freeDocument_27 ?_
          refine lv_iload_n hx hb d_J_freeDocument_30 rfl (lv_at hl 2 rfl) ?_
          refine ja_D hc hh hi d_J_freeDocument_31 ?_
          refine jv_astore_n (i := 3) (lv' := [(3, jv ad 78 (nI i)), (0, .ref (ad 0)), (1, jv ad 38 o), (2, .int (nI i))]) hx hb d_J_freeDocument_32 rfl hl (by decide) rfl (fun ls hl => ?_)
          refine jv_aload_n hx hb d_J_freeDocument_33 rfl (lv_at hl 0 rfl) ?_
          refine lv_iconst (v := 1) hx hb d_J_freeDocument_34 (by decide) ?_
          refine jp_8 hc hh hi (by decide) wf_J_244 d_J_freeDocument_35 (fun H locs hh => ?_)
          refine jv_aload_n hx hb d_J_freeDocument_38 rfl (lv_at hl 0 rfl) ?_
          refine jv_aload_n hx hb d_J_freeDocument_39 rfl (lv_at hl 2 rfl) ?_
          refine jp_9 hc hh hi wf_J_211 d_J_freeDocument_40 (fun H locs hh => ?_)
          refine jv_aload_n hx hb d_J_freeDocument_43 rfl (lv_at hl 0 rfl) ?_
          refine jv_const (ad := ad) (off := 38) hx hb d_J_freeDocument_44 ?_
          refine jp_12 hc hh hi wf_J_171 d_J_freeDocument_45 (fun H locs hh => ?_)
          refine jv_aload_n hx hb d_J_freeDocument_48 rfl (lv_at hl 0 rfl) ?_
          refine jv_const (ad := ad) (off := 38) hx hb d_J_freeDocument_49 ?_
          refine jp_13 hc hh hi wf_J_177 d_J_freeDocument_50 (fun H locs hh => ?_)
          refine jv_aload_n hx hb d_J_freeDocument_53 rfl (lv_at hl 0 rfl) ?_
          exact jx_aret (r := nI i) hc hh hQ hlk hr (jv_or _ _ _) rfl ⟨by rw [← hf], by rw [hf]; rfl⟩ d_J_freeDocument_54
        refine J26 i _ hi (by rw [← hf]; first | rfl | simp [js_free, h17]) ?_
        exact lv_sub hl [0, 1, 2] rfl
      refine lv_iinc (k := 2) (v := nI (i + 1)) (lv' := [(2, .int (nI (i + 1))), (0, .ref (ad 0)), (1, jv ad 38 o)]) hx hb d_J_freeDocument_20 hl rfl (nI_1 i) (by decide) (by simp [vc_int, vc_ref, vc_long, jv_cat]) (fun ls hl => ?_)
      refine lv_goto (tgt := 2) hx hb d_J_freeDocument_23 rfl ?_
      refine ih (i + 1) _ (by omega) (by rw [← hf]; simp [js_free, h17]) ?_
      exact lv_sub hl [1, 2, 0] rfl
  have e1 : nI 0 = 0 := rfl
  refine L2 39 0 _ (by omega) rfl ?_
  try rw [e1]
  exact lv_sub hl [1, 2, 0] rfl
set_option maxHeartbeats 4000000 in
set_option maxRecDepth 100000 in
theorem c_addEntry (l : Launch) (D : va_G) (aK ad : Nat → Nat) (cA : Nat → ClassId) (u : js_S) (o : Int32) (st : Int32) (url : Int32) (state : Int32) (doc : Int32) : jx_M l y_J_addEntry b_J_addEntry 8 none (jr 1) D (jc_tys cA) aK 158 ad (jc_cell ad aK cA) [.ref (ad 0), jv ad 38 o, .int st, .int url, .int state, jv ad 78 doc] u (fun _ : Unit => none) (fun r u' => r = () ∧ u' = (jc_addEntry u o st url state doc)) := by
  refine jx_enter "JointHistory" (by decide) rfl (by simp [lg_sl, vc_int, vc_ref, vc_long, jv_cat]) ?_
  intro p e s m args below meth c A Q H locs ls hQ hc hh hr hlk hl
  have hx := hc.1
  have hb := hc.2.1
  have hl : lv_has ls 8 [(0, .ref (ad 0)), (1, jv ad 38 o), (2, .int st), (3, .int url), (4, .int state), (5, jv ad 78 doc)] := by simpa [lv_args, vc_int, vc_ref, vc_long, jv_cat] using hl
  refine lv_iconst (v := 0) hx hb d_J_addEntry_0 (by decide) ?_
  refine lv_istore (i := 6) (lv' := [(6, .int 0), (0, .ref (ad 0)), (1, jv ad 38 o), (2, .int st), (3, .int url), (4, .int state), (5, jv ad 78 doc)]) hx hb d_J_addEntry_1 hl (by decide) (by simp [vc_int, vc_ref, vc_long, jv_cat]) (fun ls hl => ?_)
  have L3 : ∀ (n : Nat) (i : Nat) (ls : Array Slot), i + n = 39 → (js_free u 14 n i = js_free u 14 39 0) → lv_has ls 8 [(0, .ref (ad 0)), (1, jv ad 38 o), (2, .int st), (3, .int url), (4, .int state), (5, jv ad 78 doc), (6, .int (nI i))] → W p l e (jr 1) s m args below meth c H locs 0 0 Q (F0 m 3 ls []) := by
    intro n
    induction n with
    | zero =>
      intro i ls hm hf hl
      have hi : i < 40 := by omega
      refine lv_iload hx hb d_J_addEntry_3 (lv_at hl 6 rfl) ?_
      refine lv_bipush (v := 39) hx hb d_J_addEntry_5 (by decide) ?_
      refine lv_icmp_ge (tgt := 29) hx hb d_J_addEntry_7 rfl (fun h7 => ?_) (fun hq => absurd (nI_le (show 39 ≤ i by omega) (show i < 2 ^ 31 by omega)) hq)
      have J29 : ∀ (i : Nat) (ls : Array Slot), (i < 40) → (i = js_free u 14 39 0) → lv_has ls 8 [(0, .ref (ad 0)), (1, jv ad 38 o), (2, .int st), (3, .int url), (4, .int state), (5, jv ad 78 doc), (6, .int (nI i))] → W p l e (jr 1) s m args below meth c H locs 0 0 Q (F0 m 29 ls []) := by
        intro i ls hi hf hl
        refine lv_aload_n hx hb d_J_addEntry_29 rfl (lv_at hl 0 rfl) ?_
        refine jg_J hc hh 3 (by decide) rfl wf_J_29 d_J_addEntry_30 ?_
        refine lv_iload hx hb d_J_addEntry_33 (lv_at hl 6 rfl) ?_
        refine ja_E hc hh hi d_J_addEntry_35 ?_
        refine jv_astore (i := 7) (lv' := [(7, jv ad 118 (nI i)), (0, .ref (ad 0)), (1, jv ad 38 o), (2, .int st), (3, .int url), (4, .int state), (5, jv ad 78 doc), (6, .int (nI i))]) hx hb d_J_addEntry_36 hl (by decide) rfl (fun ls hl => ?_)
        refine jv_aload hx hb d_J_addEntry_38 (lv_at hl 0 rfl) ?_
        refine lv_iconst (v := 1) hx hb d_J_addEntry_40 (by decide) ?_
        refine jp_14 hc hh hi (by decide) wf_J_179 d_J_addEntry_41 (fun H locs hh => ?_)
        refine jv_aload hx hb d_J_addEntry_44 (lv_at hl 0 rfl) ?_
        refine jv_aload_n hx hb d_J_addEntry_46 rfl (lv_at hl 2 rfl) ?_
        refine jp_15 hc hh hi wf_J_135 d_J_addEntry_47 (fun H locs hh => ?_)
        refine jv_aload hx hb d_J_addEntry_50 (lv_at hl 0 rfl) ?_
        refine lv_iload_n hx hb d_J_addEntry_52 rfl (lv_at hl 3 rfl) ?_
        refine jp_16 hc hh hi wf_J_128 d_J_addEntry_53 (fun H locs hh => ?_)
        refine jv_aload hx hb d_J_addEntry_56 (lv_at hl 0 rfl) ?_
        refine lv_iload_n hx hb d_J_addEntry_58 rfl (lv_at hl 4 rfl) ?_
        refine jp_17 hc hh hi wf_J_103 d_J_addEntry_59 (fun H locs hh => ?_)
        refine jv_aload hx hb d_J_addEntry_62 (lv_at hl 0 rfl) ?_
        refine lv_iload hx hb d_J_addEntry_64 (lv_at hl 5 rfl) ?_
        refine jp_18 hc hh hi wf_J_165 d_J_addEntry_66 (fun H locs hh => ?_)
        refine jv_aload hx hb d_J_addEntry_69 (lv_at hl 0 rfl) ?_
        refine jv_aload hx hb d_J_addEntry_71 (lv_at hl 6 rfl) ?_
        refine jp_19 hc hh hi wf_J_120 d_J_addEntry_73 (fun H locs hh => ?_)
        exact jx_vret (r := ()) hc hh hQ hlk hr rfl ⟨rfl, by rw [hf]; rfl⟩ d_J_addEntry_76
      refine J29 i _ hi (by rw [← hf]; first | rfl | simp [js_free, h20]) ?_
      exact lv_sub hl [0, 1, 2, 3, 4, 5, 6] rfl
    | succ n ih =>
      intro i ls hm hf hl
      have hi : i < 40 := by omega
      have hi9 : i < 39 := by omega
      refine lv_iload hx hb d_J_addEntry_3 (lv_at hl 6 rfl) ?_
      refine lv_bipush (v := 39) hx hb d_J_addEntry_5 (by decide) ?_
      refine lv_icmp_ge (tgt := 29) hx hb d_J_addEntry_7 rfl (fun hq => absurd hq (nI_ge hi9 (by decide))) (fun h7 => ?_)
      refine lv_aload_n hx hb d_J_addEntry_10 rfl (lv_at hl 0 rfl) ?_
      refine jg_J hc hh 3 (by decide) rfl wf_J_29 d_J_addEntry_11 ?_
      refine lv_iload hx hb d_J_addEntry_14 (lv_at hl 6 rfl) ?_
      refine ja_E hc hh hi d_J_addEntry_16 ?_
      refine jg_E hc hh hi 0 (by decide) rfl wf_J_179 d_J_addEntry_17 ?_
      refine lv_if_eq (tgt := 29) hx hb d_J_addEntry_20 rfl (fun h20 => ?_) (fun h20 => ?_)
      ·
        have J29 : ∀ (i : Nat) (ls : Array Slot), (i < 40) → (i = js_free u 14 39 0) → lv_has ls 8 [(0, .ref (ad 0)), (1, jv ad 38 o), (2, .int st), (3, .int url), (4, .int state), (5, jv ad 78 doc), (6, .int (nI i))] → W p l e (jr 1) s m args below meth c H locs 0 0 Q (F0 m 29 ls []) := by
          intro i ls hi hf hl
          refine lv_aload_n hx hb d_J_addEntry_29 rfl (lv_at hl 0 rfl) ?_
          refine jg_J hc hh 3 (by decide) rfl wf_J_29 d_J_addEntry_30 ?_
          refine lv_iload hx hb d_J_addEntry_33 (lv_at hl 6 rfl) ?_
          refine ja_E hc hh hi d_J_addEntry_35 ?_
          refine jv_astore (i := 7) (lv' := [(7, jv ad 118 (nI i)), (0, .ref (ad 0)), (1, jv ad 38 o), (2, .int st), (3, .int url), (4, .int state), (5, jv ad 78 doc), (6, .int (nI i))]) hx hb d_J_addEntry_36 hl (by decide) rfl (fun ls hl => ?_)
          refine jv_aload hx hb d_J_addEntry_38 (lv_at hl 0 rfl) ?_
          refine lv_iconst (v := 1) hx hb d_J_addEntry_40 (by decide) ?_
          refine jp_14 hc hh hi (by decide) wf_J_179 d_J_addEntry_41 (fun H locs hh => ?_)
          refine jv_aload hx hb d_J_addEntry_44 (lv_at hl 0 rfl) ?_
          refine jv_aload_n hx hb d_J_addEntry_46 rfl (lv_at hl 2 rfl) ?_
          refine jp_15 hc hh hi wf_J_135 d_J_addEntry_47 (fun H locs hh => ?_)
          refine jv_aload hx hb d_J_addEntry_50 (lv_at hl 0 rfl) ?_
          refine lv_iload_n hx hb d_J_addEntry_52 rfl (lv_at hl 3 rfl) ?_
          refine jp_16 hc hh hi wf_J_128 d_J_addEntry_53 (fun H locs hh => ?_)
          refine jv_aload hx hb d_J_addEntry_56 (lv_at hl 0 rfl) ?_
          refine lv_iload_n hx hb d_J_addEntry_58 rfl (lv_at hl 4 rfl) ?_
          refine jp_17 hc hh hi wf_J_103 d_J_addEntry_59 (fun H locs hh => ?_)
          refine jv_aload hx hb d_J_addEntry_62 (lv_at hl 0 rfl) ?_
          refine lv_iload hx hb d_J_addEntry_64 (lv_at hl 5 rfl) ?_
          refine jp_18 hc hh hi wf_J_165 d_J_addEntry_66 (fun H locs hh => ?_)
          refine jv_aload hx hb d_J_addEntry_69 (lv_at hl 0 rfl) ?_
          refine jv_aload hx hb d_J_addEntry_71 (lv_at hl 6 rfl) ?_
          refine jp_19 hc hh hi wf_J_120 d_J_addEntry_73 (fun H locs hh => ?_)
          exact jx_vret (r := ()) hc hh hQ hlk hr rfl ⟨rfl, by rw [hf]; rfl⟩ d_J_addEntry_76
        refine J29 i _ hi (by rw [← hf]; first | rfl | simp [js_free, h20]) ?_
        exact lv_sub hl [0, 1, 2, 3, 4, 5, 6] rfl
      refine lv_iinc (k := 6) (v := nI (i + 1)) (lv' := [(6, .int (nI (i + 1))), (0, .ref (ad 0)), (1, jv ad 38 o), (2, .int st), (3, .int url), (4, .int state), (5, jv ad 78 doc)]) hx hb d_J_addEntry_23 hl rfl (nI_1 i) (by decide) (by simp [vc_int, vc_ref, vc_long, jv_cat]) (fun ls hl => ?_)
      refine lv_goto (tgt := 3) hx hb d_J_addEntry_26 rfl ?_
      refine ih (i + 1) _ (by omega) (by rw [← hf]; simp [js_free, h20]) ?_
      exact lv_sub hl [1, 2, 3, 4, 5, 6, 0] rfl
  have e1 : nI 0 = 0 := rfl
  refine L3 39 0 _ (by omega) rfl ?_
  try rw [e1]
  exact lv_sub hl [1, 2, 3, 4, 5, 6, 0] rfl
end
section
set_option maxHeartbeats 4000000 in
set_option maxRecDepth 100000 in
theorem c_keepOnlyHeldDocuments (l : Launch) (D : va_G) (aK ad : Nat → Nat) (cA : Nat → ClassId) (u : js_S) (hS : jc_Sh u) : jx_M l y_J_keepOnlyHeldDocuments b_J_keepOnlyHeldDocuments 5 none (jr 1) D (jc_tys cA) aK 158 ad (jc_cell ad aK cA) [.ref (ad 0)] u (fun _ : Unit => none) (fun r u' => r = () ∧ u' = (jc_keepDocs u)) := by
  refine jx_enter "JointHistory" (by decide) rfl (by simp [lg_sl, vc_int, vc_ref, vc_long, jv_cat]) ?_
  intro p e s m args below meth c A Q H locs ls hQ hc hh hr hlk hl
  have hx := hc.1
  have hb := hc.2.1
  have hl : lv_has ls 5 [(0, .ref (ad 0))] := by simpa [lv_args, vc_int, vc_ref, vc_long, jv_cat] using hl
  refine lv_aload_n hx hb d_J_keepOnlyHeldDocuments_0 rfl (lv_at hl 0 rfl) ?_
  refine jg_J hc hh 2 (by decide) rfl wf_J_23 d_J_keepOnlyHeldDocuments_1 ?_
  refine lv_astore_n (i := 1) (lv' := [(1, .ref (ad 3)), (0, .ref (ad 0))]) hx hb d_J_keepOnlyHeldDocuments_4 rfl hl (by decide) rfl (fun ls hl => ?_)
  refine lv_aload_n hx hb d_J_keepOnlyHeldDocuments_5 rfl (lv_at hl 0 rfl) ?_
  refine jl_D hc hh d_J_keepOnlyHeldDocuments_6 ?_
  refine lv_istore_n (i := 2) (lv' := [(2, .int (nI 40)), (1, .ref (ad 3)), (0, .ref (ad 0))]) hx hb d_J_keepOnlyHeldDocuments_7 rfl hl (by decide) rfl (fun ls hl => ?_)
  refine lv_iconst (v := 0) hx hb d_J_keepOnlyHeldDocuments_8 (by decide) ?_
  refine lv_istore_n (i := 3) (lv' := [(3, .int 0), (2, .int (nI 40)), (1, .ref (ad 3)), (0, .ref (ad 0))]) hx hb d_J_keepOnlyHeldDocuments_9 rfl hl (by decide) rfl (fun ls hl => ?_)
  have L10 : ∀ (n : Nat) (i : Nat) (H : Heap) (locs : List Loc) (ls : Array Slot), i + n = 40 → jx_H D 158 ad (jc_cell ad aK cA (jc_kd1 u i)) A s.heap H locs → lv_has ls 5 [(0, .ref (ad 0)), (1, .ref (ad 3)), (2, .int (nI 40)), (3, .int (nI i))] → W p l e (jr 1) s m args below meth c H locs 0 0 Q (F0 m 10 ls []) := by
    intro n
    induction n with
    | zero =>
      intro i H locs ls hm hh hl
      have hi : i = 40 := by omega
      refine lv_iload_n hx hb d_J_keepOnlyHeldDocuments_10 rfl (lv_at hl 3 rfl) ?_
      refine lv_iload_n hx hb d_J_keepOnlyHeldDocuments_11 rfl (lv_at hl 2 rfl) ?_
      refine lv_icmp_ge (tgt := 32) hx hb d_J_keepOnlyHeldDocuments_12 rfl (fun h12 => ?_) (fun hq => absurd (nI_le (show 40 ≤ i by omega) (show i < 2 ^ 31 by omega)) hq)
      refine lv_aload_n hx hb d_J_keepOnlyHeldDocuments_32 rfl (lv_at hl 0 rfl) ?_
      refine jg_J hc hh 3 (by decide) rfl wf_J_29 d_J_keepOnlyHeldDocuments_33 ?_
      refine lv_astore_n (i := 1) (lv' := [(1, .ref (ad 4)), (0, .ref (ad 0)), (2, .int (nI 40)), (3, .int (nI i))]) hx hb d_J_keepOnlyHeldDocuments_36 rfl hl (by decide) rfl (fun ls hl => ?_)
      refine lv_aload_n hx hb d_J_keepOnlyHeldDocuments_37 rfl (lv_at hl 0 rfl) ?_
      refine jl_E hc hh d_J_keepOnlyHeldDocuments_38 ?_
      refine lv_istore_n (i := 2) (lv' := [(2, .int (nI 40)), (1, .ref (ad 4)), (0, .ref (ad 0)), (3, .int (nI i))]) hx hb d_J_keepOnlyHeldDocuments_39 rfl hl (by decide) rfl (fun ls hl => ?_)
      refine lv_iconst (v := 0) hx hb d_J_keepOnlyHeldDocuments_40 (by decide) ?_
      refine lv_istore_n (i := 3) (lv' := [(3, .int 0), (2, .int (nI 40)), (1, .ref (ad 4)), (0, .ref (ad 0))]) hx hb d_J_keepOnlyHeldDocuments_41 rfl hl (by decide) rfl (fun ls hl => ?_)
      have L42 : ∀ (n : Nat) (i : Nat) (H : Heap) (locs : List Loc) (ls : Array Slot), i + n = 40 → jx_H D 158 ad (jc_cell ad aK cA (jc_kd2 (jc_kd1 u 40) i)) A s.heap H locs → lv_has ls 5 [(0, .ref (ad 0)), (1, .ref (ad 4)), (2, .int (nI 40)), (3, .int (nI i))] → W p l e (jr 1) s m args below meth c H locs 0 0 Q (F0 m 42 ls []) := by
        intro n
        induction n with
        | zero =>
          intro i H locs ls hm hh hl
          have hi : i = 40 := by omega
          refine lv_iload_n hx hb d_J_keepOnlyHeldDocuments_42 rfl (lv_at hl 3 rfl) ?_
          refine lv_iload_n hx hb d_J_keepOnlyHeldDocuments_43 rfl (lv_at hl 2 rfl) ?_
          refine lv_icmp_ge (tgt := 75) hx hb d_J_keepOnlyHeldDocuments_44 rfl (fun h44 => ?_) (fun hq => absurd (nI_le (show 40 ≤ i by omega) (show i < 2 ^ 31 by omega)) hq)
          exact jx_vret (r := ()) hc hh hQ hlk hr rfl ⟨rfl, by first | (rw [hi]; done) | (rw [hi]; rfl) | (rw [hi]; simp [jc_keepDocs]; done)⟩ d_J_keepOnlyHeldDocuments_75
        | succ n ih =>
          intro i H locs ls hm hh hl
          have hi : i < 40 := by omega
          refine lv_iload_n hx hb d_J_keepOnlyHeldDocuments_42 rfl (lv_at hl 3 rfl) ?_
          refine lv_iload_n hx hb d_J_keepOnlyHeldDocuments_43 rfl (lv_at hl 2 rfl) ?_
          refine lv_icmp_ge (tgt := 75) hx hb d_J_keepOnlyHeldDocuments_44 rfl (fun hq => absurd hq (nI_ge hi (by decide))) (fun h44 => ?_)
          refine lv_aload_n hx hb d_J_keepOnlyHeldDocuments_47 rfl (lv_at hl 1 rfl) ?_
          refine lv_iload_n hx hb d_J_keepOnlyHeldDocuments_48 rfl (lv_at hl 3 rfl) ?_
          refine ja_E hc hh hi d_J_keepOnlyHeldDocuments_49 ?_
          refine jv_astore (i := 4) (lv' := [(4, jv ad 118 (nI i)), (0, .ref (ad 0)), (1, .ref (ad 4)), (2, .int (nI 40)), (3, .int (nI i))]) hx hb d_J_keepOnlyHeldDocuments_50 hl (by decide) rfl (fun ls hl => ?_)
          refine jv_aload hx hb d_J_keepOnlyHeldDocuments_52 (lv_at hl 0 rfl) ?_
          refine jg_E hc hh hi 0 (by decide) rfl wf_J_179 d_J_keepOnlyHeldDocuments_54 ?_
          refine lv_if_eq (tgt := 69) hx hb d_J_keepOnlyHeldDocuments_57 rfl (fun h57 => ?_) (fun h57 => ?_)
          ·
            refine lv_iinc (k := 4) (v := nI (i + 1)) (lv' := [(3, .int (nI (i + 1))), (4, jv ad 118 (nI i)), (0, .ref (ad 0)), (1, .ref (ad 4)), (2, .int (nI 40))]) hx hb d_J_keepOnlyHeldDocuments_69 hl rfl (nI_1 i) (by decide) rfl (fun ls hl => ?_)
            refine lv_goto (tgt := 42) hx hb d_J_keepOnlyHeldDocuments_72 rfl ?_
            have e1 : (jc_kd2 (jc_kd1 u 40) (i + 1)) = (jc_kd2 (jc_kd1 u 40) i) := by first | (simp [nI_0, jc_kd2, h57]; done) | (simp [nI_0, jc_kd2, eq_true h57]; done)
            refine ih (i + 1) _ _ _ (by omega) ?_ ?_
            ·
              try rw [e1]
              exact hh
            try rw [e1]
            exact lv_sub hl [2, 3, 4, 0] rfl
          refine jv_aload hx hb d_J_keepOnlyHeldDocuments_60 (lv_at hl 0 rfl) ?_
          refine jg_E hc hh hi 5 (by decide) rfl wf_J_120 d_J_keepOnlyHeldDocuments_62 ?_
          refine lv_iconst (v := 1) hx hb d_J_keepOnlyHeldDocuments_65 (by decide) ?_
          refine jpy_8 hc hh (jc_Sd (jc_Sh_kd2 (jc_Sh_kd1 hS 40) i) hi h57) (by decide) wf_J_244 d_J_keepOnlyHeldDocuments_66 (fun H locs hh => ?_)
          refine lv_iinc (k := 4) (v := nI (i + 1)) (lv' := [(3, .int (nI (i + 1))), (4, jv ad 118 (nI i)), (0, .ref (ad 0)), (1, .ref (ad 4)), (2, .int (nI 40))]) hx hb d_J_keepOnlyHeldDocuments_69 hl rfl (nI_1 i) (by decide) rfl (fun ls hl => ?_)
          refine lv_goto (tgt := 42) hx hb d_J_keepOnlyHeldDocuments_72 rfl ?_
          have e2 : (jc_kd2 (jc_kd1 u 40) (i + 1)) = (js_up (jc_kd2 (jc_kd1 u 40) i) 8 (ix ((jc_kd2 (jc_kd1 u 40) i) 19 i)) 1) := by simp [nI_0, jc_kd2, h57]
          refine ih (i + 1) _ _ _ (by omega) ?_ ?_
          ·
            try rw [e2]
            exact hh
          try rw [e2]
          exact lv_sub hl [2, 3, 4, 0] rfl
      have e3 : nI 0 = 0 := rfl
      have e4 : (jc_kd2 (jc_kd1 u 40) 0) = (jc_kd1 u i) := by first | (rw [hi]; done) | (rw [hi]; rfl) | (rw [hi]; simp [nI_0, jc_kd2]; done)
      refine L42 40 0 _ _ _ (by omega) ?_ ?_
      ·
        try rw [e3]
        try rw [e4]
        exact hh
      try rw [e3]
      try rw [e4]
      exact lv_sub hl [3, 2, 1, 0] rfl
    | succ n ih =>
      intro i H locs ls hm hh hl
      have hi : i < 40 := by omega
      refine lv_iload_n hx hb d_J_keepOnlyHeldDocuments_10 rfl (lv_at hl 3 rfl) ?_
      refine lv_iload_n hx hb d_J_keepOnlyHeldDocuments_11 rfl (lv_at hl 2 rfl) ?_
      refine lv_icmp_ge (tgt := 32) hx hb d_J_keepOnlyHeldDocuments_12 rfl (fun hq => absurd hq (nI_ge hi (by decide))) (fun h12 => ?_)
      refine lv_aload_n hx hb d_J_keepOnlyHeldDocuments_15 rfl (lv_at hl 1 rfl) ?_
      refine lv_iload_n hx hb d_J_keepOnlyHeldDocuments_16 rfl (lv_at hl 3 rfl) ?_
      refine ja_D hc hh hi d_J_keepOnlyHeldDocuments_17 ?_
      refine jv_astore (i := 4) (lv' := [(4, jv ad 78 (nI i)), (0, .ref (ad 0)), (1, .ref (ad 3)), (2, .int (nI 40)), (3, .int (nI i))]) hx hb d_J_keepOnlyHeldDocuments_18 hl (by decide) rfl (fun ls hl => ?_)
      refine jv_aload hx hb d_J_keepOnlyHeldDocuments_20 (lv_at hl 0 rfl) ?_
      refine lv_iconst (v := 0) hx hb d_J_keepOnlyHeldDocuments_22 (by decide) ?_
      refine jp_8 hc hh hi (by decide) wf_J_244 d_J_keepOnlyHeldDocuments_23 (fun H locs hh => ?_)
      refine lv_iinc (k := 4) (v := nI (i + 1)) (lv' := [(3, .int (nI (i + 1))), (4, jv ad 78 (nI i)), (0, .ref (ad 0)), (1, .ref (ad 3)), (2, .int (nI 40))]) hx hb d_J_keepOnlyHeldDocuments_26 hl rfl (nI_1 i) (by decide) rfl (fun ls hl => ?_)
      refine lv_goto (tgt := 10) hx hb d_J_keepOnlyHeldDocuments_29 rfl ?_
      have e5 : (jc_kd1 u (i + 1)) = (js_up (jc_kd1 u i) 8 i 0) := by simp [nI_0, jc_kd1]
      refine ih (i + 1) _ _ _ (by omega) ?_ ?_
      ·
        try rw [e5]
        exact hh
      try rw [e5]
      exact lv_sub hl [2, 3, 4, 0] rfl
  have e6 : nI 0 = 0 := rfl
  have e7 : (jc_kd1 u 0) = u := by simp [nI_0, jc_kd1]
  refine L10 40 0 _ _ _ (by omega) ?_ ?_
  ·
    try rw [e6]
    try rw [e7]
    exact hh
  try rw [e6]
  try rw [e7]
  exact lv_sub hl [3, 2, 1, 0] rfl
set_option maxHeartbeats 4000000 in
set_option maxRecDepth 100000 in
theorem c_dropFramesOfGoneDocuments (l : Launch) (D : va_G) (aK ad : Nat → Nat) (cA : Nat → ClassId) (u : js_S) (hS : jc_Sh u) : jx_M l y_J_dropFramesOfGoneDocuments b_J_dropFramesOfGoneDocuments 5 none (jr 1) D (jc_tys cA) aK 158 ad (jc_cell ad aK cA) [.ref (ad 0)] u (fun _ : Unit => none) (fun r u' => r = () ∧ u' = (jc_df u 40)) := by
  refine jx_enter "JointHistory" (by decide) rfl (by simp [lg_sl, vc_int, vc_ref, vc_long, jv_cat]) ?_
  intro p e s m args below meth c A Q H locs ls hQ hc hh hr hlk hl
  have hx := hc.1
  have hb := hc.2.1
  have hl : lv_has ls 5 [(0, .ref (ad 0))] := by simpa [lv_args, vc_int, vc_ref, vc_long, jv_cat] using hl
  refine lv_aload_n hx hb d_J_dropFramesOfGoneDocuments_0 rfl (lv_at hl 0 rfl) ?_
  refine jg_J hc hh 1 (by decide) rfl wf_J_17 d_J_dropFramesOfGoneDocuments_1 ?_
  refine lv_astore_n (i := 1) (lv' := [(1, .ref (ad 2)), (0, .ref (ad 0))]) hx hb d_J_dropFramesOfGoneDocuments_4 rfl hl (by decide) rfl (fun ls hl => ?_)
  refine lv_aload_n hx hb d_J_dropFramesOfGoneDocuments_5 rfl (lv_at hl 0 rfl) ?_
  refine jl_N hc hh d_J_dropFramesOfGoneDocuments_6 ?_
  refine lv_istore_n (i := 2) (lv' := [(2, .int (nI 40)), (1, .ref (ad 2)), (0, .ref (ad 0))]) hx hb d_J_dropFramesOfGoneDocuments_7 rfl hl (by decide) rfl (fun ls hl => ?_)
  refine lv_iconst (v := 0) hx hb d_J_dropFramesOfGoneDocuments_8 (by decide) ?_
  refine lv_istore_n (i := 3) (lv' := [(3, .int 0), (2, .int (nI 40)), (1, .ref (ad 2)), (0, .ref (ad 0))]) hx hb d_J_dropFramesOfGoneDocuments_9 rfl hl (by decide) rfl (fun ls hl => ?_)
  have L10 : ∀ (n : Nat) (i : Nat) (H : Heap) (locs : List Loc) (ls : Array Slot), i + n = 40 → jx_H D 158 ad (jc_cell ad aK cA (jc_df u i)) A s.heap H locs → lv_has ls 5 [(0, .ref (ad 0)), (1, .ref (ad 2)), (2, .int (nI 40)), (3, .int (nI i))] → W p l e (jr 1) s m args below meth c H locs 0 0 Q (F0 m 10 ls []) := by
    intro n
    induction n with
    | zero =>
      intro i H locs ls hm hh hl
      have hi : i = 40 := by omega
      refine lv_iload_n hx hb d_J_dropFramesOfGoneDocuments_10 rfl (lv_at hl 3 rfl) ?_
      refine lv_iload_n hx hb d_J_dropFramesOfGoneDocuments_11 rfl (lv_at hl 2 rfl) ?_
      refine lv_icmp_ge (tgt := 51) hx hb d_J_dropFramesOfGoneDocuments_12 rfl (fun h12 => ?_) (fun hq => absurd (nI_le (show 40 ≤ i by omega) (show i < 2 ^ 31 by omega)) hq)
      exact jx_vret (r := ()) hc hh hQ hlk hr rfl ⟨rfl, by first | (rw [hi]; done) | (rw [hi]; rfl) | (rw [hi]; simp []; done)⟩ d_J_dropFramesOfGoneDocuments_51
    | succ n ih =>
      intro i H locs ls hm hh hl
      have hi : i < 40 := by omega
      refine lv_iload_n hx hb d_J_dropFramesOfGoneDocuments_10 rfl (lv_at hl 3 rfl) ?_
      refine lv_iload_n hx hb d_J_dropFramesOfGoneDocuments_11 rfl (lv_at hl 2 rfl) ?_
      refine lv_icmp_ge (tgt := 51) hx hb d_J_dropFramesOfGoneDocuments_12 rfl (fun hq => absurd hq (nI_ge hi (by decide))) (fun h12 => ?_)
      refine lv_aload_n hx hb d_J_dropFramesOfGoneDocuments_15 rfl (lv_at hl 1 rfl) ?_
      refine lv_iload_n hx hb d_J_dropFramesOfGoneDocuments_16 rfl (lv_at hl 3 rfl) ?_
      refine ja_N hc hh hi d_J_dropFramesOfGoneDocuments_17 ?_
      refine jv_astore (i := 4) (lv' := [(4, jv ad 38 (nI i)), (0, .ref (ad 0)), (1, .ref (ad 2)), (2, .int (nI 40)), (3, .int (nI i))]) hx hb d_J_dropFramesOfGoneDocuments_18 hl (by decide) rfl (fun ls hl => ?_)
      refine jv_aload hx hb d_J_dropFramesOfGoneDocuments_20 (lv_at hl 0 rfl) ?_
      refine jg_N hc hh hi 3 (by decide) rfl wf_J_208 d_J_dropFramesOfGoneDocuments_22 ?_
      refine jv_ifnull (tgt := 45) hx hb d_J_dropFramesOfGoneDocuments_25 rfl (fun h25 => ?_) (fun h25 => ?_)
      ·
        refine lv_iinc (k := 4) (v := nI (i + 1)) (lv' := [(3, .int (nI (i + 1))), (4, jv ad 38 (nI i)), (0, .ref (ad 0)), (1, .ref (ad 2)), (2, .int (nI 40))]) hx hb d_J_dropFramesOfGoneDocuments_45 hl rfl (nI_1 i) (by decide) rfl (fun ls hl => ?_)
        refine lv_goto (tgt := 10) hx hb d_J_dropFramesOfGoneDocuments_48 rfl ?_
        have e1 : (jc_df u (i + 1)) = (jc_df u i) := by first | (simp [nI_0, jc_df, h25]; done) | (simp [nI_0, jc_df, eq_true h25]; done)
        refine ih (i + 1) _ _ _ (by omega) ?_ ?_
        ·
          try rw [e1]
          exact hh
        try rw [e1]
        exact lv_sub hl [2, 3, 4, 0] rfl
      refine jv_aload hx hb d_J_dropFramesOfGoneDocuments_28 (lv_at hl 0 rfl) ?_
      refine jg_N hc hh hi 3 (by decide) rfl wf_J_208 d_J_dropFramesOfGoneDocuments_30 ?_
      refine jgx_D hc hh (jq_ne (jc_S7 (jc_Sh_df hS i) hi) h25) 0 (by decide) rfl wf_J_244 d_J_dropFramesOfGoneDocuments_33 ?_
      refine lv_if_ne (tgt := 45) hx hb d_J_dropFramesOfGoneDocuments_36 rfl (fun h36 => ?_) (fun h36 => ?_)
      ·
        refine lv_iinc (k := 4) (v := nI (i + 1)) (lv' := [(3, .int (nI (i + 1))), (4, jv ad 38 (nI i)), (0, .ref (ad 0)), (1, .ref (ad 2)), (2, .int (nI 40))]) hx hb d_J_dropFramesOfGoneDocuments_45 hl rfl (nI_1 i) (by decide) rfl (fun ls hl => ?_)
        refine lv_goto (tgt := 10) hx hb d_J_dropFramesOfGoneDocuments_48 rfl ?_
        have e2 : (jc_df u (i + 1)) = (jc_df u i) := by simp [nI_0, jc_df, h25, h36]
        refine ih (i + 1) _ _ _ (by omega) ?_ ?_
        ·
          try rw [e2]
          exact hh
        try rw [e2]
        exact lv_sub hl [2, 3, 4, 0] rfl
      refine jv_aload hx hb d_J_dropFramesOfGoneDocuments_39 (lv_at hl 0 rfl) ?_
      refine lv_iconst (v := 0) hx hb d_J_dropFramesOfGoneDocuments_41 (by decide) ?_
      refine jp_5 hc hh hi (by decide) wf_J_43 d_J_dropFramesOfGoneDocuments_42 (fun H locs hh => ?_)
      refine lv_iinc (k := 4) (v := nI (i + 1)) (lv' := [(3, .int (nI (i + 1))), (4, jv ad 38 (nI i)), (0, .ref (ad 0)), (1, .ref (ad 2)), (2, .int (nI 40))]) hx hb d_J_dropFramesOfGoneDocuments_45 hl rfl (nI_1 i) (by decide) rfl (fun ls hl => ?_)
      refine lv_goto (tgt := 10) hx hb d_J_dropFramesOfGoneDocuments_48 rfl ?_
      have e3 : (jc_df u (i + 1)) = (js_up (jc_df u i) 5 i 0) := by first | (simp [nI_0, jc_df, h25, h36]; done) | (simp [nI_0, jc_df, h25, eq_true h36]; done)
      refine ih (i + 1) _ _ _ (by omega) ?_ ?_
      ·
        try rw [e3]
        exact hh
      try rw [e3]
      exact lv_sub hl [2, 3, 4, 0] rfl
  have e4 : nI 0 = 0 := rfl
  have e5 : (jc_df u 0) = u := by simp [nI_0, jc_df]
  refine L10 40 0 _ _ _ (by omega) ?_ ?_
  ·
    try rw [e4]
    try rw [e5]
    exact hh
  try rw [e4]
  try rw [e5]
  exact lv_sub hl [3, 2, 1, 0] rfl
set_option maxHeartbeats 4000000 in
set_option maxRecDepth 100000 in
theorem c_dropEntriesOfGoneNavigables (l : Launch) (D : va_G) (aK ad : Nat → Nat) (cA : Nat → ClassId) (u : js_S) (hS : jc_Sh u) : jx_M l y_J_dropEntriesOfGoneNavigables b_J_dropEntriesOfGoneNavigables 5 none (jr 1) D (jc_tys cA) aK 158 ad (jc_cell ad aK cA) [.ref (ad 0)] u (fun _ : Unit => none) (fun r u' => r = () ∧ u' = (jc_de u 40)) := by
  refine jx_enter "JointHistory" (by decide) rfl (by simp [lg_sl, vc_int, vc_ref, vc_long, jv_cat]) ?_
  intro p e s m args below meth c A Q H locs ls hQ hc hh hr hlk hl
  have hx := hc.1
  have hb := hc.2.1
  have hl : lv_has ls 5 [(0, .ref (ad 0))] := by simpa [lv_args, vc_int, vc_ref, vc_long, jv_cat] using hl
  refine lv_aload_n hx hb d_J_dropEntriesOfGoneNavigables_0 rfl (lv_at hl 0 rfl) ?_
  refine jg_J hc hh 3 (by decide) rfl wf_J_29 d_J_dropEntriesOfGoneNavigables_1 ?_
  refine lv_astore_n (i := 1) (lv' := [(1, .ref (ad 4)), (0, .ref (ad 0))]) hx hb d_J_dropEntriesOfGoneNavigables_4 rfl hl (by decide) rfl (fun ls hl => ?_)
  refine lv_aload_n hx hb d_J_dropEntriesOfGoneNavigables_5 rfl (lv_at hl 0 rfl) ?_
  refine jl_E hc hh d_J_dropEntriesOfGoneNavigables_6 ?_
  refine lv_istore_n (i := 2) (lv' := [(2, .int (nI 40)), (1, .ref (ad 4)), (0, .ref (ad 0))]) hx hb d_J_dropEntriesOfGoneNavigables_7 rfl hl (by decide) rfl (fun ls hl => ?_)
  refine lv_iconst (v := 0) hx hb d_J_dropEntriesOfGoneNavigables_8 (by decide) ?_
  refine lv_istore_n (i := 3) (lv' := [(3, .int 0), (2, .int (nI 40)), (1, .ref (ad 4)), (0, .ref (ad 0))]) hx hb d_J_dropEntriesOfGoneNavigables_9 rfl hl (by decide) rfl (fun ls hl => ?_)
  have L10 : ∀ (n : Nat) (i : Nat) (H : Heap) (locs : List Loc) (ls : Array Slot), i + n = 40 → jx_H D 158 ad (jc_cell ad aK cA (jc_de u i)) A s.heap H locs → lv_has ls 5 [(0, .ref (ad 0)), (1, .ref (ad 4)), (2, .int (nI 40)), (3, .int (nI i))] → W p l e (jr 1) s m args below meth c H locs 0 0 Q (F0 m 10 ls []) := by
    intro n
    induction n with
    | zero =>
      intro i H locs ls hm hh hl
      have hi : i = 40 := by omega
      refine lv_iload_n hx hb d_J_dropEntriesOfGoneNavigables_10 rfl (lv_at hl 3 rfl) ?_
      refine lv_iload_n hx hb d_J_dropEntriesOfGoneNavigables_11 rfl (lv_at hl 2 rfl) ?_
      refine lv_icmp_ge (tgt := 51) hx hb d_J_dropEntriesOfGoneNavigables_12 rfl (fun h12 => ?_) (fun hq => absurd (nI_le (show 40 ≤ i by omega) (show i < 2 ^ 31 by omega)) hq)
      exact jx_vret (r := ()) hc hh hQ hlk hr rfl ⟨rfl, by first | (rw [hi]; done) | (rw [hi]; rfl) | (rw [hi]; simp []; done)⟩ d_J_dropEntriesOfGoneNavigables_51
    | succ n ih =>
      intro i H locs ls hm hh hl
      have hi : i < 40 := by omega
      refine lv_iload_n hx hb d_J_dropEntriesOfGoneNavigables_10 rfl (lv_at hl 3 rfl) ?_
      refine lv_iload_n hx hb d_J_dropEntriesOfGoneNavigables_11 rfl (lv_at hl 2 rfl) ?_
      refine lv_icmp_ge (tgt := 51) hx hb d_J_dropEntriesOfGoneNavigables_12 rfl (fun hq => absurd hq (nI_ge hi (by decide))) (fun h12 => ?_)
      refine lv_aload_n hx hb d_J_dropEntriesOfGoneNavigables_15 rfl (lv_at hl 1 rfl) ?_
      refine lv_iload_n hx hb d_J_dropEntriesOfGoneNavigables_16 rfl (lv_at hl 3 rfl) ?_
      refine ja_E hc hh hi d_J_dropEntriesOfGoneNavigables_17 ?_
      refine jv_astore (i := 4) (lv' := [(4, jv ad 118 (nI i)), (0, .ref (ad 0)), (1, .ref (ad 4)), (2, .int (nI 40)), (3, .int (nI i))]) hx hb d_J_dropEntriesOfGoneNavigables_18 hl (by decide) rfl (fun ls hl => ?_)
      refine jv_aload hx hb d_J_dropEntriesOfGoneNavigables_20 (lv_at hl 0 rfl) ?_
      refine jg_E hc hh hi 0 (by decide) rfl wf_J_179 d_J_dropEntriesOfGoneNavigables_22 ?_
      refine lv_if_eq (tgt := 45) hx hb d_J_dropEntriesOfGoneNavigables_25 rfl (fun h25 => ?_) (fun h25 => ?_)
      ·
        refine lv_iinc (k := 4) (v := nI (i + 1)) (lv' := [(3, .int (nI (i + 1))), (4, jv ad 118 (nI i)), (0, .ref (ad 0)), (1, .ref (ad 4)), (2, .int (nI 40))]) hx hb d_J_dropEntriesOfGoneNavigables_45 hl rfl (nI_1 i) (by decide) rfl (fun ls hl => ?_)
        refine lv_goto (tgt := 10) hx hb d_J_dropEntriesOfGoneNavigables_48 rfl ?_
        have e1 : (jc_de u (i + 1)) = (jc_de u i) := by first | (simp [nI_0, jc_de, h25]; done) | (simp [nI_0, jc_de, eq_true h25]; done)
        refine ih (i + 1) _ _ _ (by omega) ?_ ?_
        ·
          try rw [e1]
          exact hh
        try rw [e1]
        exact lv_sub hl [2, 3, 4, 0] rfl
      refine jv_aload hx hb d_J_dropEntriesOfGoneNavigables_28 (lv_at hl 0 rfl) ?_
      refine jg_E hc hh hi 1 (by decide) rfl wf_J_135 d_J_dropEntriesOfGoneNavigables_30 ?_
      refine jgx_N hc hh (jc_So (jc_Sh_de hS i) hi h25) 1 (by decide) rfl wf_J_43 d_J_dropEntriesOfGoneNavigables_33 ?_
      refine lv_if_ne (tgt := 45) hx hb d_J_dropEntriesOfGoneNavigables_36 rfl (fun h36 => ?_) (fun h36 => ?_)
      ·
        refine lv_iinc (k := 4) (v := nI (i + 1)) (lv' := [(3, .int (nI (i + 1))), (4, jv ad 118 (nI i)), (0, .ref (ad 0)), (1, .ref (ad 4)), (2, .int (nI 40))]) hx hb d_J_dropEntriesOfGoneNavigables_45 hl rfl (nI_1 i) (by decide) rfl (fun ls hl => ?_)
        refine lv_goto (tgt := 10) hx hb d_J_dropEntriesOfGoneNavigables_48 rfl ?_
        have e2 : (jc_de u (i + 1)) = (jc_de u i) := by simp [nI_0, jc_de, h25, h36]
        refine ih (i + 1) _ _ _ (by omega) ?_ ?_
        ·
          try rw [e2]
          exact hh
        try rw [e2]
        exact lv_sub hl [2, 3, 4, 0] rfl
      refine jv_aload hx hb d_J_dropEntriesOfGoneNavigables_39 (lv_at hl 0 rfl) ?_
      refine lv_iconst (v := 0) hx hb d_J_dropEntriesOfGoneNavigables_41 (by decide) ?_
      refine jp_14 hc hh hi (by decide) wf_J_179 d_J_dropEntriesOfGoneNavigables_42 (fun H locs hh => ?_)
      refine lv_iinc (k := 4) (v := nI (i + 1)) (lv' := [(3, .int (nI (i + 1))), (4, jv ad 118 (nI i)), (0, .ref (ad 0)), (1, .ref (ad 4)), (2, .int (nI 40))]) hx hb d_J_dropEntriesOfGoneNavigables_45 hl rfl (nI_1 i) (by decide) rfl (fun ls hl => ?_)
      refine lv_goto (tgt := 10) hx hb d_J_dropEntriesOfGoneNavigables_48 rfl ?_
      have e3 : (jc_de u (i + 1)) = (js_up (jc_de u i) 14 i 0) := by first | (simp [nI_0, jc_de, h25, h36]; done) | (simp [nI_0, jc_de, h25, eq_true h36]; done)
      refine ih (i + 1) _ _ _ (by omega) ?_ ?_
      ·
        try rw [e3]
        exact hh
      try rw [e3]
      exact lv_sub hl [2, 3, 4, 0] rfl
  have e4 : nI 0 = 0 := rfl
  have e5 : (jc_de u 0) = u := by simp [nI_0, jc_de]
  refine L10 40 0 _ _ _ (by omega) ?_ ?_
  ·
    try rw [e4]
    try rw [e5]
    exact hh
  try rw [e4]
  try rw [e5]
  exact lv_sub hl [3, 2, 1, 0] rfl
set_option maxHeartbeats 4000000 in
set_option maxRecDepth 100000 in
theorem c_dropWhatIsGone (l : Launch) (D : va_G) (aK ad : Nat → Nat) (cA : Nat → ClassId) (u : js_S) (hS : jc_Sh u) : jx_M l y_J_dropWhatIsGone b_J_dropWhatIsGone 2 none (jr 2) D (jc_tys cA) aK 158 ad (jc_cell ad aK cA) [.ref (ad 0)] u (fun _ : Unit => none) (fun r u' => r = () ∧ u' = (jc_gone u)) := by
  refine jx_enter "JointHistory" (by decide) rfl (by simp [lg_sl, vc_int, vc_ref, vc_long, jv_cat]) ?_
  intro p e s m args below meth c A Q H locs ls hQ hc hh hr hlk hl
  have hx := hc.1
  have hb := hc.2.1
  have hl : lv_has ls 2 [(0, .ref (ad 0))] := by simpa [lv_args, vc_int, vc_ref, vc_long, jv_cat] using hl
  refine lv_iconst (v := 0) hx hb d_J_dropWhatIsGone_0 (by decide) ?_
  refine lv_istore_n (i := 1) (lv' := [(1, .int 0), (0, .ref (ad 0))]) hx hb d_J_dropWhatIsGone_1 rfl hl (by decide) rfl (fun ls hl => ?_)
  refine lv_iload_n hx hb d_J_dropWhatIsGone_2 rfl (lv_at hl 0 rfl) ?_
  refine lv_iconst (v := 3) hx hb d_J_dropWhatIsGone_3 (by decide) ?_
  refine lv_icmp_ge (tgt := 25) hx hb d_J_dropWhatIsGone_4 rfl (fun hq => absurd hq (by decide)) (fun h4 => ?_)
  refine lv_aload_n hx hb d_J_dropWhatIsGone_7 rfl (lv_at hl 1 rfl) ?_
  refine jx_callV [] [] hc hh (c_keepOnlyHeldDocuments l D aK ad cA u hS) wy_J_245 ⟨by decide, rfl, rfl⟩ (by decide) rfl hl.1 rfl (by decide) ⟨Nat.zero_le _, Nat.zero_le _⟩ d_J_dropWhatIsGone_8 (fun r u9 H locs hp hh _ _ => ?_)
  rw [hp.2] at hh
  refine W.eq (g2 := F0 m 11 ls []) (by first | rfl | (rw [hp.1]; rfl)) ?_
  refine lv_aload_n hx hb d_J_dropWhatIsGone_11 rfl (lv_at hl 1 rfl) ?_
  refine jx_callV [] [] hc hh (c_dropFramesOfGoneDocuments l D aK ad cA (jc_keepDocs u) (jc_Sh_keep hS)) wy_J_248 ⟨by decide, rfl, rfl⟩ (by decide) rfl hl.1 rfl (by decide) ⟨Nat.zero_le _, Nat.zero_le _⟩ d_J_dropWhatIsGone_12 (fun r u9 H locs hp hh _ _ => ?_)
  rw [hp.2] at hh
  refine W.eq (g2 := F0 m 15 ls []) (by first | rfl | (rw [hp.1]; rfl)) ?_
  refine lv_aload_n hx hb d_J_dropWhatIsGone_15 rfl (lv_at hl 1 rfl) ?_
  refine jx_callV [] [] hc hh (c_dropEntriesOfGoneNavigables l D aK ad cA (jc_df (jc_keepDocs u) 40) (jc_Sh_df (jc_Sh_keep hS) 40)) wy_J_251 ⟨by decide, rfl, rfl⟩ (by decide) rfl hl.1 rfl (by decide) ⟨Nat.zero_le _, Nat.zero_le _⟩ d_J_dropWhatIsGone_16 (fun r u9 H locs hp hh _ _ => ?_)
  rw [hp.2] at hh
  refine W.eq (g2 := F0 m 19 ls []) (by first | rfl | (rw [hp.1]; rfl)) ?_
  refine lv_iinc (k := 0) (v := 1) (lv' := [(1, .int 1), (0, .ref (ad 0))]) hx hb d_J_dropWhatIsGone_19 hl rfl (by decide) (by decide) rfl (fun ls hl => ?_)
  refine lv_goto (tgt := 2) hx hb d_J_dropWhatIsGone_22 rfl ?_
  refine lv_iload_n hx hb d_J_dropWhatIsGone_2 rfl (lv_at hl 0 rfl) ?_
  refine lv_iconst (v := 3) hx hb d_J_dropWhatIsGone_3 (by decide) ?_
  refine lv_icmp_ge (tgt := 25) hx hb d_J_dropWhatIsGone_4 rfl (fun hq => absurd hq (by decide)) (fun h4 => ?_)
  refine lv_aload_n hx hb d_J_dropWhatIsGone_7 rfl (lv_at hl 1 rfl) ?_
  refine jx_callV [] [] hc hh (c_keepOnlyHeldDocuments l D aK ad cA (jc_de (jc_df (jc_keepDocs u) 40) 40) (jc_Sh_de (jc_Sh_df (jc_Sh_keep hS) 40) 40)) wy_J_245 ⟨by decide, rfl, rfl⟩ (by decide) rfl hl.1 rfl (by decide) ⟨Nat.zero_le _, Nat.zero_le _⟩ d_J_dropWhatIsGone_8 (fun r u9 H locs hp hh _ _ => ?_)
  rw [hp.2] at hh
  refine W.eq (g2 := F0 m 11 ls []) (by first | rfl | (rw [hp.1]; rfl)) ?_
  refine lv_aload_n hx hb d_J_dropWhatIsGone_11 rfl (lv_at hl 1 rfl) ?_
  refine jx_callV [] [] hc hh (c_dropFramesOfGoneDocuments l D aK ad cA (jc_keepDocs (jc_de (jc_df (jc_keepDocs u) 40) 40)) (jc_Sh_keep (jc_Sh_de (jc_Sh_df (jc_Sh_keep hS) 40) 40))) wy_J_248 ⟨by decide, rfl, rfl⟩ (by decide) rfl hl.1 rfl (by decide) ⟨Nat.zero_le _, Nat.zero_le _⟩ d_J_dropWhatIsGone_12 (fun r u9 H locs hp hh _ _ => ?_)
  rw [hp.2] at hh
  refine W.eq (g2 := F0 m 15 ls []) (by first | rfl | (rw [hp.1]; rfl)) ?_
  refine lv_aload_n hx hb d_J_dropWhatIsGone_15 rfl (lv_at hl 1 rfl) ?_
  refine jx_callV [] [] hc hh (c_dropEntriesOfGoneNavigables l D aK ad cA (jc_df (jc_keepDocs (jc_de (jc_df (jc_keepDocs u) 40) 40)) 40) (jc_Sh_df (jc_Sh_keep (jc_Sh_de (jc_Sh_df (jc_Sh_keep hS) 40) 40)) 40)) wy_J_251 ⟨by decide, rfl, rfl⟩ (by decide) rfl hl.1 rfl (by decide) ⟨Nat.zero_le _, Nat.zero_le _⟩ d_J_dropWhatIsGone_16 (fun r u9 H locs hp hh _ _ => ?_)
  rw [hp.2] at hh
  refine W.eq (g2 := F0 m 19 ls []) (by first | rfl | (rw [hp.1]; rfl)) ?_
  refine lv_iinc (k := 0) (v := 2) (lv' := [(1, .int 2), (0, .ref (ad 0))]) hx hb d_J_dropWhatIsGone_19 hl rfl (by decide) (by decide) rfl (fun ls hl => ?_)
  refine lv_goto (tgt := 2) hx hb d_J_dropWhatIsGone_22 rfl ?_
  refine lv_iload_n hx hb d_J_dropWhatIsGone_2 rfl (lv_at hl 0 rfl) ?_
  refine lv_iconst (v := 3) hx hb d_J_dropWhatIsGone_3 (by decide) ?_
  refine lv_icmp_ge (tgt := 25) hx hb d_J_dropWhatIsGone_4 rfl (fun hq => absurd hq (by decide)) (fun h4 => ?_)
  refine lv_aload_n hx hb d_J_dropWhatIsGone_7 rfl (lv_at hl 1 rfl) ?_
  refine jx_callV [] [] hc hh (c_keepOnlyHeldDocuments l D aK ad cA (jc_de (jc_df (jc_keepDocs (jc_de (jc_df (jc_keepDocs u) 40) 40)) 40) 40) (jc_Sh_de (jc_Sh_df (jc_Sh_keep (jc_Sh_de (jc_Sh_df (jc_Sh_keep hS) 40) 40)) 40) 40)) wy_J_245 ⟨by decide, rfl, rfl⟩ (by decide) rfl hl.1 rfl (by decide) ⟨Nat.zero_le _, Nat.zero_le _⟩ d_J_dropWhatIsGone_8 (fun r u9 H locs hp hh _ _ => ?_)
  rw [hp.2] at hh
  refine W.eq (g2 := F0 m 11 ls []) (by first | rfl | (rw [hp.1]; rfl)) ?_
  refine lv_aload_n hx hb d_J_dropWhatIsGone_11 rfl (lv_at hl 1 rfl) ?_
  refine jx_callV [] [] hc hh (c_dropFramesOfGoneDocuments l D aK ad cA (jc_keepDocs (jc_de (jc_df (jc_keepDocs (jc_de (jc_df (jc_keepDocs u) 40) 40)) 40) 40)) (jc_Sh_keep (jc_Sh_de (jc_Sh_df (jc_Sh_keep (jc_Sh_de (jc_Sh_df (jc_Sh_keep hS) 40) 40)) 40) 40))) wy_J_248 ⟨by decide, rfl, rfl⟩ (by decide) rfl hl.1 rfl (by decide) ⟨Nat.zero_le _, Nat.zero_le _⟩ d_J_dropWhatIsGone_12 (fun r u9 H locs hp hh _ _ => ?_)
  rw [hp.2] at hh
  refine W.eq (g2 := F0 m 15 ls []) (by first | rfl | (rw [hp.1]; rfl)) ?_
  refine lv_aload_n hx hb d_J_dropWhatIsGone_15 rfl (lv_at hl 1 rfl) ?_
  refine jx_callV [] [] hc hh (c_dropEntriesOfGoneNavigables l D aK ad cA (jc_df (jc_keepDocs (jc_de (jc_df (jc_keepDocs (jc_de (jc_df (jc_keepDocs u) 40) 40)) 40) 40)) 40) (jc_Sh_df (jc_Sh_keep (jc_Sh_de (jc_Sh_df (jc_Sh_keep (jc_Sh_de (jc_Sh_df (jc_Sh_keep hS) 40) 40)) 40) 40)) 40)) wy_J_251 ⟨by decide, rfl, rfl⟩ (by decide) rfl hl.1 rfl (by decide) ⟨Nat.zero_le _, Nat.zero_le _⟩ d_J_dropWhatIsGone_16 (fun r u9 H locs hp hh _ _ => ?_)
  rw [hp.2] at hh
  refine W.eq (g2 := F0 m 19 ls []) (by first | rfl | (rw [hp.1]; rfl)) ?_
  refine lv_iinc (k := 0) (v := 3) (lv' := [(1, .int 3), (0, .ref (ad 0))]) hx hb d_J_dropWhatIsGone_19 hl rfl (by decide) (by decide) rfl (fun ls hl => ?_)
  refine lv_goto (tgt := 2) hx hb d_J_dropWhatIsGone_22 rfl ?_
  refine lv_iload_n hx hb d_J_dropWhatIsGone_2 rfl (lv_at hl 0 rfl) ?_
  refine lv_iconst (v := 3) hx hb d_J_dropWhatIsGone_3 (by decide) ?_
  refine lv_icmp_ge (tgt := 25) hx hb d_J_dropWhatIsGone_4 rfl (fun h4 => ?_) (fun hq => absurd (by decide) hq)
  exact jx_vret (r := ()) hc hh hQ hlk hr rfl ⟨rfl, rfl⟩ d_J_dropWhatIsGone_25
set_option maxHeartbeats 4000000 in
set_option maxRecDepth 100000 in
theorem c_settlePresentStep (l : Launch) (D : va_G) (aK ad : Nat → Nat) (cA : Nat → ClassId) (u : js_S) : jx_M l y_J_settlePresentStep b_J_settlePresentStep 6 none (jr 1) D (jc_tys cA) aK 158 ad (jc_cell ad aK cA) [.ref (ad 0)] u (fun _ : Unit => none) (fun r u' => r = () ∧ u' = (jc_settle u)) := by
  refine jx_enter "JointHistory" (by decide) rfl (by simp [lg_sl, vc_int, vc_ref, vc_long, jv_cat]) ?_
  intro p e s m args below meth c A Q H locs ls hQ hc hh hr hlk hl
  have hx := hc.1
  have hb := hc.2.1
  have hl : lv_has ls 6 [(0, .ref (ad 0))] := by simpa [lv_args, vc_int, vc_ref, vc_long, jv_cat] using hl
  refine lv_iconst (v := 0) hx hb d_J_settlePresentStep_0 (by decide) ?_
  refine lv_istore_n (i := 1) (lv' := [(1, .int 0), (0, .ref (ad 0))]) hx hb d_J_settlePresentStep_1 rfl hl (by decide) rfl (fun ls hl => ?_)
  refine lv_aload_n hx hb d_J_settlePresentStep_2 rfl (lv_at hl 1 rfl) ?_
  refine jg_J hc hh 3 (by decide) rfl wf_J_29 d_J_settlePresentStep_3 ?_
  refine lv_astore_n (i := 2) (lv' := [(2, .ref (ad 4)), (1, .int 0), (0, .ref (ad 0))]) hx hb d_J_settlePresentStep_6 rfl hl (by decide) rfl (fun ls hl => ?_)
  refine lv_aload_n hx hb d_J_settlePresentStep_7 rfl (lv_at hl 0 rfl) ?_
  refine jl_E hc hh d_J_settlePresentStep_8 ?_
  refine lv_istore_n (i := 3) (lv' := [(3, .int (nI 40)), (2, .ref (ad 4)), (1, .int 0), (0, .ref (ad 0))]) hx hb d_J_settlePresentStep_9 rfl hl (by decide) rfl (fun ls hl => ?_)
  refine lv_iconst (v := 0) hx hb d_J_settlePresentStep_10 (by decide) ?_
  refine lv_istore (i := 4) (lv' := [(4, .int 0), (3, .int (nI 40)), (2, .ref (ad 4)), (1, .int 0), (0, .ref (ad 0))]) hx hb d_J_settlePresentStep_11 hl (by decide) rfl (fun ls hl => ?_)
  have L13 : ∀ (n : Nat) (i : Nat) (ls : Array Slot), i + n = 40 → lv_has ls 6 [(0, .ref (ad 0)), (1, .int (jc_lt u i)), (2, .ref (ad 4)), (3, .int (nI 40)), (4, .int (nI i))] → W p l e (jr 1) s m args below meth c H locs 0 0 Q (F0 m 13 ls []) := by
    intro n
    induction n with
    | zero =>
      intro i ls hm hl
      have hi : i = 40 := by omega
      refine lv_iload hx hb d_J_settlePresentStep_13 (lv_at hl 4 rfl) ?_
      refine lv_iload_n hx hb d_J_settlePresentStep_15 rfl (lv_at hl 3 rfl) ?_
      refine lv_icmp_ge (tgt := 66) hx hb d_J_settlePresentStep_16 rfl (fun h16 => ?_) (fun hq => absurd (nI_le (show 40 ≤ i by omega) (show i < 2 ^ 31 by omega)) hq)
      refine lv_aload_n hx hb d_J_settlePresentStep_66 rfl (lv_at hl 0 rfl) ?_
      refine lv_iload_n hx hb d_J_settlePresentStep_67 rfl (lv_at hl 1 rfl) ?_
      refine jp_21 hc hh wf_J_96 d_J_settlePresentStep_68 (fun H locs hh => ?_)
      exact jx_vret (r := ()) hc hh hQ hlk hr rfl ⟨rfl, by first | (rw [hi]; done) | (rw [hi]; rfl) | (rw [hi]; simp [jc_settle]; done)⟩ d_J_settlePresentStep_71
    | succ n ih =>
      intro i ls hm hl
      have hi : i < 40 := by omega
      refine lv_iload hx hb d_J_settlePresentStep_13 (lv_at hl 4 rfl) ?_
      refine lv_iload_n hx hb d_J_settlePresentStep_15 rfl (lv_at hl 3 rfl) ?_
      refine lv_icmp_ge (tgt := 66) hx hb d_J_settlePresentStep_16 rfl (fun hq => absurd hq (nI_ge hi (by decide))) (fun h16 => ?_)
      refine lv_aload_n hx hb d_J_settlePresentStep_19 rfl (lv_at hl 2 rfl) ?_
      refine lv_iload hx hb d_J_settlePresentStep_20 (lv_at hl 4 rfl) ?_
      refine ja_E hc hh hi d_J_settlePresentStep_22 ?_
      refine jv_astore (i := 5) (lv' := [(5, jv ad 118 (nI i)), (0, .ref (ad 0)), (1, .int (jc_lt u i)), (2, .ref (ad 4)), (3, .int (nI 40)), (4, .int (nI i))]) hx hb d_J_settlePresentStep_23 hl (by decide) rfl (fun ls hl => ?_)
      refine jv_aload hx hb d_J_settlePresentStep_25 (lv_at hl 0 rfl) ?_
      refine jg_E hc hh hi 0 (by decide) rfl wf_J_179 d_J_settlePresentStep_27 ?_
      refine lv_if_eq (tgt := 60) hx hb d_J_settlePresentStep_30 rfl (fun h30 => ?_) (fun h30 => ?_)
      ·
        refine lv_iinc (k := 5) (v := nI (i + 1)) (lv' := [(4, .int (nI (i + 1))), (5, jv ad 118 (nI i)), (0, .ref (ad 0)), (1, .int (jc_lt u i)), (2, .ref (ad 4)), (3, .int (nI 40))]) hx hb d_J_settlePresentStep_60 hl rfl (nI_1 i) (by decide) rfl (fun ls hl => ?_)
        refine lv_goto (tgt := 13) hx hb d_J_settlePresentStep_63 rfl ?_
        have e1 : jc_lt u (i + 1) = jc_lt u i := by first | (simp [nI_0, jc_lt, h30]; done) | (simp [nI_0, jc_lt, eq_true h30]; done)
        refine ih (i + 1) _ (by omega) ?_
        try rw [e1]
        exact lv_sub hl [2, 3, 4, 5, 0] rfl
      refine jv_aload hx hb d_J_settlePresentStep_33 (lv_at hl 0 rfl) ?_
      refine jg_E hc hh hi 2 (by decide) rfl wf_J_128 d_J_settlePresentStep_35 ?_
      refine lv_aload_n hx hb d_J_settlePresentStep_38 rfl (lv_at hl 1 rfl) ?_
      refine jg_J hc hh 5 (by decide) rfl wf_J_96 d_J_settlePresentStep_39 ?_
      refine lv_icmp_gt (tgt := 60) hx hb d_J_settlePresentStep_42 rfl (fun h42 => ?_) (fun h42 => ?_)
      ·
        refine lv_iinc (k := 5) (v := nI (i + 1)) (lv' := [(4, .int (nI (i + 1))), (5, jv ad 118 (nI i)), (0, .ref (ad 0)), (1, .int (jc_lt u i)), (2, .ref (ad 4)), (3, .int (nI 40))]) hx hb d_J_settlePresentStep_60 hl rfl (nI_1 i) (by decide) rfl (fun ls hl => ?_)
        refine lv_goto (tgt := 13) hx hb d_J_settlePresentStep_63 rfl ?_
        have e2 : jc_lt u (i + 1) = jc_lt u i := by simp [nI_0, jc_lt, h30, h42]
        refine ih (i + 1) _ (by omega) ?_
        try rw [e2]
        exact lv_sub hl [2, 3, 4, 5, 0] rfl
      refine jv_aload hx hb d_J_settlePresentStep_45 (lv_at hl 0 rfl) ?_
      refine jg_E hc hh hi 2 (by decide) rfl wf_J_128 d_J_settlePresentStep_47 ?_
      refine lv_iload_n hx hb d_J_settlePresentStep_50 rfl (lv_at hl 2 rfl) ?_
      refine lv_icmp_le (tgt := 60) hx hb d_J_settlePresentStep_51 rfl (fun h51 => ?_) (fun h51 => ?_)
      ·
        refine lv_iinc (k := 5) (v := nI (i + 1)) (lv' := [(4, .int (nI (i + 1))), (5, jv ad 118 (nI i)), (0, .ref (ad 0)), (1, .int (jc_lt u i)), (2, .ref (ad 4)), (3, .int (nI 40))]) hx hb d_J_settlePresentStep_60 hl rfl (nI_1 i) (by decide) rfl (fun ls hl => ?_)
        refine lv_goto (tgt := 13) hx hb d_J_settlePresentStep_63 rfl ?_
        have e3 : jc_lt u (i + 1) = jc_lt u i := by simp [nI_0, jc_lt, h30, h42, h51]
        refine ih (i + 1) _ (by omega) ?_
        try rw [e3]
        exact lv_sub hl [2, 3, 4, 5, 0] rfl
      refine jv_aload hx hb d_J_settlePresentStep_54 (lv_at hl 0 rfl) ?_
      refine jg_E hc hh hi 2 (by decide) rfl wf_J_128 d_J_settlePresentStep_56 ?_
      refine lv_istore_n (i := 1) (lv' := [(1, .int (u 16 i)), (5, jv ad 118 (nI i)), (0, .ref (ad 0)), (2, .ref (ad 4)), (3, .int (nI 40)), (4, .int (nI i))]) hx hb d_J_settlePresentStep_59 rfl hl (by decide) rfl (fun ls hl => ?_)
      refine lv_iinc (k := 5) (v := nI (i + 1)) (lv' := [(4, .int (nI (i + 1))), (1, .int (u 16 i)), (5, jv ad 118 (nI i)), (0, .ref (ad 0)), (2, .ref (ad 4)), (3, .int (nI 40))]) hx hb d_J_settlePresentStep_60 hl rfl (nI_1 i) (by decide) rfl (fun ls hl => ?_)
      refine lv_goto (tgt := 13) hx hb d_J_settlePresentStep_63 rfl ?_
      have e4 : jc_lt u (i + 1) = (u 16 i) := by simp [nI_0, jc_lt, h30, h42, h51]
      refine ih (i + 1) _ (by omega) ?_
      try rw [e4]
      exact lv_sub hl [3, 1, 4, 5, 0] rfl
  have e5 : jc_lt u 0 = 0 := by simp [nI_0, jc_lt]
  have e6 : nI 0 = 0 := rfl
  refine L13 40 0 _ (by omega) ?_
  try rw [e5]
  try rw [e6]
  exact lv_sub hl [4, 3, 2, 1, 0] rfl
set_option maxHeartbeats 4000000 in
set_option maxRecDepth 100000 in
theorem c_dropLaterEntries (l : Launch) (D : va_G) (aK ad : Nat → Nat) (cA : Nat → ClassId) (u : js_S) (hS : jc_Sh u) : jx_M l y_J_dropLaterEntries b_J_dropLaterEntries 5 none (jr 3) D (jc_tys cA) aK 158 ad (jc_cell ad aK cA) [.ref (ad 0)] u (fun _ : Unit => none) (fun r u' => r = () ∧ u' = (jc_dropLater u)) := by
  refine jx_enter "JointHistory" (by decide) rfl (by simp [lg_sl, vc_int, vc_ref, vc_long, jv_cat]) ?_
  intro p e s m args below meth c A Q H locs ls hQ hc hh hr hlk hl
  have hx := hc.1
  have hb := hc.2.1
  have hl : lv_has ls 5 [(0, .ref (ad 0))] := by simpa [lv_args, vc_int, vc_ref, vc_long, jv_cat] using hl
  refine lv_aload_n hx hb d_J_dropLaterEntries_0 rfl (lv_at hl 0 rfl) ?_
  refine jg_J hc hh 3 (by decide) rfl wf_J_29 d_J_dropLaterEntries_1 ?_
  refine lv_astore_n (i := 1) (lv' := [(1, .ref (ad 4)), (0, .ref (ad 0))]) hx hb d_J_dropLaterEntries_4 rfl hl (by decide) rfl (fun ls hl => ?_)
  refine lv_aload_n hx hb d_J_dropLaterEntries_5 rfl (lv_at hl 0 rfl) ?_
  refine jl_E hc hh d_J_dropLaterEntries_6 ?_
  refine lv_istore_n (i := 2) (lv' := [(2, .int (nI 40)), (1, .ref (ad 4)), (0, .ref (ad 0))]) hx hb d_J_dropLaterEntries_7 rfl hl (by decide) rfl (fun ls hl => ?_)
  refine lv_iconst (v := 0) hx hb d_J_dropLaterEntries_8 (by decide) ?_
  refine lv_istore_n (i := 3) (lv' := [(3, .int 0), (2, .int (nI 40)), (1, .ref (ad 4)), (0, .ref (ad 0))]) hx hb d_J_dropLaterEntries_9 rfl hl (by decide) rfl (fun ls hl => ?_)
  have L10 : ∀ (n : Nat) (i : Nat) (H : Heap) (locs : List Loc) (ls : Array Slot), i + n = 40 → jx_H D 158 ad (jc_cell ad aK cA (jc_dl u i)) A s.heap H locs → lv_has ls 5 [(0, .ref (ad 0)), (1, .ref (ad 4)), (2, .int (nI 40)), (3, .int (nI i))] → W p l e (jr 3) s m args below meth c H locs 0 0 Q (F0 m 10 ls []) := by
    intro n
    induction n with
    | zero =>
      intro i H locs ls hm hh hl
      have hi : i = 40 := by omega
      refine lv_iload_n hx hb d_J_dropLaterEntries_10 rfl (lv_at hl 3 rfl) ?_
      refine lv_iload_n hx hb d_J_dropLaterEntries_11 rfl (lv_at hl 2 rfl) ?_
      refine lv_icmp_ge (tgt := 44) hx hb d_J_dropLaterEntries_12 rfl (fun h12 => ?_) (fun hq => absurd (nI_le (show 40 ≤ i by omega) (show i < 2 ^ 31 by omega)) hq)
      refine lv_aload_n hx hb d_J_dropLaterEntries_44 rfl (lv_at hl 0 rfl) ?_
      refine jx_callV [] [] hc hh (c_dropWhatIsGone l D aK ad cA (jc_dl u i) (jc_Sh_dl hS i)) wy_J_157 ⟨by decide, rfl, rfl⟩ (by decide) rfl hl.1 rfl (by decide) ⟨Nat.zero_le _, Nat.zero_le _⟩ d_J_dropLaterEntries_45 (fun r u9 H locs hp hh _ _ => ?_)
      rw [hp.2] at hh
      refine W.eq (g2 := F0 m 48 ls []) (by first | rfl | (rw [hp.1]; rfl)) ?_
      exact jx_vret (r := ()) hc hh hQ hlk hr rfl ⟨rfl, by first | (rw [hi]; done) | (rw [hi]; rfl) | (rw [hi]; simp [jc_dropLater]; done)⟩ d_J_dropLaterEntries_48
    | succ n ih =>
      intro i H locs ls hm hh hl
      have hi : i < 40 := by omega
      refine lv_iload_n hx hb d_J_dropLaterEntries_10 rfl (lv_at hl 3 rfl) ?_
      refine lv_iload_n hx hb d_J_dropLaterEntries_11 rfl (lv_at hl 2 rfl) ?_
      refine lv_icmp_ge (tgt := 44) hx hb d_J_dropLaterEntries_12 rfl (fun hq => absurd hq (nI_ge hi (by decide))) (fun h12 => ?_)
      refine lv_aload_n hx hb d_J_dropLaterEntries_15 rfl (lv_at hl 1 rfl) ?_
      refine lv_iload_n hx hb d_J_dropLaterEntries_16 rfl (lv_at hl 3 rfl) ?_
      refine ja_E hc hh hi d_J_dropLaterEntries_17 ?_
      refine jv_astore (i := 4) (lv' := [(4, jv ad 118 (nI i)), (0, .ref (ad 0)), (1, .ref (ad 4)), (2, .int (nI 40)), (3, .int (nI i))]) hx hb d_J_dropLaterEntries_18 hl (by decide) rfl (fun ls hl => ?_)
      refine jv_aload hx hb d_J_dropLaterEntries_20 (lv_at hl 0 rfl) ?_
      refine jg_E hc hh hi 2 (by decide) rfl wf_J_128 d_J_dropLaterEntries_22 ?_
      refine lv_aload_n hx hb d_J_dropLaterEntries_25 rfl (lv_at hl 1 rfl) ?_
      refine jg_J hc hh 5 (by decide) rfl wf_J_96 d_J_dropLaterEntries_26 ?_
      refine lv_icmp_le (tgt := 38) hx hb d_J_dropLaterEntries_29 rfl (fun h29 => ?_) (fun h29 => ?_)
      ·
        refine lv_iinc (k := 4) (v := nI (i + 1)) (lv' := [(3, .int (nI (i + 1))), (4, jv ad 118 (nI i)), (0, .ref (ad 0)), (1, .ref (ad 4)), (2, .int (nI 40))]) hx hb d_J_dropLaterEntries_38 hl rfl (nI_1 i) (by decide) rfl (fun ls hl => ?_)
        refine lv_goto (tgt := 10) hx hb d_J_dropLaterEntries_41 rfl ?_
        have e1 : (jc_dl u (i + 1)) = (jc_dl u i) := by simp [nI_0, jc_dl, h29]
        refine ih (i + 1) _ _ _ (by omega) ?_ ?_
        ·
          try rw [e1]
          exact hh
        try rw [e1]
        exact lv_sub hl [2, 3, 4, 0] rfl
      refine jv_aload hx hb d_J_dropLaterEntries_32 (lv_at hl 0 rfl) ?_
      refine lv_iconst (v := 0) hx hb d_J_dropLaterEntries_34 (by decide) ?_
      refine jp_14 hc hh hi (by decide) wf_J_179 d_J_dropLaterEntries_35 (fun H locs hh => ?_)
      refine lv_iinc (k := 4) (v := nI (i + 1)) (lv' := [(3, .int (nI (i + 1))), (4, jv ad 118 (nI i)), (0, .ref (ad 0)), (1, .ref (ad 4)), (2, .int (nI 40))]) hx hb d_J_dropLaterEntries_38 hl rfl (nI_1 i) (by decide) rfl (fun ls hl => ?_)
      refine lv_goto (tgt := 10) hx hb d_J_dropLaterEntries_41 rfl ?_
      have e2 : (jc_dl u (i + 1)) = (js_up (jc_dl u i) 14 i 0) := by simp [nI_0, jc_dl, h29]
      refine ih (i + 1) _ _ _ (by omega) ?_ ?_
      ·
        try rw [e2]
        exact hh
      try rw [e2]
      exact lv_sub hl [2, 3, 4, 0] rfl
  have e3 : nI 0 = 0 := rfl
  have e4 : (jc_dl u 0) = u := by simp [nI_0, jc_dl]
  refine L10 40 0 _ _ _ (by omega) ?_ ?_
  ·
    try rw [e3]
    try rw [e4]
    exact hh
  try rw [e3]
  try rw [e4]
  exact lv_sub hl [3, 2, 1, 0] rfl
set_option maxHeartbeats 4000000 in
set_option maxRecDepth 100000 in
theorem c_takeOut (l : Launch) (D : va_G) (aK ad : Nat → Nat) (cA : Nat → ClassId) (u : js_S) (n : Int32) (hS : jc_Sh u) (h_n : ∃ i, i < 40 ∧ n = nI i) : jx_M l y_J_takeOut b_J_takeOut 3 none (jr 1) D (jc_tys cA) aK 158 ad (jc_cell ad aK cA) [.ref (ad 0), jv ad 38 n] u (fun _ : Unit => none) (fun r u' => r = () ∧ u' = (jc_takeOut u n)) := by
  refine jx_enter "JointHistory" (by decide) rfl (by simp [lg_sl, vc_int, vc_ref, vc_long, jv_cat]) ?_
  intro p e s m args below meth c A Q H locs ls hQ hc hh hr hlk hl
  have hx := hc.1
  have hb := hc.2.1
  have hl : lv_has ls 3 [(0, .ref (ad 0)), (1, jv ad 38 n)] := by simpa [lv_args, vc_int, vc_ref, vc_long, jv_cat] using hl
  refine jv_aload_n hx hb d_J_takeOut_0 rfl (lv_at hl 1 rfl) ?_
  refine jgx_N hc hh h_n 3 (by decide) rfl wf_J_208 d_J_takeOut_1 ?_
  refine jv_astore_n (i := 2) (lv' := [(2, jv ad 78 (u 7 (ix n))), (0, .ref (ad 0)), (1, jv ad 38 n)]) hx hb d_J_takeOut_4 rfl hl (by decide) (by simp [vc_int, vc_ref, vc_long, jv_cat]) (fun ls hl => ?_)
  refine jv_aload_n hx hb d_J_takeOut_5 rfl (lv_at hl 0 rfl) ?_
  refine jv_ifnonnull (tgt := 10) hx hb d_J_takeOut_6 rfl (fun h6 => ?_) (fun h6 => ?_)
  ·
    refine jv_aload_n hx hb d_J_takeOut_10 rfl (lv_at hl 0 rfl) ?_
    refine jgx_D hc hh (jq_ne (jc_S7x hS h_n) h6) 4 (by decide) rfl wf_J_171 d_J_takeOut_11 ?_
    refine jv_aload_n hx hb d_J_takeOut_14 rfl (lv_at hl 2 rfl) ?_
    refine jv_acmp_ne (tgt := 26) (n := 40) hx hb (by decide) (jd_inj hh (by decide)) (jc_S12x hS (jq_ne (jc_S7x hS h_n) h6)) (Or.inr h_n) d_J_takeOut_15 rfl (fun h15 => ?_) (fun h15 => ?_)
    ·
      refine jv_aload_n hx hb d_J_takeOut_26 rfl (lv_at hl 0 rfl) ?_
      refine jv_const (ad := ad) (off := 38) hx hb d_J_takeOut_27 ?_
      refine jpy_13 hc hh (jq_ne (jc_S7x hS h_n) h6) wf_J_177 d_J_takeOut_28 (fun H locs hh => ?_)
      refine jv_aload_n hx hb d_J_takeOut_31 rfl (lv_at hl 2 rfl) ?_
      refine lv_iconst (v := 0) hx hb d_J_takeOut_32 (by decide) ?_
      refine jpy_5 hc hh h_n (by decide) wf_J_43 d_J_takeOut_33 (fun H locs hh => ?_)
      exact jx_vret (r := ()) hc hh hQ hlk hr rfl ⟨rfl, by simp [jc_takeOut, h6, h15]⟩ d_J_takeOut_36
    refine jv_aload_n hx hb d_J_takeOut_18 rfl (lv_at hl 0 rfl) ?_
    refine jv_aload_n hx hb d_J_takeOut_19 rfl (lv_at hl 0 rfl) ?_
    refine jgx_D hc hh (jq_ne (jc_S7x hS h_n) h6) 5 (by decide) rfl wf_J_177 d_J_takeOut_20 ?_
    refine jpy_12 hc hh (jq_ne (jc_S7x hS h_n) h6) wf_J_171 d_J_takeOut_23 (fun H locs hh => ?_)
    refine jv_aload_n hx hb d_J_takeOut_26 rfl (lv_at hl 0 rfl) ?_
    refine jv_const (ad := ad) (off := 38) hx hb d_J_takeOut_27 ?_
    refine jpy_13 hc hh (jq_ne (jc_S7x hS h_n) h6) wf_J_177 d_J_takeOut_28 (fun H locs hh => ?_)
    refine jv_aload_n hx hb d_J_takeOut_31 rfl (lv_at hl 2 rfl) ?_
    refine lv_iconst (v := 0) hx hb d_J_takeOut_32 (by decide) ?_
    refine jpy_5 hc hh h_n (by decide) wf_J_43 d_J_takeOut_33 (fun H locs hh => ?_)
    exact jx_vret (r := ()) hc hh hQ hlk hr rfl ⟨rfl, by first | (simp [jc_takeOut, h6, h15]; done) | (simp [jc_takeOut, h6, eq_true h15]; done)⟩ d_J_takeOut_36
  exact jx_vret (r := ()) hc hh hQ hlk hr rfl ⟨rfl, by first | (simp [jc_takeOut, h6]; done) | (simp [jc_takeOut, eq_true h6]; done)⟩ d_J_takeOut_9
set_option maxHeartbeats 4000000 in
set_option maxRecDepth 100000 in
theorem c_putEntry (l : Launch) (D : va_G) (aK ad : Nat → Nat) (cA : Nat → ClassId) (u : js_S) (e9 : Int32) (url : Int32) (state : Int32) (doc : Int32) (push : Int32) (hS : jc_Sh u) (h_e9 : ∃ i, i < 40 ∧ e9 = nI i) (h_doc : ∃ i, i < 40 ∧ doc = nI i) : jx_M l y_J_putEntry b_J_putEntry 6 none (jr 3) D (jc_tys cA) aK 158 ad (jc_cell ad aK cA) [.ref (ad 0), jv ad 118 e9, .int url, .int state, jv ad 78 doc, .int push] u (fun _ : Unit => none) (fun r u' => r = () ∧ u' = (jc_putEntry u e9 url state doc push)) := by
  refine jx_enter "JointHistory" (by decide) rfl (by simp [lg_sl, vc_int, vc_ref, vc_long, jv_cat]) ?_
  intro p e s m args below meth c A Q H locs ls hQ hc hh hr hlk hl
  have hx := hc.1
  have hb := hc.2.1
  have hl : lv_has ls 6 [(0, .ref (ad 0)), (1, jv ad 118 e9), (2, .int url), (3, .int state), (4, jv ad 78 doc), (5, .int push)] := by simpa [lv_args, vc_int, vc_ref, vc_long, jv_cat] using hl
  refine lv_iload hx hb d_J_putEntry_0 (lv_at hl 5 rfl) ?_
  refine lv_if_eq (tgt := 32) hx hb d_J_putEntry_2 rfl (fun h2 => ?_) (fun h2 => ?_)
  ·
    refine jv_aload_n hx hb d_J_putEntry_32 rfl (lv_at hl 1 rfl) ?_
    refine lv_iload_n hx hb d_J_putEntry_33 rfl (lv_at hl 2 rfl) ?_
    refine jpy_17 hc hh h_e9 wf_J_103 d_J_putEntry_34 (fun H locs hh => ?_)
    refine jv_aload_n hx hb d_J_putEntry_37 rfl (lv_at hl 1 rfl) ?_
    refine lv_iload_n hx hb d_J_putEntry_38 rfl (lv_at hl 3 rfl) ?_
    refine jpy_18 hc hh h_e9 wf_J_165 d_J_putEntry_39 (fun H locs hh => ?_)
    refine jv_aload_n hx hb d_J_putEntry_42 rfl (lv_at hl 1 rfl) ?_
    refine jv_aload hx hb d_J_putEntry_43 (lv_at hl 4 rfl) ?_
    refine jpy_19 hc hh h_e9 wf_J_120 d_J_putEntry_45 (fun H locs hh => ?_)
    refine lv_aload_n hx hb d_J_putEntry_48 rfl (lv_at hl 0 rfl) ?_
    refine jx_callV [] [] hc hh (c_dropWhatIsGone l D aK ad cA (js_up (js_up (js_up u 17 (ix e9) url) 18 (ix e9) state) 19 (ix e9) doc) (by obtain ⟨d, hd, rfl⟩ := h_doc; exact jc_Sh_19 (jc_Sh_18 (jc_Sh_17 hS)) hd)) wy_J_157 ⟨by decide, rfl, rfl⟩ (by decide) rfl hl.1 rfl (by decide) ⟨Nat.zero_le _, Nat.zero_le _⟩ d_J_putEntry_49 (fun r u9 H locs hp hh _ _ => ?_)
    rw [hp.2] at hh
    refine W.eq (g2 := F0 m 52 ls []) (by first | rfl | (rw [hp.1]; rfl)) ?_
    refine lv_aload_n hx hb d_J_putEntry_52 rfl (lv_at hl 0 rfl) ?_
    refine jx_callV [] [] hc hh (c_settlePresentStep l D aK ad cA (jc_gone (js_up (js_up (js_up u 17 (ix e9) url) 18 (ix e9) state) 19 (ix e9) doc))) wy_J_160 ⟨by decide, rfl, rfl⟩ (by decide) rfl hl.1 rfl (by decide) ⟨Nat.zero_le _, Nat.zero_le _⟩ d_J_putEntry_53 (fun r u9 H locs hp hh _ _ => ?_)
    rw [hp.2] at hh
    refine W.eq (g2 := F0 m 56 ls []) (by first | rfl | (rw [hp.1]; rfl)) ?_
    exact jx_vret (r := ()) hc hh hQ hlk hr rfl ⟨rfl, by first | (simp [jc_putEntry, h2]; done) | (simp [jc_putEntry, eq_true h2]; done)⟩ d_J_putEntry_56
  refine lv_aload_n hx hb d_J_putEntry_5 rfl (lv_at hl 0 rfl) ?_
  refine lv_dup hx hb d_J_putEntry_6 rfl ?_
  refine jg_J hc hh 5 (by decide) rfl wf_J_96 d_J_putEntry_7 ?_
  refine lv_iconst (v := 1) hx hb d_J_putEntry_10 (by decide) ?_
  refine lv_iadd hx hb d_J_putEntry_11 ?_
  refine jp_21 hc hh wf_J_96 d_J_putEntry_12 (fun H locs hh => ?_)
  refine lv_aload_n hx hb d_J_putEntry_15 rfl (lv_at hl 0 rfl) ?_
  refine jv_aload_n hx hb d_J_putEntry_16 rfl (lv_at hl 1 rfl) ?_
  refine jgx_E hc hh h_e9 1 (by decide) rfl wf_J_135 d_J_putEntry_17 ?_
  refine lv_aload_n hx hb d_J_putEntry_20 rfl (lv_at hl 0 rfl) ?_
  refine jg_J hc hh 5 (by decide) rfl wf_J_96 d_J_putEntry_21 ?_
  refine lv_iload_n hx hb d_J_putEntry_24 rfl (lv_at hl 2 rfl) ?_
  refine lv_iload_n hx hb d_J_putEntry_25 rfl (lv_at hl 3 rfl) ?_
  refine jv_aload hx hb d_J_putEntry_26 (lv_at hl 4 rfl) ?_
  refine jx_callV [jv ad 38 ((js_up u 21 0 ((u 21 0) + 1)) 15 (ix e9)), .int ((js_up u 21 0 ((u 21 0) + 1)) 21 0), .int url, .int state, jv ad 78 doc] [] hc hh (c_addEntry l D aK ad cA (js_up u 21 0 ((u 21 0) + 1)) ((js_up u 21 0 ((u 21 0) + 1)) 15 (ix e9)) ((js_up u 21 0 ((u 21 0) + 1)) 21 0) url state doc) wy_J_51 ⟨by decide, rfl, rfl⟩ (by decide) rfl hl.1 rfl (by decide) ⟨Nat.zero_le _, Nat.zero_le _⟩ d_J_putEntry_28 (fun r u9 H locs hp hh _ _ => ?_)
  rw [hp.2] at hh
  refine W.eq (g2 := F0 m 31 ls []) (by first | rfl | (rw [hp.1]; rfl)) ?_
  exact jx_vret (r := ()) hc hh hQ hlk hr rfl ⟨rfl, by simp [jc_putEntry, h2]⟩ d_J_putEntry_31
set_option maxHeartbeats 4000000 in
set_option maxRecDepth 100000 in
theorem c_countMove (l : Launch) (D : va_G) (aK ad : Nat → Nat) (cA : Nat → ClassId) (u : js_S) (x : Int32) (y : Int32) (hS : jc_Sh u) (q_x : jq 40 x) (q_y : jq 40 y) : jx_M l y_J_countMove b_J_countMove 3 none (jr 2) D (jc_tys cA) aK 158 ad (jc_cell ad aK cA) [.ref (ad 0), jv ad 118 x, jv ad 118 y] u (fun _ : Unit => none) (fun r u' => r = () ∧ u' = (jc_move u x y)) := by
  refine jx_enter "JointHistory" (by decide) rfl (by simp [lg_sl, vc_int, vc_ref, vc_long, jv_cat]) ?_
  intro p e s m args below meth c A Q H locs ls hQ hc hh hr hlk hl
  have hx := hc.1
  have hb := hc.2.1
  have hl : lv_has ls 3 [(0, .ref (ad 0)), (1, jv ad 118 x), (2, jv ad 118 y)] := by simpa [lv_args, vc_int, vc_ref, vc_long, jv_cat] using hl
  refine jv_aload_n hx hb d_J_countMove_0 rfl (lv_at hl 1 rfl) ?_
  refine jv_ifnull (tgt := 24) hx hb d_J_countMove_1 rfl (fun h1 => ?_) (fun h1 => ?_)
  ·
    exact jx_vret (r := ()) hc hh hQ hlk hr rfl ⟨rfl, by first | (simp [jc_move, jc_mv1, h1]; done) | (simp [jc_move, jc_mv1, eq_true h1]; done)⟩ d_J_countMove_24
  refine jv_aload_n hx hb d_J_countMove_4 rfl (lv_at hl 2 rfl) ?_
  refine jv_ifnull (tgt := 24) hx hb d_J_countMove_5 rfl (fun h5 => ?_) (fun h5 => ?_)
  ·
    exact jx_vret (r := ()) hc hh hQ hlk hr rfl ⟨rfl, by first | (simp [jc_move, jc_mv1, h1, h5]; done) | (simp [jc_move, jc_mv1, h1, eq_true h5]; done)⟩ d_J_countMove_24
  refine jv_aload_n hx hb d_J_countMove_8 rfl (lv_at hl 1 rfl) ?_
  refine jv_aload_n hx hb d_J_countMove_9 rfl (lv_at hl 2 rfl) ?_
  refine jv_acmp_eq (tgt := 24) (n := 40) hx hb (by decide) (jd_inj hh (by decide)) q_x q_y d_J_countMove_10 rfl (fun h10 => ?_) (fun h10 => ?_)
  ·
    exact jx_vret (r := ()) hc hh hQ hlk hr rfl ⟨rfl, by first | (simp [jc_move, jc_mv1, h1, h5, h10]; done) | (simp [jc_move, jc_mv1, h1, h5, eq_true h10]; done)⟩ d_J_countMove_24
  refine jv_aload_n hx hb d_J_countMove_13 rfl (lv_at hl 1 rfl) ?_
  refine jgx_E hc hh (jq_ne q_x h1) 5 (by decide) rfl wf_J_120 d_J_countMove_14 ?_
  refine jv_aload_n hx hb d_J_countMove_17 rfl (lv_at hl 2 rfl) ?_
  refine jgx_E hc hh (jq_ne q_y h5) 5 (by decide) rfl wf_J_120 d_J_countMove_18 ?_
  refine jv_acmp_eq (tgt := 25) (n := 40) hx hb (by decide) (jd_inj hh (by decide)) (jc_S19x hS (jq_ne q_x h1)) (jc_S19x hS (jq_ne q_y h5)) d_J_countMove_21 rfl (fun h21 => ?_) (fun h21 => ?_)
  ·
    refine lv_aload_n hx hb d_J_countMove_25 rfl (lv_at hl 0 rfl) ?_
    refine lv_dup hx hb d_J_countMove_26 rfl ?_
    refine jg_J hc hh 6 (by decide) rfl wf_J_190 d_J_countMove_27 ?_
    refine lv_iconst (v := 1) hx hb d_J_countMove_30 (by decide) ?_
    refine lv_iadd hx hb d_J_countMove_31 ?_
    refine jp_22 hc hh wf_J_190 d_J_countMove_32 (fun H locs hh => ?_)
    refine jv_aload_n hx hb d_J_countMove_35 rfl (lv_at hl 1 rfl) ?_
    refine jgx_E hc hh (jq_ne q_x h1) 3 (by decide) rfl wf_J_103 d_J_countMove_36 ?_
    refine jx_callS [.int ((js_up u 22 0 ((u 22 0) + 1)) 17 (ix x))] [] hc hh (c_fragmentOf l D aK ad cA (js_up u 22 0 ((u 22 0) + 1)) ((js_up u 22 0 ((u 22 0) + 1)) 17 (ix x))) wy_J_199 (by decide) rfl hl.1 rfl (by decide) ⟨Nat.zero_le _, Nat.zero_le _⟩ d_J_countMove_39 (fun r u9 H locs hp hh _ _ => ?_)
    rw [hp.2] at hh
    refine W.eq (g2 := F0 m 42 ls [.int (jc_frag ((js_up u 22 0 ((u 22 0) + 1)) 17 (ix x)))]) (by first | rfl | (rw [hp.1]; rfl)) ?_
    refine jv_aload_n hx hb d_J_countMove_42 rfl (lv_at hl 2 rfl) ?_
    refine jgx_E hc hh (jq_ne q_y h5) 3 (by decide) rfl wf_J_103 d_J_countMove_43 ?_
    refine jx_callS [.int ((js_up u 22 0 ((u 22 0) + 1)) 17 (ix y))] [.int (jc_frag ((js_up u 22 0 ((u 22 0) + 1)) 17 (ix x)))] hc hh (c_fragmentOf l D aK ad cA (js_up u 22 0 ((u 22 0) + 1)) ((js_up u 22 0 ((u 22 0) + 1)) 17 (ix y))) wy_J_199 (by decide) rfl hl.1 rfl (by simp [vc_int, vc_ref, vc_long, jv_cat]) ⟨Nat.zero_le _, Nat.zero_le _⟩ d_J_countMove_46 (fun r u9 H locs hp hh _ _ => ?_)
    rw [hp.2] at hh
    refine W.eq (g2 := F0 m 49 ls [.int (jc_frag ((js_up u 22 0 ((u 22 0) + 1)) 17 (ix y))), .int (jc_frag ((js_up u 22 0 ((u 22 0) + 1)) 17 (ix x)))]) (by first | rfl | (rw [hp.1]; rfl)) ?_
    refine lv_icmp_eq (tgt := 62) hx hb d_J_countMove_49 rfl (fun h49 => ?_) (fun h49 => ?_)
    ·
      exact jx_vret (r := ()) hc hh hQ hlk hr rfl ⟨rfl, by first | (simp [jc_move, jc_mv1, h1, h5, h10, h21, h49]; done) | (simp [jc_move, jc_mv1, h1, h5, h10, eq_true h21, eq_true h49]; done)⟩ d_J_countMove_62
    refine lv_aload_n hx hb d_J_countMove_52 rfl (lv_at hl 0 rfl) ?_
    refine lv_dup hx hb d_J_countMove_53 rfl ?_
    refine jg_J hc hh 7 (by decide) rfl wf_J_117 d_J_countMove_54 ?_
    refine lv_iconst (v := 1) hx hb d_J_countMove_57 (by decide) ?_
    refine lv_iadd hx hb d_J_countMove_58 ?_
    refine jp_23 hc hh wf_J_117 d_J_countMove_59 (fun H locs hh => ?_)
    exact jx_vret (r := ()) hc hh hQ hlk hr rfl ⟨rfl, by first | (simp [jc_move, jc_mv1, h1, h5, h10, h21, h49]; done) | (simp [jc_move, jc_mv1, h1, h5, h10, eq_true h21, h49]; done)⟩ d_J_countMove_62
  exact jx_vret (r := ()) hc hh hQ hlk hr rfl ⟨rfl, by simp [jc_move, jc_mv1, h1, h5, h10, h21]⟩ d_J_countMove_24
set_option maxHeartbeats 4000000 in
set_option maxRecDepth 100000 in
theorem c_isFull (l : Launch) (D : va_G) (aK ad : Nat → Nat) (cA : Nat → ClassId) (u : js_S) (push : Int32) : jx_M l y_J_isFull b_J_isFull 2 (some .boolean) (jr 2) D (jc_tys cA) aK 158 ad (jc_cell ad aK cA) [.ref (ad 0), .int push] u (fun r : Int32 => some (.int r)) (fun r u' => r = jc_full u push ∧ u' = u) := by
  refine jx_enter "JointHistory" (by decide) rfl (by simp [lg_sl, vc_int, vc_ref, vc_long, jv_cat]) ?_
  intro p e s m args below meth c A Q H locs ls hQ hc hh hr hlk hl
  have hx := hc.1
  have hb := hc.2.1
  have hl : lv_has ls 2 [(0, .ref (ad 0)), (1, .int push)] := by simpa [lv_args, vc_int, vc_ref, vc_long, jv_cat] using hl
  refine lv_aload_n hx hb d_J_isFull_0 rfl (lv_at hl 0 rfl) ?_
  refine lv_iload_n hx hb d_J_isFull_1 rfl (lv_at hl 1 rfl) ?_
  refine lv_if_eq (tgt := 12) hx hb d_J_isFull_2 rfl (fun h2 => ?_) (fun h2 => ?_)
  ·
    refine lv_ldc hx hb hc.2.2.2.1 (hc.2.2.2.2.1 _ wc_J_186) d_J_isFull_12 ?_
    refine jx_callV [.int 2147483647] [] hc hh (c_entriesUpTo l D aK ad cA u 2147483647) wy_J_187 ⟨by decide, rfl, rfl⟩ (by decide) rfl hl.1 rfl (by decide) ⟨Nat.zero_le _, Nat.zero_le _⟩ d_J_isFull_14 (fun r u9 H locs hp hh _ _ => ?_)
    rw [hp.2] at hh
    refine W.eq (g2 := F0 m 17 ls [.int (nI (jc_cntE u 2147483647 40))]) (by first | rfl | (rw [hp.1]; rfl)) ?_
    refine lv_bipush (v := 36) hx hb d_J_isFull_17 (by decide) ?_
    refine lv_icmp_lt (tgt := 26) hx hb d_J_isFull_19 rfl (fun h19 => ?_) (fun h19 => ?_)
    ·
      refine lv_iconst (v := 0) hx hb d_J_isFull_26 (by decide) ?_
      exact jx_iret (r := 0) hc hh hQ hlk hr (by decide) rfl ⟨by first | (simp [jc_full, h2, h19]; done) | (simp [jc_full, eq_true h2, h19]; done), rfl⟩ d_J_isFull_27
    refine lv_iconst (v := 1) hx hb d_J_isFull_22 (by decide) ?_
    refine lv_goto (tgt := 27) hx hb d_J_isFull_23 rfl ?_
    exact jx_iret (r := 1) hc hh hQ hlk hr (by decide) rfl ⟨by first | (simp [jc_full, h2, h19]; done) | (simp [jc_full, eq_true h2, h19]; done), rfl⟩ d_J_isFull_27
  refine lv_aload_n hx hb d_J_isFull_5 rfl (lv_at hl 0 rfl) ?_
  refine jg_J hc hh 5 (by decide) rfl wf_J_96 d_J_isFull_6 ?_
  refine lv_goto (tgt := 14) hx hb d_J_isFull_9 rfl ?_
  refine jx_callV [.int (u 21 0)] [] hc hh (c_entriesUpTo l D aK ad cA u (u 21 0)) wy_J_187 ⟨by decide, rfl, rfl⟩ (by decide) rfl hl.1 rfl (by decide) ⟨Nat.zero_le _, Nat.zero_le _⟩ d_J_isFull_14 (fun r u9 H locs hp hh _ _ => ?_)
  rw [hp.2] at hh
  refine W.eq (g2 := F0 m 17 ls [.int (nI (jc_cntE u (u 21 0) 40))]) (by first | rfl | (rw [hp.1]; rfl)) ?_
  refine lv_bipush (v := 36) hx hb d_J_isFull_17 (by decide) ?_
  refine lv_icmp_lt (tgt := 26) hx hb d_J_isFull_19 rfl (fun h19 => ?_) (fun h19 => ?_)
  ·
    refine lv_iconst (v := 0) hx hb d_J_isFull_26 (by decide) ?_
    exact jx_iret (r := 0) hc hh hQ hlk hr (by decide) rfl ⟨by simp [jc_full, h2, h19], rfl⟩ d_J_isFull_27
  refine lv_iconst (v := 1) hx hb d_J_isFull_22 (by decide) ?_
  refine lv_goto (tgt := 27) hx hb d_J_isFull_23 rfl ?_
  exact jx_iret (r := 1) hc hh hQ hlk hr (by decide) rfl ⟨by simp [jc_full, h2, h19], rfl⟩ d_J_isFull_27
end
section
set_option maxHeartbeats 4000000 in
set_option maxRecDepth 100000 in
theorem c_shownEntry (l : Launch) (D : va_G) (aK ad : Nat → Nat) (cA : Nat → ClassId) (u : js_S) (n : Int32) (st : Int32) (hS : jc_Sh u) : jx_M l y_J_shownEntry b_J_shownEntry 6 (some (.object "JointHistory$Entry")) (jr 2) D (jc_tys cA) aK 158 ad (jc_cell ad aK cA) [.ref (ad 0), .int n, .int st] u (fun r : Int32 => some (jv ad 118 r)) (fun r u' => r = jc_shownEntry u n st ∧ u' = u) := by
  refine jx_enter "JointHistory" (by decide) rfl (by simp [lg_sl, vc_int, vc_ref, vc_long, jv_cat]) ?_
  intro p e s m args below meth c A Q H locs ls hQ hc hh hr hlk hl
  have hx := hc.1
  have hb := hc.2.1
  have hl : lv_has ls 6 [(0, .ref (ad 0)), (1, .int n), (2, .int st)] := by simpa [lv_args, vc_int, vc_ref, vc_long, jv_cat] using hl
  refine lv_iload_n hx hb d_J_shownEntry_0 rfl (lv_at hl 1 rfl) ?_
  refine lv_if_lt (tgt := 22) hx hb d_J_shownEntry_1 rfl (fun h1 => ?_) (fun h1 => ?_)
  ·
    refine jv_const (ad := ad) (off := 118) hx hb d_J_shownEntry_22 ?_
    exact jx_aret (r := (-1)) hc hh hQ hlk hr (jv_or _ _ _) rfl ⟨by simp [jc_shownEntry, jc_held, jc_up1, h1], rfl⟩ d_J_shownEntry_23
  refine lv_iload_n hx hb d_J_shownEntry_4 rfl (lv_at hl 1 rfl) ?_
  refine lv_bipush (v := 40) hx hb d_J_shownEntry_5 (by decide) ?_
  refine lv_icmp_ge (tgt := 22) hx hb d_J_shownEntry_7 rfl (fun h7 => ?_) (fun h7 => ?_)
  ·
    refine jv_const (ad := ad) (off := 118) hx hb d_J_shownEntry_22 ?_
    exact jx_aret (r := (-1)) hc hh hQ hlk hr (jv_or _ _ _) rfl ⟨by simp [jc_shownEntry, jc_held, jc_up1, h1, h7], rfl⟩ d_J_shownEntry_23
  refine lv_aload_n hx hb d_J_shownEntry_10 rfl (lv_at hl 0 rfl) ?_
  refine jg_J hc hh 1 (by decide) rfl wf_J_17 d_J_shownEntry_11 ?_
  refine lv_iload_n hx hb d_J_shownEntry_14 rfl (lv_at hl 1 rfl) ?_
  refine jax_N hc hh (js_in 40 (by decide) h1 h7) d_J_shownEntry_15 ?_
  refine jgx_N hc hh (js_in 40 (by decide) h1 h7) 1 (by decide) rfl wf_J_43 d_J_shownEntry_16 ?_
  refine lv_if_ne (tgt := 24) hx hb d_J_shownEntry_19 rfl (fun h19 => ?_) (fun h19 => ?_)
  ·
    refine lv_aload_n hx hb d_J_shownEntry_24 rfl (lv_at hl 0 rfl) ?_
    refine jg_J hc hh 1 (by decide) rfl wf_J_17 d_J_shownEntry_25 ?_
    refine lv_iload_n hx hb d_J_shownEntry_28 rfl (lv_at hl 1 rfl) ?_
    refine jax_N hc hh (js_in 40 (by decide) h1 h7) d_J_shownEntry_29 ?_
    refine jgx_N hc hh (js_in 40 (by decide) h1 h7) 3 (by decide) rfl wf_J_208 d_J_shownEntry_30 ?_
    refine jv_astore_n (i := 3) (lv' := [(3, jv ad 78 (u 7 (ix n))), (0, .ref (ad 0)), (1, .int n), (2, .int st)]) hx hb d_J_shownEntry_33 rfl hl (by decide) rfl (fun ls hl => ?_)
    refine lv_iconst (v := 1) hx hb d_J_shownEntry_34 (by decide) ?_
    refine lv_istore (i := 4) (lv' := [(4, .int 1), (3, jv ad 78 (u 7 (ix n))), (0, .ref (ad 0)), (1, .int n), (2, .int st)]) hx hb d_J_shownEntry_35 hl (by decide) (by simp [vc_int, vc_ref, vc_long, jv_cat]) (fun ls hl => ?_)
    refine lv_iload hx hb d_J_shownEntry_37 (lv_at hl 0 rfl) ?_
    refine lv_iconst (v := 3) hx hb d_J_shownEntry_39 (by decide) ?_
    refine lv_icmp_ge (tgt := 88) hx hb d_J_shownEntry_40 rfl (fun hq => absurd hq (by decide)) (fun h40 => ?_)
    refine jv_aload_n hx hb d_J_shownEntry_43 rfl (lv_at hl 1 rfl) ?_
    refine jv_ifnull (tgt := 88) hx hb d_J_shownEntry_44 rfl (fun h44 => ?_) (fun h44 => ?_)
    ·
      refine lv_aload_n hx hb d_J_shownEntry_88 rfl (lv_at hl 2 rfl) ?_
      refine lv_aload_n hx hb d_J_shownEntry_89 rfl (lv_at hl 2 rfl) ?_
      refine jg_J hc hh 1 (by decide) rfl wf_J_17 d_J_shownEntry_90 ?_
      refine lv_iload_n hx hb d_J_shownEntry_93 rfl (lv_at hl 3 rfl) ?_
      refine jax_N hc hh (js_in 40 (by decide) h1 h7) d_J_shownEntry_94 ?_
      refine lv_iload_n hx hb d_J_shownEntry_95 rfl (lv_at hl 4 rfl) ?_
      refine jx_callV [jv ad 38 n, .int st] [] hc hh (c_entryAt l D aK ad cA u n st hS (Or.inr (js_in 40 (by decide) h1 h7))) wy_J_212 ⟨by decide, rfl, rfl⟩ (by decide) rfl hl.1 rfl (by decide) ⟨Nat.zero_le _, Nat.zero_le _⟩ d_J_shownEntry_96 (fun r u9 H locs hp hh _ _ => ?_)
      rw [hp.2] at hh
      refine W.eq (g2 := F0 m 99 ls [jv ad 118 (jc_entryAt u n st)]) (by first | rfl | (rw [hp.1]; rfl)) ?_
      exact jx_aret (r := (jc_entryAt u n st)) hc hh hQ hlk hr (jv_or _ _ _) rfl ⟨by first | (simp [jc_shownEntry, jc_held, jc_up1, h1, h7, h19, h44]; done) | (simp [jc_shownEntry, jc_held, jc_up1, h1, h7, h19, eq_true h44]; done), rfl⟩ d_J_shownEntry_99
    refine lv_aload_n hx hb d_J_shownEntry_47 rfl (lv_at hl 2 rfl) ?_
    refine jv_aload_n hx hb d_J_shownEntry_48 rfl (lv_at hl 1 rfl) ?_
    refine jgx_D hc hh (jq_ne (jc_S7x hS (js_in 40 (by decide) h1 h7)) h44) 1 (by decide) rfl wf_J_211 d_J_shownEntry_49 ?_
    refine lv_iload_n hx hb d_J_shownEntry_52 rfl (lv_at hl 4 rfl) ?_
    refine jx_callV [jv ad 38 (u 9 (ix (u 7 (ix n)))), .int st] [] hc hh (c_entryAt l D aK ad cA u (u 9 (ix (u 7 (ix n)))) st hS (jc_S9x hS (jq_ne (jc_S7x hS (js_in 40 (by decide) h1 h7)) h44))) wy_J_212 ⟨by decide, rfl, rfl⟩ (by decide) rfl hl.1 rfl (by decide) ⟨Nat.zero_le _, Nat.zero_le _⟩ d_J_shownEntry_53 (fun r u9 H locs hp hh _ _ => ?_)
    rw [hp.2] at hh
    refine W.eq (g2 := F0 m 56 ls [jv ad 118 (jc_entryAt u (u 9 (ix (u 7 (ix n)))) st)]) (by first | rfl | (rw [hp.1]; rfl)) ?_
    refine jv_astore (i := 5) (lv' := [(5, jv ad 118 (jc_entryAt u (u 9 (ix (u 7 (ix n)))) st)), (4, .int 1), (3, jv ad 78 (u 7 (ix n))), (0, .ref (ad 0)), (1, .int n), (2, .int st)]) hx hb d_J_shownEntry_56 hl (by decide) rfl (fun ls hl => ?_)
    refine jv_aload hx hb d_J_shownEntry_58 (lv_at hl 0 rfl) ?_
    refine jv_ifnull (tgt := 72) hx hb d_J_shownEntry_60 rfl (fun h60 => ?_) (fun h60 => ?_)
    ·
      refine jv_const (ad := ad) (off := 118) hx hb d_J_shownEntry_72 ?_
      exact jx_aret (r := (-1)) hc hh hQ hlk hr (jv_or _ _ _) rfl ⟨by first | (simp [jc_shownEntry, jc_held, jc_up1, h1, h7, h19, h44, h60]; done) | (simp [jc_shownEntry, jc_held, jc_up1, h1, h7, h19, h44, eq_true h60]; done), rfl⟩ d_J_shownEntry_73
    refine jv_aload hx hb d_J_shownEntry_63 (lv_at hl 0 rfl) ?_
    refine jgx_E hc hh (jq_ne (jc_eA_jq 40 (Nat.le_refl _)) h60) 5 (by decide) rfl wf_J_120 d_J_shownEntry_65 ?_
    refine jv_aload_n hx hb d_J_shownEntry_68 rfl (lv_at hl 2 rfl) ?_
    refine jv_acmp_eq (tgt := 74) (n := 40) hx hb (by decide) (jd_inj hh (by decide)) (jc_S19x hS (jq_ne (jc_eA_jq 40 (Nat.le_refl _)) h60)) (jc_S7x hS (js_in 40 (by decide) h1 h7)) d_J_shownEntry_69 rfl (fun h69 => ?_) (fun h69 => ?_)
    ·
      refine jv_aload_n hx hb d_J_shownEntry_74 rfl (lv_at hl 2 rfl) ?_
      refine jgx_D hc hh (jq_ne (jc_S7x hS (js_in 40 (by decide) h1 h7)) h44) 1 (by decide) rfl wf_J_211 d_J_shownEntry_75 ?_
      refine jgx_N hc hh (jc_Sax hS (js_in 40 (by decide) h1 h7) h44) 3 (by decide) rfl wf_J_208 d_J_shownEntry_78 ?_
      refine jv_astore_n (i := 3) (lv' := [(3, jv ad 78 (u 7 (ix (u 9 (ix (u 7 (ix n))))))), (5, jv ad 118 (jc_entryAt u (u 9 (ix (u 7 (ix n)))) st)), (4, .int 1), (0, .ref (ad 0)), (1, .int n), (2, .int st)]) hx hb d_J_shownEntry_81 rfl hl (by decide) rfl (fun ls hl => ?_)
      refine lv_iinc (k := 2) (v := 2) (lv' := [(4, .int 2), (3, jv ad 78 (u 7 (ix (u 9 (ix (u 7 (ix n))))))), (5, jv ad 118 (jc_entryAt u (u 9 (ix (u 7 (ix n)))) st)), (0, .ref (ad 0)), (1, .int n), (2, .int st)]) hx hb d_J_shownEntry_82 hl rfl (by decide) (by decide) (by simp [vc_int, vc_ref, vc_long, jv_cat]) (fun ls hl => ?_)
      refine lv_goto (tgt := 37) hx hb d_J_shownEntry_85 rfl ?_
      refine lv_iload hx hb d_J_shownEntry_37 (lv_at hl 0 rfl) ?_
      refine lv_iconst (v := 3) hx hb d_J_shownEntry_39 (by decide) ?_
      refine lv_icmp_ge (tgt := 88) hx hb d_J_shownEntry_40 rfl (fun hq => absurd hq (by decide)) (fun h40 => ?_)
      refine jv_aload_n hx hb d_J_shownEntry_43 rfl (lv_at hl 1 rfl) ?_
      refine jv_ifnull (tgt := 88) hx hb d_J_shownEntry_44 rfl (fun h44b => ?_) (fun h44b => ?_)
      ·
        refine lv_aload_n hx hb d_J_shownEntry_88 rfl (lv_at hl 3 rfl) ?_
        refine lv_aload_n hx hb d_J_shownEntry_89 rfl (lv_at hl 3 rfl) ?_
        refine jg_J hc hh 1 (by decide) rfl wf_J_17 d_J_shownEntry_90 ?_
        refine lv_iload_n hx hb d_J_shownEntry_93 rfl (lv_at hl 4 rfl) ?_
        refine jax_N hc hh (js_in 40 (by decide) h1 h7) d_J_shownEntry_94 ?_
        refine lv_iload_n hx hb d_J_shownEntry_95 rfl (lv_at hl 5 rfl) ?_
        refine jx_callV [jv ad 38 n, .int st] [] hc hh (c_entryAt l D aK ad cA u n st hS (Or.inr (js_in 40 (by decide) h1 h7))) wy_J_212 ⟨by decide, rfl, rfl⟩ (by decide) rfl hl.1 rfl (by decide) ⟨Nat.zero_le _, Nat.zero_le _⟩ d_J_shownEntry_96 (fun r u9 H locs hp hh _ _ => ?_)
        rw [hp.2] at hh
        refine W.eq (g2 := F0 m 99 ls [jv ad 118 (jc_entryAt u n st)]) (by first | rfl | (rw [hp.1]; rfl)) ?_
        exact jx_aret (r := (jc_entryAt u n st)) hc hh hQ hlk hr (jv_or _ _ _) rfl ⟨by first | (simp [jc_shownEntry, jc_held, jc_up1, h1, h7, h19, h44, h60, h69, h44b]; done) | (simp [jc_shownEntry, jc_held, jc_up1, h1, h7, h19, h44, h60, eq_true h69, eq_true h44b]; done), rfl⟩ d_J_shownEntry_99
      refine lv_aload_n hx hb d_J_shownEntry_47 rfl (lv_at hl 3 rfl) ?_
      refine jv_aload_n hx hb d_J_shownEntry_48 rfl (lv_at hl 1 rfl) ?_
      refine jgx_D hc hh (jq_ne (jc_S7x hS (jc_Sax hS (js_in 40 (by decide) h1 h7) h44)) h44b) 1 (by decide) rfl wf_J_211 d_J_shownEntry_49 ?_
      refine lv_iload_n hx hb d_J_shownEntry_52 rfl (lv_at hl 5 rfl) ?_
      refine jx_callV [jv ad 38 (u 9 (ix (u 7 (ix (u 9 (ix (u 7 (ix n)))))))), .int st] [] hc hh (c_entryAt l D aK ad cA u (u 9 (ix (u 7 (ix (u 9 (ix (u 7 (ix n)))))))) st hS (jc_S9x hS (jq_ne (jc_S7x hS (jc_Sax hS (js_in 40 (by decide) h1 h7) h44)) h44b))) wy_J_212 ⟨by decide, rfl, rfl⟩ (by decide) rfl hl.1 rfl (by decide) ⟨Nat.zero_le _, Nat.zero_le _⟩ d_J_shownEntry_53 (fun r u9 H locs hp hh _ _ => ?_)
      rw [hp.2] at hh
      refine W.eq (g2 := F0 m 56 ls [jv ad 118 (jc_entryAt u (u 9 (ix (u 7 (ix (u 9 (ix (u 7 (ix n)))))))) st)]) (by first | rfl | (rw [hp.1]; rfl)) ?_
      refine jv_astore (i := 5) (lv' := [(5, jv ad 118 (jc_entryAt u (u 9 (ix (u 7 (ix (u 9 (ix (u 7 (ix n)))))))) st)), (4, .int 2), (3, jv ad 78 (u 7 (ix (u 9 (ix (u 7 (ix n))))))), (0, .ref (ad 0)), (1, .int n), (2, .int st)]) hx hb d_J_shownEntry_56 hl (by decide) rfl (fun ls hl => ?_)
      refine jv_aload hx hb d_J_shownEntry_58 (lv_at hl 0 rfl) ?_
      refine jv_ifnull (tgt := 72) hx hb d_J_shownEntry_60 rfl (fun h60b => ?_) (fun h60b => ?_)
      ·
        refine jv_const (ad := ad) (off := 118) hx hb d_J_shownEntry_72 ?_
        exact jx_aret (r := (-1)) hc hh hQ hlk hr (jv_or _ _ _) rfl ⟨by first | (simp [jc_shownEntry, jc_held, jc_up1, h1, h7, h19, h44, h60, h69, h44b, h60b]; done) | (simp [jc_shownEntry, jc_held, jc_up1, h1, h7, h19, h44, h60, eq_true h69, h44b, eq_true h60b]; done), rfl⟩ d_J_shownEntry_73
      refine jv_aload hx hb d_J_shownEntry_63 (lv_at hl 0 rfl) ?_
      refine jgx_E hc hh (jq_ne (jc_eA_jq 40 (Nat.le_refl _)) h60b) 5 (by decide) rfl wf_J_120 d_J_shownEntry_65 ?_
      refine jv_aload_n hx hb d_J_shownEntry_68 rfl (lv_at hl 2 rfl) ?_
      refine jv_acmp_eq (tgt := 74) (n := 40) hx hb (by decide) (jd_inj hh (by decide)) (jc_S19x hS (jq_ne (jc_eA_jq 40 (Nat.le_refl _)) h60b)) (jc_S7x hS (jc_Sax hS (js_in 40 (by decide) h1 h7) h44)) d_J_shownEntry_69 rfl (fun h69b => ?_) (fun h69b => ?_)
      ·
        refine jv_aload_n hx hb d_J_shownEntry_74 rfl (lv_at hl 2 rfl) ?_
        refine jgx_D hc hh (jq_ne (jc_S7x hS (jc_Sax hS (js_in 40 (by decide) h1 h7) h44)) h44b) 1 (by decide) rfl wf_J_211 d_J_shownEntry_75 ?_
        refine jgx_N hc hh (jc_Sax hS (jc_Sax hS (js_in 40 (by decide) h1 h7) h44) h44b) 3 (by decide) rfl wf_J_208 d_J_shownEntry_78 ?_
        refine jv_astore_n (i := 3) (lv' := [(3, jv ad 78 (u 7 (ix (u 9 (ix (u 7 (ix (u 9 (ix (u 7 (ix n))))))))))), (5, jv ad 118 (jc_entryAt u (u 9 (ix (u 7 (ix (u 9 (ix (u 7 (ix n)))))))) st)), (4, .int 2), (0, .ref (ad 0)), (1, .int n), (2, .int st)]) hx hb d_J_shownEntry_81 rfl hl (by decide) rfl (fun ls hl => ?_)
        refine lv_iinc (k := 2) (v := 3) (lv' := [(4, .int 3), (3, jv ad 78 (u 7 (ix (u 9 (ix (u 7 (ix (u 9 (ix (u 7 (ix n))))))))))), (5, jv ad 118 (jc_entryAt u (u 9 (ix (u 7 (ix (u 9 (ix (u 7 (ix n)))))))) st)), (0, .ref (ad 0)), (1, .int n), (2, .int st)]) hx hb d_J_shownEntry_82 hl rfl (by decide) (by decide) (by simp [vc_int, vc_ref, vc_long, jv_cat]) (fun ls hl => ?_)
        refine lv_goto (tgt := 37) hx hb d_J_shownEntry_85 rfl ?_
        refine lv_iload hx hb d_J_shownEntry_37 (lv_at hl 0 rfl) ?_
        refine lv_iconst (v := 3) hx hb d_J_shownEntry_39 (by decide) ?_
        refine lv_icmp_ge (tgt := 88) hx hb d_J_shownEntry_40 rfl (fun h40 => ?_) (fun hq => absurd (by decide) hq)
        refine lv_aload_n hx hb d_J_shownEntry_88 rfl (lv_at hl 3 rfl) ?_
        refine lv_aload_n hx hb d_J_shownEntry_89 rfl (lv_at hl 3 rfl) ?_
        refine jg_J hc hh 1 (by decide) rfl wf_J_17 d_J_shownEntry_90 ?_
        refine lv_iload_n hx hb d_J_shownEntry_93 rfl (lv_at hl 4 rfl) ?_
        refine jax_N hc hh (js_in 40 (by decide) h1 h7) d_J_shownEntry_94 ?_
        refine lv_iload_n hx hb d_J_shownEntry_95 rfl (lv_at hl 5 rfl) ?_
        refine jx_callV [jv ad 38 n, .int st] [] hc hh (c_entryAt l D aK ad cA u n st hS (Or.inr (js_in 40 (by decide) h1 h7))) wy_J_212 ⟨by decide, rfl, rfl⟩ (by decide) rfl hl.1 rfl (by decide) ⟨Nat.zero_le _, Nat.zero_le _⟩ d_J_shownEntry_96 (fun r u9 H locs hp hh _ _ => ?_)
        rw [hp.2] at hh
        refine W.eq (g2 := F0 m 99 ls [jv ad 118 (jc_entryAt u n st)]) (by first | rfl | (rw [hp.1]; rfl)) ?_
        exact jx_aret (r := (jc_entryAt u n st)) hc hh hQ hlk hr (jv_or _ _ _) rfl ⟨by first | (simp [jc_shownEntry, jc_held, jc_up1, h1, h7, h19, h44, h60, h69, h44b, h60b, h69b]; done) | (simp [jc_shownEntry, jc_held, jc_up1, h1, h7, h19, h44, h60, eq_true h69, h44b, h60b, eq_true h69b]; done), rfl⟩ d_J_shownEntry_99
      refine jv_const (ad := ad) (off := 118) hx hb d_J_shownEntry_72 ?_
      exact jx_aret (r := (-1)) hc hh hQ hlk hr (jv_or _ _ _) rfl ⟨by first | (simp [jc_shownEntry, jc_held, jc_up1, h1, h7, h19, h44, h60, h69, h44b, h60b, h69b]; done) | (simp [jc_shownEntry, jc_held, jc_up1, h1, h7, h19, h44, h60, eq_true h69, h44b, h60b, h69b]; done), rfl⟩ d_J_shownEntry_73
    refine jv_const (ad := ad) (off := 118) hx hb d_J_shownEntry_72 ?_
    exact jx_aret (r := (-1)) hc hh hQ hlk hr (jv_or _ _ _) rfl ⟨by simp [jc_shownEntry, jc_held, jc_up1, h1, h7, h19, h44, h60, h69], rfl⟩ d_J_shownEntry_73
  refine jv_const (ad := ad) (off := 118) hx hb d_J_shownEntry_22 ?_
  exact jx_aret (r := (-1)) hc hh hQ hlk hr (jv_or _ _ _) rfl ⟨by first | (simp [jc_shownEntry, jc_held, jc_up1, h1, h7, h19]; done) | (simp [jc_shownEntry, jc_held, jc_up1, h1, h7, eq_true h19]; done), rfl⟩ d_J_shownEntry_23
set_option maxHeartbeats 4000000 in
set_option maxRecDepth 100000 in
theorem c_shownNavigables (l : Launch) (D : va_G) (aK ad : Nat → Nat) (cA : Nat → ClassId) (u : js_S) (hS : jc_Sh u) : jx_M l y_J_shownNavigables b_J_shownNavigables 3 (some .int) (jr 3) D (jc_tys cA) aK 158 ad (jc_cell ad aK cA) [.ref (ad 0)] u (fun r : Int32 => some (.int r)) (fun r u' => r = nI (jc_cntS u (u 21 0) 40) ∧ u' = u) := by
  refine jx_enter "JointHistory" (by decide) rfl (by simp [lg_sl, vc_int, vc_ref, vc_long, jv_cat]) ?_
  intro p e s m args below meth c A Q H locs ls hQ hc hh hr hlk hl
  have hx := hc.1
  have hb := hc.2.1
  have hl : lv_has ls 3 [(0, .ref (ad 0))] := by simpa [lv_args, vc_int, vc_ref, vc_long, jv_cat] using hl
  refine lv_iconst (v := 0) hx hb d_J_shownNavigables_0 (by decide) ?_
  refine lv_istore_n (i := 1) (lv' := [(1, .int 0), (0, .ref (ad 0))]) hx hb d_J_shownNavigables_1 rfl hl (by decide) rfl (fun ls hl => ?_)
  refine lv_iconst (v := 0) hx hb d_J_shownNavigables_2 (by decide) ?_
  refine lv_istore_n (i := 2) (lv' := [(2, .int 0), (1, .int 0), (0, .ref (ad 0))]) hx hb d_J_shownNavigables_3 rfl hl (by decide) rfl (fun ls hl => ?_)
  have L4 : ∀ (n : Nat) (i : Nat) (H : Heap) (locs : List Loc) (ls : Array Slot), i + n = 40 → jx_H D 158 ad (jc_cell ad aK cA u) A s.heap H locs → lv_has ls 3 [(0, .ref (ad 0)), (1, .int (nI (jc_cntS u (u 21 0) i))), (2, .int (nI i))] → W p l e (jr 3) s m args below meth c H locs 0 0 Q (F0 m 4 ls []) := by
    intro n
    induction n with
    | zero =>
      intro i H locs ls hm hh hl
      have hi : i = 40 := by omega
      refine lv_iload_n hx hb d_J_shownNavigables_4 rfl (lv_at hl 2 rfl) ?_
      refine lv_bipush (v := 40) hx hb d_J_shownNavigables_5 (by decide) ?_
      refine lv_icmp_ge (tgt := 31) hx hb d_J_shownNavigables_7 rfl (fun h7 => ?_) (fun hq => absurd (nI_le (show 40 ≤ i by omega) (show i < 2 ^ 31 by omega)) hq)
      refine lv_iload_n hx hb d_J_shownNavigables_31 rfl (lv_at hl 1 rfl) ?_
      exact jx_iret (r := nI (jc_cntS u (u 21 0) i)) hc hh hQ hlk hr rfl rfl ⟨by first | (rw [hi]; done) | (rw [hi]; rfl) | (rw [hi]; simp []; done), rfl⟩ d_J_shownNavigables_32
    | succ n ih =>
      intro i H locs ls hm hh hl
      have hi : i < 40 := by omega
      refine lv_iload_n hx hb d_J_shownNavigables_4 rfl (lv_at hl 2 rfl) ?_
      refine lv_bipush (v := 40) hx hb d_J_shownNavigables_5 (by decide) ?_
      refine lv_icmp_ge (tgt := 31) hx hb d_J_shownNavigables_7 rfl (fun hq => absurd hq (nI_ge hi (by decide))) (fun h7 => ?_)
      refine lv_aload_n hx hb d_J_shownNavigables_10 rfl (lv_at hl 0 rfl) ?_
      refine lv_iload_n hx hb d_J_shownNavigables_11 rfl (lv_at hl 2 rfl) ?_
      refine lv_aload_n hx hb d_J_shownNavigables_12 rfl (lv_at hl 0 rfl) ?_
      refine jg_J hc hh 5 (by decide) rfl wf_J_96 d_J_shownNavigables_13 ?_
      refine jx_callV [.int (nI i), .int (u 21 0)] [] hc hh (c_shownEntry l D aK ad cA u (nI i) (u 21 0) hS) wy_J_99 ⟨by decide, rfl, rfl⟩ (by decide) rfl hl.1 rfl (by decide) ⟨Nat.zero_le _, Nat.zero_le _⟩ d_J_shownNavigables_16 (fun r u9 H locs hp hh _ _ => ?_)
      rw [hp.2] at hh
      refine W.eq (g2 := F0 m 19 ls [jv ad 118 (jc_shownEntry u (nI i) (u 21 0))]) (by first | rfl | (rw [hp.1]; rfl)) ?_
      refine jv_ifnull (tgt := 25) hx hb d_J_shownNavigables_19 rfl (fun h19 => ?_) (fun h19 => ?_)
      ·
        refine lv_iinc (k := 2) (v := nI (i + 1)) (lv' := [(2, .int (nI (i + 1))), (0, .ref (ad 0)), (1, .int (nI (jc_cntS u (u 21 0) i)))]) hx hb d_J_shownNavigables_25 hl rfl (nI_1 i) (by decide) rfl (fun ls hl => ?_)
        refine lv_goto (tgt := 4) hx hb d_J_shownNavigables_28 rfl ?_
        have e1 : nI (jc_cntS u (u 21 0) (i + 1)) = nI (jc_cntS u (u 21 0) i) := by first | (simp [nI_0, jc_cntS, h19]; done) | (simp [nI_0, jc_cntS, eq_true h19]; done)
        refine ih (i + 1) _ _ _ (by omega) ?_ ?_
        ·
          try rw [e1]
          exact hh
        try rw [e1]
        exact lv_sub hl [1, 2, 0] rfl
      refine lv_iinc (k := 1) (v := nI ((jc_cntS u (u 21 0) i) + 1)) (lv' := [(1, .int (nI ((jc_cntS u (u 21 0) i) + 1))), (0, .ref (ad 0)), (2, .int (nI i))]) hx hb d_J_shownNavigables_22 hl rfl (nI_1 (jc_cntS u (u 21 0) i)) (by decide) rfl (fun ls hl => ?_)
      refine lv_iinc (k := 2) (v := nI (i + 1)) (lv' := [(2, .int (nI (i + 1))), (1, .int (nI ((jc_cntS u (u 21 0) i) + 1))), (0, .ref (ad 0))]) hx hb d_J_shownNavigables_25 hl rfl (nI_1 i) (by decide) rfl (fun ls hl => ?_)
      refine lv_goto (tgt := 4) hx hb d_J_shownNavigables_28 rfl ?_
      have e2 : nI (jc_cntS u (u 21 0) (i + 1)) = nI ((jc_cntS u (u 21 0) i) + 1) := by simp [nI_0, jc_cntS, h19]
      refine ih (i + 1) _ _ _ (by omega) ?_ ?_
      ·
        try rw [e2]
        exact hh
      try rw [e2]
      exact lv_sub hl [2, 1, 0] rfl
  have e3 : nI (jc_cntS u (u 21 0) 0) = 0 := by simp [nI_0, jc_cntS]
  have e4 : nI 0 = 0 := rfl
  refine L4 40 0 _ _ _ (by omega) ?_ ?_
  ·
    try rw [e3]
    try rw [e4]
    exact hh
  try rw [e3]
  try rw [e4]
  exact lv_sub hl [2, 1, 0] rfl
set_option maxHeartbeats 4000000 in
set_option maxRecDepth 100000 in
theorem c_isDetour (l : Launch) (D : va_G) (aK ad : Nat → Nat) (cA : Nat → ClassId) (u : js_S) (x : Int32) (hS : jc_Sh u) (hu : jq 256 x) : jx_M l y_J_isDetour b_J_isDetour 2 (some .boolean) (jr 2) D (jc_tys cA) aK 158 ad (jc_cell ad aK cA) [.ref (ad 0), .int x] u (fun r : Int32 => some (.int r)) (fun r u' => r = jc_isDet u x ∧ u' = u) := by
  refine jx_enter "JointHistory" (by decide) rfl (by simp [lg_sl, vc_int, vc_ref, vc_long, jv_cat]) ?_
  intro p e s m args below meth c A Q H locs ls hQ hc hh hr hlk hl
  have hx := hc.1
  have hb := hc.2.1
  have hl : lv_has ls 2 [(0, .ref (ad 0)), (1, .int x)] := by simpa [lv_args, vc_int, vc_ref, vc_long, jv_cat] using hl
  refine lv_iload_n hx hb d_J_isDetour_0 rfl (lv_at hl 1 rfl) ?_
  refine lv_iconst (v := -1) hx hb d_J_isDetour_1 (by decide) ?_
  refine lv_icmp_eq (tgt := 27) hx hb d_J_isDetour_2 rfl (fun h2 => ?_) (fun h2 => ?_)
  ·
    refine lv_iconst (v := 0) hx hb d_J_isDetour_27 (by decide) ?_
    exact jx_iret (r := 0) hc hh hQ hlk hr (by decide) rfl ⟨by first | (simp [jc_isDet, h2]; done) | (simp [jc_isDet, eq_true h2]; done), rfl⟩ d_J_isDetour_28
  refine lv_aload_n hx hb d_J_isDetour_5 rfl (lv_at hl 0 rfl) ?_
  refine jg_J hc hh 0 (by decide) rfl wf_J_11 d_J_isDetour_6 ?_
  refine lv_iload_n hx hb d_J_isDetour_9 rfl (lv_at hl 1 rfl) ?_
  refine jx_callS [.int x] [.ref (ad 1)] hc hh (c_pageOf l D aK ad cA u x) wy_J_202 (by decide) rfl hl.1 rfl (by simp [vc_int, vc_ref, vc_long, jv_cat]) ⟨Nat.zero_le _, Nat.zero_le _⟩ d_J_isDetour_10 (fun r u9 H locs hp hh _ _ => ?_)
  rw [hp.2] at hh
  refine W.eq (g2 := F0 m 13 ls [.int (x / 8), .ref (ad 1)]) (by first | rfl | (rw [hp.1]; rfl)) ?_
  refine jax_A hc hh (js_pg hu h2) d_J_isDetour_13 ?_
  refine jgx_A hc hh (js_pg hu h2) 0 (by decide) rfl wf_J_68 d_J_isDetour_14 ?_
  refine jk_get (j := 1) hc hh (by decide) wf_J_84 d_J_isDetour_17 ?_
  refine jv_acmp_ne (tgt := 27) (n := 3) hx hb (by decide) (jk_inj hc) (jc_Skx hS (js_pg hu h2)) (jq_nI (by decide)) d_J_isDetour_20 rfl (fun h20 => ?_) (fun h20 => ?_)
  ·
    refine lv_iconst (v := 0) hx hb d_J_isDetour_27 (by decide) ?_
    exact jx_iret (r := 0) hc hh hQ hlk hr (by decide) rfl ⟨by simp [jc_isDet, h2, h20], rfl⟩ d_J_isDetour_28
  refine lv_iconst (v := 1) hx hb d_J_isDetour_23 (by decide) ?_
  refine lv_goto (tgt := 28) hx hb d_J_isDetour_24 rfl ?_
  exact jx_iret (r := 1) hc hh hQ hlk hr (by decide) rfl ⟨by first | (simp [jc_isDet, h2, h20]; done) | (simp [jc_isDet, h2, eq_true h20]; done), rfl⟩ d_J_isDetour_28
set_option maxHeartbeats 4000000 in
set_option maxRecDepth 100000 in
theorem c_followDetours (l : Launch) (D : va_G) (aK ad : Nat → Nat) (cA : Nat → ClassId) (u : js_S) (x : Int32) (hS : jc_Sh u) (hu : jq 256 x) : jx_M l y_J_followDetours b_J_followDetours 5 (some .int) (jr 3) D (jc_tys cA) aK 158 ad (jc_cell ad aK cA) [.ref (ad 0), .int x] u (fun r : Int32 => some (.int r)) (fun r u' => r = jc_fd u 4 x ∧ u' = u) := by
  refine jx_enter "JointHistory" (by decide) rfl (by simp [lg_sl, vc_int, vc_ref, vc_long, jv_cat]) ?_
  intro p e s m args below meth c A Q H locs ls hQ hc hh hr hlk hl
  have hx := hc.1
  have hb := hc.2.1
  have hl : lv_has ls 5 [(0, .ref (ad 0)), (1, .int x)] := by simpa [lv_args, vc_int, vc_ref, vc_long, jv_cat] using hl
  refine lv_iload_n hx hb d_J_followDetours_0 rfl (lv_at hl 1 rfl) ?_
  refine lv_istore_n (i := 2) (lv' := [(2, .int x), (0, .ref (ad 0)), (1, .int x)]) hx hb d_J_followDetours_1 rfl hl (by decide) rfl (fun ls hl => ?_)
  refine lv_iconst (v := 0) hx hb d_J_followDetours_2 (by decide) ?_
  refine lv_istore_n (i := 3) (lv' := [(3, .int 0), (2, .int x), (0, .ref (ad 0)), (1, .int x)]) hx hb d_J_followDetours_3 rfl hl (by decide) rfl (fun ls hl => ?_)
  have L4 : ∀ (n : Nat) (i : Nat) (led : Int32) (H : Heap) (locs : List Loc) (ls : Array Slot), i + n = 4 → (jq 256 led) → (jc_fd u n led = jc_fd u 4 x) → jx_H D 158 ad (jc_cell ad aK cA u) A s.heap H locs → lv_has ls 5 [(0, .ref (ad 0)), (1, .int x), (2, .int led), (3, .int (nI i))] → W p l e (jr 3) s m args below meth c H locs 0 0 Q (F0 m 4 ls []) := by
    intro n
    induction n with
    | zero =>
      intro i led H locs ls hm hq hf hh hl
      refine lv_iload_n hx hb d_J_followDetours_4 rfl (lv_at hl 3 rfl) ?_
      refine lv_iconst (v := 4) hx hb d_J_followDetours_5 (by decide) ?_
      refine lv_icmp_ge (tgt := 58) hx hb d_J_followDetours_6 rfl (fun h6 => ?_) (fun hq => absurd (nI_le (show 4 ≤ i by omega) (show i < 2 ^ 31 by omega)) hq)
      refine lv_iload_n hx hb d_J_followDetours_58 rfl (lv_at hl 2 rfl) ?_
      exact jx_iret (r := led) hc hh hQ hlk hr rfl rfl ⟨by rw [← hf]; first | rfl | simp [jc_fd, h14], rfl⟩ d_J_followDetours_59
    | succ n ih =>
      intro i led H locs ls hm hq hf hh hl
      have hi9 : i < 4 := by omega
      refine lv_iload_n hx hb d_J_followDetours_4 rfl (lv_at hl 3 rfl) ?_
      refine lv_iconst (v := 4) hx hb d_J_followDetours_5 (by decide) ?_
      refine lv_icmp_ge (tgt := 58) hx hb d_J_followDetours_6 rfl (fun hq => absurd hq (nI_ge hi9 (by decide))) (fun h6 => ?_)
      refine lv_aload_n hx hb d_J_followDetours_9 rfl (lv_at hl 0 rfl) ?_
      refine lv_iload_n hx hb d_J_followDetours_10 rfl (lv_at hl 2 rfl) ?_
      refine jx_callV [.int led] [] hc hh (c_isDetour l D aK ad cA u led hS hq) wy_J_216 ⟨by decide, rfl, rfl⟩ (by decide) rfl hl.1 rfl (by decide) ⟨Nat.zero_le _, Nat.zero_le _⟩ d_J_followDetours_11 (fun r u9 H locs hp hh _ _ => ?_)
      rw [hp.2] at hh
      refine W.eq (g2 := F0 m 14 ls [.int (jc_isDet u led)]) (by first | rfl | (rw [hp.1]; rfl)) ?_
      refine lv_if_eq (tgt := 58) hx hb d_J_followDetours_14 rfl (fun h14 => ?_) (fun h14 => ?_)
      ·
        refine lv_iload_n hx hb d_J_followDetours_58 rfl (lv_at hl 2 rfl) ?_
        exact jx_iret (r := led) hc hh hQ hlk hr rfl rfl ⟨by rw [← hf]; first | rfl | simp [jc_fd, h14], rfl⟩ d_J_followDetours_59
      refine lv_aload_n hx hb d_J_followDetours_17 rfl (lv_at hl 0 rfl) ?_
      refine jg_J hc hh 0 (by decide) rfl wf_J_11 d_J_followDetours_18 ?_
      refine lv_iload_n hx hb d_J_followDetours_21 rfl (lv_at hl 2 rfl) ?_
      refine jx_callS [.int led] [.ref (ad 1)] hc hh (c_pageOf l D aK ad cA u led) wy_J_202 (by decide) rfl hl.1 rfl (by simp [vc_int, vc_ref, vc_long, jv_cat]) ⟨Nat.zero_le _, Nat.zero_le _⟩ d_J_followDetours_22 (fun r u9 H locs hp hh _ _ => ?_)
      rw [hp.2] at hh
      refine W.eq (g2 := F0 m 25 ls [.int (led / 8), .ref (ad 1)]) (by first | rfl | (rw [hp.1]; rfl)) ?_
      refine jax_A hc hh (js_pg hq (jc_isDet_ne h14)) d_J_followDetours_25 ?_
      refine jgx_A hc hh (js_pg hq (jc_isDet_ne h14)) 4 (by decide) rfl wf_J_87 d_J_followDetours_26 ?_
      refine lv_istore (i := 4) (lv' := [(4, .int (u 4 (ix (led / 8)))), (0, .ref (ad 0)), (1, .int x), (2, .int led), (3, .int (nI i))]) hx hb d_J_followDetours_29 hl (by decide) rfl (fun ls hl => ?_)
      refine lv_iload hx hb d_J_followDetours_31 (lv_at hl 0 rfl) ?_
      refine jx_callS [.int (u 4 (ix (led / 8)))] [] hc hh (c_fragmentOf l D aK ad cA u (u 4 (ix (led / 8)))) wy_J_199 (by decide) rfl hl.1 rfl (by decide) ⟨Nat.zero_le _, Nat.zero_le _⟩ d_J_followDetours_33 (fun r u9 H locs hp hh _ _ => ?_)
      rw [hp.2] at hh
      refine W.eq (g2 := F0 m 36 ls [.int (jc_frag (u 4 (ix (led / 8))))]) (by first | rfl | (rw [hp.1]; rfl)) ?_
      refine lv_if_ne (tgt := 49) hx hb d_J_followDetours_36 rfl (fun h36 => ?_) (fun h36 => ?_)
      ·
        refine lv_iload hx hb d_J_followDetours_49 (lv_at hl 0 rfl) ?_
        refine lv_istore_n (i := 2) (lv' := [(2, .int (u 4 (ix (led / 8)))), (4, .int (u 4 (ix (led / 8)))), (0, .ref (ad 0)), (1, .int x), (3, .int (nI i))]) hx hb d_J_followDetours_51 rfl hl (by decide) rfl (fun ls hl => ?_)
        refine lv_iinc (k := 4) (v := nI (i + 1)) (lv' := [(3, .int (nI (i + 1))), (2, .int (u 4 (ix (led / 8)))), (4, .int (u 4 (ix (led / 8)))), (0, .ref (ad 0)), (1, .int x)]) hx hb d_J_followDetours_52 hl rfl (nI_1 i) (by decide) rfl (fun ls hl => ?_)
        refine lv_goto (tgt := 4) hx hb d_J_followDetours_55 rfl ?_
        refine ih (i + 1) (u 4 (ix (led / 8))) _ _ _ (by omega) (by have q9 := jc_led hS hq h14; simpa [h36] using q9) (by rw [← hf]; simp [jc_fd, h14, h36]) ?_ ?_
        ·
          exact hh
        exact lv_sub hl [3, 4, 1, 0] rfl
      refine lv_iload hx hb d_J_followDetours_39 (lv_at hl 0 rfl) ?_
      refine lv_iload_n hx hb d_J_followDetours_41 rfl (lv_at hl 3 rfl) ?_
      refine jx_callS [.int led] [.int (u 4 (ix (led / 8)))] hc hh (c_fragmentOf l D aK ad cA u led) wy_J_199 (by decide) rfl hl.1 rfl (by simp [vc_int, vc_ref, vc_long, jv_cat]) ⟨Nat.zero_le _, Nat.zero_le _⟩ d_J_followDetours_42 (fun r u9 H locs hp hh _ _ => ?_)
      rw [hp.2] at hh
      refine W.eq (g2 := F0 m 45 ls [.int (jc_frag led), .int (u 4 (ix (led / 8)))]) (by first | rfl | (rw [hp.1]; rfl)) ?_
      refine lv_iadd hx hb d_J_followDetours_45 ?_
      refine lv_goto (tgt := 51) hx hb d_J_followDetours_46 rfl ?_
      refine lv_istore_n (i := 2) (lv' := [(2, .int ((u 4 (ix (led / 8))) + (jc_frag led))), (4, .int (u 4 (ix (led / 8)))), (0, .ref (ad 0)), (1, .int x), (3, .int (nI i))]) hx hb d_J_followDetours_51 rfl hl (by decide) rfl (fun ls hl => ?_)
      refine lv_iinc (k := 4) (v := nI (i + 1)) (lv' := [(3, .int (nI (i + 1))), (2, .int ((u 4 (ix (led / 8))) + (jc_frag led))), (4, .int (u 4 (ix (led / 8)))), (0, .ref (ad 0)), (1, .int x)]) hx hb d_J_followDetours_52 hl rfl (nI_1 i) (by decide) rfl (fun ls hl => ?_)
      refine lv_goto (tgt := 4) hx hb d_J_followDetours_55 rfl ?_
      refine ih (i + 1) ((u 4 (ix (led / 8))) + (jc_frag led)) _ _ _ (by omega) (by have q9 := jc_led hS hq h14; simpa [h36] using q9) (by rw [← hf]; simp [jc_fd, h14, h36]) ?_ ?_
      ·
        exact hh
      exact lv_sub hl [3, 4, 1, 0] rfl
  have e1 : nI 0 = 0 := rfl
  refine L4 4 0 x _ _ _ (by omega) hu rfl ?_ ?_
  ·
    try rw [e1]
    exact hh
  try rw [e1]
  exact lv_sub hl [2, 3, 1, 0] rfl
end
section
/-! What shownEntry answers: a row that is there, of that navigable; it stays one when later entries are dropped. -/
theorem jc_se_eA {u : js_S} {n st : Int32} (h : ¬ jc_shownEntry u n st = -1) : jc_shownEntry u n st = jc_entryAt u n st := by
  unfold jc_shownEntry at h ⊢
  split
  · rfl
  · rename_i q
    rw [if_neg q] at h
    exact absurd rfl h
theorem jc_se_row {u : js_S} {n st : Int32} (h : ¬ jc_shownEntry u n st = -1) : ∃ i, i < 40 ∧ jc_shownEntry u n st = nI i ∧ ¬ u 14 i = 0 ∧ u 15 i = n := by
  have e := jc_se_eA h
  rw [e]
  rw [e] at h
  exact (jc_eA_ok 40 (Nat.le_refl _)).resolve_left h
theorem jc_se_ex {u : js_S} (_ : jc_Sh u) {n st : Int32} (h : ¬ jc_shownEntry u n st = -1) : ∃ i, i < 40 ∧ jc_shownEntry u n st = nI i := by
  obtain ⟨i, h1, h2, -⟩ := jc_se_row h
  exact ⟨i, h1, h2⟩
theorem jc_se_doc {u : js_S} (hS : jc_Sh u) {n st : Int32} (h : ¬ jc_shownEntry u n st = -1) : ∃ i, i < 40 ∧ u 19 (ix (jc_shownEntry u n st)) = nI i := by
  obtain ⟨i, h1, h2, h3, -⟩ := jc_se_row h
  rw [h2, ix_nI (by omega)]
  exact jc_Sd hS h1 h3
theorem jc_se_own {u : js_S} (hS : jc_Sh u) {n st : Int32} (h : ¬ jc_shownEntry u n st = -1) : ∃ i, i < 40 ∧ u 15 (ix (jc_shownEntry u n st)) = nI i := by
  obtain ⟨i, h1, h2, h3, -⟩ := jc_se_row h
  rw [h2, ix_nI (by omega)]
  exact jc_So hS h1 h3
theorem jc_page {x : Int32} (h : ¬ jc_isPage x = 0) : ∃ i, i < 32 ∧ x = nI i := by
  unfold jc_isPage at h
  split at h
  · exact absurd rfl h
  · split at h
    · exact absurd rfl h
    · rename_i h1 h2
      exact js_in 32 (by decide) h1 h2
theorem jc_ub {x : Int32} (h : ¬ jc_isUB x = 0) : jq 256 x := by
  unfold jc_isUB at h
  split at h
  · rename_i e
    exact Or.inl e
  · split at h
    · exact absurd rfl h
    · rename_i h1 h2
      unfold jc_isUrl at h2
      split at h2
      · exact absurd rfl h2
      · split at h2
        · exact absurd rfl h2
        · rename_i h3 h4
          exact Or.inr (js_in 256 (by decide) h3 h4)
theorem jc_Sh_out {u : js_S} (h : jc_Sh u) {n : Int32} (hn : ∃ i, i < 40 ∧ n = nI i) : jc_Sh (jc_takeOut u n) := by
  simp only [jc_takeOut]
  split
  · exact h
  · rename_i ha
    have hx := jq_ne (jc_S7x h hn) ha
    split
    · exact jc_Sh_5 (jc_Sh_13 (jc_Sh_12 h (jc_S13x h hx)) jq_m1)
    · exact jc_Sh_5 (jc_Sh_13 h jq_m1)
/-- fields that dropping leaves as they are -/
theorem jc_kd1_f {u : js_S} {f : Nat} (hf : ¬ f = 8) (i : Nat) : ∀ k, jc_kd1 u k f i = u f i
  | 0 => rfl
  | k + 1 => by
    unfold jc_kd1
    rw [js_up_f hf]
    exact jc_kd1_f hf i k
theorem jc_kd2_f {u : js_S} {f : Nat} (hf : ¬ f = 8) (i : Nat) : ∀ k, jc_kd2 u k f i = u f i
  | 0 => rfl
  | k + 1 => by
    unfold jc_kd2
    split
    · rw [js_up_f hf]
      exact jc_kd2_f hf i k
    · exact jc_kd2_f hf i k
theorem jc_df_f {u : js_S} {f : Nat} (hf : ¬ f = 5) (i : Nat) : ∀ k, jc_df u k f i = u f i
  | 0 => rfl
  | k + 1 => by
    unfold jc_df
    split
    · rw [js_up_f hf]
      exact jc_df_f hf i k
    · exact jc_df_f hf i k
theorem jc_de_f {u : js_S} {f : Nat} (hf : ¬ f = 14) (i : Nat) : ∀ k, jc_de u k f i = u f i
  | 0 => rfl
  | k + 1 => by
    unfold jc_de
    split
    · rw [js_up_f hf]
      exact jc_de_f hf i k
    · exact jc_de_f hf i k
theorem jc_dl_f {u : js_S} {f : Nat} (hf : ¬ f = 14) (i : Nat) : ∀ k, jc_dl u k f i = u f i
  | 0 => rfl
  | k + 1 => by
    unfold jc_dl
    split
    · rw [js_up_f hf]
      exact jc_dl_f hf i k
    · exact jc_dl_f hf i k
theorem jc_round_f {u : js_S} {f : Nat} (h5 : ¬ f = 5) (h8 : ¬ f = 8) (h14 : ¬ f = 14) (i : Nat) : jc_round u f i = u f i := by
  unfold jc_round jc_keepDocs
  rw [jc_de_f h14, jc_df_f h5, jc_kd2_f h8, jc_kd1_f h8]
theorem jc_gone_f {u : js_S} {f : Nat} (h5 : ¬ f = 5) (h8 : ¬ f = 8) (h14 : ¬ f = 14) (i : Nat) : jc_gone u f i = u f i := by
  unfold jc_gone
  rw [jc_round_f h5 h8 h14, jc_round_f h5 h8 h14, jc_round_f h5 h8 h14]
theorem jc_later_f {u : js_S} {f : Nat} (h5 : ¬ f = 5) (h8 : ¬ f = 8) (h14 : ¬ f = 14) (i : Nat) : jc_dropLater u f i = u f i := by
  unfold jc_dropLater
  rw [jc_gone_f h5 h8 h14, jc_dl_f h14]
theorem jc_se_dl {u : js_S} (hS : jc_Sh u) {n st : Int32} (h : ¬ jc_shownEntry u n st = -1) : ∃ i, i < 40 ∧ jc_dropLater u 19 (ix (jc_shownEntry u n st)) = nI i := by
  rw [jc_later_f (by decide) (by decide) (by decide)]
  exact jc_se_doc hS h
end
section
set_option maxHeartbeats 4000000 in
set_option maxRecDepth 100000 in
theorem c_url (l : Launch) (D : va_G) (aK ad : Nat → Nat) (cA : Nat → ClassId) (u : js_S) (n : Int32) (hS : jc_Sh u) : jx_M l y_J_url b_J_url 3 (some .int) (jr 3) D (jc_tys cA) aK 158 ad (jc_cell ad aK cA) [.ref (ad 0), .int n] u (fun r : Int32 => some (.int r)) (fun r u' => r = jc_url u n ∧ u' = u) := by
  refine jx_enter "JointHistory" (by decide) rfl (by simp [lg_sl, vc_int, vc_ref, vc_long, jv_cat]) ?_
  intro p e s m args below meth c A Q H locs ls hQ hc hh hr hlk hl
  have hx := hc.1
  have hb := hc.2.1
  have hl : lv_has ls 3 [(0, .ref (ad 0)), (1, .int n)] := by simpa [lv_args, vc_int, vc_ref, vc_long, jv_cat] using hl
  refine lv_aload_n hx hb d_J_url_0 rfl (lv_at hl 0 rfl) ?_
  refine lv_iload_n hx hb d_J_url_1 rfl (lv_at hl 1 rfl) ?_
  refine lv_aload_n hx hb d_J_url_2 rfl (lv_at hl 0 rfl) ?_
  refine jg_J hc hh 5 (by decide) rfl wf_J_96 d_J_url_3 ?_
  refine jx_callV [.int n, .int (u 21 0)] [] hc hh (c_shownEntry l D aK ad cA u n (u 21 0) hS) wy_J_99 ⟨by decide, rfl, rfl⟩ (by decide) rfl hl.1 rfl (by decide) ⟨Nat.zero_le _, Nat.zero_le _⟩ d_J_url_6 (fun r u9 H locs hp hh _ _ => ?_)
  rw [hp.2] at hh
  refine W.eq (g2 := F0 m 9 ls [jv ad 118 (jc_shownEntry u n (u 21 0))]) (by first | rfl | (rw [hp.1]; rfl)) ?_
  refine jv_astore_n (i := 2) (lv' := [(2, jv ad 118 (jc_shownEntry u n (u 21 0))), (0, .ref (ad 0)), (1, .int n)]) hx hb d_J_url_9 rfl hl (by decide) rfl (fun ls hl => ?_)
  refine jv_aload_n hx hb d_J_url_10 rfl (lv_at hl 0 rfl) ?_
  refine jv_ifnonnull (tgt := 19) hx hb d_J_url_11 rfl (fun h11 => ?_) (fun h11 => ?_)
  ·
    refine jv_aload_n hx hb d_J_url_19 rfl (lv_at hl 0 rfl) ?_
    refine jgx_E hc hh (jc_se_ex hS h11) 3 (by decide) rfl wf_J_103 d_J_url_20 ?_
    exact jx_iret (r := (u 17 (ix (jc_shownEntry u n (u 21 0))))) hc hh hQ hlk hr rfl rfl ⟨by simp [jc_url, h11], rfl⟩ d_J_url_23
  refine lv_bipush (v := -4) hx hb d_J_url_14 (by decide) ?_
  refine lv_goto (tgt := 23) hx hb d_J_url_16 rfl ?_
  exact jx_iret (r := (-4)) hc hh hQ hlk hr rfl rfl ⟨by first | (simp [jc_url, h11]; done) | (simp [jc_url, eq_true h11]; done), rfl⟩ d_J_url_23
set_option maxHeartbeats 4000000 in
set_option maxRecDepth 100000 in
theorem c_step (l : Launch) (D : va_G) (aK ad : Nat → Nat) (cA : Nat → ClassId) (u : js_S) (n : Int32) (hS : jc_Sh u) : jx_M l y_J_step b_J_step 3 (some .int) (jr 3) D (jc_tys cA) aK 158 ad (jc_cell ad aK cA) [.ref (ad 0), .int n] u (fun r : Int32 => some (.int r)) (fun r u' => r = jc_step u n ∧ u' = u) := by
  refine jx_enter "JointHistory" (by decide) rfl (by simp [lg_sl, vc_int, vc_ref, vc_long, jv_cat]) ?_
  intro p e s m args below meth c A Q H locs ls hQ hc hh hr hlk hl
  have hx := hc.1
  have hb := hc.2.1
  have hl : lv_has ls 3 [(0, .ref (ad 0)), (1, .int n)] := by simpa [lv_args, vc_int, vc_ref, vc_long, jv_cat] using hl
  refine lv_aload_n hx hb d_J_step_0 rfl (lv_at hl 0 rfl) ?_
  refine lv_iload_n hx hb d_J_step_1 rfl (lv_at hl 1 rfl) ?_
  refine lv_aload_n hx hb d_J_step_2 rfl (lv_at hl 0 rfl) ?_
  refine jg_J hc hh 5 (by decide) rfl wf_J_96 d_J_step_3 ?_
  refine jx_callV [.int n, .int (u 21 0)] [] hc hh (c_shownEntry l D aK ad cA u n (u 21 0) hS) wy_J_99 ⟨by decide, rfl, rfl⟩ (by decide) rfl hl.1 rfl (by decide) ⟨Nat.zero_le _, Nat.zero_le _⟩ d_J_step_6 (fun r u9 H locs hp hh _ _ => ?_)
  rw [hp.2] at hh
  refine W.eq (g2 := F0 m 9 ls [jv ad 118 (jc_shownEntry u n (u 21 0))]) (by first | rfl | (rw [hp.1]; rfl)) ?_
  refine jv_astore_n (i := 2) (lv' := [(2, jv ad 118 (jc_shownEntry u n (u 21 0))), (0, .ref (ad 0)), (1, .int n)]) hx hb d_J_step_9 rfl hl (by decide) rfl (fun ls hl => ?_)
  refine jv_aload_n hx hb d_J_step_10 rfl (lv_at hl 0 rfl) ?_
  refine jv_ifnonnull (tgt := 19) hx hb d_J_step_11 rfl (fun h11 => ?_) (fun h11 => ?_)
  ·
    refine jv_aload_n hx hb d_J_step_19 rfl (lv_at hl 0 rfl) ?_
    refine jgx_E hc hh (jc_se_ex hS h11) 2 (by decide) rfl wf_J_128 d_J_step_20 ?_
    exact jx_iret (r := (u 16 (ix (jc_shownEntry u n (u 21 0))))) hc hh hQ hlk hr rfl rfl ⟨by simp [jc_step, h11], rfl⟩ d_J_step_23
  refine lv_bipush (v := -4) hx hb d_J_step_14 (by decide) ?_
  refine lv_goto (tgt := 23) hx hb d_J_step_16 rfl ?_
  exact jx_iret (r := (-4)) hc hh hQ hlk hr rfl rfl ⟨by first | (simp [jc_step, h11]; done) | (simp [jc_step, eq_true h11]; done), rfl⟩ d_J_step_23
set_option maxHeartbeats 4000000 in
set_option maxRecDepth 100000 in
theorem c_state (l : Launch) (D : va_G) (aK ad : Nat → Nat) (cA : Nat → ClassId) (u : js_S) (n : Int32) (hS : jc_Sh u) : jx_M l y_J_state b_J_state 3 (some .long) (jr 3) D (jc_tys cA) aK 158 ad (jc_cell ad aK cA) [.ref (ad 0), .int n] u (fun r : Int64 => some (.long r)) (fun r u' => r = jc_state u n ∧ u' = u) := by
  refine jx_enter "JointHistory" (by decide) rfl (by simp [lg_sl, vc_int, vc_ref, vc_long, jv_cat]) ?_
  intro p e s m args below meth c A Q H locs ls hQ hc hh hr hlk hl
  have hx := hc.1
  have hb := hc.2.1
  have hl : lv_has ls 3 [(0, .ref (ad 0)), (1, .int n)] := by simpa [lv_args, vc_int, vc_ref, vc_long, jv_cat] using hl
  refine lv_aload_n hx hb d_J_state_0 rfl (lv_at hl 0 rfl) ?_
  refine lv_iload_n hx hb d_J_state_1 rfl (lv_at hl 1 rfl) ?_
  refine lv_aload_n hx hb d_J_state_2 rfl (lv_at hl 0 rfl) ?_
  refine jg_J hc hh 5 (by decide) rfl wf_J_96 d_J_state_3 ?_
  refine jx_callV [.int n, .int (u 21 0)] [] hc hh (c_shownEntry l D aK ad cA u n (u 21 0) hS) wy_J_99 ⟨by decide, rfl, rfl⟩ (by decide) rfl hl.1 rfl (by decide) ⟨Nat.zero_le _, Nat.zero_le _⟩ d_J_state_6 (fun r u9 H locs hp hh _ _ => ?_)
  rw [hp.2] at hh
  refine W.eq (g2 := F0 m 9 ls [jv ad 118 (jc_shownEntry u n (u 21 0))]) (by first | rfl | (rw [hp.1]; rfl)) ?_
  refine jv_astore_n (i := 2) (lv' := [(2, jv ad 118 (jc_shownEntry u n (u 21 0))), (0, .ref (ad 0)), (1, .int n)]) hx hb d_J_state_9 rfl hl (by decide) rfl (fun ls hl => ?_)
  refine jv_aload_n hx hb d_J_state_10 rfl (lv_at hl 0 rfl) ?_
  refine jv_ifnonnull (tgt := 20) hx hb d_J_state_11 rfl (fun h11 => ?_) (fun h11 => ?_)
  ·
    refine jv_aload_n hx hb d_J_state_20 rfl (lv_at hl 0 rfl) ?_
    refine jgx_E hc hh (jc_se_ex hS h11) 4 (by decide) rfl wf_J_165 d_J_state_21 ?_
    refine lv_i2l hx hb d_J_state_24 rfl ?_
    exact jx_lret (r := (u 18 (ix (jc_shownEntry u n (u 21 0)))).toInt64) hc hh hQ hlk hr rfl ⟨by simp [jc_state, h11], rfl⟩ d_J_state_25
  refine lv_ldc2 hx hb hc.2.2.2.1 (hc.2.2.2.2.1 _ wc_J_163) d_J_state_14 ?_
  refine lv_goto (tgt := 25) hx hb d_J_state_17 rfl ?_
  exact jx_lret (r := 1099511627776) hc hh hQ hlk hr rfl ⟨by first | (simp [jc_state, h11]; done) | (simp [jc_state, eq_true h11]; done), rfl⟩ d_J_state_25
set_option maxHeartbeats 4000000 in
set_option maxRecDepth 100000 in
theorem c_origin (l : Launch) (D : va_G) (aK ad : Nat → Nat) (cA : Nat → ClassId) (u : js_S) (n : Int32) (hS : jc_Sh u) : jx_M l y_J_origin b_J_origin 3 (some .int) (jr 3) D (jc_tys cA) aK 158 ad (jc_cell ad aK cA) [.ref (ad 0), .int n] u (fun r : Int32 => some (.int r)) (fun r u' => r = jc_origin u n ∧ u' = u) := by
  refine jx_enter "JointHistory" (by decide) rfl (by simp [lg_sl, vc_int, vc_ref, vc_long, jv_cat]) ?_
  intro p e s m args below meth c A Q H locs ls hQ hc hh hr hlk hl
  have hx := hc.1
  have hb := hc.2.1
  have hl : lv_has ls 3 [(0, .ref (ad 0)), (1, .int n)] := by simpa [lv_args, vc_int, vc_ref, vc_long, jv_cat] using hl
  refine lv_aload_n hx hb d_J_origin_0 rfl (lv_at hl 0 rfl) ?_
  refine lv_iload_n hx hb d_J_origin_1 rfl (lv_at hl 1 rfl) ?_
  refine lv_aload_n hx hb d_J_origin_2 rfl (lv_at hl 0 rfl) ?_
  refine jg_J hc hh 5 (by decide) rfl wf_J_96 d_J_origin_3 ?_
  refine jx_callV [.int n, .int (u 21 0)] [] hc hh (c_shownEntry l D aK ad cA u n (u 21 0) hS) wy_J_99 ⟨by decide, rfl, rfl⟩ (by decide) rfl hl.1 rfl (by decide) ⟨Nat.zero_le _, Nat.zero_le _⟩ d_J_origin_6 (fun r u9 H locs hp hh _ _ => ?_)
  rw [hp.2] at hh
  refine W.eq (g2 := F0 m 9 ls [jv ad 118 (jc_shownEntry u n (u 21 0))]) (by first | rfl | (rw [hp.1]; rfl)) ?_
  refine jv_astore_n (i := 2) (lv' := [(2, jv ad 118 (jc_shownEntry u n (u 21 0))), (0, .ref (ad 0)), (1, .int n)]) hx hb d_J_origin_9 rfl hl (by decide) rfl (fun ls hl => ?_)
  refine jv_aload_n hx hb d_J_origin_10 rfl (lv_at hl 0 rfl) ?_
  refine jv_ifnonnull (tgt := 19) hx hb d_J_origin_11 rfl (fun h11 => ?_) (fun h11 => ?_)
  ·
    refine jv_aload_n hx hb d_J_origin_19 rfl (lv_at hl 0 rfl) ?_
    refine jgx_E hc hh (jc_se_ex hS h11) 5 (by decide) rfl wf_J_120 d_J_origin_20 ?_
    refine jgx_D hc hh (jc_se_doc hS h11) 2 (by decide) rfl wf_J_168 d_J_origin_23 ?_
    exact jx_iret (r := (u 10 (ix (u 19 (ix (jc_shownEntry u n (u 21 0))))))) hc hh hQ hlk hr rfl rfl ⟨by simp [jc_origin, h11], rfl⟩ d_J_origin_26
  refine lv_bipush (v := -4) hx hb d_J_origin_14 (by decide) ?_
  refine lv_goto (tgt := 26) hx hb d_J_origin_16 rfl ?_
  exact jx_iret (r := (-4)) hc hh hQ hlk hr rfl rfl ⟨by first | (simp [jc_origin, h11]; done) | (simp [jc_origin, eq_true h11]; done), rfl⟩ d_J_origin_26
set_option maxHeartbeats 4000000 in
set_option maxRecDepth 100000 in
theorem c_frame (l : Launch) (D : va_G) (aK ad : Nat → Nat) (cA : Nat → ClassId) (u : js_S) (n : Int32) (k : Int32) (hS : jc_Sh u) : jx_M l y_J_frame b_J_frame 4 (some .int) (jr 3) D (jc_tys cA) aK 158 ad (jc_cell ad aK cA) [.ref (ad 0), .int n, .int k] u (fun r : Int32 => some (.int r)) (fun r u' => r = jc_frame u n k ∧ u' = u) := by
  refine jx_enter "JointHistory" (by decide) rfl (by simp [lg_sl, vc_int, vc_ref, vc_long, jv_cat]) ?_
  intro p e s m args below meth c A Q H locs ls hQ hc hh hr hlk hl
  have hx := hc.1
  have hb := hc.2.1
  have hl : lv_has ls 4 [(0, .ref (ad 0)), (1, .int n), (2, .int k)] := by simpa [lv_args, vc_int, vc_ref, vc_long, jv_cat] using hl
  refine lv_aload_n hx hb d_J_frame_0 rfl (lv_at hl 0 rfl) ?_
  refine lv_iload_n hx hb d_J_frame_1 rfl (lv_at hl 1 rfl) ?_
  refine lv_aload_n hx hb d_J_frame_2 rfl (lv_at hl 0 rfl) ?_
  refine jg_J hc hh 5 (by decide) rfl wf_J_96 d_J_frame_3 ?_
  refine jx_callV [.int n, .int (u 21 0)] [] hc hh (c_shownEntry l D aK ad cA u n (u 21 0) hS) wy_J_99 ⟨by decide, rfl, rfl⟩ (by decide) rfl hl.1 rfl (by decide) ⟨Nat.zero_le _, Nat.zero_le _⟩ d_J_frame_6 (fun r u9 H locs hp hh _ _ => ?_)
  rw [hp.2] at hh
  refine W.eq (g2 := F0 m 9 ls [jv ad 118 (jc_shownEntry u n (u 21 0))]) (by first | rfl | (rw [hp.1]; rfl)) ?_
  refine jv_astore_n (i := 3) (lv' := [(3, jv ad 118 (jc_shownEntry u n (u 21 0))), (0, .ref (ad 0)), (1, .int n), (2, .int k)]) hx hb d_J_frame_9 rfl hl (by decide) rfl (fun ls hl => ?_)
  refine jv_aload_n hx hb d_J_frame_10 rfl (lv_at hl 0 rfl) ?_
  refine jv_ifnonnull (tgt := 17) hx hb d_J_frame_11 rfl (fun h11 => ?_) (fun h11 => ?_)
  ·
    refine lv_iload_n hx hb d_J_frame_17 rfl (lv_at hl 3 rfl) ?_
    refine lv_if_ne (tgt := 32) hx hb d_J_frame_18 rfl (fun h18 => ?_) (fun h18 => ?_)
    ·
      refine lv_iload_n hx hb d_J_frame_32 rfl (lv_at hl 3 rfl) ?_
      refine lv_iconst (v := 1) hx hb d_J_frame_33 (by decide) ?_
      refine lv_icmp_ne (tgt := 50) hx hb d_J_frame_34 rfl (fun h34 => ?_) (fun h34 => ?_)
      ·
        refine lv_bipush (v := -7) hx hb d_J_frame_50 (by decide) ?_
        exact jx_iret (r := (-7)) hc hh hQ hlk hr rfl rfl ⟨by simp [jc_frame, h11, h18, h34], rfl⟩ d_J_frame_52
      refine jv_aload_n hx hb d_J_frame_37 rfl (lv_at hl 0 rfl) ?_
      refine jgx_E hc hh (jc_se_ex hS h11) 5 (by decide) rfl wf_J_120 d_J_frame_38 ?_
      refine jgx_D hc hh (jc_se_doc hS h11) 5 (by decide) rfl wf_J_177 d_J_frame_41 ?_
      refine jx_callS [jv ad 38 (u 13 (ix (u 19 (ix (jc_shownEntry u n (u 21 0))))))] [] hc hh (c_numberOf l D aK ad cA u (u 13 (ix (u 19 (ix (jc_shownEntry u n (u 21 0)))))) (jc_S13x hS (jc_se_doc hS h11))) wy_J_173 (by decide) rfl hl.1 rfl (by decide) ⟨Nat.zero_le _, Nat.zero_le _⟩ d_J_frame_44 (fun r u9 H locs hp hh _ _ => ?_)
      rw [hp.2] at hh
      refine W.eq (g2 := F0 m 47 ls [.int (jc_numOf (u 13 (ix (u 19 (ix (jc_shownEntry u n (u 21 0)))))))]) (by first | rfl | (rw [hp.1]; rfl)) ?_
      refine lv_goto (tgt := 52) hx hb d_J_frame_47 rfl ?_
      exact jx_iret (r := (jc_numOf (u 13 (ix (u 19 (ix (jc_shownEntry u n (u 21 0)))))))) hc hh hQ hlk hr rfl rfl ⟨by first | (simp [jc_frame, h11, h18, h34]; done) | (simp [jc_frame, h11, h18, eq_true h34]; done), rfl⟩ d_J_frame_52
    refine jv_aload_n hx hb d_J_frame_21 rfl (lv_at hl 0 rfl) ?_
    refine jgx_E hc hh (jc_se_ex hS h11) 5 (by decide) rfl wf_J_120 d_J_frame_22 ?_
    refine jgx_D hc hh (jc_se_doc hS h11) 4 (by decide) rfl wf_J_171 d_J_frame_25 ?_
    refine jx_callS [jv ad 38 (u 12 (ix (u 19 (ix (jc_shownEntry u n (u 21 0))))))] [] hc hh (c_numberOf l D aK ad cA u (u 12 (ix (u 19 (ix (jc_shownEntry u n (u 21 0)))))) (jc_S12x hS (jc_se_doc hS h11))) wy_J_173 (by decide) rfl hl.1 rfl (by decide) ⟨Nat.zero_le _, Nat.zero_le _⟩ d_J_frame_28 (fun r u9 H locs hp hh _ _ => ?_)
    rw [hp.2] at hh
    refine W.eq (g2 := F0 m 31 ls [.int (jc_numOf (u 12 (ix (u 19 (ix (jc_shownEntry u n (u 21 0)))))))]) (by first | rfl | (rw [hp.1]; rfl)) ?_
    exact jx_iret (r := (jc_numOf (u 12 (ix (u 19 (ix (jc_shownEntry u n (u 21 0)))))))) hc hh hQ hlk hr rfl rfl ⟨by first | (simp [jc_frame, h11, h18]; done) | (simp [jc_frame, h11, eq_true h18]; done), rfl⟩ d_J_frame_31
  refine lv_bipush (v := -4) hx hb d_J_frame_14 (by decide) ?_
  exact jx_iret (r := (-4)) hc hh hQ hlk hr rfl rfl ⟨by first | (simp [jc_frame, h11]; done) | (simp [jc_frame, eq_true h11]; done), rfl⟩ d_J_frame_16
set_option maxHeartbeats 4000000 in
set_option maxRecDepth 100000 in
theorem c_entries (l : Launch) (D : va_G) (aK ad : Nat → Nat) (cA : Nat → ClassId) (u : js_S) (nv : Int32) (hS : jc_Sh u) : jx_M l y_J_entries b_J_entries 8 (some .int) (jr 3) D (jc_tys cA) aK 158 ad (jc_cell ad aK cA) [.ref (ad 0), .int nv] u (fun r : Int32 => some (.int r)) (fun r u' => r = jc_entries u nv ∧ u' = u) := by
  refine jx_enter "JointHistory" (by decide) rfl (by simp [lg_sl, vc_int, vc_ref, vc_long, jv_cat]) ?_
  intro p e s m args below meth c A Q H locs ls hQ hc hh hr hlk hl
  have hx := hc.1
  have hb := hc.2.1
  have hl : lv_has ls 8 [(0, .ref (ad 0)), (1, .int nv)] := by simpa [lv_args, vc_int, vc_ref, vc_long, jv_cat] using hl
  refine lv_aload_n hx hb d_J_entries_0 rfl (lv_at hl 0 rfl) ?_
  refine lv_iload_n hx hb d_J_entries_1 rfl (lv_at hl 1 rfl) ?_
  refine lv_aload_n hx hb d_J_entries_2 rfl (lv_at hl 0 rfl) ?_
  refine jg_J hc hh 5 (by decide) rfl wf_J_96 d_J_entries_3 ?_
  refine jx_callV [.int nv, .int (u 21 0)] [] hc hh (c_shownEntry l D aK ad cA u nv (u 21 0) hS) wy_J_99 ⟨by decide, rfl, rfl⟩ (by decide) rfl hl.1 rfl (by decide) ⟨Nat.zero_le _, Nat.zero_le _⟩ d_J_entries_6 (fun r u9 H locs hp hh _ _ => ?_)
  rw [hp.2] at hh
  refine W.eq (g2 := F0 m 9 ls [jv ad 118 (jc_shownEntry u nv (u 21 0))]) (by first | rfl | (rw [hp.1]; rfl)) ?_
  refine jv_astore_n (i := 2) (lv' := [(2, jv ad 118 (jc_shownEntry u nv (u 21 0))), (0, .ref (ad 0)), (1, .int nv)]) hx hb d_J_entries_9 rfl hl (by decide) rfl (fun ls hl => ?_)
  refine jv_aload_n hx hb d_J_entries_10 rfl (lv_at hl 0 rfl) ?_
  refine jv_ifnonnull (tgt := 17) hx hb d_J_entries_11 rfl (fun h11 => ?_) (fun h11 => ?_)
  ·
    refine lv_iconst (v := 0) hx hb d_J_entries_17 (by decide) ?_
    refine lv_istore_n (i := 3) (lv' := [(3, .int 0), (2, jv ad 118 (jc_shownEntry u nv (u 21 0))), (0, .ref (ad 0)), (1, .int nv)]) hx hb d_J_entries_18 rfl hl (by decide) (by simp [vc_int, vc_ref, vc_long, jv_cat]) (fun ls hl => ?_)
    refine lv_aload_n hx hb d_J_entries_19 rfl (lv_at hl 2 rfl) ?_
    refine jg_J hc hh 3 (by decide) rfl wf_J_29 d_J_entries_20 ?_
    refine lv_astore (i := 4) (lv' := [(4, .ref (ad 4)), (3, .int 0), (2, jv ad 118 (jc_shownEntry u nv (u 21 0))), (0, .ref (ad 0)), (1, .int nv)]) hx hb d_J_entries_23 hl (by decide) rfl (fun ls hl => ?_)
    refine lv_aload hx hb d_J_entries_25 (lv_at hl 0 rfl) ?_
    refine jl_E hc hh d_J_entries_27 ?_
    refine lv_istore (i := 5) (lv' := [(5, .int (nI 40)), (4, .ref (ad 4)), (3, .int 0), (2, jv ad 118 (jc_shownEntry u nv (u 21 0))), (0, .ref (ad 0)), (1, .int nv)]) hx hb d_J_entries_28 hl (by decide) rfl (fun ls hl => ?_)
    refine lv_iconst (v := 0) hx hb d_J_entries_30 (by decide) ?_
    refine lv_istore (i := 6) (lv' := [(6, .int 0), (5, .int (nI 40)), (4, .ref (ad 4)), (3, .int 0), (2, jv ad 118 (jc_shownEntry u nv (u 21 0))), (0, .ref (ad 0)), (1, .int nv)]) hx hb d_J_entries_31 hl (by decide) rfl (fun ls hl => ?_)
    have L33 : ∀ (n : Nat) (i : Nat) (H : Heap) (locs : List Loc) (ls : Array Slot), i + n = 40 → jx_H D 158 ad (jc_cell ad aK cA u) A s.heap H locs → lv_has ls 8 [(0, .ref (ad 0)), (1, .int nv), (2, jv ad 118 (jc_shownEntry u nv (u 21 0))), (3, .int (nI (jc_cntO u (u 15 (ix (jc_shownEntry u nv (u 21 0)))) i))), (4, .ref (ad 4)), (5, .int (nI 40)), (6, .int (nI i))] → W p l e (jr 3) s m args below meth c H locs 0 0 Q (F0 m 33 ls []) := by
      intro n
      induction n with
      | zero =>
        intro i H locs ls hm hh hl
        have hi : i = 40 := by omega
        refine lv_iload hx hb d_J_entries_33 (lv_at hl 6 rfl) ?_
        refine lv_iload hx hb d_J_entries_35 (lv_at hl 5 rfl) ?_
        refine lv_icmp_ge (tgt := 76) hx hb d_J_entries_37 rfl (fun h37 => ?_) (fun hq => absurd (nI_le (show 40 ≤ i by omega) (show i < 2 ^ 31 by omega)) hq)
        refine lv_iload_n hx hb d_J_entries_76 rfl (lv_at hl 3 rfl) ?_
        exact jx_iret (r := nI (jc_cntO u (u 15 (ix (jc_shownEntry u nv (u 21 0)))) i)) hc hh hQ hlk hr rfl rfl ⟨by rw [hi]; simp [jc_entries, h11], rfl⟩ d_J_entries_77
      | succ n ih =>
        intro i H locs ls hm hh hl
        have hi : i < 40 := by omega
        refine lv_iload hx hb d_J_entries_33 (lv_at hl 6 rfl) ?_
        refine lv_iload hx hb d_J_entries_35 (lv_at hl 5 rfl) ?_
        refine lv_icmp_ge (tgt := 76) hx hb d_J_entries_37 rfl (fun hq => absurd hq (nI_ge hi (by decide))) (fun h37 => ?_)
        refine lv_aload hx hb d_J_entries_40 (lv_at hl 4 rfl) ?_
        refine lv_iload hx hb d_J_entries_42 (lv_at hl 6 rfl) ?_
        refine ja_E hc hh hi d_J_entries_44 ?_
        refine jv_astore (i := 7) (lv' := [(7, jv ad 118 (nI i)), (0, .ref (ad 0)), (1, .int nv), (2, jv ad 118 (jc_shownEntry u nv (u 21 0))), (3, .int (nI (jc_cntO u (u 15 (ix (jc_shownEntry u nv (u 21 0)))) i))), (4, .ref (ad 4)), (5, .int (nI 40)), (6, .int (nI i))]) hx hb d_J_entries_45 hl (by decide) rfl (fun ls hl => ?_)
        refine jv_aload hx hb d_J_entries_47 (lv_at hl 0 rfl) ?_
        refine jg_E hc hh hi 0 (by decide) rfl wf_J_179 d_J_entries_49 ?_
        refine lv_if_eq (tgt := 70) hx hb d_J_entries_52 rfl (fun h52 => ?_) (fun h52 => ?_)
        ·
          refine lv_iinc (k := 7) (v := nI (i + 1)) (lv' := [(6, .int (nI (i + 1))), (7, jv ad 118 (nI i)), (0, .ref (ad 0)), (1, .int nv), (2, jv ad 118 (jc_shownEntry u nv (u 21 0))), (3, .int (nI (jc_cntO u (u 15 (ix (jc_shownEntry u nv (u 21 0)))) i))), (4, .ref (ad 4)), (5, .int (nI 40))]) hx hb d_J_entries_70 hl rfl (nI_1 i) (by decide) rfl (fun ls hl => ?_)
          refine lv_goto (tgt := 33) hx hb d_J_entries_73 rfl ?_
          have e1 : nI (jc_cntO u (u 15 (ix (jc_shownEntry u nv (u 21 0)))) (i + 1)) = nI (jc_cntO u (u 15 (ix (jc_shownEntry u nv (u 21 0)))) i) := by first | (simp [nI_0, jc_cntO, h52]; done) | (simp [nI_0, jc_cntO, eq_true h52]; done)
          refine ih (i + 1) _ _ _ (by omega) ?_ ?_
          ·
            try rw [e1]
            exact hh
          try rw [e1]
          exact lv_sub hl [2, 3, 4, 5, 6, 7, 0] rfl
        refine jv_aload hx hb d_J_entries_55 (lv_at hl 0 rfl) ?_
        refine jg_E hc hh hi 1 (by decide) rfl wf_J_135 d_J_entries_57 ?_
        refine jv_aload_n hx hb d_J_entries_60 rfl (lv_at hl 3 rfl) ?_
        refine jgx_E hc hh (jc_se_ex hS h11) 1 (by decide) rfl wf_J_135 d_J_entries_61 ?_
        refine jv_acmp_ne (tgt := 70) (n := 40) hx hb (by decide) (jd_inj hh (by decide)) (jc_S15 hS hi) (jc_S15x hS (jc_se_ex hS h11)) d_J_entries_64 rfl (fun h64 => ?_) (fun h64 => ?_)
        ·
          refine lv_iinc (k := 7) (v := nI (i + 1)) (lv' := [(6, .int (nI (i + 1))), (7, jv ad 118 (nI i)), (0, .ref (ad 0)), (1, .int nv), (2, jv ad 118 (jc_shownEntry u nv (u 21 0))), (3, .int (nI (jc_cntO u (u 15 (ix (jc_shownEntry u nv (u 21 0)))) i))), (4, .ref (ad 4)), (5, .int (nI 40))]) hx hb d_J_entries_70 hl rfl (nI_1 i) (by decide) rfl (fun ls hl => ?_)
          refine lv_goto (tgt := 33) hx hb d_J_entries_73 rfl ?_
          have e2 : nI (jc_cntO u (u 15 (ix (jc_shownEntry u nv (u 21 0)))) (i + 1)) = nI (jc_cntO u (u 15 (ix (jc_shownEntry u nv (u 21 0)))) i) := by simp [nI_0, jc_cntO, h52, h64]
          refine ih (i + 1) _ _ _ (by omega) ?_ ?_
          ·
            try rw [e2]
            exact hh
          try rw [e2]
          exact lv_sub hl [2, 3, 4, 5, 6, 7, 0] rfl
        refine lv_iinc (k := 4) (v := nI ((jc_cntO u (u 15 (ix (jc_shownEntry u nv (u 21 0)))) i) + 1)) (lv' := [(3, .int (nI ((jc_cntO u (u 15 (ix (jc_shownEntry u nv (u 21 0)))) i) + 1))), (7, jv ad 118 (nI i)), (0, .ref (ad 0)), (1, .int nv), (2, jv ad 118 (jc_shownEntry u nv (u 21 0))), (4, .ref (ad 4)), (5, .int (nI 40)), (6, .int (nI i))]) hx hb d_J_entries_67 hl rfl (nI_1 (jc_cntO u (u 15 (ix (jc_shownEntry u nv (u 21 0)))) i)) (by decide) (by simp [vc_int, vc_ref, vc_long, jv_cat]) (fun ls hl => ?_)
        refine lv_iinc (k := 7) (v := nI (i + 1)) (lv' := [(6, .int (nI (i + 1))), (3, .int (nI ((jc_cntO u (u 15 (ix (jc_shownEntry u nv (u 21 0)))) i) + 1))), (7, jv ad 118 (nI i)), (0, .ref (ad 0)), (1, .int nv), (2, jv ad 118 (jc_shownEntry u nv (u 21 0))), (4, .ref (ad 4)), (5, .int (nI 40))]) hx hb d_J_entries_70 hl rfl (nI_1 i) (by decide) rfl (fun ls hl => ?_)
        refine lv_goto (tgt := 33) hx hb d_J_entries_73 rfl ?_
        have e3 : nI (jc_cntO u (u 15 (ix (jc_shownEntry u nv (u 21 0)))) (i + 1)) = nI ((jc_cntO u (u 15 (ix (jc_shownEntry u nv (u 21 0)))) i) + 1) := by first | (simp [nI_0, jc_cntO, h52, h64]; done) | (simp [nI_0, jc_cntO, h52, eq_true h64]; done)
        refine ih (i + 1) _ _ _ (by omega) ?_ ?_
        ·
          try rw [e3]
          exact hh
        try rw [e3]
        exact lv_sub hl [3, 4, 5, 1, 6, 7, 0] rfl
    have e4 : nI (jc_cntO u (u 15 (ix (jc_shownEntry u nv (u 21 0)))) 0) = 0 := by simp [nI_0, jc_cntO, h11]
    have e5 : nI 0 = 0 := rfl
    refine L33 40 0 _ _ _ (by omega) ?_ ?_
    ·
      try rw [e4]
      try rw [e5]
      exact hh
    try rw [e4]
    try rw [e5]
    exact lv_sub hl [5, 6, 4, 3, 2, 1, 0] rfl
  refine lv_bipush (v := -4) hx hb d_J_entries_14 (by decide) ?_
  exact jx_iret (r := (-4)) hc hh hQ hlk hr rfl rfl ⟨by first | (simp [jc_entries, h11]; done) | (simp [jc_entries, eq_true h11]; done), rfl⟩ d_J_entries_16
set_option maxHeartbeats 4000000 in
set_option maxRecDepth 100000 in
theorem c_present (l : Launch) (D : va_G) (aK ad : Nat → Nat) (cA : Nat → ClassId) (u : js_S) : jx_M l y_J_present b_J_present 1 (some .int) (jr 1) D (jc_tys cA) aK 158 ad (jc_cell ad aK cA) [.ref (ad 0)] u (fun r : Int32 => some (.int r)) (fun r u' => r = u 21 0 ∧ u' = u) := by
  refine jx_enter "JointHistory" (by decide) rfl (by simp [lg_sl, vc_int, vc_ref, vc_long, jv_cat]) ?_
  intro p e s m args below meth c A Q H locs ls hQ hc hh hr hlk hl
  have hx := hc.1
  have hb := hc.2.1
  have hl : lv_has ls 1 [(0, .ref (ad 0))] := by simpa [lv_args, vc_int, vc_ref, vc_long, jv_cat] using hl
  refine lv_aload_n hx hb d_J_present_0 rfl (lv_at hl 0 rfl) ?_
  refine jg_J hc hh 5 (by decide) rfl wf_J_96 d_J_present_1 ?_
  exact jx_iret (r := (u 21 0)) hc hh hQ hlk hr rfl rfl ⟨rfl, rfl⟩ d_J_present_4
set_option maxHeartbeats 4000000 in
set_option maxRecDepth 100000 in
theorem c_content (l : Launch) (D : va_G) (aK ad : Nat → Nat) (cA : Nat → ClassId) (u : js_S) (page : Int32) (a : Int32) (b : Int32) (strict : Int32) (hz : strict = 0 ∨ strict = 1) : jx_M l y_J_content b_J_content 6 (some .boolean) (jr 4) D (jc_tys cA) aK 158 ad (jc_cell ad aK cA) [.ref (ad 0), .int page, .int a, .int b, .int strict] u (fun r : Int32 => some (.int r)) (fun r u' => r = (jc_content u page a b strict).1 ∧ u' = (jc_content u page a b strict).2) := by
  refine jx_enter "JointHistory" (by decide) rfl (by simp [lg_sl, vc_int, vc_ref, vc_long, jv_cat]) ?_
  intro p e s m args below meth c A Q H locs ls hQ hc hh hr hlk hl
  have hx := hc.1
  have hb := hc.2.1
  have hl : lv_has ls 6 [(0, .ref (ad 0)), (1, .int page), (2, .int a), (3, .int b), (4, .int strict)] := by simpa [lv_args, vc_int, vc_ref, vc_long, jv_cat] using hl
  refine lv_iload_n hx hb d_J_content_0 rfl (lv_at hl 1 rfl) ?_
  refine jx_callS [.int page] [] hc hh (c_isPage l D aK ad cA u page) wy_J_55 (by decide) rfl hl.1 rfl (by decide) ⟨Nat.zero_le _, Nat.zero_le _⟩ d_J_content_1 (fun r u9 H locs hp hh _ _ => ?_)
  rw [hp.2] at hh
  refine W.eq (g2 := F0 m 4 ls [.int (jc_isPage page)]) (by first | rfl | (rw [hp.1]; rfl)) ?_
  refine lv_if_eq (tgt := 21) hx hb d_J_content_4 rfl (fun h4 => ?_) (fun h4 => ?_)
  ·
    refine lv_iconst (v := 0) hx hb d_J_content_21 (by decide) ?_
    exact jx_iret (r := 0) hc hh hQ hlk hr (by decide) rfl ⟨by first | (simp [jc_content, h4]; done) | (simp [jc_content, eq_true h4]; done), by first | (simp [jc_content, h4]; done) | (simp [jc_content, eq_true h4]; done)⟩ d_J_content_22
  refine lv_iload_n hx hb d_J_content_7 rfl (lv_at hl 2 rfl) ?_
  refine jx_callS [.int a] [] hc hh (c_isFrameChoice l D aK ad cA u a) wy_J_59 (by decide) rfl hl.1 rfl (by decide) ⟨Nat.zero_le _, Nat.zero_le _⟩ d_J_content_8 (fun r u9 H locs hp hh _ _ => ?_)
  rw [hp.2] at hh
  refine W.eq (g2 := F0 m 11 ls [.int (jc_isFC a)]) (by first | rfl | (rw [hp.1]; rfl)) ?_
  refine lv_if_eq (tgt := 21) hx hb d_J_content_11 rfl (fun h11 => ?_) (fun h11 => ?_)
  ·
    refine lv_iconst (v := 0) hx hb d_J_content_21 (by decide) ?_
    exact jx_iret (r := 0) hc hh hQ hlk hr (by decide) rfl ⟨by first | (simp [jc_content, h4, h11]; done) | (simp [jc_content, h4, eq_true h11]; done), by first | (simp [jc_content, h4, h11]; done) | (simp [jc_content, h4, eq_true h11]; done)⟩ d_J_content_22
  refine lv_iload_n hx hb d_J_content_14 rfl (lv_at hl 3 rfl) ?_
  refine jx_callS [.int b] [] hc hh (c_isFrameChoice l D aK ad cA u b) wy_J_59 (by decide) rfl hl.1 rfl (by decide) ⟨Nat.zero_le _, Nat.zero_le _⟩ d_J_content_15 (fun r u9 H locs hp hh _ _ => ?_)
  rw [hp.2] at hh
  refine W.eq (g2 := F0 m 18 ls [.int (jc_isFC b)]) (by first | rfl | (rw [hp.1]; rfl)) ?_
  refine lv_if_ne (tgt := 23) hx hb d_J_content_18 rfl (fun h18 => ?_) (fun h18 => ?_)
  ·
    refine lv_aload_n hx hb d_J_content_23 rfl (lv_at hl 0 rfl) ?_
    refine jg_J hc hh 0 (by decide) rfl wf_J_11 d_J_content_24 ?_
    refine lv_iload_n hx hb d_J_content_27 rfl (lv_at hl 1 rfl) ?_
    refine jax_A hc hh (jc_page h4) d_J_content_28 ?_
    refine jv_astore (i := 5) (lv' := [(5, jv ad 6 page), (0, .ref (ad 0)), (1, .int page), (2, .int a), (3, .int b), (4, .int strict)]) hx hb d_J_content_29 hl (by decide) rfl (fun ls hl => ?_)
    refine jv_aload hx hb d_J_content_31 (lv_at hl 0 rfl) ?_
    refine jk_get (j := 0) hc hh (by decide) wf_J_62 d_J_content_33 ?_
    refine jpy_0 hc hh (jc_page h4) wf_J_68 d_J_content_36 (fun H locs hh => ?_)
    refine jv_aload hx hb d_J_content_39 (lv_at hl 0 rfl) ?_
    refine lv_iload_n hx hb d_J_content_41 rfl (lv_at hl 3 rfl) ?_
    refine jpy_1 hc hh (jc_page h4) wf_J_71 d_J_content_42 (fun H locs hh => ?_)
    refine jv_aload hx hb d_J_content_45 (lv_at hl 0 rfl) ?_
    refine lv_iload_n hx hb d_J_content_47 rfl (lv_at hl 4 rfl) ?_
    refine jpy_2 hc hh (jc_page h4) wf_J_75 d_J_content_48 (fun H locs hh => ?_)
    refine jv_aload hx hb d_J_content_51 (lv_at hl 0 rfl) ?_
    refine lv_iload hx hb d_J_content_53 (lv_at hl 5 rfl) ?_
    refine jpy_3 hc hh (jc_page h4) hz wf_J_78 d_J_content_55 (fun H locs hh => ?_)
    refine lv_iconst (v := 1) hx hb d_J_content_58 (by decide) ?_
    exact jx_iret (r := 1) hc hh hQ hlk hr (by decide) rfl ⟨by simp [jc_content, h4, h11, h18], by simp [jc_content, h4, h11, h18]⟩ d_J_content_59
  refine lv_iconst (v := 0) hx hb d_J_content_21 (by decide) ?_
  exact jx_iret (r := 0) hc hh hQ hlk hr (by decide) rfl ⟨by first | (simp [jc_content, h4, h11, h18]; done) | (simp [jc_content, h4, h11, eq_true h18]; done), by first | (simp [jc_content, h4, h11, h18]; done) | (simp [jc_content, h4, h11, eq_true h18]; done)⟩ d_J_content_22
set_option maxHeartbeats 4000000 in
set_option maxRecDepth 100000 in
theorem c_detour (l : Launch) (D : va_G) (aK ad : Nat → Nat) (cA : Nat → ClassId) (u : js_S) (page : Int32) (url : Int32) : jx_M l y_J_detour b_J_detour 3 (some .boolean) (jr 4) D (jc_tys cA) aK 158 ad (jc_cell ad aK cA) [.ref (ad 0), .int page, .int url] u (fun r : Int32 => some (.int r)) (fun r u' => r = (jc_detour u page url).1 ∧ u' = (jc_detour u page url).2) := by
  refine jx_enter "JointHistory" (by decide) rfl (by simp [lg_sl, vc_int, vc_ref, vc_long, jv_cat]) ?_
  intro p e s m args below meth c A Q H locs ls hQ hc hh hr hlk hl
  have hx := hc.1
  have hb := hc.2.1
  have hl : lv_has ls 3 [(0, .ref (ad 0)), (1, .int page), (2, .int url)] := by simpa [lv_args, vc_int, vc_ref, vc_long, jv_cat] using hl
  refine lv_iload_n hx hb d_J_detour_0 rfl (lv_at hl 1 rfl) ?_
  refine jx_callS [.int page] [] hc hh (c_isPage l D aK ad cA u page) wy_J_55 (by decide) rfl hl.1 rfl (by decide) ⟨Nat.zero_le _, Nat.zero_le _⟩ d_J_detour_1 (fun r u9 H locs hp hh _ _ => ?_)
  rw [hp.2] at hh
  refine W.eq (g2 := F0 m 4 ls [.int (jc_isPage page)]) (by first | rfl | (rw [hp.1]; rfl)) ?_
  refine lv_if_eq (tgt := 14) hx hb d_J_detour_4 rfl (fun h4 => ?_) (fun h4 => ?_)
  ·
    refine lv_iconst (v := 0) hx hb d_J_detour_14 (by decide) ?_
    exact jx_iret (r := 0) hc hh hQ hlk hr (by decide) rfl ⟨by first | (simp [jc_detour, h4]; done) | (simp [jc_detour, eq_true h4]; done), by first | (simp [jc_detour, h4]; done) | (simp [jc_detour, eq_true h4]; done)⟩ d_J_detour_15
  refine lv_iload_n hx hb d_J_detour_7 rfl (lv_at hl 2 rfl) ?_
  refine jx_callS [.int url] [] hc hh (c_isUrl l D aK ad cA u url) wy_J_81 (by decide) rfl hl.1 rfl (by decide) ⟨Nat.zero_le _, Nat.zero_le _⟩ d_J_detour_8 (fun r u9 H locs hp hh _ _ => ?_)
  rw [hp.2] at hh
  refine W.eq (g2 := F0 m 11 ls [.int (jc_isUrl url)]) (by first | rfl | (rw [hp.1]; rfl)) ?_
  refine lv_if_ne (tgt := 16) hx hb d_J_detour_11 rfl (fun h11 => ?_) (fun h11 => ?_)
  ·
    refine lv_aload_n hx hb d_J_detour_16 rfl (lv_at hl 0 rfl) ?_
    refine jg_J hc hh 0 (by decide) rfl wf_J_11 d_J_detour_17 ?_
    refine lv_iload_n hx hb d_J_detour_20 rfl (lv_at hl 1 rfl) ?_
    refine jax_A hc hh (jc_page h4) d_J_detour_21 ?_
    refine jk_get (j := 1) hc hh (by decide) wf_J_84 d_J_detour_22 ?_
    refine jpy_0 hc hh (jc_page h4) wf_J_68 d_J_detour_25 (fun H locs hh => ?_)
    refine lv_aload_n hx hb d_J_detour_28 rfl (lv_at hl 0 rfl) ?_
    refine jg_J hc hh 0 (by decide) rfl wf_J_11 d_J_detour_29 ?_
    refine lv_iload_n hx hb d_J_detour_32 rfl (lv_at hl 1 rfl) ?_
    refine jax_A hc hh (jc_page h4) d_J_detour_33 ?_
    refine lv_iload_n hx hb d_J_detour_34 rfl (lv_at hl 2 rfl) ?_
    refine jpy_4 hc hh (jc_page h4) wf_J_87 d_J_detour_35 (fun H locs hh => ?_)
    refine lv_iconst (v := 1) hx hb d_J_detour_38 (by decide) ?_
    exact jx_iret (r := 1) hc hh hQ hlk hr (by decide) rfl ⟨by simp [jc_detour, h4, h11], by simp [jc_detour, h4, h11]⟩ d_J_detour_39
  refine lv_iconst (v := 0) hx hb d_J_detour_14 (by decide) ?_
  exact jx_iret (r := 0) hc hh hQ hlk hr (by decide) rfl ⟨by first | (simp [jc_detour, h4, h11]; done) | (simp [jc_detour, h4, eq_true h11]; done), by first | (simp [jc_detour, h4, h11]; done) | (simp [jc_detour, h4, eq_true h11]; done)⟩ d_J_detour_15
set_option maxHeartbeats 4000000 in
set_option maxRecDepth 100000 in
theorem c_fault (l : Launch) (D : va_G) (aK ad : Nat → Nat) (cA : Nat → ClassId) (u : js_S) (page : Int32) : jx_M l y_J_fault b_J_fault 2 (some .boolean) (jr 4) D (jc_tys cA) aK 158 ad (jc_cell ad aK cA) [.ref (ad 0), .int page] u (fun r : Int32 => some (.int r)) (fun r u' => r = (jc_fault u page).1 ∧ u' = (jc_fault u page).2) := by
  refine jx_enter "JointHistory" (by decide) rfl (by simp [lg_sl, vc_int, vc_ref, vc_long, jv_cat]) ?_
  intro p e s m args below meth c A Q H locs ls hQ hc hh hr hlk hl
  have hx := hc.1
  have hb := hc.2.1
  have hl : lv_has ls 2 [(0, .ref (ad 0)), (1, .int page)] := by simpa [lv_args, vc_int, vc_ref, vc_long, jv_cat] using hl
  refine lv_iload_n hx hb d_J_fault_0 rfl (lv_at hl 1 rfl) ?_
  refine jx_callS [.int page] [] hc hh (c_isPage l D aK ad cA u page) wy_J_55 (by decide) rfl hl.1 rfl (by decide) ⟨Nat.zero_le _, Nat.zero_le _⟩ d_J_fault_1 (fun r u9 H locs hp hh _ _ => ?_)
  rw [hp.2] at hh
  refine W.eq (g2 := F0 m 4 ls [.int (jc_isPage page)]) (by first | rfl | (rw [hp.1]; rfl)) ?_
  refine lv_if_ne (tgt := 9) hx hb d_J_fault_4 rfl (fun h4 => ?_) (fun h4 => ?_)
  ·
    refine lv_aload_n hx hb d_J_fault_9 rfl (lv_at hl 0 rfl) ?_
    refine jg_J hc hh 0 (by decide) rfl wf_J_11 d_J_fault_10 ?_
    refine lv_iload_n hx hb d_J_fault_13 rfl (lv_at hl 1 rfl) ?_
    refine jax_A hc hh (jc_page h4) d_J_fault_14 ?_
    refine jk_get (j := 2) hc hh (by decide) wf_J_90 d_J_fault_15 ?_
    refine jpy_0 hc hh (jc_page h4) wf_J_68 d_J_fault_18 (fun H locs hh => ?_)
    refine lv_iconst (v := 1) hx hb d_J_fault_21 (by decide) ?_
    exact jx_iret (r := 1) hc hh hQ hlk hr (by decide) rfl ⟨by simp [jc_fault, h4], by simp [jc_fault, h4]⟩ d_J_fault_22
  refine lv_iconst (v := 0) hx hb d_J_fault_7 (by decide) ?_
  exact jx_iret (r := 0) hc hh hQ hlk hr (by decide) rfl ⟨by first | (simp [jc_fault, h4]; done) | (simp [jc_fault, eq_true h4]; done), by first | (simp [jc_fault, h4]; done) | (simp [jc_fault, eq_true h4]; done)⟩ d_J_fault_8
set_option maxHeartbeats 4000000 in
set_option maxRecDepth 100000 in
theorem c_detach (l : Launch) (D : va_G) (aK ad : Nat → Nat) (cA : Nat → ClassId) (u : js_S) (n : Int32) (hS : jc_Sh u) : jx_M l y_J_detach b_J_detach 3 (some .int) (jr 4) D (jc_tys cA) aK 158 ad (jc_cell ad aK cA) [.ref (ad 0), .int n] u (fun r : Int32 => some (.int r)) (fun r u' => r = (jc_detach u n).1 ∧ u' = (jc_detach u n).2) := by
  refine jx_enter "JointHistory" (by decide) rfl (by simp [lg_sl, vc_int, vc_ref, vc_long, jv_cat]) ?_
  intro p e s m args below meth c A Q H locs ls hQ hc hh hr hlk hl
  have hx := hc.1
  have hb := hc.2.1
  have hl : lv_has ls 3 [(0, .ref (ad 0)), (1, .int n)] := by simpa [lv_args, vc_int, vc_ref, vc_long, jv_cat] using hl
  refine lv_iload_n hx hb d_J_detach_0 rfl (lv_at hl 1 rfl) ?_
  refine lv_if_ne (tgt := 7) hx hb d_J_detach_1 rfl (fun h1 => ?_) (fun h1 => ?_)
  ·
    refine lv_aload_n hx hb d_J_detach_7 rfl (lv_at hl 0 rfl) ?_
    refine lv_iload_n hx hb d_J_detach_8 rfl (lv_at hl 1 rfl) ?_
    refine lv_aload_n hx hb d_J_detach_9 rfl (lv_at hl 0 rfl) ?_
    refine jg_J hc hh 5 (by decide) rfl wf_J_96 d_J_detach_10 ?_
    refine jx_callV [.int n, .int (u 21 0)] [] hc hh (c_shownEntry l D aK ad cA u n (u 21 0) hS) wy_J_99 ⟨by decide, rfl, rfl⟩ (by decide) rfl hl.1 rfl (by decide) ⟨Nat.zero_le _, Nat.zero_le _⟩ d_J_detach_13 (fun r u9 H locs hp hh _ _ => ?_)
    rw [hp.2] at hh
    refine W.eq (g2 := F0 m 16 ls [jv ad 118 (jc_shownEntry u n (u 21 0))]) (by first | rfl | (rw [hp.1]; rfl)) ?_
    refine jv_astore_n (i := 2) (lv' := [(2, jv ad 118 (jc_shownEntry u n (u 21 0))), (0, .ref (ad 0)), (1, .int n)]) hx hb d_J_detach_16 rfl hl (by decide) rfl (fun ls hl => ?_)
    refine jv_aload_n hx hb d_J_detach_17 rfl (lv_at hl 0 rfl) ?_
    refine jv_ifnonnull (tgt := 24) hx hb d_J_detach_18 rfl (fun h18 => ?_) (fun h18 => ?_)
    ·
      refine lv_aload_n hx hb d_J_detach_24 rfl (lv_at hl 1 rfl) ?_
      refine jv_aload_n hx hb d_J_detach_25 rfl (lv_at hl 0 rfl) ?_
      refine jgx_E hc hh (jc_se_ex hS h18) 1 (by decide) rfl wf_J_135 d_J_detach_26 ?_
      refine jx_callV [jv ad 38 (u 15 (ix (jc_shownEntry u n (u 21 0))))] [] hc hh (c_takeOut l D aK ad cA u (u 15 (ix (jc_shownEntry u n (u 21 0)))) hS (jc_se_own hS h18)) wy_J_153 ⟨by decide, rfl, rfl⟩ (by decide) rfl hl.1 rfl (by decide) ⟨Nat.zero_le _, Nat.zero_le _⟩ d_J_detach_29 (fun r u9 H locs hp hh _ _ => ?_)
      rw [hp.2] at hh
      refine W.eq (g2 := F0 m 32 ls []) (by first | rfl | (rw [hp.1]; rfl)) ?_
      refine lv_aload_n hx hb d_J_detach_32 rfl (lv_at hl 1 rfl) ?_
      refine jx_callV [] [] hc hh (c_dropWhatIsGone l D aK ad cA (jc_takeOut u (u 15 (ix (jc_shownEntry u n (u 21 0))))) (jc_Sh_out hS (jc_se_own hS h18))) wy_J_157 ⟨by decide, rfl, rfl⟩ (by decide) rfl hl.1 rfl (by decide) ⟨Nat.zero_le _, Nat.zero_le _⟩ d_J_detach_33 (fun r u9 H locs hp hh _ _ => ?_)
      rw [hp.2] at hh
      refine W.eq (g2 := F0 m 36 ls []) (by first | rfl | (rw [hp.1]; rfl)) ?_
      refine lv_aload_n hx hb d_J_detach_36 rfl (lv_at hl 1 rfl) ?_
      refine jx_callV [] [] hc hh (c_settlePresentStep l D aK ad cA (jc_gone (jc_takeOut u (u 15 (ix (jc_shownEntry u n (u 21 0))))))) wy_J_160 ⟨by decide, rfl, rfl⟩ (by decide) rfl hl.1 rfl (by decide) ⟨Nat.zero_le _, Nat.zero_le _⟩ d_J_detach_37 (fun r u9 H locs hp hh _ _ => ?_)
      rw [hp.2] at hh
      refine W.eq (g2 := F0 m 40 ls []) (by first | rfl | (rw [hp.1]; rfl)) ?_
      refine lv_aload_n hx hb d_J_detach_40 rfl (lv_at hl 1 rfl) ?_
      refine jg_J hc hh 5 (by decide) rfl wf_J_96 d_J_detach_41 ?_
      exact jx_iret (r := ((jc_settle (jc_gone (jc_takeOut u (u 15 (ix (jc_shownEntry u n (u 21 0))))))) 21 0)) hc hh hQ hlk hr rfl rfl ⟨by simp [jc_detach, h1, h18], by simp [jc_detach, h1, h18]⟩ d_J_detach_44
    refine lv_bipush (v := -4) hx hb d_J_detach_21 (by decide) ?_
    exact jx_iret (r := (-4)) hc hh hQ hlk hr rfl rfl ⟨by first | (simp [jc_detach, h1, h18]; done) | (simp [jc_detach, h1, eq_true h18]; done), by first | (simp [jc_detach, h1, h18]; done) | (simp [jc_detach, h1, eq_true h18]; done)⟩ d_J_detach_23
  refine lv_bipush (v := -3) hx hb d_J_detach_4 (by decide) ?_
  exact jx_iret (r := (-3)) hc hh hQ hlk hr rfl rfl ⟨by first | (simp [jc_detach, h1]; done) | (simp [jc_detach, eq_true h1]; done), by first | (simp [jc_detach, h1]; done) | (simp [jc_detach, eq_true h1]; done)⟩ d_J_detach_6
set_option maxHeartbeats 4000000 in
set_option maxRecDepth 100000 in
theorem c_rewrite (l : Launch) (D : va_G) (aK ad : Nat → Nat) (cA : Nat → ClassId) (u : js_S) (n : Int32) (url : Int32) (state : Int32) (push : Int32) (hS : jc_Sh u) : jx_M l y_J_rewrite b_J_rewrite 6 (some .int) (jr 4) D (jc_tys cA) aK 158 ad (jc_cell ad aK cA) [.ref (ad 0), .int n, .int url, .int state, .int push] u (fun r : Int32 => some (.int r)) (fun r u' => r = (jc_rewrite u n url state push).1 ∧ u' = (jc_rewrite u n url state push).2) := by
  refine jx_enter "JointHistory" (by decide) rfl (by simp [lg_sl, vc_int, vc_ref, vc_long, jv_cat]) ?_
  intro p e s m args below meth c A Q H locs ls hQ hc hh hr hlk hl
  have hx := hc.1
  have hb := hc.2.1
  have hl : lv_has ls 6 [(0, .ref (ad 0)), (1, .int n), (2, .int url), (3, .int state), (4, .int push)] := by simpa [lv_args, vc_int, vc_ref, vc_long, jv_cat] using hl
  refine lv_iload_n hx hb d_J_rewrite_0 rfl (lv_at hl 2 rfl) ?_
  refine jx_callS [.int url] [] hc hh (c_isUrlOrBlank l D aK ad cA u url) wy_J_93 (by decide) rfl hl.1 rfl (by decide) ⟨Nat.zero_le _, Nat.zero_le _⟩ d_J_rewrite_1 (fun r u9 H locs hp hh _ _ => ?_)
  rw [hp.2] at hh
  refine W.eq (g2 := F0 m 4 ls [.int (jc_isUB url)]) (by first | rfl | (rw [hp.1]; rfl)) ?_
  refine lv_if_ne (tgt := 10) hx hb d_J_rewrite_4 rfl (fun h4 => ?_) (fun h4 => ?_)
  ·
    refine lv_aload_n hx hb d_J_rewrite_10 rfl (lv_at hl 0 rfl) ?_
    refine lv_iload_n hx hb d_J_rewrite_11 rfl (lv_at hl 1 rfl) ?_
    refine lv_aload_n hx hb d_J_rewrite_12 rfl (lv_at hl 0 rfl) ?_
    refine jg_J hc hh 5 (by decide) rfl wf_J_96 d_J_rewrite_13 ?_
    refine jx_callV [.int n, .int (u 21 0)] [] hc hh (c_shownEntry l D aK ad cA u n (u 21 0) hS) wy_J_99 ⟨by decide, rfl, rfl⟩ (by decide) rfl hl.1 rfl (by decide) ⟨Nat.zero_le _, Nat.zero_le _⟩ d_J_rewrite_16 (fun r u9 H locs hp hh _ _ => ?_)
    rw [hp.2] at hh
    refine W.eq (g2 := F0 m 19 ls [jv ad 118 (jc_shownEntry u n (u 21 0))]) (by first | rfl | (rw [hp.1]; rfl)) ?_
    refine jv_astore (i := 5) (lv' := [(5, jv ad 118 (jc_shownEntry u n (u 21 0))), (0, .ref (ad 0)), (1, .int n), (2, .int url), (3, .int state), (4, .int push)]) hx hb d_J_rewrite_19 hl (by decide) rfl (fun ls hl => ?_)
    refine jv_aload hx hb d_J_rewrite_21 (lv_at hl 0 rfl) ?_
    refine jv_ifnonnull (tgt := 29) hx hb d_J_rewrite_23 rfl (fun h23 => ?_) (fun h23 => ?_)
    ·
      refine lv_iload_n hx hb d_J_rewrite_29 rfl (lv_at hl 3 rfl) ?_
      refine lv_iconst (v := -1) hx hb d_J_rewrite_30 (by decide) ?_
      refine lv_icmp_eq (tgt := 49) hx hb d_J_rewrite_31 rfl (fun h31 => ?_) (fun h31 => ?_)
      ·
        refine lv_aload_n hx hb d_J_rewrite_49 rfl (lv_at hl 1 rfl) ?_
        refine lv_iload hx hb d_J_rewrite_50 (lv_at hl 5 rfl) ?_
        refine jx_callV [.int push] [] hc hh (c_isFull l D aK ad cA u push) wy_J_106 ⟨by decide, rfl, rfl⟩ (by decide) rfl hl.1 rfl (by decide) ⟨Nat.zero_le _, Nat.zero_le _⟩ d_J_rewrite_52 (fun r u9 H locs hp hh _ _ => ?_)
        rw [hp.2] at hh
        refine W.eq (g2 := F0 m 55 ls [.int (jc_full u push)]) (by first | rfl | (rw [hp.1]; rfl)) ?_
        refine lv_if_eq (tgt := 61) hx hb d_J_rewrite_55 rfl (fun h55 => ?_) (fun h55 => ?_)
        ·
          refine lv_iload hx hb d_J_rewrite_61 (lv_at hl 5 rfl) ?_
          refine lv_if_eq (tgt := 70) hx hb d_J_rewrite_63 rfl (fun h63 => ?_) (fun h63 => ?_)
          ·
            have J70 : ∀ (v : js_S) (H : Heap) (locs : List Loc) (ls : Array Slot), (jc_Sh v) → (∃ i, i < 40 ∧ v 19 (ix (jc_shownEntry u n (u 21 0))) = nI i) → (jc_rewrite u n url state push = (jc_rew v (jc_shownEntry u n (u 21 0)) url state push 21 0, jc_rew v (jc_shownEntry u n (u 21 0)) url state push)) → jx_H D 158 ad (jc_cell ad aK cA v) A s.heap H locs → lv_has ls 6 [(0, .ref (ad 0)), (1, .int n), (2, .int url), (3, .int state), (4, .int push), (5, jv ad 118 (jc_shownEntry u n (u 21 0)))] → W p l e (jr 4) s m args below meth c H locs 0 0 Q (F0 m 70 ls []) := by
              intro v H locs ls hS9 hd9 hv hh hl
              refine lv_aload_n hx hb d_J_rewrite_70 rfl (lv_at hl 0 rfl) ?_
              refine jv_aload hx hb d_J_rewrite_71 (lv_at hl 5 rfl) ?_
              refine lv_iload_n hx hb d_J_rewrite_73 rfl (lv_at hl 2 rfl) ?_
              refine lv_iconst (v := -1) hx hb d_J_rewrite_74 (by decide) ?_
              refine lv_icmp_ne (tgt := 86) hx hb d_J_rewrite_75 rfl (fun h75 => ?_) (fun h75 => ?_)
              ·
                refine lv_iload_n hx hb d_J_rewrite_86 rfl (lv_at hl 2 rfl) ?_
                refine lv_iload_n hx hb d_J_rewrite_87 rfl (lv_at hl 3 rfl) ?_
                refine jv_aload hx hb d_J_rewrite_88 (lv_at hl 5 rfl) ?_
                refine jgx_E hc hh (jc_se_ex hS h23) 5 (by decide) rfl wf_J_120 d_J_rewrite_90 ?_
                refine lv_iload hx hb d_J_rewrite_93 (lv_at hl 4 rfl) ?_
                refine jx_callV [jv ad 118 (jc_shownEntry u n (u 21 0)), .int url, .int state, jv ad 78 (v 19 (ix (jc_shownEntry u n (u 21 0)))), .int push] [] hc hh (c_putEntry l D aK ad cA v (jc_shownEntry u n (u 21 0)) url state (v 19 (ix (jc_shownEntry u n (u 21 0)))) push hS9 (jc_se_ex hS h23) hd9) wy_J_124 ⟨by decide, rfl, rfl⟩ (by decide) rfl hl.1 rfl (by decide) ⟨Nat.zero_le _, Nat.zero_le _⟩ d_J_rewrite_95 (fun r u9 H locs hp hh _ _ => ?_)
                rw [hp.2] at hh
                refine W.eq (g2 := F0 m 98 ls []) (by first | rfl | (rw [hp.1]; rfl)) ?_
                refine lv_aload_n hx hb d_J_rewrite_98 rfl (lv_at hl 0 rfl) ?_
                refine jg_J hc hh 5 (by decide) rfl wf_J_96 d_J_rewrite_99 ?_
                exact jx_iret (r := ((jc_putEntry v (jc_shownEntry u n (u 21 0)) url state (v 19 (ix (jc_shownEntry u n (u 21 0)))) push) 21 0)) hc hh hQ hlk hr rfl rfl ⟨by rw [hv]; simp [jc_rew, h75], by rw [hv]; simp [jc_rew, h75]⟩ d_J_rewrite_102
              refine jv_aload hx hb d_J_rewrite_78 (lv_at hl 5 rfl) ?_
              refine jgx_E hc hh (jc_se_ex hS h23) 3 (by decide) rfl wf_J_103 d_J_rewrite_80 ?_
              refine lv_goto (tgt := 87) hx hb d_J_rewrite_83 rfl ?_
              refine lv_iload_n hx hb d_J_rewrite_87 rfl (lv_at hl 3 rfl) ?_
              refine jv_aload hx hb d_J_rewrite_88 (lv_at hl 5 rfl) ?_
              refine jgx_E hc hh (jc_se_ex hS h23) 5 (by decide) rfl wf_J_120 d_J_rewrite_90 ?_
              refine lv_iload hx hb d_J_rewrite_93 (lv_at hl 4 rfl) ?_
              refine jx_callV [jv ad 118 (jc_shownEntry u n (u 21 0)), .int (v 17 (ix (jc_shownEntry u n (u 21 0)))), .int state, jv ad 78 (v 19 (ix (jc_shownEntry u n (u 21 0)))), .int push] [] hc hh (c_putEntry l D aK ad cA v (jc_shownEntry u n (u 21 0)) (v 17 (ix (jc_shownEntry u n (u 21 0)))) state (v 19 (ix (jc_shownEntry u n (u 21 0)))) push hS9 (jc_se_ex hS h23) hd9) wy_J_124 ⟨by decide, rfl, rfl⟩ (by decide) rfl hl.1 rfl (by decide) ⟨Nat.zero_le _, Nat.zero_le _⟩ d_J_rewrite_95 (fun r u9 H locs hp hh _ _ => ?_)
              rw [hp.2] at hh
              refine W.eq (g2 := F0 m 98 ls []) (by first | rfl | (rw [hp.1]; rfl)) ?_
              refine lv_aload_n hx hb d_J_rewrite_98 rfl (lv_at hl 0 rfl) ?_
              refine jg_J hc hh 5 (by decide) rfl wf_J_96 d_J_rewrite_99 ?_
              exact jx_iret (r := ((jc_putEntry v (jc_shownEntry u n (u 21 0)) (v 17 (ix (jc_shownEntry u n (u 21 0)))) state (v 19 (ix (jc_shownEntry u n (u 21 0)))) push) 21 0)) hc hh hQ hlk hr rfl rfl ⟨by rw [hv]; simp [jc_rew, h75], by rw [hv]; simp [jc_rew, h75]⟩ d_J_rewrite_102
            refine J70 u _ _ _ hS (jc_se_doc hS h23) (by first | (simp [jc_rewrite, jc_rew, h4, h23, h31, h55, h63]; done) | (simp [jc_rewrite, jc_rew, h4, h23, eq_true h31, eq_true h55, eq_true h63]; done)) ?_ ?_
            ·
              exact hh
            exact lv_sub hl [1, 2, 3, 4, 5, 0] rfl
          refine lv_aload_n hx hb d_J_rewrite_66 rfl (lv_at hl 1 rfl) ?_
          refine jx_callV [] [] hc hh (c_dropLaterEntries l D aK ad cA u hS) wy_J_110 ⟨by decide, rfl, rfl⟩ (by decide) rfl hl.1 rfl (by decide) ⟨Nat.zero_le _, Nat.zero_le _⟩ d_J_rewrite_67 (fun r u9 H locs hp hh _ _ => ?_)
          rw [hp.2] at hh
          refine W.eq (g2 := F0 m 70 ls []) (by first | rfl | (rw [hp.1]; rfl)) ?_
          have J70 : ∀ (v : js_S) (H : Heap) (locs : List Loc) (ls : Array Slot), (jc_Sh v) → (∃ i, i < 40 ∧ v 19 (ix (jc_shownEntry u n (u 21 0))) = nI i) → (jc_rewrite u n url state push = (jc_rew v (jc_shownEntry u n (u 21 0)) url state push 21 0, jc_rew v (jc_shownEntry u n (u 21 0)) url state push)) → jx_H D 158 ad (jc_cell ad aK cA v) A s.heap H locs → lv_has ls 6 [(0, .ref (ad 0)), (1, .int n), (2, .int url), (3, .int state), (4, .int push), (5, jv ad 118 (jc_shownEntry u n (u 21 0)))] → W p l e (jr 4) s m args below meth c H locs 0 0 Q (F0 m 70 ls []) := by
            intro v H locs ls hS9 hd9 hv hh hl
            refine lv_aload_n hx hb d_J_rewrite_70 rfl (lv_at hl 0 rfl) ?_
            refine jv_aload hx hb d_J_rewrite_71 (lv_at hl 5 rfl) ?_
            refine lv_iload_n hx hb d_J_rewrite_73 rfl (lv_at hl 2 rfl) ?_
            refine lv_iconst (v := -1) hx hb d_J_rewrite_74 (by decide) ?_
            refine lv_icmp_ne (tgt := 86) hx hb d_J_rewrite_75 rfl (fun h75 => ?_) (fun h75 => ?_)
            ·
              refine lv_iload_n hx hb d_J_rewrite_86 rfl (lv_at hl 2 rfl) ?_
              refine lv_iload_n hx hb d_J_rewrite_87 rfl (lv_at hl 3 rfl) ?_
              refine jv_aload hx hb d_J_rewrite_88 (lv_at hl 5 rfl) ?_
              refine jgx_E hc hh (jc_se_ex hS h23) 5 (by decide) rfl wf_J_120 d_J_rewrite_90 ?_
              refine lv_iload hx hb d_J_rewrite_93 (lv_at hl 4 rfl) ?_
              refine jx_callV [jv ad 118 (jc_shownEntry u n (u 21 0)), .int url, .int state, jv ad 78 (v 19 (ix (jc_shownEntry u n (u 21 0)))), .int push] [] hc hh (c_putEntry l D aK ad cA v (jc_shownEntry u n (u 21 0)) url state (v 19 (ix (jc_shownEntry u n (u 21 0)))) push hS9 (jc_se_ex hS h23) hd9) wy_J_124 ⟨by decide, rfl, rfl⟩ (by decide) rfl hl.1 rfl (by decide) ⟨Nat.zero_le _, Nat.zero_le _⟩ d_J_rewrite_95 (fun r u9 H locs hp hh _ _ => ?_)
              rw [hp.2] at hh
              refine W.eq (g2 := F0 m 98 ls []) (by first | rfl | (rw [hp.1]; rfl)) ?_
              refine lv_aload_n hx hb d_J_rewrite_98 rfl (lv_at hl 0 rfl) ?_
              refine jg_J hc hh 5 (by decide) rfl wf_J_96 d_J_rewrite_99 ?_
              exact jx_iret (r := ((jc_putEntry v (jc_shownEntry u n (u 21 0)) url state (v 19 (ix (jc_shownEntry u n (u 21 0)))) push) 21 0)) hc hh hQ hlk hr rfl rfl ⟨by rw [hv]; simp [jc_rew, h75], by rw [hv]; simp [jc_rew, h75]⟩ d_J_rewrite_102
            refine jv_aload hx hb d_J_rewrite_78 (lv_at hl 5 rfl) ?_
            refine jgx_E hc hh (jc_se_ex hS h23) 3 (by decide) rfl wf_J_103 d_J_rewrite_80 ?_
            refine lv_goto (tgt := 87) hx hb d_J_rewrite_83 rfl ?_
            refine lv_iload_n hx hb d_J_rewrite_87 rfl (lv_at hl 3 rfl) ?_
            refine jv_aload hx hb d_J_rewrite_88 (lv_at hl 5 rfl) ?_
            refine jgx_E hc hh (jc_se_ex hS h23) 5 (by decide) rfl wf_J_120 d_J_rewrite_90 ?_
            refine lv_iload hx hb d_J_rewrite_93 (lv_at hl 4 rfl) ?_
            refine jx_callV [jv ad 118 (jc_shownEntry u n (u 21 0)), .int (v 17 (ix (jc_shownEntry u n (u 21 0)))), .int state, jv ad 78 (v 19 (ix (jc_shownEntry u n (u 21 0)))), .int push] [] hc hh (c_putEntry l D aK ad cA v (jc_shownEntry u n (u 21 0)) (v 17 (ix (jc_shownEntry u n (u 21 0)))) state (v 19 (ix (jc_shownEntry u n (u 21 0)))) push hS9 (jc_se_ex hS h23) hd9) wy_J_124 ⟨by decide, rfl, rfl⟩ (by decide) rfl hl.1 rfl (by decide) ⟨Nat.zero_le _, Nat.zero_le _⟩ d_J_rewrite_95 (fun r u9 H locs hp hh _ _ => ?_)
            rw [hp.2] at hh
            refine W.eq (g2 := F0 m 98 ls []) (by first | rfl | (rw [hp.1]; rfl)) ?_
            refine lv_aload_n hx hb d_J_rewrite_98 rfl (lv_at hl 0 rfl) ?_
            refine jg_J hc hh 5 (by decide) rfl wf_J_96 d_J_rewrite_99 ?_
            exact jx_iret (r := ((jc_putEntry v (jc_shownEntry u n (u 21 0)) (v 17 (ix (jc_shownEntry u n (u 21 0)))) state (v 19 (ix (jc_shownEntry u n (u 21 0)))) push) 21 0)) hc hh hQ hlk hr rfl rfl ⟨by rw [hv]; simp [jc_rew, h75], by rw [hv]; simp [jc_rew, h75]⟩ d_J_rewrite_102
          refine J70 (jc_dropLater u) _ _ _ (jc_Sh_later hS) (jc_se_dl hS h23) (by first | (simp [jc_rewrite, jc_rew, h4, h23, h31, h55, h63]; done) | (simp [jc_rewrite, jc_rew, h4, h23, eq_true h31, eq_true h55, h63]; done)) ?_ ?_
          ·
            exact hh
          exact lv_sub hl [1, 2, 3, 4, 5, 0] rfl
        refine lv_bipush (v := -5) hx hb d_J_rewrite_58 (by decide) ?_
        exact jx_iret (r := (-5)) hc hh hQ hlk hr rfl rfl ⟨by first | (simp [jc_rewrite, jc_rew, h4, h23, h31, h55]; done) | (simp [jc_rewrite, jc_rew, h4, h23, eq_true h31, h55]; done), by first | (simp [jc_rewrite, jc_rew, h4, h23, h31, h55]; done) | (simp [jc_rewrite, jc_rew, h4, h23, eq_true h31, h55]; done)⟩ d_J_rewrite_60
      refine jv_aload hx hb d_J_rewrite_34 (lv_at hl 0 rfl) ?_
      refine jgx_E hc hh (jc_se_ex hS h23) 3 (by decide) rfl wf_J_103 d_J_rewrite_36 ?_
      refine lv_iload_n hx hb d_J_rewrite_39 rfl (lv_at hl 3 rfl) ?_
      refine jx_callS [.int (u 17 (ix (jc_shownEntry u n (u 21 0)))), .int url] [] hc hh (c_mayRewrite l D aK ad cA u (u 17 (ix (jc_shownEntry u n (u 21 0)))) url) wy_J_139 (by decide) rfl hl.1 rfl (by decide) ⟨Nat.zero_le _, Nat.zero_le _⟩ d_J_rewrite_40 (fun r u9 H locs hp hh _ _ => ?_)
      rw [hp.2] at hh
      refine W.eq (g2 := F0 m 43 ls [.int (jc_mayR (u 17 (ix (jc_shownEntry u n (u 21 0)))) url)]) (by first | rfl | (rw [hp.1]; rfl)) ?_
      refine lv_if_ne (tgt := 49) hx hb d_J_rewrite_43 rfl (fun h43 => ?_) (fun h43 => ?_)
      ·
        refine lv_aload_n hx hb d_J_rewrite_49 rfl (lv_at hl 1 rfl) ?_
        refine lv_iload hx hb d_J_rewrite_50 (lv_at hl 5 rfl) ?_
        refine jx_callV [.int push] [] hc hh (c_isFull l D aK ad cA u push) wy_J_106 ⟨by decide, rfl, rfl⟩ (by decide) rfl hl.1 rfl (by decide) ⟨Nat.zero_le _, Nat.zero_le _⟩ d_J_rewrite_52 (fun r u9 H locs hp hh _ _ => ?_)
        rw [hp.2] at hh
        refine W.eq (g2 := F0 m 55 ls [.int (jc_full u push)]) (by first | rfl | (rw [hp.1]; rfl)) ?_
        refine lv_if_eq (tgt := 61) hx hb d_J_rewrite_55 rfl (fun h55 => ?_) (fun h55 => ?_)
        ·
          refine lv_iload hx hb d_J_rewrite_61 (lv_at hl 5 rfl) ?_
          refine lv_if_eq (tgt := 70) hx hb d_J_rewrite_63 rfl (fun h63 => ?_) (fun h63 => ?_)
          ·
            have J70 : ∀ (v : js_S) (H : Heap) (locs : List Loc) (ls : Array Slot), (jc_Sh v) → (∃ i, i < 40 ∧ v 19 (ix (jc_shownEntry u n (u 21 0))) = nI i) → (jc_rewrite u n url state push = (jc_rew v (jc_shownEntry u n (u 21 0)) url state push 21 0, jc_rew v (jc_shownEntry u n (u 21 0)) url state push)) → jx_H D 158 ad (jc_cell ad aK cA v) A s.heap H locs → lv_has ls 6 [(0, .ref (ad 0)), (1, .int n), (2, .int url), (3, .int state), (4, .int push), (5, jv ad 118 (jc_shownEntry u n (u 21 0)))] → W p l e (jr 4) s m args below meth c H locs 0 0 Q (F0 m 70 ls []) := by
              intro v H locs ls hS9 hd9 hv hh hl
              refine lv_aload_n hx hb d_J_rewrite_70 rfl (lv_at hl 0 rfl) ?_
              refine jv_aload hx hb d_J_rewrite_71 (lv_at hl 5 rfl) ?_
              refine lv_iload_n hx hb d_J_rewrite_73 rfl (lv_at hl 2 rfl) ?_
              refine lv_iconst (v := -1) hx hb d_J_rewrite_74 (by decide) ?_
              refine lv_icmp_ne (tgt := 86) hx hb d_J_rewrite_75 rfl (fun h75 => ?_) (fun h75 => ?_)
              ·
                refine lv_iload_n hx hb d_J_rewrite_86 rfl (lv_at hl 2 rfl) ?_
                refine lv_iload_n hx hb d_J_rewrite_87 rfl (lv_at hl 3 rfl) ?_
                refine jv_aload hx hb d_J_rewrite_88 (lv_at hl 5 rfl) ?_
                refine jgx_E hc hh (jc_se_ex hS h23) 5 (by decide) rfl wf_J_120 d_J_rewrite_90 ?_
                refine lv_iload hx hb d_J_rewrite_93 (lv_at hl 4 rfl) ?_
                refine jx_callV [jv ad 118 (jc_shownEntry u n (u 21 0)), .int url, .int state, jv ad 78 (v 19 (ix (jc_shownEntry u n (u 21 0)))), .int push] [] hc hh (c_putEntry l D aK ad cA v (jc_shownEntry u n (u 21 0)) url state (v 19 (ix (jc_shownEntry u n (u 21 0)))) push hS9 (jc_se_ex hS h23) hd9) wy_J_124 ⟨by decide, rfl, rfl⟩ (by decide) rfl hl.1 rfl (by decide) ⟨Nat.zero_le _, Nat.zero_le _⟩ d_J_rewrite_95 (fun r u9 H locs hp hh _ _ => ?_)
                rw [hp.2] at hh
                refine W.eq (g2 := F0 m 98 ls []) (by first | rfl | (rw [hp.1]; rfl)) ?_
                refine lv_aload_n hx hb d_J_rewrite_98 rfl (lv_at hl 0 rfl) ?_
                refine jg_J hc hh 5 (by decide) rfl wf_J_96 d_J_rewrite_99 ?_
                exact jx_iret (r := ((jc_putEntry v (jc_shownEntry u n (u 21 0)) url state (v 19 (ix (jc_shownEntry u n (u 21 0)))) push) 21 0)) hc hh hQ hlk hr rfl rfl ⟨by rw [hv]; simp [jc_rew, h75], by rw [hv]; simp [jc_rew, h75]⟩ d_J_rewrite_102
              refine jv_aload hx hb d_J_rewrite_78 (lv_at hl 5 rfl) ?_
              refine jgx_E hc hh (jc_se_ex hS h23) 3 (by decide) rfl wf_J_103 d_J_rewrite_80 ?_
              refine lv_goto (tgt := 87) hx hb d_J_rewrite_83 rfl ?_
              refine lv_iload_n hx hb d_J_rewrite_87 rfl (lv_at hl 3 rfl) ?_
              refine jv_aload hx hb d_J_rewrite_88 (lv_at hl 5 rfl) ?_
              refine jgx_E hc hh (jc_se_ex hS h23) 5 (by decide) rfl wf_J_120 d_J_rewrite_90 ?_
              refine lv_iload hx hb d_J_rewrite_93 (lv_at hl 4 rfl) ?_
              refine jx_callV [jv ad 118 (jc_shownEntry u n (u 21 0)), .int (v 17 (ix (jc_shownEntry u n (u 21 0)))), .int state, jv ad 78 (v 19 (ix (jc_shownEntry u n (u 21 0)))), .int push] [] hc hh (c_putEntry l D aK ad cA v (jc_shownEntry u n (u 21 0)) (v 17 (ix (jc_shownEntry u n (u 21 0)))) state (v 19 (ix (jc_shownEntry u n (u 21 0)))) push hS9 (jc_se_ex hS h23) hd9) wy_J_124 ⟨by decide, rfl, rfl⟩ (by decide) rfl hl.1 rfl (by decide) ⟨Nat.zero_le _, Nat.zero_le _⟩ d_J_rewrite_95 (fun r u9 H locs hp hh _ _ => ?_)
              rw [hp.2] at hh
              refine W.eq (g2 := F0 m 98 ls []) (by first | rfl | (rw [hp.1]; rfl)) ?_
              refine lv_aload_n hx hb d_J_rewrite_98 rfl (lv_at hl 0 rfl) ?_
              refine jg_J hc hh 5 (by decide) rfl wf_J_96 d_J_rewrite_99 ?_
              exact jx_iret (r := ((jc_putEntry v (jc_shownEntry u n (u 21 0)) (v 17 (ix (jc_shownEntry u n (u 21 0)))) state (v 19 (ix (jc_shownEntry u n (u 21 0)))) push) 21 0)) hc hh hQ hlk hr rfl rfl ⟨by rw [hv]; simp [jc_rew, h75], by rw [hv]; simp [jc_rew, h75]⟩ d_J_rewrite_102
            refine J70 u _ _ _ hS (jc_se_doc hS h23) (by first | (simp [jc_rewrite, jc_rew, h4, h23, h31, h43, h55, h63]; done) | (simp [jc_rewrite, jc_rew, h4, h23, h31, h43, eq_true h55, eq_true h63]; done)) ?_ ?_
            ·
              exact hh
            exact lv_sub hl [1, 2, 3, 4, 5, 0] rfl
          refine lv_aload_n hx hb d_J_rewrite_66 rfl (lv_at hl 1 rfl) ?_
          refine jx_callV [] [] hc hh (c_dropLaterEntries l D aK ad cA u hS) wy_J_110 ⟨by decide, rfl, rfl⟩ (by decide) rfl hl.1 rfl (by decide) ⟨Nat.zero_le _, Nat.zero_le _⟩ d_J_rewrite_67 (fun r u9 H locs hp hh _ _ => ?_)
          rw [hp.2] at hh
          refine W.eq (g2 := F0 m 70 ls []) (by first | rfl | (rw [hp.1]; rfl)) ?_
          have J70 : ∀ (v : js_S) (H : Heap) (locs : List Loc) (ls : Array Slot), (jc_Sh v) → (∃ i, i < 40 ∧ v 19 (ix (jc_shownEntry u n (u 21 0))) = nI i) → (jc_rewrite u n url state push = (jc_rew v (jc_shownEntry u n (u 21 0)) url state push 21 0, jc_rew v (jc_shownEntry u n (u 21 0)) url state push)) → jx_H D 158 ad (jc_cell ad aK cA v) A s.heap H locs → lv_has ls 6 [(0, .ref (ad 0)), (1, .int n), (2, .int url), (3, .int state), (4, .int push), (5, jv ad 118 (jc_shownEntry u n (u 21 0)))] → W p l e (jr 4) s m args below meth c H locs 0 0 Q (F0 m 70 ls []) := by
            intro v H locs ls hS9 hd9 hv hh hl
            refine lv_aload_n hx hb d_J_rewrite_70 rfl (lv_at hl 0 rfl) ?_
            refine jv_aload hx hb d_J_rewrite_71 (lv_at hl 5 rfl) ?_
            refine lv_iload_n hx hb d_J_rewrite_73 rfl (lv_at hl 2 rfl) ?_
            refine lv_iconst (v := -1) hx hb d_J_rewrite_74 (by decide) ?_
            refine lv_icmp_ne (tgt := 86) hx hb d_J_rewrite_75 rfl (fun h75 => ?_) (fun h75 => ?_)
            ·
              refine lv_iload_n hx hb d_J_rewrite_86 rfl (lv_at hl 2 rfl) ?_
              refine lv_iload_n hx hb d_J_rewrite_87 rfl (lv_at hl 3 rfl) ?_
              refine jv_aload hx hb d_J_rewrite_88 (lv_at hl 5 rfl) ?_
              refine jgx_E hc hh (jc_se_ex hS h23) 5 (by decide) rfl wf_J_120 d_J_rewrite_90 ?_
              refine lv_iload hx hb d_J_rewrite_93 (lv_at hl 4 rfl) ?_
              refine jx_callV [jv ad 118 (jc_shownEntry u n (u 21 0)), .int url, .int state, jv ad 78 (v 19 (ix (jc_shownEntry u n (u 21 0)))), .int push] [] hc hh (c_putEntry l D aK ad cA v (jc_shownEntry u n (u 21 0)) url state (v 19 (ix (jc_shownEntry u n (u 21 0)))) push hS9 (jc_se_ex hS h23) hd9) wy_J_124 ⟨by decide, rfl, rfl⟩ (by decide) rfl hl.1 rfl (by decide) ⟨Nat.zero_le _, Nat.zero_le _⟩ d_J_rewrite_95 (fun r u9 H locs hp hh _ _ => ?_)
              rw [hp.2] at hh
              refine W.eq (g2 := F0 m 98 ls []) (by first | rfl | (rw [hp.1]; rfl)) ?_
              refine lv_aload_n hx hb d_J_rewrite_98 rfl (lv_at hl 0 rfl) ?_
              refine jg_J hc hh 5 (by decide) rfl wf_J_96 d_J_rewrite_99 ?_
              exact jx_iret (r := ((jc_putEntry v (jc_shownEntry u n (u 21 0)) url state (v 19 (ix (jc_shownEntry u n (u 21 0)))) push) 21 0)) hc hh hQ hlk hr rfl rfl ⟨by rw [hv]; simp [jc_rew, h75], by rw [hv]; simp [jc_rew, h75]⟩ d_J_rewrite_102
            refine jv_aload hx hb d_J_rewrite_78 (lv_at hl 5 rfl) ?_
            refine jgx_E hc hh (jc_se_ex hS h23) 3 (by decide) rfl wf_J_103 d_J_rewrite_80 ?_
            refine lv_goto (tgt := 87) hx hb d_J_rewrite_83 rfl ?_
            refine lv_iload_n hx hb d_J_rewrite_87 rfl (lv_at hl 3 rfl) ?_
            refine jv_aload hx hb d_J_rewrite_88 (lv_at hl 5 rfl) ?_
            refine jgx_E hc hh (jc_se_ex hS h23) 5 (by decide) rfl wf_J_120 d_J_rewrite_90 ?_
            refine lv_iload hx hb d_J_rewrite_93 (lv_at hl 4 rfl) ?_
            refine jx_callV [jv ad 118 (jc_shownEntry u n (u 21 0)), .int (v 17 (ix (jc_shownEntry u n (u 21 0)))), .int state, jv ad 78 (v 19 (ix (jc_shownEntry u n (u 21 0)))), .int push] [] hc hh (c_putEntry l D aK ad cA v (jc_shownEntry u n (u 21 0)) (v 17 (ix (jc_shownEntry u n (u 21 0)))) state (v 19 (ix (jc_shownEntry u n (u 21 0)))) push hS9 (jc_se_ex hS h23) hd9) wy_J_124 ⟨by decide, rfl, rfl⟩ (by decide) rfl hl.1 rfl (by decide) ⟨Nat.zero_le _, Nat.zero_le _⟩ d_J_rewrite_95 (fun r u9 H locs hp hh _ _ => ?_)
            rw [hp.2] at hh
            refine W.eq (g2 := F0 m 98 ls []) (by first | rfl | (rw [hp.1]; rfl)) ?_
            refine lv_aload_n hx hb d_J_rewrite_98 rfl (lv_at hl 0 rfl) ?_
            refine jg_J hc hh 5 (by decide) rfl wf_J_96 d_J_rewrite_99 ?_
            exact jx_iret (r := ((jc_putEntry v (jc_shownEntry u n (u 21 0)) (v 17 (ix (jc_shownEntry u n (u 21 0)))) state (v 19 (ix (jc_shownEntry u n (u 21 0)))) push) 21 0)) hc hh hQ hlk hr rfl rfl ⟨by rw [hv]; simp [jc_rew, h75], by rw [hv]; simp [jc_rew, h75]⟩ d_J_rewrite_102
          refine J70 (jc_dropLater u) _ _ _ (jc_Sh_later hS) (jc_se_dl hS h23) (by first | (simp [jc_rewrite, jc_rew, h4, h23, h31, h43, h55, h63]; done) | (simp [jc_rewrite, jc_rew, h4, h23, h31, h43, eq_true h55, h63]; done)) ?_ ?_
          ·
            exact hh
          exact lv_sub hl [1, 2, 3, 4, 5, 0] rfl
        refine lv_bipush (v := -5) hx hb d_J_rewrite_58 (by decide) ?_
        exact jx_iret (r := (-5)) hc hh hQ hlk hr rfl rfl ⟨by simp [jc_rewrite, jc_rew, h4, h23, h31, h43, h55], by simp [jc_rewrite, jc_rew, h4, h23, h31, h43, h55]⟩ d_J_rewrite_60
      refine lv_bipush (v := -6) hx hb d_J_rewrite_46 (by decide) ?_
      exact jx_iret (r := (-6)) hc hh hQ hlk hr rfl rfl ⟨by first | (simp [jc_rewrite, jc_rew, h4, h23, h31, h43]; done) | (simp [jc_rewrite, jc_rew, h4, h23, h31, eq_true h43]; done), by first | (simp [jc_rewrite, jc_rew, h4, h23, h31, h43]; done) | (simp [jc_rewrite, jc_rew, h4, h23, h31, eq_true h43]; done)⟩ d_J_rewrite_48
    refine lv_bipush (v := -4) hx hb d_J_rewrite_26 (by decide) ?_
    exact jx_iret (r := (-4)) hc hh hQ hlk hr rfl rfl ⟨by first | (simp [jc_rewrite, jc_rew, h4, h23]; done) | (simp [jc_rewrite, jc_rew, h4, eq_true h23]; done), by first | (simp [jc_rewrite, jc_rew, h4, h23]; done) | (simp [jc_rewrite, jc_rew, h4, eq_true h23]; done)⟩ d_J_rewrite_28
  refine lv_bipush (v := -3) hx hb d_J_rewrite_7 (by decide) ?_
  exact jx_iret (r := (-3)) hc hh hQ hlk hr rfl rfl ⟨by first | (simp [jc_rewrite, jc_rew, h4]; done) | (simp [jc_rewrite, jc_rew, eq_true h4]; done), by first | (simp [jc_rewrite, jc_rew, h4]; done) | (simp [jc_rewrite, jc_rew, eq_true h4]; done)⟩ d_J_rewrite_9
end
section
/-! Numbers of used steps. -/
theorem js_pred {a : Nat} (h : 0 < a) : nI a - 1 = nI (a - 1) := by
  obtain ⟨b, rfl⟩ : ∃ b, a = b + 1 := ⟨a - 1, by omega⟩
  exact nI_pred b
theorem js_pos {a : Nat} (h : ¬ nI a ≤ 0) : 0 < a := by
  rcases Nat.eq_zero_or_pos a with e | e
  · subst e
    exact absurd (by decide) h
  · exact e
theorem js_npos {a : Nat} (h : nI a ≤ 0) (ha : a < 2 ^ 31) : a = 0 := by
  rcases Nat.eq_zero_or_pos a with e | e
  · exact e
  · exact absurd h (nI_nle e ha)
theorem js_lt48 {x a : Nat} (hx : x < 2 ^ 31) (ha : a < 2 ^ 31) (h : ¬ nI x ≤ nI a) : a < x := Nat.not_le.mp (fun q => h ((nI_leI hx ha).mpr q))
theorem js_ge48 {x a : Nat} (hx : x < 2 ^ 31) (ha : a < 2 ^ 31) (h : nI x ≤ nI a) : ¬ a < x := Nat.not_lt.mpr ((nI_leI hx ha).mp h)
theorem jc_insQ_t {u : js_S} {st : Int32} {k a : Nat} (hf : a = jc_at u st k) (h0 : 0 < a) (h : u 20 (a - 1) = st) : jc_insQ u st k = true := by
  unfold jc_insQ
  rw [← hf]
  simp [h0, h]
theorem jc_insN_le {u : js_S} {st : Int32} {k : Nat} : jc_insN u st k ≤ k + 1 := by
  unfold jc_insN
  split <;> omega
theorem jc_cu_le {u : js_S} : ∀ i, (jc_cu u i).2 ≤ i
  | 0 => Nat.le_refl _
  | i + 1 => by
    have h := jc_cu_le (u := u) i
    unfold jc_cu
    split
    · omega
    · have := jc_insN_le (u := (jc_cu u i).1) (st := (jc_cu u i).1 16 i) (k := (jc_cu u i).2)
      show jc_insN _ _ _ ≤ i + 1
      omega
section JAU
variable {p : Program} {l : Launch} {e : Env} {R : Room} {s : State} {m : MethodId} {args : Array Value} {below : List Frame} {meth : Method} {c : Code} {H : Heap} {locs : List Loc} {cells slots : Nat} {Q : State → Prop} {cc : ByteArray} {pc nL : Nat} {ls : Array Slot} {rest : List Value} {own : String} {D : va_G} {aK : Nat → Nat} {ad : Nat → Nat} {cA : Nat → ClassId} {A : Nat → Prop} {u : js_S}
theorem jax_U (hc : jx_C p s m args c cc nL own D (jc_tys cA) aK A) (hh : jx_H D 158 ad (jc_cell ad aK cA u) A s.heap H locs) {x : Int32} (hx : ∃ i, i < 40 ∧ x = nI i) (hdg : decode cc pc = .ok (.iaload, 1))
    (kk : W p l e R s m args below meth c H locs cells slots Q (F0 m (pc + 1) ls (.int (u 20 (ix x)) :: rest))) : W p l e R s m args below meth c H locs cells slots Q (F0 m pc ls (.int x :: .ref (ad 5) :: rest)) := by
  obtain ⟨i, hi, rfl⟩ := hx
  rw [ix_nI (by omega)] at kk
  exact ja_U hc hh hi hdg kk
end JAU
end
section
set_option maxHeartbeats 4000000 in
set_option maxRecDepth 100000 in
theorem c_count (l : Launch) (D : va_G) (aK ad : Nat → Nat) (cA : Nat → ClassId) (u : js_S) (k : Int32) (hS : jc_Sh u) : jx_M l y_J_count b_J_count 2 (some .int) (jr 4) D (jc_tys cA) aK 158 ad (jc_cell ad aK cA) [.ref (ad 0), .int k] u (fun r : Int32 => some (.int r)) (fun r u' => r = jc_count u k ∧ u' = u) := by
  refine jx_enter "JointHistory" (by decide) rfl (by simp [lg_sl, vc_int, vc_ref, vc_long, jv_cat]) ?_
  intro p e s m args below meth c A Q H locs ls hQ hc hh hr hlk hl
  have hx := hc.1
  have hb := hc.2.1
  have hl : lv_has ls 2 [(0, .ref (ad 0)), (1, .int k)] := by simpa [lv_args, vc_int, vc_ref, vc_long, jv_cat] using hl
  refine lv_iload_n hx hb d_J_count_0 rfl (lv_at hl 1 rfl) ?_
  by_cases hk0 : k = 0
  ·
    refine lv_tableIn (off := 39) (tgt := 40) hx hb d_J_count_1 (by rw [hk0]; decide) (by rw [hk0]; decide) (by rw [hk0]; rfl) rfl ?_
    refine lv_aload_n hx hb d_J_count_40 rfl (lv_at hl 0 rfl) ?_
    refine jx_callV [] [] hc hh (c_shownNavigables l D aK ad cA u hS) wy_J_180 ⟨by decide, rfl, rfl⟩ (by decide) rfl hl.1 rfl (by decide) ⟨Nat.zero_le _, Nat.zero_le _⟩ d_J_count_41 (fun r u9 H locs hp hh _ _ => ?_)
    rw [hp.2] at hh
    refine W.eq (g2 := F0 m 44 ls [.int (nI (jc_cntS u (u 21 0) 40))]) (by rw [hp.1]; rfl) ?_
    exact jx_iret (r := (nI (jc_cntS u (u 21 0) 40))) hc hh hQ hlk hr rfl rfl ⟨by first | (simp [jc_count, hk0]; done) | (simp [jc_count, eq_true hk0]; done), rfl⟩ d_J_count_44
  by_cases hk1 : k = 1
  ·
    refine lv_tableIn (off := 44) (tgt := 45) hx hb d_J_count_1 (by rw [hk1]; decide) (by rw [hk1]; decide) (by rw [hk1]; rfl) rfl ?_
    refine lv_aload_n hx hb d_J_count_45 rfl (lv_at hl 0 rfl) ?_
    refine jx_callV [] [] hc hh (c_allNavigables l D aK ad cA u) wy_J_183 ⟨by decide, rfl, rfl⟩ (by decide) rfl hl.1 rfl (by decide) ⟨Nat.zero_le _, Nat.zero_le _⟩ d_J_count_46 (fun r u9 H locs hp hh _ _ => ?_)
    rw [hp.2] at hh
    refine W.eq (g2 := F0 m 49 ls [.int (nI (jc_cntN u 40))]) (by rw [hp.1]; rfl) ?_
    exact jx_iret (r := (nI (jc_cntN u 40))) hc hh hQ hlk hr rfl rfl ⟨by first | (simp [jc_count, hk0, hk1]; done) | (simp [jc_count, hk0, eq_true hk1]; done), rfl⟩ d_J_count_49
  by_cases hk2 : k = 2
  ·
    refine lv_tableIn (off := 49) (tgt := 50) hx hb d_J_count_1 (by rw [hk2]; decide) (by rw [hk2]; decide) (by rw [hk2]; rfl) rfl ?_
    refine lv_aload_n hx hb d_J_count_50 rfl (lv_at hl 0 rfl) ?_
    refine lv_ldc hx hb hc.2.2.2.1 (hc.2.2.2.2.1 _ wc_J_186) d_J_count_51 ?_
    refine jx_callV [.int 2147483647] [] hc hh (c_entriesUpTo l D aK ad cA u 2147483647) wy_J_187 ⟨by decide, rfl, rfl⟩ (by decide) rfl hl.1 rfl (by decide) ⟨Nat.zero_le _, Nat.zero_le _⟩ d_J_count_53 (fun r u9 H locs hp hh _ _ => ?_)
    rw [hp.2] at hh
    refine W.eq (g2 := F0 m 56 ls [.int (nI (jc_cntE u 2147483647 40))]) (by rw [hp.1]; rfl) ?_
    exact jx_iret (r := (nI (jc_cntE u 2147483647 40))) hc hh hQ hlk hr rfl rfl ⟨by first | (simp [jc_count, hk0, hk1, hk2]; done) | (simp [jc_count, hk0, hk1, eq_true hk2]; done), rfl⟩ d_J_count_56
  by_cases hk3 : k = 3
  ·
    refine lv_tableIn (off := 56) (tgt := 57) hx hb d_J_count_1 (by rw [hk3]; decide) (by rw [hk3]; decide) (by rw [hk3]; rfl) rfl ?_
    refine lv_aload_n hx hb d_J_count_57 rfl (lv_at hl 0 rfl) ?_
    refine jg_J hc hh 6 (by decide) rfl wf_J_190 d_J_count_58 ?_
    exact jx_iret (r := (u 22 0)) hc hh hQ hlk hr rfl rfl ⟨by first | (simp [jc_count, hk0, hk1, hk2, hk3]; done) | (simp [jc_count, hk0, hk1, hk2, eq_true hk3]; done), rfl⟩ d_J_count_61
  by_cases hk4 : k = 4
  ·
    refine lv_tableIn (off := 61) (tgt := 62) hx hb d_J_count_1 (by rw [hk4]; decide) (by rw [hk4]; decide) (by rw [hk4]; rfl) rfl ?_
    refine lv_aload_n hx hb d_J_count_62 rfl (lv_at hl 0 rfl) ?_
    refine jg_J hc hh 7 (by decide) rfl wf_J_117 d_J_count_63 ?_
    exact jx_iret (r := (u 23 0)) hc hh hQ hlk hr rfl rfl ⟨by first | (simp [jc_count, hk0, hk1, hk2, hk3, hk4]; done) | (simp [jc_count, hk0, hk1, hk2, hk3, eq_true hk4]; done), rfl⟩ d_J_count_66
  by_cases hk5 : k = 5
  ·
    refine lv_tableIn (off := 66) (tgt := 67) hx hb d_J_count_1 (by rw [hk5]; decide) (by rw [hk5]; decide) (by rw [hk5]; rfl) rfl ?_
    refine lv_aload_n hx hb d_J_count_67 rfl (lv_at hl 0 rfl) ?_
    refine jg_J hc hh 8 (by decide) rfl wf_J_193 d_J_count_68 ?_
    exact jx_iret (r := (u 24 0)) hc hh hQ hlk hr rfl rfl ⟨by first | (simp [jc_count, hk0, hk1, hk2, hk3, hk4, hk5]; done) | (simp [jc_count, hk0, hk1, hk2, hk3, hk4, eq_true hk5]; done), rfl⟩ d_J_count_71
  refine lv_tableOut (tgt := 72) hx hb d_J_count_1 (by have q0 := lv_neT (a := 0) hk0 rfl; have q1 := lv_neT (a := 1) hk1 rfl; have q2 := lv_neT (a := 2) hk2 rfl; have q3 := lv_neT (a := 3) hk3 rfl; have q4 := lv_neT (a := 4) hk4 rfl; have q5 := lv_neT (a := 5) hk5 rfl; omega) rfl ?_
  refine lv_bipush (v := -7) hx hb d_J_count_72 (by decide) ?_
  exact jx_iret (r := (-7)) hc hh hQ hlk hr rfl rfl ⟨by simp [jc_count, hk0, hk1, hk2, hk3, hk4, hk5], rfl⟩ d_J_count_74
set_option maxHeartbeats 4000000 in
set_option maxRecDepth 100000 in
theorem c_insertStep (l : Launch) (D : va_G) (aK ad : Nat → Nat) (cA : Nat → ClassId) (u : js_S) (st : Int32) (k : Nat) (hk : k < 40) : jx_M l y_J_insertStep b_J_insertStep 5 (some .int) (jr 1) D (jc_tys cA) aK 158 ad (jc_cell ad aK cA) [.ref (ad 0), .int st, .int (nI k)] u (fun r : Int32 => some (.int r)) (fun r u' => r = nI (jc_insN u st k) ∧ u' = (jc_insS u st k)) := by
  refine jx_enter "JointHistory" (by decide) rfl (by simp [lg_sl, vc_int, vc_ref, vc_long, jv_cat]) ?_
  intro p e s m args below meth c A Q H locs ls hQ hc hh hr hlk hl
  have hx := hc.1
  have hb := hc.2.1
  have hl : lv_has ls 5 [(0, .ref (ad 0)), (1, .int st), (2, .int (nI k))] := by simpa [lv_args, vc_int, vc_ref, vc_long, jv_cat] using hl
  refine lv_iload_n hx hb d_J_insertStep_0 rfl (lv_at hl 2 rfl) ?_
  refine lv_istore_n (i := 3) (lv' := [(3, .int (nI k)), (0, .ref (ad 0)), (1, .int st), (2, .int (nI k))]) hx hb d_J_insertStep_1 rfl hl (by decide) rfl (fun ls hl => ?_)
  have L2 : ∀ (n : Nat)  (ls : Array Slot), n ≤ k → (jc_at u st n = jc_at u st k) → lv_has ls 5 [(0, .ref (ad 0)), (1, .int st), (2, .int (nI k)), (3, .int (nI n))] → W p l e (jr 1) s m args below meth c H locs 0 0 Q (F0 m 2 ls []) := by
    intro n
    induction n with
    | zero =>
      intro  ls hm hf hl
      refine lv_iload_n hx hb d_J_insertStep_2 rfl (lv_at hl 3 rfl) ?_
      refine lv_if_le (tgt := 24) hx hb d_J_insertStep_3 rfl (fun h3 => ?_) (fun hq => absurd (by decide) hq)
      have J24 : ∀ (a : Nat) (ls : Array Slot), (a ≤ k) → (a = jc_at u st k) → lv_has ls 5 [(0, .ref (ad 0)), (1, .int st), (2, .int (nI k)), (3, .int (nI a))] → W p l e (jr 1) s m args below meth c H locs 0 0 Q (F0 m 24 ls []) := by
        intro a ls ha hf hl
        refine lv_iload_n hx hb d_J_insertStep_24 rfl (lv_at hl 3 rfl) ?_
        refine lv_if_le (tgt := 42) hx hb d_J_insertStep_25 rfl (fun h25 => ?_) (fun h25 => ?_)
        ·
          have J42 : ∀  (ls : Array Slot), (jc_insQ u st k = false) → lv_has ls 5 [(0, .ref (ad 0)), (1, .int st), (2, .int (nI k)), (3, .int (nI a))] → W p l e (jr 1) s m args below meth c H locs 0 0 Q (F0 m 42 ls []) := by
            intro  ls hq hl
            refine lv_iload_n hx hb d_J_insertStep_42 rfl (lv_at hl 2 rfl) ?_
            refine lv_istore (i := 4) (lv' := [(4, .int (nI k)), (0, .ref (ad 0)), (1, .int st), (2, .int (nI k)), (3, .int (nI a))]) hx hb d_J_insertStep_43 hl (by decide) rfl (fun ls hl => ?_)
            have L45 : ∀ (n : Nat) (v : js_S) (H : Heap) (locs : List Loc) (ls : Array Slot), n ≤ k → (jc_sh v a n = jc_sh u a k) → jx_H D 158 ad (jc_cell ad aK cA v) A s.heap H locs → lv_has ls 5 [(0, .ref (ad 0)), (1, .int st), (2, .int (nI k)), (3, .int (nI a)), (4, .int (nI n))] → W p l e (jr 1) s m args below meth c H locs 0 0 Q (F0 m 45 ls []) := by
              intro n
              induction n with
              | zero =>
                intro v H locs ls hm hs hh hl
                refine lv_iload hx hb d_J_insertStep_45 (lv_at hl 4 rfl) ?_
                refine lv_iload_n hx hb d_J_insertStep_47 rfl (lv_at hl 3 rfl) ?_
                refine lv_icmp_le (tgt := 73) hx hb d_J_insertStep_48 rfl (fun h48 => ?_) (fun hq => absurd (nI_le (Nat.zero_le _) (by omega)) hq)
                have J73 : ∀ (v : js_S) (H : Heap) (locs : List Loc) (ls : Array Slot), (v = jc_sh u a k) → jx_H D 158 ad (jc_cell ad aK cA v) A s.heap H locs → lv_has ls 5 [(0, .ref (ad 0)), (1, .int st), (2, .int (nI k)), (3, .int (nI a))] → W p l e (jr 1) s m args below meth c H locs 0 0 Q (F0 m 73 ls []) := by
                  intro v H locs ls hv hh hl
                  refine lv_aload_n hx hb d_J_insertStep_73 rfl (lv_at hl 0 rfl) ?_
                  refine jg_J hc hh 4 (by decide) rfl wf_J_33 d_J_insertStep_74 ?_
                  refine lv_iload_n hx hb d_J_insertStep_77 rfl (lv_at hl 3 rfl) ?_
                  refine lv_iload_n hx hb d_J_insertStep_78 rfl (lv_at hl 1 rfl) ?_
                  refine jp_U hc hh (by omega) d_J_insertStep_79 (fun H locs hh => ?_)
                  refine lv_iload_n hx hb d_J_insertStep_80 rfl (lv_at hl 2 rfl) ?_
                  refine lv_iconst (v := 1) hx hb d_J_insertStep_81 (by decide) ?_
                  refine lv_iadd hx hb d_J_insertStep_82 ?_
                  exact jx_iret (r := (nI k + 1)) hc hh hQ hlk hr rfl rfl ⟨by unfold jc_insN; rw [if_neg (by rw [hq]; decide)]; exact nI_1 k, by unfold jc_insS; rw [if_neg (by rw [hq]; decide), hv, hf]; rfl⟩ d_J_insertStep_83
                refine J73 v _ _ _ (by rw [← hs]; first | rfl | simp [jc_sh, js_ge48 (show n + 1 < 2 ^ 31 by omega) (show a < 2 ^ 31 by omega) h48]) ?_ ?_
                ·
                  exact hh
                exact lv_sub hl [0, 1, 2, 3] rfl
              | succ n ih =>
                intro v H locs ls hm hs hh hl
                refine lv_iload hx hb d_J_insertStep_45 (lv_at hl 4 rfl) ?_
                refine lv_iload_n hx hb d_J_insertStep_47 rfl (lv_at hl 3 rfl) ?_
                refine lv_icmp_le (tgt := 73) hx hb d_J_insertStep_48 rfl (fun h48 => ?_) (fun h48 => ?_)
                ·
                  have J73 : ∀ (v : js_S) (H : Heap) (locs : List Loc) (ls : Array Slot), (v = jc_sh u a k) → jx_H D 158 ad (jc_cell ad aK cA v) A s.heap H locs → lv_has ls 5 [(0, .ref (ad 0)), (1, .int st), (2, .int (nI k)), (3, .int (nI a))] → W p l e (jr 1) s m args below meth c H locs 0 0 Q (F0 m 73 ls []) := by
                    intro v H locs ls hv hh hl
                    refine lv_aload_n hx hb d_J_insertStep_73 rfl (lv_at hl 0 rfl) ?_
                    refine jg_J hc hh 4 (by decide) rfl wf_J_33 d_J_insertStep_74 ?_
                    refine lv_iload_n hx hb d_J_insertStep_77 rfl (lv_at hl 3 rfl) ?_
                    refine lv_iload_n hx hb d_J_insertStep_78 rfl (lv_at hl 1 rfl) ?_
                    refine jp_U hc hh (by omega) d_J_insertStep_79 (fun H locs hh => ?_)
                    refine lv_iload_n hx hb d_J_insertStep_80 rfl (lv_at hl 2 rfl) ?_
                    refine lv_iconst (v := 1) hx hb d_J_insertStep_81 (by decide) ?_
                    refine lv_iadd hx hb d_J_insertStep_82 ?_
                    exact jx_iret (r := (nI k + 1)) hc hh hQ hlk hr rfl rfl ⟨by unfold jc_insN; rw [if_neg (by rw [hq]; decide)]; exact nI_1 k, by unfold jc_insS; rw [if_neg (by rw [hq]; decide), hv, hf]; rfl⟩ d_J_insertStep_83
                  refine J73 v _ _ _ (by rw [← hs]; first | rfl | simp [jc_sh, js_ge48 (show n + 1 < 2 ^ 31 by omega) (show a < 2 ^ 31 by omega) h48]) ?_ ?_
                  ·
                    exact hh
                  exact lv_sub hl [0, 1, 2, 3] rfl
                refine lv_aload_n hx hb d_J_insertStep_51 rfl (lv_at hl 0 rfl) ?_
                refine jg_J hc hh 4 (by decide) rfl wf_J_33 d_J_insertStep_52 ?_
                refine lv_iload hx hb d_J_insertStep_55 (lv_at hl 4 rfl) ?_
                refine lv_aload_n hx hb d_J_insertStep_57 rfl (lv_at hl 0 rfl) ?_
                refine jg_J hc hh 4 (by decide) rfl wf_J_33 d_J_insertStep_58 ?_
                refine lv_iload hx hb d_J_insertStep_61 (lv_at hl 4 rfl) ?_
                refine lv_iconst (v := 1) hx hb d_J_insertStep_63 (by decide) ?_
                refine lv_isub hx hb d_J_insertStep_64 ?_
                rw [nI_pred]
                refine ja_U hc hh (by omega) d_J_insertStep_65 ?_
                refine jp_U hc hh (by omega) d_J_insertStep_66 (fun H locs hh => ?_)
                refine lv_iinc (k := 4) (v := nI n) (lv' := [(4, .int (nI n)), (0, .ref (ad 0)), (1, .int st), (2, .int (nI k)), (3, .int (nI a))]) hx hb d_J_insertStep_67 hl rfl (pk_m1 n) (by decide) rfl (fun ls hl => ?_)
                refine lv_goto (tgt := 45) hx hb d_J_insertStep_70 rfl ?_
                refine ih (js_up v 20 (n + 1) (v 20 n)) _ _ _ (by omega) (by rw [← hs]; simp [jc_sh, js_lt48 (show n + 1 < 2 ^ 31 by omega) (show a < 2 ^ 31 by omega) h48]) ?_ ?_
                ·
                  exact hh
                exact lv_sub hl [1, 2, 3, 4, 0] rfl
            refine L45 k u _ _ _ (by omega) rfl ?_ ?_
            ·
              exact hh
            exact lv_sub hl [1, 2, 3, 4, 0] rfl
          refine J42 _ (by unfold jc_insQ; rw [← hf]; first | simp [js_npos h25 (by omega)] | simp [h37]) ?_
          exact lv_sub hl [0, 1, 2, 3] rfl
        refine lv_aload_n hx hb d_J_insertStep_28 rfl (lv_at hl 0 rfl) ?_
        refine jg_J hc hh 4 (by decide) rfl wf_J_33 d_J_insertStep_29 ?_
        refine lv_iload_n hx hb d_J_insertStep_32 rfl (lv_at hl 3 rfl) ?_
        refine lv_iconst (v := 1) hx hb d_J_insertStep_33 (by decide) ?_
        refine lv_isub hx hb d_J_insertStep_34 ?_
        rw [js_pred (js_pos h25)]
        refine ja_U hc hh (by omega) d_J_insertStep_35 ?_
        refine lv_iload_n hx hb d_J_insertStep_36 rfl (lv_at hl 1 rfl) ?_
        refine lv_icmp_ne (tgt := 42) hx hb d_J_insertStep_37 rfl (fun h37 => ?_) (fun h37 => ?_)
        ·
          have J42 : ∀  (ls : Array Slot), (jc_insQ u st k = false) → lv_has ls 5 [(0, .ref (ad 0)), (1, .int st), (2, .int (nI k)), (3, .int (nI a))] → W p l e (jr 1) s m args below meth c H locs 0 0 Q (F0 m 42 ls []) := by
            intro  ls hq hl
            refine lv_iload_n hx hb d_J_insertStep_42 rfl (lv_at hl 2 rfl) ?_
            refine lv_istore (i := 4) (lv' := [(4, .int (nI k)), (0, .ref (ad 0)), (1, .int st), (2, .int (nI k)), (3, .int (nI a))]) hx hb d_J_insertStep_43 hl (by decide) rfl (fun ls hl => ?_)
            have L45 : ∀ (n : Nat) (v : js_S) (H : Heap) (locs : List Loc) (ls : Array Slot), n ≤ k → (jc_sh v a n = jc_sh u a k) → jx_H D 158 ad (jc_cell ad aK cA v) A s.heap H locs → lv_has ls 5 [(0, .ref (ad 0)), (1, .int st), (2, .int (nI k)), (3, .int (nI a)), (4, .int (nI n))] → W p l e (jr 1) s m args below meth c H locs 0 0 Q (F0 m 45 ls []) := by
              intro n
              induction n with
              | zero =>
                intro v H locs ls hm hs hh hl
                refine lv_iload hx hb d_J_insertStep_45 (lv_at hl 4 rfl) ?_
                refine lv_iload_n hx hb d_J_insertStep_47 rfl (lv_at hl 3 rfl) ?_
                refine lv_icmp_le (tgt := 73) hx hb d_J_insertStep_48 rfl (fun h48 => ?_) (fun hq => absurd (nI_le (Nat.zero_le _) (by omega)) hq)
                have J73 : ∀ (v : js_S) (H : Heap) (locs : List Loc) (ls : Array Slot), (v = jc_sh u a k) → jx_H D 158 ad (jc_cell ad aK cA v) A s.heap H locs → lv_has ls 5 [(0, .ref (ad 0)), (1, .int st), (2, .int (nI k)), (3, .int (nI a))] → W p l e (jr 1) s m args below meth c H locs 0 0 Q (F0 m 73 ls []) := by
                  intro v H locs ls hv hh hl
                  refine lv_aload_n hx hb d_J_insertStep_73 rfl (lv_at hl 0 rfl) ?_
                  refine jg_J hc hh 4 (by decide) rfl wf_J_33 d_J_insertStep_74 ?_
                  refine lv_iload_n hx hb d_J_insertStep_77 rfl (lv_at hl 3 rfl) ?_
                  refine lv_iload_n hx hb d_J_insertStep_78 rfl (lv_at hl 1 rfl) ?_
                  refine jp_U hc hh (by omega) d_J_insertStep_79 (fun H locs hh => ?_)
                  refine lv_iload_n hx hb d_J_insertStep_80 rfl (lv_at hl 2 rfl) ?_
                  refine lv_iconst (v := 1) hx hb d_J_insertStep_81 (by decide) ?_
                  refine lv_iadd hx hb d_J_insertStep_82 ?_
                  exact jx_iret (r := (nI k + 1)) hc hh hQ hlk hr rfl rfl ⟨by unfold jc_insN; rw [if_neg (by rw [hq]; decide)]; exact nI_1 k, by unfold jc_insS; rw [if_neg (by rw [hq]; decide), hv, hf]; rfl⟩ d_J_insertStep_83
                refine J73 v _ _ _ (by rw [← hs]; first | rfl | simp [jc_sh, js_ge48 (show n + 1 < 2 ^ 31 by omega) (show a < 2 ^ 31 by omega) h48]) ?_ ?_
                ·
                  exact hh
                exact lv_sub hl [0, 1, 2, 3] rfl
              | succ n ih =>
                intro v H locs ls hm hs hh hl
                refine lv_iload hx hb d_J_insertStep_45 (lv_at hl 4 rfl) ?_
                refine lv_iload_n hx hb d_J_insertStep_47 rfl (lv_at hl 3 rfl) ?_
                refine lv_icmp_le (tgt := 73) hx hb d_J_insertStep_48 rfl (fun h48 => ?_) (fun h48 => ?_)
                ·
                  have J73 : ∀ (v : js_S) (H : Heap) (locs : List Loc) (ls : Array Slot), (v = jc_sh u a k) → jx_H D 158 ad (jc_cell ad aK cA v) A s.heap H locs → lv_has ls 5 [(0, .ref (ad 0)), (1, .int st), (2, .int (nI k)), (3, .int (nI a))] → W p l e (jr 1) s m args below meth c H locs 0 0 Q (F0 m 73 ls []) := by
                    intro v H locs ls hv hh hl
                    refine lv_aload_n hx hb d_J_insertStep_73 rfl (lv_at hl 0 rfl) ?_
                    refine jg_J hc hh 4 (by decide) rfl wf_J_33 d_J_insertStep_74 ?_
                    refine lv_iload_n hx hb d_J_insertStep_77 rfl (lv_at hl 3 rfl) ?_
                    refine lv_iload_n hx hb d_J_insertStep_78 rfl (lv_at hl 1 rfl) ?_
                    refine jp_U hc hh (by omega) d_J_insertStep_79 (fun H locs hh => ?_)
                    refine lv_iload_n hx hb d_J_insertStep_80 rfl (lv_at hl 2 rfl) ?_
                    refine lv_iconst (v := 1) hx hb d_J_insertStep_81 (by decide) ?_
                    refine lv_iadd hx hb d_J_insertStep_82 ?_
                    exact jx_iret (r := (nI k + 1)) hc hh hQ hlk hr rfl rfl ⟨by unfold jc_insN; rw [if_neg (by rw [hq]; decide)]; exact nI_1 k, by unfold jc_insS; rw [if_neg (by rw [hq]; decide), hv, hf]; rfl⟩ d_J_insertStep_83
                  refine J73 v _ _ _ (by rw [← hs]; first | rfl | simp [jc_sh, js_ge48 (show n + 1 < 2 ^ 31 by omega) (show a < 2 ^ 31 by omega) h48]) ?_ ?_
                  ·
                    exact hh
                  exact lv_sub hl [0, 1, 2, 3] rfl
                refine lv_aload_n hx hb d_J_insertStep_51 rfl (lv_at hl 0 rfl) ?_
                refine jg_J hc hh 4 (by decide) rfl wf_J_33 d_J_insertStep_52 ?_
                refine lv_iload hx hb d_J_insertStep_55 (lv_at hl 4 rfl) ?_
                refine lv_aload_n hx hb d_J_insertStep_57 rfl (lv_at hl 0 rfl) ?_
                refine jg_J hc hh 4 (by decide) rfl wf_J_33 d_J_insertStep_58 ?_
                refine lv_iload hx hb d_J_insertStep_61 (lv_at hl 4 rfl) ?_
                refine lv_iconst (v := 1) hx hb d_J_insertStep_63 (by decide) ?_
                refine lv_isub hx hb d_J_insertStep_64 ?_
                rw [nI_pred]
                refine ja_U hc hh (by omega) d_J_insertStep_65 ?_
                refine jp_U hc hh (by omega) d_J_insertStep_66 (fun H locs hh => ?_)
                refine lv_iinc (k := 4) (v := nI n) (lv' := [(4, .int (nI n)), (0, .ref (ad 0)), (1, .int st), (2, .int (nI k)), (3, .int (nI a))]) hx hb d_J_insertStep_67 hl rfl (pk_m1 n) (by decide) rfl (fun ls hl => ?_)
                refine lv_goto (tgt := 45) hx hb d_J_insertStep_70 rfl ?_
                refine ih (js_up v 20 (n + 1) (v 20 n)) _ _ _ (by omega) (by rw [← hs]; simp [jc_sh, js_lt48 (show n + 1 < 2 ^ 31 by omega) (show a < 2 ^ 31 by omega) h48]) ?_ ?_
                ·
                  exact hh
                exact lv_sub hl [1, 2, 3, 4, 0] rfl
            refine L45 k u _ _ _ (by omega) rfl ?_ ?_
            ·
              exact hh
            exact lv_sub hl [1, 2, 3, 4, 0] rfl
          refine J42 _ (by unfold jc_insQ; rw [← hf]; first | simp [js_npos h25 (by omega)] | simp [h37]) ?_
          exact lv_sub hl [0, 1, 2, 3] rfl
        refine lv_iload_n hx hb d_J_insertStep_40 rfl (lv_at hl 2 rfl) ?_
        exact jx_iret (r := nI k) hc hh hQ hlk hr rfl rfl ⟨by unfold jc_insN; rw [if_pos (jc_insQ_t hf (js_pos h25) h37)], by unfold jc_insS; rw [if_pos (jc_insQ_t hf (js_pos h25) h37)]⟩ d_J_insertStep_41
      refine J24 0 _ (by omega) (by rw [← hf]; first | rfl | simp [jc_at, h15]) ?_
      exact lv_sub hl [0, 1, 2, 3] rfl
    | succ n ih =>
      intro  ls hm hf hl
      refine lv_iload_n hx hb d_J_insertStep_2 rfl (lv_at hl 3 rfl) ?_
      refine lv_if_le (tgt := 24) hx hb d_J_insertStep_3 rfl (fun hq => absurd hq (nI_nle (by omega) (by omega))) (fun h3 => ?_)
      refine lv_aload_n hx hb d_J_insertStep_6 rfl (lv_at hl 0 rfl) ?_
      refine jg_J hc hh 4 (by decide) rfl wf_J_33 d_J_insertStep_7 ?_
      refine lv_iload_n hx hb d_J_insertStep_10 rfl (lv_at hl 3 rfl) ?_
      refine lv_iconst (v := 1) hx hb d_J_insertStep_11 (by decide) ?_
      refine lv_isub hx hb d_J_insertStep_12 ?_
      rw [nI_pred]
      refine ja_U hc hh (by omega) d_J_insertStep_13 ?_
      refine lv_iload_n hx hb d_J_insertStep_14 rfl (lv_at hl 1 rfl) ?_
      refine lv_icmp_le (tgt := 24) hx hb d_J_insertStep_15 rfl (fun h15 => ?_) (fun h15 => ?_)
      ·
        have J24 : ∀ (a : Nat) (ls : Array Slot), (a ≤ k) → (a = jc_at u st k) → lv_has ls 5 [(0, .ref (ad 0)), (1, .int st), (2, .int (nI k)), (3, .int (nI a))] → W p l e (jr 1) s m args below meth c H locs 0 0 Q (F0 m 24 ls []) := by
          intro a ls ha hf hl
          refine lv_iload_n hx hb d_J_insertStep_24 rfl (lv_at hl 3 rfl) ?_
          refine lv_if_le (tgt := 42) hx hb d_J_insertStep_25 rfl (fun h25 => ?_) (fun h25 => ?_)
          ·
            have J42 : ∀  (ls : Array Slot), (jc_insQ u st k = false) → lv_has ls 5 [(0, .ref (ad 0)), (1, .int st), (2, .int (nI k)), (3, .int (nI a))] → W p l e (jr 1) s m args below meth c H locs 0 0 Q (F0 m 42 ls []) := by
              intro  ls hq hl
              refine lv_iload_n hx hb d_J_insertStep_42 rfl (lv_at hl 2 rfl) ?_
              refine lv_istore (i := 4) (lv' := [(4, .int (nI k)), (0, .ref (ad 0)), (1, .int st), (2, .int (nI k)), (3, .int (nI a))]) hx hb d_J_insertStep_43 hl (by decide) rfl (fun ls hl => ?_)
              have L45 : ∀ (n : Nat) (v : js_S) (H : Heap) (locs : List Loc) (ls : Array Slot), n ≤ k → (jc_sh v a n = jc_sh u a k) → jx_H D 158 ad (jc_cell ad aK cA v) A s.heap H locs → lv_has ls 5 [(0, .ref (ad 0)), (1, .int st), (2, .int (nI k)), (3, .int (nI a)), (4, .int (nI n))] → W p l e (jr 1) s m args below meth c H locs 0 0 Q (F0 m 45 ls []) := by
                intro n
                induction n with
                | zero =>
                  intro v H locs ls hm hs hh hl
                  refine lv_iload hx hb d_J_insertStep_45 (lv_at hl 4 rfl) ?_
                  refine lv_iload_n hx hb d_J_insertStep_47 rfl (lv_at hl 3 rfl) ?_
                  refine lv_icmp_le (tgt := 73) hx hb d_J_insertStep_48 rfl (fun h48 => ?_) (fun hq => absurd (nI_le (Nat.zero_le _) (by omega)) hq)
                  have J73 : ∀ (v : js_S) (H : Heap) (locs : List Loc) (ls : Array Slot), (v = jc_sh u a k) → jx_H D 158 ad (jc_cell ad aK cA v) A s.heap H locs → lv_has ls 5 [(0, .ref (ad 0)), (1, .int st), (2, .int (nI k)), (3, .int (nI a))] → W p l e (jr 1) s m args below meth c H locs 0 0 Q (F0 m 73 ls []) := by
                    intro v H locs ls hv hh hl
                    refine lv_aload_n hx hb d_J_insertStep_73 rfl (lv_at hl 0 rfl) ?_
                    refine jg_J hc hh 4 (by decide) rfl wf_J_33 d_J_insertStep_74 ?_
                    refine lv_iload_n hx hb d_J_insertStep_77 rfl (lv_at hl 3 rfl) ?_
                    refine lv_iload_n hx hb d_J_insertStep_78 rfl (lv_at hl 1 rfl) ?_
                    refine jp_U hc hh (by omega) d_J_insertStep_79 (fun H locs hh => ?_)
                    refine lv_iload_n hx hb d_J_insertStep_80 rfl (lv_at hl 2 rfl) ?_
                    refine lv_iconst (v := 1) hx hb d_J_insertStep_81 (by decide) ?_
                    refine lv_iadd hx hb d_J_insertStep_82 ?_
                    exact jx_iret (r := (nI k + 1)) hc hh hQ hlk hr rfl rfl ⟨by unfold jc_insN; rw [if_neg (by rw [hq]; decide)]; exact nI_1 k, by unfold jc_insS; rw [if_neg (by rw [hq]; decide), hv, hf]; rfl⟩ d_J_insertStep_83
                  refine J73 v _ _ _ (by rw [← hs]; first | rfl | simp [jc_sh, js_ge48 (show n + 1 < 2 ^ 31 by omega) (show a < 2 ^ 31 by omega) h48]) ?_ ?_
                  ·
                    exact hh
                  exact lv_sub hl [0, 1, 2, 3] rfl
                | succ n ih =>
                  intro v H locs ls hm hs hh hl
                  refine lv_iload hx hb d_J_insertStep_45 (lv_at hl 4 rfl) ?_
                  refine lv_iload_n hx hb d_J_insertStep_47 rfl (lv_at hl 3 rfl) ?_
                  refine lv_icmp_le (tgt := 73) hx hb d_J_insertStep_48 rfl (fun h48 => ?_) (fun h48 => ?_)
                  ·
                    have J73 : ∀ (v : js_S) (H : Heap) (locs : List Loc) (ls : Array Slot), (v = jc_sh u a k) → jx_H D 158 ad (jc_cell ad aK cA v) A s.heap H locs → lv_has ls 5 [(0, .ref (ad 0)), (1, .int st), (2, .int (nI k)), (3, .int (nI a))] → W p l e (jr 1) s m args below meth c H locs 0 0 Q (F0 m 73 ls []) := by
                      intro v H locs ls hv hh hl
                      refine lv_aload_n hx hb d_J_insertStep_73 rfl (lv_at hl 0 rfl) ?_
                      refine jg_J hc hh 4 (by decide) rfl wf_J_33 d_J_insertStep_74 ?_
                      refine lv_iload_n hx hb d_J_insertStep_77 rfl (lv_at hl 3 rfl) ?_
                      refine lv_iload_n hx hb d_J_insertStep_78 rfl (lv_at hl 1 rfl) ?_
                      refine jp_U hc hh (by omega) d_J_insertStep_79 (fun H locs hh => ?_)
                      refine lv_iload_n hx hb d_J_insertStep_80 rfl (lv_at hl 2 rfl) ?_
                      refine lv_iconst (v := 1) hx hb d_J_insertStep_81 (by decide) ?_
                      refine lv_iadd hx hb d_J_insertStep_82 ?_
                      exact jx_iret (r := (nI k + 1)) hc hh hQ hlk hr rfl rfl ⟨by unfold jc_insN; rw [if_neg (by rw [hq]; decide)]; exact nI_1 k, by unfold jc_insS; rw [if_neg (by rw [hq]; decide), hv, hf]; rfl⟩ d_J_insertStep_83
                    refine J73 v _ _ _ (by rw [← hs]; first | rfl | simp [jc_sh, js_ge48 (show n + 1 < 2 ^ 31 by omega) (show a < 2 ^ 31 by omega) h48]) ?_ ?_
                    ·
                      exact hh
                    exact lv_sub hl [0, 1, 2, 3] rfl
                  refine lv_aload_n hx hb d_J_insertStep_51 rfl (lv_at hl 0 rfl) ?_
                  refine jg_J hc hh 4 (by decide) rfl wf_J_33 d_J_insertStep_52 ?_
                  refine lv_iload hx hb d_J_insertStep_55 (lv_at hl 4 rfl) ?_
                  refine lv_aload_n hx hb d_J_insertStep_57 rfl (lv_at hl 0 rfl) ?_
                  refine jg_J hc hh 4 (by decide) rfl wf_J_33 d_J_insertStep_58 ?_
                  refine lv_iload hx hb d_J_insertStep_61 (lv_at hl 4 rfl) ?_
                  refine lv_iconst (v := 1) hx hb d_J_insertStep_63 (by decide) ?_
                  refine lv_isub hx hb d_J_insertStep_64 ?_
                  rw [nI_pred]
                  refine ja_U hc hh (by omega) d_J_insertStep_65 ?_
                  refine jp_U hc hh (by omega) d_J_insertStep_66 (fun H locs hh => ?_)
                  refine lv_iinc (k := 4) (v := nI n) (lv' := [(4, .int (nI n)), (0, .ref (ad 0)), (1, .int st), (2, .int (nI k)), (3, .int (nI a))]) hx hb d_J_insertStep_67 hl rfl (pk_m1 n) (by decide) rfl (fun ls hl => ?_)
                  refine lv_goto (tgt := 45) hx hb d_J_insertStep_70 rfl ?_
                  refine ih (js_up v 20 (n + 1) (v 20 n)) _ _ _ (by omega) (by rw [← hs]; simp [jc_sh, js_lt48 (show n + 1 < 2 ^ 31 by omega) (show a < 2 ^ 31 by omega) h48]) ?_ ?_
                  ·
                    exact hh
                  exact lv_sub hl [1, 2, 3, 4, 0] rfl
              refine L45 k u _ _ _ (by omega) rfl ?_ ?_
              ·
                exact hh
              exact lv_sub hl [1, 2, 3, 4, 0] rfl
            refine J42 _ (by unfold jc_insQ; rw [← hf]; first | simp [js_npos h25 (by omega)] | simp [h37]) ?_
            exact lv_sub hl [0, 1, 2, 3] rfl
          refine lv_aload_n hx hb d_J_insertStep_28 rfl (lv_at hl 0 rfl) ?_
          refine jg_J hc hh 4 (by decide) rfl wf_J_33 d_J_insertStep_29 ?_
          refine lv_iload_n hx hb d_J_insertStep_32 rfl (lv_at hl 3 rfl) ?_
          refine lv_iconst (v := 1) hx hb d_J_insertStep_33 (by decide) ?_
          refine lv_isub hx hb d_J_insertStep_34 ?_
          rw [js_pred (js_pos h25)]
          refine ja_U hc hh (by omega) d_J_insertStep_35 ?_
          refine lv_iload_n hx hb d_J_insertStep_36 rfl (lv_at hl 1 rfl) ?_
          refine lv_icmp_ne (tgt := 42) hx hb d_J_insertStep_37 rfl (fun h37 => ?_) (fun h37 => ?_)
          ·
            have J42 : ∀  (ls : Array Slot), (jc_insQ u st k = false) → lv_has ls 5 [(0, .ref (ad 0)), (1, .int st), (2, .int (nI k)), (3, .int (nI a))] → W p l e (jr 1) s m args below meth c H locs 0 0 Q (F0 m 42 ls []) := by
              intro  ls hq hl
              refine lv_iload_n hx hb d_J_insertStep_42 rfl (lv_at hl 2 rfl) ?_
              refine lv_istore (i := 4) (lv' := [(4, .int (nI k)), (0, .ref (ad 0)), (1, .int st), (2, .int (nI k)), (3, .int (nI a))]) hx hb d_J_insertStep_43 hl (by decide) rfl (fun ls hl => ?_)
              have L45 : ∀ (n : Nat) (v : js_S) (H : Heap) (locs : List Loc) (ls : Array Slot), n ≤ k → (jc_sh v a n = jc_sh u a k) → jx_H D 158 ad (jc_cell ad aK cA v) A s.heap H locs → lv_has ls 5 [(0, .ref (ad 0)), (1, .int st), (2, .int (nI k)), (3, .int (nI a)), (4, .int (nI n))] → W p l e (jr 1) s m args below meth c H locs 0 0 Q (F0 m 45 ls []) := by
                intro n
                induction n with
                | zero =>
                  intro v H locs ls hm hs hh hl
                  refine lv_iload hx hb d_J_insertStep_45 (lv_at hl 4 rfl) ?_
                  refine lv_iload_n hx hb d_J_insertStep_47 rfl (lv_at hl 3 rfl) ?_
                  refine lv_icmp_le (tgt := 73) hx hb d_J_insertStep_48 rfl (fun h48 => ?_) (fun hq => absurd (nI_le (Nat.zero_le _) (by omega)) hq)
                  have J73 : ∀ (v : js_S) (H : Heap) (locs : List Loc) (ls : Array Slot), (v = jc_sh u a k) → jx_H D 158 ad (jc_cell ad aK cA v) A s.heap H locs → lv_has ls 5 [(0, .ref (ad 0)), (1, .int st), (2, .int (nI k)), (3, .int (nI a))] → W p l e (jr 1) s m args below meth c H locs 0 0 Q (F0 m 73 ls []) := by
                    intro v H locs ls hv hh hl
                    refine lv_aload_n hx hb d_J_insertStep_73 rfl (lv_at hl 0 rfl) ?_
                    refine jg_J hc hh 4 (by decide) rfl wf_J_33 d_J_insertStep_74 ?_
                    refine lv_iload_n hx hb d_J_insertStep_77 rfl (lv_at hl 3 rfl) ?_
                    refine lv_iload_n hx hb d_J_insertStep_78 rfl (lv_at hl 1 rfl) ?_
                    refine jp_U hc hh (by omega) d_J_insertStep_79 (fun H locs hh => ?_)
                    refine lv_iload_n hx hb d_J_insertStep_80 rfl (lv_at hl 2 rfl) ?_
                    refine lv_iconst (v := 1) hx hb d_J_insertStep_81 (by decide) ?_
                    refine lv_iadd hx hb d_J_insertStep_82 ?_
                    exact jx_iret (r := (nI k + 1)) hc hh hQ hlk hr rfl rfl ⟨by unfold jc_insN; rw [if_neg (by rw [hq]; decide)]; exact nI_1 k, by unfold jc_insS; rw [if_neg (by rw [hq]; decide), hv, hf]; rfl⟩ d_J_insertStep_83
                  refine J73 v _ _ _ (by rw [← hs]; first | rfl | simp [jc_sh, js_ge48 (show n + 1 < 2 ^ 31 by omega) (show a < 2 ^ 31 by omega) h48]) ?_ ?_
                  ·
                    exact hh
                  exact lv_sub hl [0, 1, 2, 3] rfl
                | succ n ih =>
                  intro v H locs ls hm hs hh hl
                  refine lv_iload hx hb d_J_insertStep_45 (lv_at hl 4 rfl) ?_
                  refine lv_iload_n hx hb d_J_insertStep_47 rfl (lv_at hl 3 rfl) ?_
                  refine lv_icmp_le (tgt := 73) hx hb d_J_insertStep_48 rfl (fun h48 => ?_) (fun h48 => ?_)
                  ·
                    have J73 : ∀ (v : js_S) (H : Heap) (locs : List Loc) (ls : Array Slot), (v = jc_sh u a k) → jx_H D 158 ad (jc_cell ad aK cA v) A s.heap H locs → lv_has ls 5 [(0, .ref (ad 0)), (1, .int st), (2, .int (nI k)), (3, .int (nI a))] → W p l e (jr 1) s m args below meth c H locs 0 0 Q (F0 m 73 ls []) := by
                      intro v H locs ls hv hh hl
                      refine lv_aload_n hx hb d_J_insertStep_73 rfl (lv_at hl 0 rfl) ?_
                      refine jg_J hc hh 4 (by decide) rfl wf_J_33 d_J_insertStep_74 ?_
                      refine lv_iload_n hx hb d_J_insertStep_77 rfl (lv_at hl 3 rfl) ?_
                      refine lv_iload_n hx hb d_J_insertStep_78 rfl (lv_at hl 1 rfl) ?_
                      refine jp_U hc hh (by omega) d_J_insertStep_79 (fun H locs hh => ?_)
                      refine lv_iload_n hx hb d_J_insertStep_80 rfl (lv_at hl 2 rfl) ?_
                      refine lv_iconst (v := 1) hx hb d_J_insertStep_81 (by decide) ?_
                      refine lv_iadd hx hb d_J_insertStep_82 ?_
                      exact jx_iret (r := (nI k + 1)) hc hh hQ hlk hr rfl rfl ⟨by unfold jc_insN; rw [if_neg (by rw [hq]; decide)]; exact nI_1 k, by unfold jc_insS; rw [if_neg (by rw [hq]; decide), hv, hf]; rfl⟩ d_J_insertStep_83
                    refine J73 v _ _ _ (by rw [← hs]; first | rfl | simp [jc_sh, js_ge48 (show n + 1 < 2 ^ 31 by omega) (show a < 2 ^ 31 by omega) h48]) ?_ ?_
                    ·
                      exact hh
                    exact lv_sub hl [0, 1, 2, 3] rfl
                  refine lv_aload_n hx hb d_J_insertStep_51 rfl (lv_at hl 0 rfl) ?_
                  refine jg_J hc hh 4 (by decide) rfl wf_J_33 d_J_insertStep_52 ?_
                  refine lv_iload hx hb d_J_insertStep_55 (lv_at hl 4 rfl) ?_
                  refine lv_aload_n hx hb d_J_insertStep_57 rfl (lv_at hl 0 rfl) ?_
                  refine jg_J hc hh 4 (by decide) rfl wf_J_33 d_J_insertStep_58 ?_
                  refine lv_iload hx hb d_J_insertStep_61 (lv_at hl 4 rfl) ?_
                  refine lv_iconst (v := 1) hx hb d_J_insertStep_63 (by decide) ?_
                  refine lv_isub hx hb d_J_insertStep_64 ?_
                  rw [nI_pred]
                  refine ja_U hc hh (by omega) d_J_insertStep_65 ?_
                  refine jp_U hc hh (by omega) d_J_insertStep_66 (fun H locs hh => ?_)
                  refine lv_iinc (k := 4) (v := nI n) (lv' := [(4, .int (nI n)), (0, .ref (ad 0)), (1, .int st), (2, .int (nI k)), (3, .int (nI a))]) hx hb d_J_insertStep_67 hl rfl (pk_m1 n) (by decide) rfl (fun ls hl => ?_)
                  refine lv_goto (tgt := 45) hx hb d_J_insertStep_70 rfl ?_
                  refine ih (js_up v 20 (n + 1) (v 20 n)) _ _ _ (by omega) (by rw [← hs]; simp [jc_sh, js_lt48 (show n + 1 < 2 ^ 31 by omega) (show a < 2 ^ 31 by omega) h48]) ?_ ?_
                  ·
                    exact hh
                  exact lv_sub hl [1, 2, 3, 4, 0] rfl
              refine L45 k u _ _ _ (by omega) rfl ?_ ?_
              ·
                exact hh
              exact lv_sub hl [1, 2, 3, 4, 0] rfl
            refine J42 _ (by unfold jc_insQ; rw [← hf]; first | simp [js_npos h25 (by omega)] | simp [h37]) ?_
            exact lv_sub hl [0, 1, 2, 3] rfl
          refine lv_iload_n hx hb d_J_insertStep_40 rfl (lv_at hl 2 rfl) ?_
          exact jx_iret (r := nI k) hc hh hQ hlk hr rfl rfl ⟨by unfold jc_insN; rw [if_pos (jc_insQ_t hf (js_pos h25) h37)], by unfold jc_insS; rw [if_pos (jc_insQ_t hf (js_pos h25) h37)]⟩ d_J_insertStep_41
        refine J24 (n + 1) _ (by omega) (by rw [← hf]; first | rfl | simp [jc_at, h15]) ?_
        exact lv_sub hl [0, 1, 2, 3] rfl
      refine lv_iinc (k := 3) (v := nI n) (lv' := [(3, .int (nI n)), (0, .ref (ad 0)), (1, .int st), (2, .int (nI k))]) hx hb d_J_insertStep_18 hl rfl (pk_m1 n) (by decide) rfl (fun ls hl => ?_)
      refine lv_goto (tgt := 2) hx hb d_J_insertStep_21 rfl ?_
      refine ih _ (by omega) (by rw [← hf]; simp [jc_at, h15]) ?_
      exact lv_sub hl [1, 2, 3, 0] rfl
  refine L2 k _ (by omega) rfl ?_
  exact lv_sub hl [1, 2, 3, 0] rfl
set_option maxHeartbeats 4000000 in
set_option maxRecDepth 100000 in
theorem c_collectUsedSteps (l : Launch) (D : va_G) (aK ad : Nat → Nat) (cA : Nat → ClassId) (u : js_S) : jx_M l y_J_collectUsedSteps b_J_collectUsedSteps 6 (some .int) (jr 2) D (jc_tys cA) aK 158 ad (jc_cell ad aK cA) [.ref (ad 0)] u (fun r : Int32 => some (.int r)) (fun r u' => r = nI (jc_cu u 40).2 ∧ u' = (jc_cu u 40).1) := by
  refine jx_enter "JointHistory" (by decide) rfl (by simp [lg_sl, vc_int, vc_ref, vc_long, jv_cat]) ?_
  intro p e s m args below meth c A Q H locs ls hQ hc hh hr hlk hl
  have hx := hc.1
  have hb := hc.2.1
  have hl : lv_has ls 6 [(0, .ref (ad 0))] := by simpa [lv_args, vc_int, vc_ref, vc_long, jv_cat] using hl
  refine lv_iconst (v := 0) hx hb d_J_collectUsedSteps_0 (by decide) ?_
  refine lv_istore_n (i := 1) (lv' := [(1, .int 0), (0, .ref (ad 0))]) hx hb d_J_collectUsedSteps_1 rfl hl (by decide) rfl (fun ls hl => ?_)
  refine lv_aload_n hx hb d_J_collectUsedSteps_2 rfl (lv_at hl 1 rfl) ?_
  refine jg_J hc hh 3 (by decide) rfl wf_J_29 d_J_collectUsedSteps_3 ?_
  refine lv_astore_n (i := 2) (lv' := [(2, .ref (ad 4)), (1, .int 0), (0, .ref (ad 0))]) hx hb d_J_collectUsedSteps_6 rfl hl (by decide) rfl (fun ls hl => ?_)
  refine lv_aload_n hx hb d_J_collectUsedSteps_7 rfl (lv_at hl 0 rfl) ?_
  refine jl_E hc hh d_J_collectUsedSteps_8 ?_
  refine lv_istore_n (i := 3) (lv' := [(3, .int (nI 40)), (2, .ref (ad 4)), (1, .int 0), (0, .ref (ad 0))]) hx hb d_J_collectUsedSteps_9 rfl hl (by decide) rfl (fun ls hl => ?_)
  refine lv_iconst (v := 0) hx hb d_J_collectUsedSteps_10 (by decide) ?_
  refine lv_istore (i := 4) (lv' := [(4, .int 0), (3, .int (nI 40)), (2, .ref (ad 4)), (1, .int 0), (0, .ref (ad 0))]) hx hb d_J_collectUsedSteps_11 hl (by decide) rfl (fun ls hl => ?_)
  have L13 : ∀ (n : Nat) (i : Nat) (H : Heap) (locs : List Loc) (ls : Array Slot), i + n = 40 → jx_H D 158 ad (jc_cell ad aK cA ((jc_cu u i).1)) A s.heap H locs → lv_has ls 6 [(0, .ref (ad 0)), (1, .int (nI (jc_cu u i).2)), (2, .ref (ad 4)), (3, .int (nI 40)), (4, .int (nI i))] → W p l e (jr 2) s m args below meth c H locs 0 0 Q (F0 m 13 ls []) := by
    intro n
    induction n with
    | zero =>
      intro i H locs ls hm hh hl
      have hi : i = 40 := by omega
      refine lv_iload hx hb d_J_collectUsedSteps_13 (lv_at hl 4 rfl) ?_
      refine lv_iload_n hx hb d_J_collectUsedSteps_15 rfl (lv_at hl 3 rfl) ?_
      refine lv_icmp_ge (tgt := 50) hx hb d_J_collectUsedSteps_16 rfl (fun h16 => ?_) (fun hq => absurd (nI_le (show 40 ≤ i by omega) (show i < 2 ^ 31 by omega)) hq)
      refine lv_iload_n hx hb d_J_collectUsedSteps_50 rfl (lv_at hl 1 rfl) ?_
      exact jx_iret (r := nI (jc_cu u i).2) hc hh hQ hlk hr rfl rfl ⟨by first | (rw [hi]; done) | (rw [hi]; rfl) | (rw [hi]; simp []; done), by first | (rw [hi]; done) | (rw [hi]; rfl) | (rw [hi]; simp []; done)⟩ d_J_collectUsedSteps_51
    | succ n ih =>
      intro i H locs ls hm hh hl
      have hi : i < 40 := by omega
      refine lv_iload hx hb d_J_collectUsedSteps_13 (lv_at hl 4 rfl) ?_
      refine lv_iload_n hx hb d_J_collectUsedSteps_15 rfl (lv_at hl 3 rfl) ?_
      refine lv_icmp_ge (tgt := 50) hx hb d_J_collectUsedSteps_16 rfl (fun hq => absurd hq (nI_ge hi (by decide))) (fun h16 => ?_)
      refine lv_aload_n hx hb d_J_collectUsedSteps_19 rfl (lv_at hl 2 rfl) ?_
      refine lv_iload hx hb d_J_collectUsedSteps_20 (lv_at hl 4 rfl) ?_
      refine ja_E hc hh hi d_J_collectUsedSteps_22 ?_
      refine jv_astore (i := 5) (lv' := [(5, jv ad 118 (nI i)), (0, .ref (ad 0)), (1, .int (nI (jc_cu u i).2)), (2, .ref (ad 4)), (3, .int (nI 40)), (4, .int (nI i))]) hx hb d_J_collectUsedSteps_23 hl (by decide) rfl (fun ls hl => ?_)
      refine jv_aload hx hb d_J_collectUsedSteps_25 (lv_at hl 0 rfl) ?_
      refine jg_E hc hh hi 0 (by decide) rfl wf_J_179 d_J_collectUsedSteps_27 ?_
      refine lv_if_eq (tgt := 44) hx hb d_J_collectUsedSteps_30 rfl (fun h30 => ?_) (fun h30 => ?_)
      ·
        refine lv_iinc (k := 5) (v := nI (i + 1)) (lv' := [(4, .int (nI (i + 1))), (5, jv ad 118 (nI i)), (0, .ref (ad 0)), (1, .int (nI (jc_cu u i).2)), (2, .ref (ad 4)), (3, .int (nI 40))]) hx hb d_J_collectUsedSteps_44 hl rfl (nI_1 i) (by decide) rfl (fun ls hl => ?_)
        refine lv_goto (tgt := 13) hx hb d_J_collectUsedSteps_47 rfl ?_
        have e1 : nI (jc_cu u (i + 1)).2 = nI (jc_cu u i).2 := by first | (simp [nI_0, jc_cu, h30]; done) | (simp [nI_0, jc_cu, eq_true h30]; done)
        have e2 : (jc_cu u (i + 1)).1 = (jc_cu u i).1 := by first | (simp [nI_0, jc_cu, h30]; done) | (simp [nI_0, jc_cu, eq_true h30]; done)
        refine ih (i + 1) _ _ _ (by omega) ?_ ?_
        ·
          try rw [e1]
          try rw [e2]
          exact hh
        try rw [e1]
        try rw [e2]
        exact lv_sub hl [2, 3, 4, 5, 0] rfl
      refine lv_aload_n hx hb d_J_collectUsedSteps_33 rfl (lv_at hl 1 rfl) ?_
      refine jv_aload hx hb d_J_collectUsedSteps_34 (lv_at hl 0 rfl) ?_
      refine jg_E hc hh hi 2 (by decide) rfl wf_J_128 d_J_collectUsedSteps_36 ?_
      refine lv_iload_n hx hb d_J_collectUsedSteps_39 rfl (lv_at hl 2 rfl) ?_
      refine jx_callV [.int ((jc_cu u i).1 16 i), .int (nI (jc_cu u i).2)] [] hc hh (c_insertStep l D aK ad cA ((jc_cu u i).1) ((jc_cu u i).1 16 i) ((jc_cu u i).2) (Nat.lt_of_le_of_lt (jc_cu_le i) hi)) wy_J_254 ⟨by decide, rfl, rfl⟩ (by decide) rfl hl.1 rfl (by decide) ⟨Nat.zero_le _, Nat.zero_le _⟩ d_J_collectUsedSteps_40 (fun r u9 H locs hp hh _ _ => ?_)
      rw [hp.2] at hh
      refine W.eq (g2 := F0 m 43 ls [.int (nI (jc_insN ((jc_cu u i).1) ((jc_cu u i).1 16 i) ((jc_cu u i).2)))]) (by rw [hp.1]; rfl) ?_
      refine lv_istore_n (i := 1) (lv' := [(1, .int (nI (jc_insN ((jc_cu u i).1) ((jc_cu u i).1 16 i) ((jc_cu u i).2)))), (5, jv ad 118 (nI i)), (0, .ref (ad 0)), (2, .ref (ad 4)), (3, .int (nI 40)), (4, .int (nI i))]) hx hb d_J_collectUsedSteps_43 rfl hl (by decide) rfl (fun ls hl => ?_)
      refine lv_iinc (k := 5) (v := nI (i + 1)) (lv' := [(4, .int (nI (i + 1))), (1, .int (nI (jc_insN ((jc_cu u i).1) ((jc_cu u i).1 16 i) ((jc_cu u i).2)))), (5, jv ad 118 (nI i)), (0, .ref (ad 0)), (2, .ref (ad 4)), (3, .int (nI 40))]) hx hb d_J_collectUsedSteps_44 hl rfl (nI_1 i) (by decide) rfl (fun ls hl => ?_)
      refine lv_goto (tgt := 13) hx hb d_J_collectUsedSteps_47 rfl ?_
      have e3 : nI (jc_cu u (i + 1)).2 = (nI (jc_insN ((jc_cu u i).1) ((jc_cu u i).1 16 i) ((jc_cu u i).2))) := by simp [nI_0, jc_cu, h30]
      have e4 : (jc_cu u (i + 1)).1 = (jc_insS ((jc_cu u i).1) ((jc_cu u i).1 16 i) ((jc_cu u i).2)) := by simp [nI_0, jc_cu, h30]
      refine ih (i + 1) _ _ _ (by omega) ?_ ?_
      ·
        try rw [e3]
        try rw [e4]
        exact hh
      try rw [e3]
      try rw [e4]
      exact lv_sub hl [3, 1, 4, 5, 0] rfl
  have e5 : nI (jc_cu u 0).2 = 0 := by simp [nI_0, jc_cu]
  have e6 : nI 0 = 0 := rfl
  have e7 : (jc_cu u 0).1 = u := by simp [nI_0, jc_cu]
  refine L13 40 0 _ _ _ (by omega) ?_ ?_
  ·
    try rw [e5]
    try rw [e6]
    try rw [e7]
    exact hh
  try rw [e5]
  try rw [e6]
  try rw [e7]
  exact lv_sub hl [4, 3, 2, 1, 0] rfl
set_option maxHeartbeats 4000000 in
set_option maxRecDepth 100000 in
theorem c_placeOfPresent (l : Launch) (D : va_G) (aK ad : Nat → Nat) (cA : Nat → ClassId) (u : js_S) (k : Nat) (hk : 0 < k ∧ k ≤ 40) : jx_M l y_J_placeOfPresent b_J_placeOfPresent 3 (some .int) (jr 1) D (jc_tys cA) aK 158 ad (jc_cell ad aK cA) [.ref (ad 0), .int (nI k)] u (fun r : Int32 => some (.int r)) (fun r u' => r = nI (jc_place u (k - 1) 0) ∧ u' = u) := by
  refine jx_enter "JointHistory" (by decide) rfl (by simp [lg_sl, vc_int, vc_ref, vc_long, jv_cat]) ?_
  intro p e s m args below meth c A Q H locs ls hQ hc hh hr hlk hl
  have hx := hc.1
  have hb := hc.2.1
  have hl : lv_has ls 3 [(0, .ref (ad 0)), (1, .int (nI k))] := by simpa [lv_args, vc_int, vc_ref, vc_long, jv_cat] using hl
  refine lv_iconst (v := 0) hx hb d_J_placeOfPresent_0 (by decide) ?_
  refine lv_istore_n (i := 2) (lv' := [(2, .int 0), (0, .ref (ad 0)), (1, .int (nI k))]) hx hb d_J_placeOfPresent_1 rfl hl (by decide) rfl (fun ls hl => ?_)
  have L2 : ∀ (n : Nat) (i : Nat) (ls : Array Slot), i + n = k - 1 → (jc_place u n i = jc_place u (k - 1) 0) → lv_has ls 3 [(0, .ref (ad 0)), (1, .int (nI k)), (2, .int (nI i))] → W p l e (jr 1) s m args below meth c H locs 0 0 Q (F0 m 2 ls []) := by
    intro n
    induction n with
    | zero =>
      intro i ls hm hf hl
      have hi : i < 40 := by omega
      refine lv_iload_n hx hb d_J_placeOfPresent_2 rfl (lv_at hl 2 rfl) ?_
      refine lv_iload_n hx hb d_J_placeOfPresent_3 rfl (lv_at hl 1 rfl) ?_
      refine lv_iconst (v := 1) hx hb d_J_placeOfPresent_4 (by decide) ?_
      refine lv_isub hx hb d_J_placeOfPresent_5 ?_
      rw [js_pred hk.1]
      refine lv_icmp_ge (tgt := 28) hx hb d_J_placeOfPresent_6 rfl (fun h6 => ?_) (fun hq => absurd (nI_le (show k - 1 ≤ i by omega) (show i < 2 ^ 31 by omega)) hq)
      refine lv_iload_n hx hb d_J_placeOfPresent_28 rfl (lv_at hl 2 rfl) ?_
      exact jx_iret (r := nI i) hc hh hQ hlk hr rfl rfl ⟨by rw [← hf]; first | rfl | simp [jc_place, h19], rfl⟩ d_J_placeOfPresent_29
    | succ n ih =>
      intro i ls hm hf hl
      have hi : i < 40 := by omega
      refine lv_iload_n hx hb d_J_placeOfPresent_2 rfl (lv_at hl 2 rfl) ?_
      refine lv_iload_n hx hb d_J_placeOfPresent_3 rfl (lv_at hl 1 rfl) ?_
      refine lv_iconst (v := 1) hx hb d_J_placeOfPresent_4 (by decide) ?_
      refine lv_isub hx hb d_J_placeOfPresent_5 ?_
      rw [js_pred hk.1]
      refine lv_icmp_ge (tgt := 28) hx hb d_J_placeOfPresent_6 rfl (fun hq => absurd hq (nI_ge (show i < k - 1 by omega) (by omega))) (fun h6 => ?_)
      refine lv_aload_n hx hb d_J_placeOfPresent_9 rfl (lv_at hl 0 rfl) ?_
      refine jg_J hc hh 4 (by decide) rfl wf_J_33 d_J_placeOfPresent_10 ?_
      refine lv_iload_n hx hb d_J_placeOfPresent_13 rfl (lv_at hl 2 rfl) ?_
      refine ja_U hc hh hi d_J_placeOfPresent_14 ?_
      refine lv_aload_n hx hb d_J_placeOfPresent_15 rfl (lv_at hl 0 rfl) ?_
      refine jg_J hc hh 5 (by decide) rfl wf_J_96 d_J_placeOfPresent_16 ?_
      refine lv_icmp_ge (tgt := 28) hx hb d_J_placeOfPresent_19 rfl (fun h19 => ?_) (fun h19 => ?_)
      ·
        refine lv_iload_n hx hb d_J_placeOfPresent_28 rfl (lv_at hl 2 rfl) ?_
        exact jx_iret (r := nI i) hc hh hQ hlk hr rfl rfl ⟨by rw [← hf]; first | rfl | simp [jc_place, h19], rfl⟩ d_J_placeOfPresent_29
      refine lv_iinc (k := 2) (v := nI (i + 1)) (lv' := [(2, .int (nI (i + 1))), (0, .ref (ad 0)), (1, .int (nI k))]) hx hb d_J_placeOfPresent_22 hl rfl (nI_1 i) (by decide) rfl (fun ls hl => ?_)
      refine lv_goto (tgt := 2) hx hb d_J_placeOfPresent_25 rfl ?_
      refine ih (i + 1) _ (by omega) (by rw [← hf]; simp [jc_place, h19]) ?_
      exact lv_sub hl [1, 2, 0] rfl
  have e1 : nI 0 = 0 := rfl
  refine L2 (k - 1) 0 _ (by omega) rfl ?_
  try rw [e1]
  exact lv_sub hl [1, 2, 0] rfl
set_option maxHeartbeats 4000000 in
set_option maxRecDepth 100000 in
theorem c_length (l : Launch) (D : va_G) (aK ad : Nat → Nat) (cA : Nat → ClassId) (u : js_S) : jx_M l y_J_length b_J_length 1 (some .int) (jr 3) D (jc_tys cA) aK 158 ad (jc_cell ad aK cA) [.ref (ad 0)] u (fun r : Int32 => some (.int r)) (fun r u' => r = nI (jc_cu u 40).2 ∧ u' = (jc_cu u 40).1) := by
  refine jx_enter "JointHistory" (by decide) rfl (by simp [lg_sl, vc_int, vc_ref, vc_long, jv_cat]) ?_
  intro p e s m args below meth c A Q H locs ls hQ hc hh hr hlk hl
  have hx := hc.1
  have hb := hc.2.1
  have hl : lv_has ls 1 [(0, .ref (ad 0))] := by simpa [lv_args, vc_int, vc_ref, vc_long, jv_cat] using hl
  refine lv_aload_n hx hb d_J_length_0 rfl (lv_at hl 0 rfl) ?_
  refine jx_callV [] [] hc hh (c_collectUsedSteps l D aK ad cA u) wy_J_142 ⟨by decide, rfl, rfl⟩ (by decide) rfl hl.1 rfl (by decide) ⟨Nat.zero_le _, Nat.zero_le _⟩ d_J_length_1 (fun r u9 H locs hp hh _ _ => ?_)
  rw [hp.2] at hh
  refine W.eq (g2 := F0 m 4 ls [.int (nI (jc_cu u 40).2)]) (by rw [hp.1]; rfl) ?_
  exact jx_iret (r := (nI (jc_cu u 40).2)) hc hh hQ hlk hr rfl rfl ⟨rfl, rfl⟩ d_J_length_4
end
section
/-! For go: the aim is a place, the shape stays. -/
theorem js_aim {a : Int64} {k : Nat} (hk : k ≤ 40) (h1 : ¬ lg_cmp a 0 < 0) (h2 : lg_cmp a (nI k).toInt64 < 0) : ∃ i, i < 40 ∧ a.toInt32 = nI i := by
  rw [lg_cmp_lt] at h1 h2
  obtain ⟨j, hj, rfl⟩ := pk_lOf h1
  rw [nI_l (by omega), pk_lLT hj (by omega)] at h2
  exact ⟨j, by omega, lN_i j⟩
theorem jc_se_jq {u : js_S} {n st : Int32} : jq 40 (jc_shownEntry u n st) := by
  by_cases h : jc_shownEntry u n st = -1
  · exact Or.inl h
  · obtain ⟨i, h1, h2, -⟩ := jc_se_row h
    exact Or.inr ⟨i, h1, h2⟩
theorem jc_Sh_sh {a : Nat} : ∀ (k : Nat) {u : js_S}, jc_Sh u → jc_Sh (jc_sh u a k)
  | 0, _, h => h
  | k + 1, _, h => by
    unfold jc_sh
    split
    · exact jc_Sh_sh k (jc_Sh_20 h)
    · exact h
theorem jc_Sh_insS {u : js_S} (h : jc_Sh u) {st : Int32} {k : Nat} : jc_Sh (jc_insS u st k) := by
  unfold jc_insS
  split
  · exact h
  · exact jc_Sh_20 (jc_Sh_sh k h)
theorem jc_Sh_cu {u : js_S} (h : jc_Sh u) : ∀ k, jc_Sh (jc_cu u k).1
  | 0 => h
  | k + 1 => by
    unfold jc_cu
    split
    · exact jc_Sh_cu h k
    · exact jc_Sh_insS (jc_Sh_cu h k)
theorem jc_Sh_move {u : js_S} (h : jc_Sh u) {x y : Int32} : jc_Sh (jc_move u x y) := by
  unfold jc_move
  split
  · exact h
  · unfold jc_mv1
    split
    · exact jc_Sh_22 h
    · exact jc_Sh_23 (jc_Sh_22 h)
theorem jc_Sh_mv {u : js_S} (h : jc_Sh u) {st : Int32} : ∀ k, jc_Sh (jc_mv u st k)
  | 0 => h
  | k + 1 => by
    unfold jc_mv
    exact jc_Sh_move (jc_Sh_mv h k)
end
section
set_option maxHeartbeats 4000000 in
set_option maxRecDepth 100000 in
theorem c_go (l : Launch) (D : va_G) (aK ad : Nat → Nat) (cA : Nat → ClassId) (u : js_S) (delta : Int32) (hS : jc_Sh u) (hne : 0 < (jc_cu u 40).2) : jx_M l y_J_go b_J_go 7 (some .int) (jr 4) D (jc_tys cA) aK 158 ad (jc_cell ad aK cA) [.ref (ad 0), .int delta] u (fun r : Int32 => some (.int r)) (fun r u' => r = (jc_go u delta).1 ∧ u' = (jc_go u delta).2) := by
  refine jx_enter "JointHistory" (by decide) rfl (by simp [lg_sl, vc_int, vc_ref, vc_long, jv_cat]) ?_
  intro p e s m args below meth c A Q H locs ls hQ hc hh hr hlk hl
  have hx := hc.1
  have hb := hc.2.1
  have hl : lv_has ls 7 [(0, .ref (ad 0)), (1, .int delta)] := by simpa [lv_args, vc_int, vc_ref, vc_long, jv_cat] using hl
  refine lv_aload_n hx hb d_J_go_0 rfl (lv_at hl 0 rfl) ?_
  refine jx_callV [] [] hc hh (c_collectUsedSteps l D aK ad cA u) wy_J_142 ⟨by decide, rfl, rfl⟩ (by decide) rfl hl.1 rfl (by decide) ⟨Nat.zero_le _, Nat.zero_le _⟩ d_J_go_1 (fun r u9 H locs hp hh _ _ => ?_)
  rw [hp.2] at hh
  refine W.eq (g2 := F0 m 4 ls [.int (nI (jc_cu u 40).2)]) (by rw [hp.1]; rfl) ?_
  have J4 : ∀ (v : js_S) (k : Nat) (H : Heap) (locs : List Loc) (ls : Array Slot), (0 < k ∧ k ≤ 40) → (jc_Sh v) → (jc_go u delta = jc_go1 v k delta) → jx_H D 158 ad (jc_cell ad aK cA v) A s.heap H locs → lv_has ls 7 [(0, .ref (ad 0)), (1, .int delta)] → W p l e (jr 4) s m args below meth c H locs 0 0 Q (F0 m 4 ls [.int (nI k)]) := by
    intro v k H locs ls hkk hSv hg hh hl
    refine lv_istore_n (i := 2) (lv' := [(2, .int (nI k)), (0, .ref (ad 0)), (1, .int delta)]) hx hb d_J_go_4 rfl hl (by decide) rfl (fun ls hl => ?_)
    refine lv_aload_n hx hb d_J_go_5 rfl (lv_at hl 1 rfl) ?_
    refine lv_iload_n hx hb d_J_go_6 rfl (lv_at hl 0 rfl) ?_
    refine jx_callV [.int (nI k)] [] hc hh (c_placeOfPresent l D aK ad cA v k hkk) wy_J_146 ⟨by decide, rfl, rfl⟩ (by decide) rfl hl.1 rfl (by decide) ⟨Nat.zero_le _, Nat.zero_le _⟩ d_J_go_7 (fun r u9 H locs hp hh _ _ => ?_)
    rw [hp.2] at hh
    refine W.eq (g2 := F0 m 10 ls [.int (nI (jc_place v (k - 1) 0))]) (by rw [hp.1]; rfl) ?_
    refine lv_i2l hx hb d_J_go_10 rfl ?_
    refine lv_iload_n hx hb d_J_go_11 rfl (lv_at hl 2 rfl) ?_
    refine lv_i2l hx hb d_J_go_12 rfl ?_
    refine lv_ladd hx hb d_J_go_13 ?_
    refine lv_lstore_n (i := 3) (lv' := [(3, .long ((nI (jc_place v (k - 1) 0)).toInt64 + delta.toInt64)), (2, .int (nI k)), (0, .ref (ad 0)), (1, .int delta)]) hx hb d_J_go_14 rfl hl (by decide) rfl (fun ls hl => ?_)
    refine lv_lload_n hx hb d_J_go_15 rfl (lv_at hl 0 rfl) ?_
    refine lv_lconst (v := 0) hx hb d_J_go_16 (by decide) ?_
    refine W.lcmp hx hb d_J_go_17 ?_
    refine lv_if_lt (tgt := 28) hx hb d_J_go_18 rfl (fun h18 => ?_) (fun h18 => ?_)
    ·
      refine lv_bipush (v := -7) hx hb d_J_go_28 (by decide) ?_
      exact jx_iret (r := (-7)) hc hh hQ hlk hr rfl rfl ⟨by rw [hg]; simp [jc_go1, jc_aim, h18], by rw [hg]; simp [jc_go1, jc_aim, h18]⟩ d_J_go_30
    refine lv_lload_n hx hb d_J_go_21 rfl (lv_at hl 0 rfl) ?_
    refine lv_iload_n hx hb d_J_go_22 rfl (lv_at hl 1 rfl) ?_
    refine lv_i2l hx hb d_J_go_23 rfl ?_
    refine W.lcmp hx hb d_J_go_24 ?_
    refine lv_if_lt (tgt := 31) hx hb d_J_go_25 rfl (fun h25 => ?_) (fun h25 => ?_)
    ·
      refine lv_aload_n hx hb d_J_go_31 rfl (lv_at hl 2 rfl) ?_
      refine jg_J hc hh 4 (by decide) rfl wf_J_33 d_J_go_32 ?_
      refine lv_lload_n hx hb d_J_go_35 rfl (lv_at hl 0 rfl) ?_
      refine lv_l2i hx hb d_J_go_36 rfl ?_
      refine jax_U hc hh (js_aim hkk.2 h18 h25) d_J_go_37 ?_
      refine lv_istore (i := 5) (lv' := [(5, .int (v 20 (ix (((nI (jc_place v (k - 1) 0)).toInt64 + delta.toInt64).toInt32)))), (3, .long ((nI (jc_place v (k - 1) 0)).toInt64 + delta.toInt64)), (2, .int (nI k)), (0, .ref (ad 0)), (1, .int delta)]) hx hb d_J_go_38 hl (by decide) rfl (fun ls hl => ?_)
      have J40 : ∀ (t : Int32) (ls : Array Slot), (jc_go1 v k delta = (t, jc_go2 v t)) → lv_has ls 7 [(0, .ref (ad 0)), (1, .int delta), (2, .int (nI k)), (5, .int t)] → W p l e (jr 4) s m args below meth c H locs 0 0 Q (F0 m 40 ls []) := by
        intro t ls hg2 hl
        refine lv_iconst (v := 0) hx hb d_J_go_40 (by decide) ?_
        refine lv_istore (i := 6) (lv' := [(6, .int 0), (0, .ref (ad 0)), (1, .int delta), (2, .int (nI k)), (5, .int t)]) hx hb d_J_go_41 hl (by decide) rfl (fun ls hl => ?_)
        have L43 : ∀ (n : Nat) (i : Nat) (H : Heap) (locs : List Loc) (ls : Array Slot), i + n = 40 → jx_H D 158 ad (jc_cell ad aK cA (jc_mv v t i)) A s.heap H locs → lv_has ls 7 [(0, .ref (ad 0)), (1, .int delta), (2, .int (nI k)), (5, .int t), (6, .int (nI i))] → W p l e (jr 4) s m args below meth c H locs 0 0 Q (F0 m 43 ls []) := by
          intro n
          induction n with
          | zero =>
            intro i H locs ls hm hh hl
            have hi : i = 40 := by omega
            refine lv_iload hx hb d_J_go_43 (lv_at hl 4 rfl) ?_
            refine lv_bipush (v := 40) hx hb d_J_go_45 (by decide) ?_
            refine lv_icmp_ge (tgt := 78) hx hb d_J_go_47 rfl (fun h47 => ?_) (fun hq => absurd (nI_le (show 40 ≤ i by omega) (show i < 2 ^ 31 by omega)) hq)
            refine lv_aload_n hx hb d_J_go_78 rfl (lv_at hl 0 rfl) ?_
            refine lv_iload hx hb d_J_go_79 (lv_at hl 3 rfl) ?_
            refine jp_21 hc hh wf_J_96 d_J_go_81 (fun H locs hh => ?_)
            refine lv_aload_n hx hb d_J_go_84 rfl (lv_at hl 0 rfl) ?_
            refine jg_J hc hh 5 (by decide) rfl wf_J_96 d_J_go_85 ?_
            exact jx_iret (r := ((js_up (jc_mv v t i) 21 0 t) 21 0)) hc hh hQ hlk hr rfl rfl ⟨by rw [hg, hg2]; simp [js_up], by rw [hg, hg2, hi]; rfl⟩ d_J_go_88
          | succ n ih =>
            intro i H locs ls hm hh hl
            have hi : i < 40 := by omega
            refine lv_iload hx hb d_J_go_43 (lv_at hl 4 rfl) ?_
            refine lv_bipush (v := 40) hx hb d_J_go_45 (by decide) ?_
            refine lv_icmp_ge (tgt := 78) hx hb d_J_go_47 rfl (fun hq => absurd hq (nI_ge hi (by decide))) (fun h47 => ?_)
            refine lv_aload_n hx hb d_J_go_50 rfl (lv_at hl 0 rfl) ?_
            refine lv_aload_n hx hb d_J_go_51 rfl (lv_at hl 0 rfl) ?_
            refine lv_iload hx hb d_J_go_52 (lv_at hl 4 rfl) ?_
            refine lv_aload_n hx hb d_J_go_54 rfl (lv_at hl 0 rfl) ?_
            refine jg_J hc hh 5 (by decide) rfl wf_J_96 d_J_go_55 ?_
            refine jx_callV [.int (nI i), .int ((jc_mv v t i) 21 0)] [.ref (ad 0)] hc hh (c_shownEntry l D aK ad cA (jc_mv v t i) (nI i) ((jc_mv v t i) 21 0) (jc_Sh_mv hSv i)) wy_J_99 ⟨by decide, rfl, rfl⟩ (by decide) rfl hl.1 rfl (by simp [vc_int, vc_ref, vc_long, jv_cat]) ⟨Nat.zero_le _, Nat.zero_le _⟩ d_J_go_58 (fun r u9 H locs hp hh _ _ => ?_)
            rw [hp.2] at hh
            refine W.eq (g2 := F0 m 61 ls [jv ad 118 (jc_shownEntry (jc_mv v t i) (nI i) ((jc_mv v t i) 21 0)), .ref (ad 0)]) (by rw [hp.1]; rfl) ?_
            refine lv_aload_n hx hb d_J_go_61 rfl (lv_at hl 0 rfl) ?_
            refine lv_iload hx hb d_J_go_62 (lv_at hl 4 rfl) ?_
            refine lv_iload hx hb d_J_go_64 (lv_at hl 3 rfl) ?_
            refine jx_callV [.int (nI i), .int t] [jv ad 118 (jc_shownEntry (jc_mv v t i) (nI i) ((jc_mv v t i) 21 0)), .ref (ad 0)] hc hh (c_shownEntry l D aK ad cA (jc_mv v t i) (nI i) t (jc_Sh_mv hSv i)) wy_J_99 ⟨by decide, rfl, rfl⟩ (by decide) rfl hl.1 rfl (by simp [vc_int, vc_ref, vc_long, jv_cat]) ⟨Nat.zero_le _, Nat.zero_le _⟩ d_J_go_66 (fun r u9 H locs hp hh _ _ => ?_)
            rw [hp.2] at hh
            refine W.eq (g2 := F0 m 69 ls [jv ad 118 (jc_shownEntry (jc_mv v t i) (nI i) t), jv ad 118 (jc_shownEntry (jc_mv v t i) (nI i) ((jc_mv v t i) 21 0)), .ref (ad 0)]) (by rw [hp.1]; rfl) ?_
            refine jx_callV [jv ad 118 (jc_shownEntry (jc_mv v t i) (nI i) ((jc_mv v t i) 21 0)), jv ad 118 (jc_shownEntry (jc_mv v t i) (nI i) t)] [] hc hh (c_countMove l D aK ad cA (jc_mv v t i) (jc_shownEntry (jc_mv v t i) (nI i) ((jc_mv v t i) 21 0)) (jc_shownEntry (jc_mv v t i) (nI i) t) (jc_Sh_mv hSv i) jc_se_jq jc_se_jq) wy_J_149 ⟨by decide, rfl, rfl⟩ (by decide) rfl hl.1 rfl (by decide) ⟨Nat.zero_le _, Nat.zero_le _⟩ d_J_go_69 (fun r u9 H locs hp hh _ _ => ?_)
            rw [hp.2] at hh
            refine W.eq (g2 := F0 m 72 ls []) rfl ?_
            refine lv_iinc (k := 4) (v := nI (i + 1)) (lv' := [(6, .int (nI (i + 1))), (0, .ref (ad 0)), (1, .int delta), (2, .int (nI k)), (5, .int t)]) hx hb d_J_go_72 hl rfl (nI_1 i) (by decide) rfl (fun ls hl => ?_)
            refine lv_goto (tgt := 43) hx hb d_J_go_75 rfl ?_
            have e1 : (jc_mv v t (i + 1)) = (jc_move (jc_mv v t i) (jc_shownEntry (jc_mv v t i) (nI i) ((jc_mv v t i) 21 0)) (jc_shownEntry (jc_mv v t i) (nI i) t)) := by simp [nI_0, jc_mv]
            refine ih (i + 1) _ _ _ (by omega) ?_ ?_
            ·
              try rw [e1]
              exact hh
            try rw [e1]
            exact lv_sub hl [1, 2, 3, 4, 0] rfl
        have e2 : nI 0 = 0 := rfl
        have e3 : (jc_mv v t 0) = v := by simp [nI_0, jc_mv]
        refine L43 40 0 _ _ _ (by omega) ?_ ?_
        ·
          try rw [e2]
          try rw [e3]
          exact hh
        try rw [e2]
        try rw [e3]
        exact lv_sub hl [1, 2, 3, 4, 0] rfl
      refine J40 (v 20 (ix (((nI (jc_place v (k - 1) 0)).toInt64 + delta.toInt64).toInt32))) _ (by simp [jc_go1, jc_aim, h18, h25]) ?_
      exact lv_sub hl [3, 4, 2, 0] rfl
    refine lv_bipush (v := -7) hx hb d_J_go_28 (by decide) ?_
    exact jx_iret (r := (-7)) hc hh hQ hlk hr rfl rfl ⟨by rw [hg]; simp [jc_go1, jc_aim, h18, h25], by rw [hg]; simp [jc_go1, jc_aim, h18, h25]⟩ d_J_go_30
  have e4 : nI ((jc_cu u 40).2) = (nI (jc_cu u 40).2) := by simp []
  refine J4 ((jc_cu u 40).1) ((jc_cu u 40).2) _ _ _ ⟨hne, jc_cu_le 40⟩ (jc_Sh_cu hS 40) rfl ?_ ?_
  ·
    try rw [e4]
    exact hh
  try rw [e4]
  exact lv_sub hl [0, 1] rfl
end
section
/-! Rows in use, free rows, and what loading leaves as it was. -/
theorem cn_le {u : js_S} {f : Nat} : ∀ k, jm_cntF u f k ≤ k
  | 0 => Nat.le_refl _
  | k + 1 => by
    have := cn_le (u := u) (f := f) k
    unfold jm_cntF
    split <;> omega
theorem cn_ex {u : js_S} {f : Nat} : ∀ k, jm_cntF u f k < k → ∃ i, i < k ∧ u f i = 0
  | 0, h => by omega
  | k + 1, h => by
    by_cases h0 : u f k = 0
    · exact ⟨k, by omega, h0⟩
    · rw [show jm_cntF u f (k + 1) = jm_cntF u f k + 1 from by simp [jm_cntF, h0]] at h
      obtain ⟨i, h1, h2⟩ := cn_ex (u := u) (f := f) k (by omega)
      exact ⟨i, by omega, h2⟩
theorem cn_congr {u v : js_S} {f g : Nat} : ∀ k, (∀ i, i < k → (u f i = 0 ↔ v g i = 0)) → jm_cntF u f k = jm_cntF v g k
  | 0, _ => rfl
  | k + 1, h => by
    have h1 := cn_congr k (fun i hi => h i (by omega))
    have h2 := h k (by omega)
    unfold jm_cntF
    rw [h1]
    by_cases h0 : u f k = 0
    · simp [h0, h2.mp h0]
    · have h3 : ¬ v g k = 0 := fun e => h0 (h2.mpr e)
      simp [h0, h3]
theorem cn_ne {u : js_S} {f g i : Nat} {w : Int32} (h : ¬ f = g) (k : Nat) : jm_cntF (js_up u g i w) f k = jm_cntF u f k :=
  cn_congr k (fun j _ => by rw [js_up_f h])
theorem cn_up {u : js_S} {f i : Nat} {w : Int32} (h0 : u f i = 0) (hw : ¬ w = 0) : ∀ k, i < k → jm_cntF (js_up u f i w) f k = jm_cntF u f k + 1
  | 0, h => by omega
  | k + 1, h => by
    by_cases e : i = k
    · subst e
      have h1 : jm_cntF (js_up u f i w) f i = jm_cntF u f i := cn_congr i (fun j hj => by rw [js_up_i (by omega)])
      unfold jm_cntF
      rw [h1, js_up_s]
      simp [hw, h0]
    · have h1 := cn_up h0 hw k (by omega)
      unfold jm_cntF
      rw [h1, js_up_i (fun q => e q.symm)]
      split <;> rfl
theorem js_free_z {u : js_S} {f : Nat} : ∀ k a, (∃ i, a ≤ i ∧ i ≤ a + k ∧ u f i = 0) → u f (js_free u f k a) = 0
  | 0, a, ⟨i, h1, h2, h3⟩ => by
    have : i = a := by omega
    subst this
    exact h3
  | k + 1, a, ⟨i, h1, h2, h3⟩ => by
    unfold js_free
    split
    · assumption
    · rename_i h0
      have : ¬ i = a := fun e => h0 (by rw [← e]; exact h3)
      exact js_free_z k (a + 1) ⟨i, by omega, by omega, h3⟩
theorem js_free_min {u : js_S} {f : Nat} : ∀ k a j, a ≤ j → j < js_free u f k a → ¬ u f j = 0
  | 0, a, j, h1, h2 => by
    unfold js_free at h2
    omega
  | k + 1, a, j, h1, h2 => by
    unfold js_free at h2
    split at h2
    · omega
    · rename_i h0
      by_cases e : j = a
      · rw [e]
        exact h0
      · exact js_free_min k (a + 1) j (by omega) h2
theorem js_f39z {u : js_S} {f : Nat} (h : jm_cntF u f 40 < 40) : u f (js_free u f 39 0) = 0 := by
  obtain ⟨i, h1, h2⟩ := cn_ex 40 h
  exact js_free_z 39 0 ⟨i, by omega, by omega, h2⟩
theorem js_f38z {u : js_S} {f : Nat} (h : jm_cntF u f 40 < 40) (h0 : ¬ u f 0 = 0) : u f (js_free u f 38 1) = 0 := by
  obtain ⟨i, h1, h2⟩ := cn_ex 40 h
  have : ¬ i = 0 := fun e => h0 (by rw [← e]; exact h2)
  exact js_free_z 38 1 ⟨i, by omega, by omega, h2⟩
/-- v is u with some more navigables (a), documents (b), entries (c), and with other frames of the document x -/
def jc_Gr (u v : js_S) (x a b c : Nat) : Prop :=
  (∀ n, n < 40 → ¬ u 5 n = 0 → ¬ v 5 n = 0 ∧ v 6 n = u 6 n ∧ v 7 n = u 7 n) ∧
  (∀ d, d < 40 → ¬ u 8 d = 0 → ¬ v 8 d = 0 ∧ v 9 d = u 9 d ∧ v 10 d = u 10 d ∧ v 11 d = u 11 d ∧ (¬ d = x → v 12 d = u 12 d ∧ v 13 d = u 13 d)) ∧
  (∀ i, i < 40 → ¬ u 14 i = 0 → ¬ v 14 i = 0 ∧ v 15 i = u 15 i ∧ v 16 i = u 16 i ∧ v 17 i = u 17 i ∧ v 18 i = u 18 i ∧ v 19 i = u 19 i) ∧
  (∀ i, v 0 i = u 0 i ∧ v 1 i = u 1 i ∧ v 2 i = u 2 i ∧ v 3 i = u 3 i ∧ v 4 i = u 4 i) ∧
  (v 21 0 = u 21 0 ∧ v 22 0 = u 22 0 ∧ v 23 0 = u 23 0) ∧
  jm_cntF v 5 40 ≤ jm_cntF u 5 40 + a ∧ jm_cntF v 8 40 ≤ jm_cntF u 8 40 + b ∧ jm_cntF v 14 40 ≤ jm_cntF u 14 40 + c
theorem jc_Gr_rf {u : js_S} {x : Nat} : jc_Gr u u x 0 0 0 := ⟨fun _ _ h => ⟨h, rfl, rfl⟩, fun _ _ h => ⟨h, rfl, rfl, rfl, fun _ => ⟨rfl, rfl⟩⟩, fun _ _ h => ⟨h, rfl, rfl, rfl, rfl, rfl⟩, fun _ => ⟨rfl, rfl, rfl, rfl, rfl⟩, ⟨rfl, rfl, rfl⟩, Nat.le_refl _, Nat.le_refl _, Nat.le_refl _⟩
theorem jc_Gr_tr {u v w : js_S} {x a b c a' b' c' : Nat} (h : jc_Gr u v x a b c) (g : jc_Gr v w x a' b' c') : jc_Gr u w x (a + a') (b + b') (c + c') := by
  obtain ⟨h1, h2, h3, h4, h5, h6, h7, h8⟩ := h
  obtain ⟨g1, g2, g3, g4, g5, g6, g7, g8⟩ := g
  refine ⟨fun n hn e => ?_, fun d hd e => ?_, fun i hi e => ?_, fun i => ?_, ?_, by omega, by omega, by omega⟩
  · obtain ⟨p1, p2, p3⟩ := h1 n hn e
    obtain ⟨q1, q2, q3⟩ := g1 n hn p1
    exact ⟨q1, q2.trans p2, q3.trans p3⟩
  · obtain ⟨p1, p2, p3, p4, p5⟩ := h2 d hd e
    obtain ⟨q1, q2, q3, q4, q5⟩ := g2 d hd p1
    exact ⟨q1, q2.trans p2, q3.trans p3, q4.trans p4, fun z => ⟨(q5 z).1.trans (p5 z).1, (q5 z).2.trans (p5 z).2⟩⟩
  · obtain ⟨p1, p2, p3, p4, p5, p6⟩ := h3 i hi e
    obtain ⟨q1, q2, q3, q4, q5, q6⟩ := g3 i hi p1
    exact ⟨q1, q2.trans p2, q3.trans p3, q4.trans p4, q5.trans p5, q6.trans p6⟩
  · obtain ⟨p1, p2, p3, p4, p5⟩ := h4 i
    obtain ⟨q1, q2, q3, q4, q5⟩ := g4 i
    exact ⟨q1.trans p1, q2.trans p2, q3.trans p3, q4.trans p4, q5.trans p5⟩
  · exact ⟨g5.1.trans h5.1, g5.2.1.trans h5.2.1, g5.2.2.trans h5.2.2⟩
theorem jc_Gr_le {u v : js_S} {x a b c a' b' c' : Nat} (h : jc_Gr u v x a b c) (ha : a ≤ a') (hb : b ≤ b') (hc : c ≤ c') : jc_Gr u v x a' b' c' := by
  obtain ⟨h1, h2, h3, h4, h5, h6, h7, h8⟩ := h
  exact ⟨h1, h2, h3, h4, h5, by omega, by omega, by omega⟩
/-- more may change where the document that may change is no row -/
theorem jc_Gr_x {u v : js_S} {x a b c : Nat} (h : jc_Gr u v 40 a b c) : jc_Gr u v x a b c := by
  obtain ⟨h1, h2, h3, h4, h5, h6, h7, h8⟩ := h
  refine ⟨h1, fun d hd e => ?_, h3, h4, h5, h6, h7, h8⟩
  obtain ⟨p1, p2, p3, p4, p5⟩ := h2 d hd e
  exact ⟨p1, p2, p3, p4, fun _ => p5 (by omega)⟩
/-- a document that wasn't there may change -/
theorem jc_Gr_nx {u v : js_S} {x a b c : Nat} (h : jc_Gr u v x a b c) (h0 : u 8 x = 0) : jc_Gr u v 40 a b c := by
  obtain ⟨h1, h2, h3, h4, h5, h6, h7, h8⟩ := h
  refine ⟨h1, fun d hd e => ?_, h3, h4, h5, h6, h7, h8⟩
  obtain ⟨p1, p2, p3, p4, p5⟩ := h2 d hd e
  exact ⟨p1, p2, p3, p4, fun _ => p5 (fun q => e (by rw [q]; exact h0))⟩
theorem jc_Gr_put {u v : js_S} {x a b c f i : Nat} {w : Int32} (h : jc_Gr u v x a b c) (hf : f = 24 ∨ ((f = 10 ∨ f = 11) ∧ u 8 i = 0) ∨ ((f = 12 ∨ f = 13) ∧ (i = x ∨ u 8 i = 0))) : jc_Gr u (js_up v f i w) x a b c := by
  obtain ⟨h1, h2, h3, h4, h5, h6, h7, h8⟩ := h
  have k0 : ∀ g j, g = 0 ∨ g = 1 ∨ g = 2 ∨ g = 3 ∨ g = 4 ∨ g = 5 ∨ g = 6 ∨ g = 7 ∨ g = 8 ∨ g = 9 ∨ g = 14 ∨ g = 15 ∨ g = 16 ∨ g = 17 ∨ g = 18 ∨ g = 19 ∨ g = 21 ∨ g = 22 ∨ g = 23 → js_up v f i w g j = v g j := by
    intro g j hg
    exact js_up_f (by omega)
  refine ⟨fun n hn e => ?_, fun d hd e => ?_, fun j hj e => ?_, fun j => ?_, ?_, ?_, ?_, ?_⟩
  · rw [k0 5 n (by omega), k0 6 n (by omega), k0 7 n (by omega)]
    exact h1 n hn e
  · rw [k0 8 d (by omega), k0 9 d (by omega)]
    obtain ⟨p1, p2, p3, p4, p5⟩ := h2 d hd e
    have q : ∀ g, js_up v f i w g d = v g d ∨ (g = f ∧ d = i) := by
      intro g
      by_cases z : g = f ∧ d = i
      · exact Or.inr z
      · exact Or.inl (by simp [js_up, z])
    refine ⟨p1, p2, ?_, ?_, fun z => ⟨?_, ?_⟩⟩
    · rcases q 10 with r | ⟨r1, r2⟩
      · rw [r]; exact p3
      · subst r2
        rcases hf with hf | ⟨hf, h0⟩ | ⟨hf, h0⟩
        · omega
        · exact absurd h0 e
        · omega
    · rcases q 11 with r | ⟨r1, r2⟩
      · rw [r]; exact p4
      · subst r2
        rcases hf with hf | ⟨hf, h0⟩ | ⟨hf, h0⟩
        · omega
        · exact absurd h0 e
        · omega
    · rcases q 12 with r | ⟨r1, r2⟩
      · rw [r]; exact (p5 z).1
      · subst r2
        rcases hf with hf | ⟨hf, h0⟩ | ⟨hf, h0 | h0⟩
        · omega
        · omega
        · exact absurd h0 z
        · exact absurd h0 e
    · rcases q 13 with r | ⟨r1, r2⟩
      · rw [r]; exact (p5 z).2
      · subst r2
        rcases hf with hf | ⟨hf, h0⟩ | ⟨hf, h0 | h0⟩
        · omega
        · omega
        · exact absurd h0 z
        · exact absurd h0 e
  · rw [k0 14 j (by omega), k0 15 j (by omega), k0 16 j (by omega), k0 17 j (by omega), k0 18 j (by omega), k0 19 j (by omega)]
    exact h3 j hj e
  · rw [k0 0 j (by omega), k0 1 j (by omega), k0 2 j (by omega), k0 3 j (by omega), k0 4 j (by omega)]
    exact h4 j
  · rw [k0 21 0 (by omega), k0 22 0 (by omega), k0 23 0 (by omega)]
    exact h5
  · rw [cn_ne (by omega)]; exact h6
  · rw [cn_ne (by omega)]; exact h7
  · rw [cn_ne (by omega)]; exact h8
theorem jc_Gr_mk0 {u : js_S} {n : Nat} {doc : Int32} (hn : n < 40) (h0 : u 5 n = 0) : jc_Gr u (jc_mk0 u n doc) 40 1 0 0 := by
  have k0 : ∀ g j, ¬ (g = 5 ∨ g = 6 ∨ g = 7) → jc_mk0 u n doc g j = u g j := by
    intro g j hg
    unfold jc_mk0
    rw [js_up_f (by omega), js_up_f (by omega), js_up_f (by omega)]
  have k1 : ∀ g j, ¬ j = n → jc_mk0 u n doc g j = u g j := by
    intro g j hg
    unfold jc_mk0
    rw [js_up_i hg, js_up_i hg, js_up_i hg]
  refine ⟨fun j hj e => ?_, fun d hd e => ?_, fun j hj e => ?_, fun j => ?_, ?_, ?_, ?_, ?_⟩
  · have hne : ¬ j = n := fun q => e (by rw [q]; exact h0)
    rw [k1 5 j hne, k1 6 j hne, k1 7 j hne]
    exact ⟨e, rfl, rfl⟩
  · rw [k0 8 d (by omega), k0 9 d (by omega), k0 10 d (by omega), k0 11 d (by omega), k0 12 d (by omega), k0 13 d (by omega)]
    exact ⟨e, rfl, rfl, rfl, fun _ => ⟨rfl, rfl⟩⟩
  · rw [k0 14 j (by omega), k0 15 j (by omega), k0 16 j (by omega), k0 17 j (by omega), k0 18 j (by omega), k0 19 j (by omega)]
    exact ⟨e, rfl, rfl, rfl, rfl, rfl⟩
  · rw [k0 0 j (by omega), k0 1 j (by omega), k0 2 j (by omega), k0 3 j (by omega), k0 4 j (by omega)]
    exact ⟨rfl, rfl, rfl, rfl, rfl⟩
  · rw [k0 21 0 (by omega), k0 22 0 (by omega), k0 23 0 (by omega)]
    exact ⟨rfl, rfl, rfl⟩
  · have e1 : jm_cntF (jc_mk0 u n doc) 5 40 = jm_cntF (js_up u 5 n 1) 5 40 := by
      apply cn_congr
      intro i _
      unfold jc_mk0
      rw [js_up_f (by decide), js_up_f (by decide)]
    rw [e1, cn_up h0 (by decide) 40 hn]
    exact Nat.le_refl _
  · rw [cn_congr (v := u) (g := 8) 40 (fun i _ => by rw [k0 8 i (by omega)])]
    exact Nat.le_refl _
  · rw [cn_congr (v := u) (g := 14) 40 (fun i _ => by rw [k0 14 i (by omega)])]
    exact Nat.le_refl _
theorem jc_Gr_doc {u : js_S} {o : Int32} (h0 : u 8 (js_free u 8 39 0) = 0) : jc_Gr u (jc_freeDoc u o) 40 0 1 0 := by
  have hi : js_free u 8 39 0 < 40 := js_f39
  unfold jc_freeDoc
  generalize js_free u 8 39 0 = i at h0 hi
  have k0 : ∀ g j, ¬ (g = 8 ∨ g = 9 ∨ g = 12 ∨ g = 13) → js_up (js_up (js_up (js_up u 8 i 1) 9 i o) 12 i (-1)) 13 i (-1) g j = u g j := by
    intro g j hg
    rw [js_up_f (by omega), js_up_f (by omega), js_up_f (by omega), js_up_f (by omega)]
  have k1 : ∀ g j, ¬ j = i → js_up (js_up (js_up (js_up u 8 i 1) 9 i o) 12 i (-1)) 13 i (-1) g j = u g j := by
    intro g j hg
    rw [js_up_i hg, js_up_i hg, js_up_i hg, js_up_i hg]
  refine ⟨fun j hj e => ?_, fun d hd e => ?_, fun j hj e => ?_, fun j => ?_, ?_, ?_, ?_, ?_⟩
  · rw [k0 5 j (by omega), k0 6 j (by omega), k0 7 j (by omega)]
    exact ⟨e, rfl, rfl⟩
  · have hne : ¬ d = i := fun q => e (by rw [q]; exact h0)
    rw [k1 8 d hne, k1 9 d hne, k1 10 d hne, k1 11 d hne, k1 12 d hne, k1 13 d hne]
    exact ⟨e, rfl, rfl, rfl, fun _ => ⟨rfl, rfl⟩⟩
  · rw [k0 14 j (by omega), k0 15 j (by omega), k0 16 j (by omega), k0 17 j (by omega), k0 18 j (by omega), k0 19 j (by omega)]
    exact ⟨e, rfl, rfl, rfl, rfl, rfl⟩
  · rw [k0 0 j (by omega), k0 1 j (by omega), k0 2 j (by omega), k0 3 j (by omega), k0 4 j (by omega)]
    exact ⟨rfl, rfl, rfl, rfl, rfl⟩
  · rw [k0 21 0 (by omega), k0 22 0 (by omega), k0 23 0 (by omega)]
    exact ⟨rfl, rfl, rfl⟩
  · rw [cn_congr (v := u) (g := 5) 40 (fun i _ => by rw [k0 5 i (by omega)])]
    exact Nat.le_refl _
  · rw [cn_ne (by decide), cn_ne (by decide), cn_ne (by decide), cn_up h0 (by decide) 40 hi]
    exact Nat.le_refl _
  · rw [cn_congr (v := u) (g := 14) 40 (fun i _ => by rw [k0 14 i (by omega)])]
    exact Nat.le_refl _
theorem jc_Gr_add {u : js_S} {o st url state doc : Int32} (h0 : u 14 (js_free u 14 39 0) = 0) : jc_Gr u (jc_addEntry u o st url state doc) 40 0 0 1 := by
  have hi : js_free u 14 39 0 < 40 := js_f39
  unfold jc_addEntry
  generalize js_free u 14 39 0 = i at h0 hi
  have k0 : ∀ g j, ¬ (g = 14 ∨ g = 15 ∨ g = 16 ∨ g = 17 ∨ g = 18 ∨ g = 19) → js_up (js_up (js_up (js_up (js_up (js_up u 14 i 1) 15 i o) 16 i st) 17 i url) 18 i state) 19 i doc g j = u g j := by
    intro g j hg
    rw [js_up_f (by omega), js_up_f (by omega), js_up_f (by omega), js_up_f (by omega), js_up_f (by omega), js_up_f (by omega)]
  have k1 : ∀ g j, ¬ j = i → js_up (js_up (js_up (js_up (js_up (js_up u 14 i 1) 15 i o) 16 i st) 17 i url) 18 i state) 19 i doc g j = u g j := by
    intro g j hg
    rw [js_up_i hg, js_up_i hg, js_up_i hg, js_up_i hg, js_up_i hg, js_up_i hg]
  refine ⟨fun j hj e => ?_, fun d hd e => ?_, fun j hj e => ?_, fun j => ?_, ?_, ?_, ?_, ?_⟩
  · rw [k0 5 j (by omega), k0 6 j (by omega), k0 7 j (by omega)]
    exact ⟨e, rfl, rfl⟩
  · rw [k0 8 d (by omega), k0 9 d (by omega), k0 10 d (by omega), k0 11 d (by omega), k0 12 d (by omega), k0 13 d (by omega)]
    exact ⟨e, rfl, rfl, rfl, fun _ => ⟨rfl, rfl⟩⟩
  · have hne : ¬ j = i := fun q => e (by rw [q]; exact h0)
    rw [k1 14 j hne, k1 15 j hne, k1 16 j hne, k1 17 j hne, k1 18 j hne, k1 19 j hne]
    exact ⟨e, rfl, rfl, rfl, rfl, rfl⟩
  · rw [k0 0 j (by omega), k0 1 j (by omega), k0 2 j (by omega), k0 3 j (by omega), k0 4 j (by omega)]
    exact ⟨rfl, rfl, rfl, rfl, rfl⟩
  · rw [k0 21 0 (by omega), k0 22 0 (by omega), k0 23 0 (by omega)]
    exact ⟨rfl, rfl, rfl⟩
  · rw [cn_congr (v := u) (g := 5) 40 (fun i _ => by rw [k0 5 i (by omega)])]
    exact Nat.le_refl _
  · rw [cn_congr (v := u) (g := 8) 40 (fun i _ => by rw [k0 8 i (by omega)])]
    exact Nat.le_refl _
  · rw [cn_ne (by decide), cn_ne (by decide), cn_ne (by decide), cn_ne (by decide), cn_ne (by decide), cn_up h0 (by decide) 40 hi]
    exact Nat.le_refl _
end
section
/-! Loading: there is room, the shape stays, and it only adds. -/
def jc_Nn : Nat → Nat
  | 0 => 0
  | d + 1 => (d + 1) * (1 + jc_Nn d)
def jc_Dn : Nat → Nat
  | 0 => 1
  | d + 1 => 1 + (d + 1) * jc_Dn d
/-- the window is there, and there is room for a navigables with an entry each, and for b documents -/
def jc_Cp (u : js_S) (a b : Nat) : Prop := ¬ u 5 0 = 0 ∧ jm_cntF u 5 40 + a ≤ 40 ∧ jm_cntF u 8 40 + b ≤ 40 ∧ jm_cntF u 14 40 + a ≤ 40
/-- a navigable that is there, d levels above the last one -/
def jc_Ow (d : Nat) (u : js_S) (o : Int32) : Prop := ∃ n, n < 40 ∧ o = nI n ∧ ¬ u 5 n = 0 ∧ u 6 n = nI (2 - d)
/-- what is wanted of a loading function L for navigables d levels above the last one -/
def jc_Lok (d : Nat) (L : js_S → Int32 → Int32 → Int32 → js_S) : Prop := ∀ (u : js_S) (o url step : Int32), jc_Sh u → jc_Ow d u o → jc_Cp u (jc_Nn d) (jc_Dn d) → jq 256 url → jc_Sh (L u o url step) ∧ jc_Gr u (L u o url step) 40 (jc_Nn d) (jc_Dn d) (jc_Nn d)
theorem jc_Gr_24 {u v : js_S} {x a b c i : Nat} {w : Int32} (h : jc_Gr u v x a b c) : jc_Gr u (js_up v 24 i w) x a b c := jc_Gr_put h (Or.inl rfl)
theorem jc_Gr_10 {u v : js_S} {x a b c i : Nat} {w : Int32} (h : jc_Gr u v x a b c) (h0 : u 8 i = 0) : jc_Gr u (js_up v 10 i w) x a b c := jc_Gr_put h (Or.inr (Or.inl ⟨Or.inl rfl, h0⟩))
theorem jc_Gr_11 {u v : js_S} {x a b c i : Nat} {w : Int32} (h : jc_Gr u v x a b c) (h0 : u 8 i = 0) : jc_Gr u (js_up v 11 i w) x a b c := jc_Gr_put h (Or.inr (Or.inl ⟨Or.inr rfl, h0⟩))
theorem jc_Gr_12 {u v : js_S} {x a b c : Nat} {w : Int32} (h : jc_Gr u v x a b c) : jc_Gr u (js_up v 12 x w) x a b c := jc_Gr_put h (Or.inr (Or.inr ⟨Or.inl rfl, Or.inl rfl⟩))
theorem jc_Gr_13 {u v : js_S} {x a b c : Nat} {w : Int32} (h : jc_Gr u v x a b c) : jc_Gr u (js_up v 13 x w) x a b c := jc_Gr_put h (Or.inr (Or.inr ⟨Or.inr rfl, Or.inl rfl⟩))
theorem jc_Ow_ok {d : Nat} {u : js_S} {o : Int32} (h : jc_Ow d u o) : ∃ i, i < 40 ∧ o = nI i := by
  obtain ⟨n, h1, h2, -⟩ := h
  exact ⟨n, h1, h2⟩
theorem jc_Ow_Gr {d : Nat} {u v : js_S} {o : Int32} {x a b c : Nat} (h : jc_Ow d u o) (g : jc_Gr u v x a b c) : jc_Ow d v o := by
  obtain ⟨n, h1, h2, h3, h4⟩ := h
  obtain ⟨g1, g2, -⟩ := g.1 n h1 h3
  exact ⟨n, h1, h2, g1, g2.trans h4⟩
theorem jc_Cp_Gr {u v : js_S} {x a b c a' b' : Nat} (h : jc_Cp u (a' + a) (b' + b)) (g : jc_Gr u v x a b c) (hc : c ≤ a) : jc_Cp v a' b' := by
  obtain ⟨h1, h2, h3, h4⟩ := h
  obtain ⟨g1, -, -, -, -, g6, g7, g8⟩ := g
  exact ⟨(g1 0 (by omega) h1).1, by omega, by omega, by omega⟩
theorem jc_Cp_le {u : js_S} {a b a' b' : Nat} (h : jc_Cp u a b) (ha : a' ≤ a) (hb : b' ≤ b) : jc_Cp u a' b' := by
  obtain ⟨h1, h2, h3, h4⟩ := h
  exact ⟨h1, by omega, by omega, by omega⟩
theorem jc_mk0_own {u : js_S} {n x d : Nat} (hn : n < 40) (h0 : u 5 n = 0) (hw : jc_Ow (d + 1) u (u 9 x)) (hd : d + 1 ≤ 2) (hx : x < 40) : jc_Ow d (jc_mk0 u n (nI x)) (nI n) := by
  obtain ⟨o, ho, e1, e2, e3⟩ := hw
  have hne : ¬ o = n := fun q => e2 (by rw [q]; exact h0)
  refine ⟨n, hn, rfl, ?_, ?_⟩
  · unfold jc_mk0
    rw [js_up_f (by decide), js_up_f (by decide), js_up_s]
    decide
  · have a1 : js_up u 5 n 1 9 x = nI o := by rw [js_up_f (by decide)]; exact e1
    have a2 : js_up u 5 n 1 6 o = nI (2 - (d + 1)) := by rw [js_up_f (by decide)]; exact e3
    unfold jc_mk0
    rw [js_up_f (by decide), js_up_s, ix_nI (show x < 2 ^ 31 by omega), a1, ix_nI (show o < 2 ^ 31 by omega), a2, nI_1]
    congr 1
    omega
theorem jc_mk0_Sh {u : js_S} (hS : jc_Sh u) {n x d : Nat} (hx : x < 40) (hw : jc_Ow d u (u 9 x)) : jc_Sh (jc_mk0 u n (nI x)) := by
  obtain ⟨o, ho, e1, -⟩ := hw
  refine jc_Sh_7 (jc_Sh_6 (jc_Sh_5 hS)) hx ?_
  rw [js_up_f (by decide), js_up_f (by decide), e1]
  exact nI_m1 (by omega)
/-- one frame -/
theorem jc_mkFrame_ok {d : Nat} {L : js_S → Int32 → Int32 → Int32 → js_S} (hL : jc_Lok d L) (hd : d + 1 ≤ 2) {u : js_S} {x : Nat} {url step : Int32} (hS : jc_Sh u) (hx : x < 40) (hw : jc_Ow (d + 1) u (u 9 x)) (hC : jc_Cp u (1 + jc_Nn d) (jc_Dn d)) (hu : jq 256 url) :
    jc_Sh (jc_mkFrame L u (nI x) url step) ∧ jc_Gr u (jc_mkFrame L u (nI x) url step) 40 (1 + jc_Nn d) (jc_Dn d) (1 + jc_Nn d) := by
  have h0 : u 5 (js_free u 5 38 1) = 0 := js_f38z (by have := hC.2.1; omega) hC.1
  have hn : js_free u 5 38 1 < 40 := js_f38
  unfold jc_mkFrame jc_mkF
  generalize js_free u 5 38 1 = n at h0 hn
  have g1 := jc_Gr_mk0 (doc := nI x) hn h0
  have s1 := jc_mk0_Sh hS (n := n) hx hw
  have w1 := jc_mk0_own hn h0 hw hd hx
  have c1 : jc_Cp (jc_mk0 u n (nI x)) (jc_Nn d) (jc_Dn d) := jc_Cp_Gr (jc_Cp_le hC (by omega) (by omega)) g1 (by omega)
  generalize jc_mk0 u n (nI x) = v at g1 s1 w1 c1
  obtain ⟨s2, g2⟩ := hL v (nI n) (jc_fd v 4 url) step s1 w1 c1 (jc_fd_ok s1 4 hu)
  have hdoc : js_free v 8 39 0 < 40 := js_f39
  generalize L v (nI n) (jc_fd v 4 url) step = w at s2 g2
  have g12 := jc_Gr_tr g1 g2
  have h14 : w 14 (js_free w 14 39 0) = 0 := js_f39z (by have := hC.2.2.2; have := g12.2.2.2.2.2.2.2; omega)
  exact ⟨jc_Sh_add s2 hn hdoc, jc_Gr_le (jc_Gr_tr g12 (jc_Gr_add h14)) (by omega) (by omega) (by omega)⟩
theorem jc_room_eq {d : Nat} {u : js_S} {x : Nat} (hw : jc_Ow d u (u 9 x)) (hd : d ≤ 2) (hx : x < 40) : jc_room u (nI x) = nI d := by
  obtain ⟨o, ho, e1, e2, e3⟩ := hw
  unfold jc_room
  rw [ix_nI (by omega), e1, ix_nI (by omega), e3]
  have : d = 0 ∨ d = 1 ∨ d = 2 := by omega
  rcases this with rfl | rfl | rfl <;> decide
/-- the frames of a document x of a navigable d + 1 levels above the last one -/
theorem jc_mkFrames_ok {d : Nat} {L : js_S → Int32 → Int32 → Int32 → js_S} (hL : jc_Lok d L) (hd : d + 1 ≤ 2) {u : js_S} {x : Nat} {a step : Int32} (hS : jc_Sh u) (hx : x < 40) (h8 : ¬ u 8 x = 0) (ha : ∃ i, i < 32 ∧ a = nI i) (hw : jc_Ow (d + 1) u (u 9 x)) (hC : jc_Cp u ((d + 1) * (1 + jc_Nn d)) ((d + 1) * jc_Dn d)) :
    jc_Sh (jc_mkFrames L u (nI x) a step) ∧ jc_Gr u (jc_mkFrames L u (nI x) a step) x ((d + 1) * (1 + jc_Nn d)) ((d + 1) * jc_Dn d) ((d + 1) * (1 + jc_Nn d)) := by
  have one : ∀ (v : js_S), jc_Sh v → jc_Ow (d + 1) v (v 9 x) → jc_Cp v (1 + jc_Nn d) (jc_Dn d) → ¬ v 2 (ix a) = -2 → jc_Sh (jc_mf2 L v (nI x) a step) ∧ jc_Gr v (jc_mf2 L v (nI x) a step) x (1 + jc_Nn d) (jc_Dn d) (1 + jc_Nn d) := by
    intro v hSv hwv hCv h2
    obtain ⟨s1, g1⟩ := jc_mkFrame_ok hL hd (step := step) hSv hx hwv hCv (jc_Ssx hSv ha h2)
    unfold jc_mf2
    rw [ix_nI (show x < 2 ^ 31 by omega)]
    split
    · exact ⟨jc_Sh_12 s1 (jq_nI js_f38), jc_Gr_12 (jc_Gr_x g1)⟩
    · exact ⟨jc_Sh_13 s1 (jq_nI js_f38), jc_Gr_13 (jc_Gr_x g1)⟩
  have hr := jc_room_eq hw hd hx
  unfold jc_mkFrames
  rw [hr, if_neg (nI_nle (by omega) (by omega))]
  have hmul : 1 + jc_Nn d ≤ (d + 1) * (1 + jc_Nn d) := Nat.le_mul_of_pos_left _ (by omega)
  have hmul2 : jc_Dn d ≤ (d + 1) * jc_Dn d := Nat.le_mul_of_pos_left _ (by omega)
  split
  · unfold jc_mfB
    rw [if_neg (nI_nle (by omega) (by omega))]
    split
    · exact ⟨hS, jc_Gr_le jc_Gr_rf (by omega) (by omega) (by omega)⟩
    · rename_i h2
      obtain ⟨s1, g1⟩ := one u hS hw (jc_Cp_le hC hmul hmul2) h2
      exact ⟨s1, jc_Gr_le g1 hmul hmul2 hmul⟩
  · rename_i h1
    obtain ⟨s1, g1⟩ := jc_mkFrame_ok hL hd (step := step) hS hx hw (jc_Cp_le hC hmul hmul2) (jc_Sfx hS ha h1)
    have s2 : jc_Sh (jc_mf1 L u (nI x) a step) := jc_Sh_12 s1 (jq_nI js_f38)
    have g2 : jc_Gr u (jc_mf1 L u (nI x) a step) x (1 + jc_Nn d) (jc_Dn d) (1 + jc_Nn d) := by
      unfold jc_mf1
      rw [ix_nI (show x < 2 ^ 31 by omega)]
      exact jc_Gr_12 (jc_Gr_x g1)
    have h9 : jc_mf1 L u (nI x) a step 9 x = u 9 x := (g2.2.1 x hx h8).2.1
    have w2 : jc_Ow (d + 1) (jc_mf1 L u (nI x) a step) (jc_mf1 L u (nI x) a step 9 x) := by
      rw [h9]
      exact jc_Ow_Gr hw g2
    generalize jc_mf1 L u (nI x) a step = v at s2 g2 w2
    unfold jc_mfB
    split
    · exact ⟨s2, jc_Gr_le g2 hmul hmul2 hmul⟩
    · rename_i h3
      split
      · exact ⟨s2, jc_Gr_le g2 hmul hmul2 hmul⟩
      · rename_i h4
        have hd1 : d = 1 := by
          rcases (show d = 0 ∨ d = 1 by omega) with rfl | rfl
          · exact absurd (by decide) h3
          · rfl
        subst hd1
        have c2 : jc_Cp v (1 + jc_Nn 1) (jc_Dn 1) := jc_Cp_Gr (jc_Cp_le hC (by omega) (by omega)) g2 (by omega)
        obtain ⟨s3, g3⟩ := one v s2 w2 c2 h4
        exact ⟨s3, jc_Gr_le (jc_Gr_tr g2 g3) (by omega) (by omega) (by omega)⟩
theorem jc_ldC_Gr {u v : js_S} {a b c i : Nat} {url bx : Int32} (g : jc_Gr u v 40 a b c) (h0 : u 8 i = 0) : jc_Gr u (jc_ldC v i url bx) 40 a b c := by
  unfold jc_ldC jc_opq
  split
  · exact jc_Gr_10 (jc_Gr_11 g h0) h0
  · exact jc_Gr_10 (jc_Gr_24 (jc_Gr_11 g h0)) h0
theorem jc_ldA_Gr {u v : js_S} {a b c i : Nat} {above bx : Int32} (g : jc_Gr u v 40 a b c) (h0 : u 8 i = 0) : jc_Gr u (jc_ldA v i above bx) 40 a b c := by
  unfold jc_ldA jc_opq
  split
  · exact jc_Gr_10 (jc_Gr_24 (jc_Gr_11 g h0)) h0
  · split
    · exact jc_Gr_10 (jc_Gr_11 g h0) h0
    · exact jc_Gr_10 (jc_Gr_24 (jc_Gr_11 g h0)) h0
/-- the new document: there, and the navigable's -/
theorem jc_ldC_fd {u : js_S} {o url bx : Int32} (i : Nat) (hi : i = js_free u 8 39 0) : jc_ldC (jc_freeDoc u o) i url bx 8 i = 1 ∧ jc_ldC (jc_freeDoc u o) i url bx 9 i = o := by
  subst hi
  unfold jc_ldC jc_opq jc_freeDoc
  split
  · constructor
    · rw [js_up_f (by decide), js_up_f (by decide), js_up_f (by decide), js_up_f (by decide), js_up_f (by decide), js_up_s]
    · rw [js_up_f (by decide), js_up_f (by decide), js_up_f (by decide), js_up_f (by decide), js_up_s]
  · constructor
    · rw [js_up_f (by decide), js_up_f (by decide), js_up_f (by decide), js_up_f (by decide), js_up_f (by decide), js_up_f (by decide), js_up_s]
    · rw [js_up_f (by decide), js_up_f (by decide), js_up_f (by decide), js_up_f (by decide), js_up_f (by decide), js_up_s]
theorem jc_loadB_ok {d : Nat} {L : js_S → Int32 → Int32 → Int32 → js_S} (hd : d ≤ 2)
    (hF : ∀ (v : js_S) (x : Nat) (a step : Int32), jc_Sh v → x < 40 → ¬ v 8 x = 0 → (∃ i, i < 32 ∧ a = nI i) → jc_Ow d v (v 9 x) → jc_Cp v (jc_Nn d) (jc_Dn d - 1) → jc_Sh (jc_mkFrames L v (nI x) a step) ∧ jc_Gr v (jc_mkFrames L v (nI x) a step) x (jc_Nn d) (jc_Dn d - 1) (jc_Nn d)) : jc_Lok d (jc_loadB L) := by
  intro u o url step hS hw hC hu
  have hD1 : 1 ≤ jc_Dn d := by
    cases d with
    | zero => exact Nat.le_refl _
    | succ d => unfold jc_Dn; omega
  have h0 : u 8 (js_free u 8 39 0) = 0 := js_f39z (by have := hC.2.2.1; omega)
  have g1 := jc_Gr_doc (o := o) h0
  have s1 := jc_Sh_fdx hS (jc_Ow_ok hw)
  have hi : js_free u 8 39 0 < 40 := js_f39
  unfold jc_loadB
  split
  · exact ⟨jc_Sh_ldA s1, jc_Gr_le (jc_ldA_Gr g1 h0) (by omega) hD1 (by omega)⟩
  · rename_i hn
    unfold jc_ldU
    split
    · have g2 := jc_ldC_Gr (i := js_free u 8 39 0) (url := url) (bx := jc_bx (jc_freeDoc u o) (url / 8) (jc_boxed u (u 7 (ix o)))) g1 h0
      obtain ⟨q1, q2⟩ := jc_ldC_fd (u := u) (o := o) (url := url) (bx := jc_bx (jc_freeDoc u o) (url / 8) (jc_boxed u (u 7 (ix o)))) _ rfl
      have s2 : jc_Sh (jc_ldC (jc_freeDoc u o) (js_free u 8 39 0) url (jc_bx (jc_freeDoc u o) (url / 8) (jc_boxed u (u 7 (ix o))))) := jc_Sh_ldC s1
      generalize jc_ldC (jc_freeDoc u o) (js_free u 8 39 0) url (jc_bx (jc_freeDoc u o) (url / 8) (jc_boxed u (u 7 (ix o)))) = v at g2 q1 q2 s2
      obtain ⟨s3, g3⟩ := hF v (js_free u 8 39 0) (url / 8) step s2 hi (by rw [q1]; decide) (js_pg hu hn) (by rw [q2]; exact jc_Ow_Gr hw g2) (jc_Cp_Gr (jc_Cp_le hC (by omega) (by omega)) g2 (by omega))
      refine ⟨s3, jc_Gr_le (jc_Gr_nx (jc_Gr_tr (jc_Gr_x g2) g3) h0) (by omega) (by omega) (by omega)⟩
    · refine ⟨jc_Sh_opq (jc_Sh_11 s1), ?_⟩
      unfold jc_opq
      exact jc_Gr_le (jc_Gr_10 (jc_Gr_24 (jc_Gr_11 g1 h0)) h0) (by omega) hD1 (by omega)
theorem jc_load_ok : ∀ d, d ≤ 2 → jc_Lok d (jc_load d)
  | 0, _ => by
    unfold jc_load
    refine jc_loadB_ok (by omega) (fun v x a step hS hx _ _ hw _ => ?_)
    have hr := jc_room_eq hw (by omega) hx
    unfold jc_mkFrames jc_mfB
    rw [hr, if_pos (by decide), if_pos (by decide)]
    exact ⟨hS, jc_Gr_le jc_Gr_rf (by omega) (by omega) (by omega)⟩
  | d + 1, h => by
    unfold jc_load
    refine jc_loadB_ok h (fun v x a step hS hx h8 ha hw hC => ?_)
    have e : jc_Dn (d + 1) - 1 = (d + 1) * jc_Dn d := by
      show 1 + (d + 1) * jc_Dn d - 1 = _
      omega
    rw [e] at hC ⊢
    exact jc_mkFrames_ok (jc_load_ok d (by omega)) h hS hx h8 ha hw hC
end
section
/-! The contracts of load, makeFrame, makeFrames, which call each other, as predicates. -/
def jc_LC (l : Launch) (D : va_G) (aK ad : Nat → Nat) (cA : Nat → ClassId) (d : Nat) (L : js_S → Int32 → Int32 → Int32 → js_S) (k : Nat) : Prop := ∀ (u : js_S) (o url step : Int32), jc_Sh u → jc_Ow d u o → jc_Cp u (jc_Nn d) (jc_Dn d) → jq 256 url →
  jx_M l y_J_load b_J_load 8 (some (.object "JointHistory$Document")) (jr k) D (jc_tys cA) aK 158 ad (jc_cell ad aK cA) [.ref (ad 0), jv ad 38 o, .int url, .int step] u (fun r : Int32 => some (jv ad 78 r)) (fun r u' => r = nI (js_free u 8 39 0) ∧ u' = L u o url step)
def jc_FC (l : Launch) (D : va_G) (aK ad : Nat → Nat) (cA : Nat → ClassId) (d : Nat) (L : js_S → Int32 → Int32 → Int32 → js_S) (k : Nat) : Prop := ∀ (u : js_S) (x : Nat) (url step : Int32), jc_Sh u → x < 40 → jc_Ow (d + 1) u (u 9 x) → jc_Cp u (1 + jc_Nn d) (jc_Dn d) → jq 256 url →
  jx_M l y_J_makeFrame b_J_makeFrame 6 (some (.object "JointHistory$Navigable")) (jr k) D (jc_tys cA) aK 158 ad (jc_cell ad aK cA) [.ref (ad 0), jv ad 78 (nI x), .int url, .int step] u (fun r : Int32 => some (jv ad 38 r)) (fun r u' => r = nI (js_free u 5 38 1) ∧ u' = jc_mkFrame L u (nI x) url step)
def jc_MC (l : Launch) (D : va_G) (aK ad : Nat → Nat) (cA : Nat → ClassId) (d : Nat) (L : js_S → Int32 → Int32 → Int32 → js_S) (k : Nat) : Prop := ∀ (u : js_S) (x : Nat) (a step : Int32), jc_Sh u → x < 40 → ¬ u 8 x = 0 → (∃ i, i < 32 ∧ a = nI i) → jc_Ow d u (u 9 x) → jc_Cp u (jc_Nn d) (jc_Dn d - 1) →
  jx_M l y_J_makeFrames b_J_makeFrames 6 none (jr k) D (jc_tys cA) aK 158 ad (jc_cell ad aK cA) [.ref (ad 0), jv ad 78 (nI x), jv ad 6 a, .int step] u (fun _ : Unit => none) (fun r u' => r = () ∧ u' = jc_mkFrames L u (nI x) a step)
theorem jc_Dn_pos (d : Nat) : 1 ≤ jc_Dn d := by
  cases d with
  | zero => exact Nat.le_refl _
  | succ d => unfold jc_Dn; omega
theorem jc_dpos {d : Nat} {u : js_S} {x : Nat} {room : Int32} (hw : jc_Ow d u (u 9 x)) (hd : d ≤ 2) (hx : x < 40) (hr : room = jc_room u (nI x)) (h : ¬ room ≤ 0) : ∃ e, d = e + 1 := by
  rw [hr, jc_room_eq hw hd hx] at h
  exact ⟨d - 1, by have := js_pos h; omega⟩
theorem jc_Cp1 {u : js_S} {e : Nat} (h : jc_Cp u (jc_Nn (e + 1)) (jc_Dn (e + 1) - 1)) : jc_Cp u (1 + jc_Nn e) (jc_Dn e) := by
  have e1 : jc_Dn (e + 1) - 1 = (e + 1) * jc_Dn e := by
    show 1 + (e + 1) * jc_Dn e - 1 = _
    omega
  have e2 : jc_Nn (e + 1) = (e + 1) * (1 + jc_Nn e) := rfl
  rw [e1, e2] at h
  exact jc_Cp_le h (Nat.le_mul_of_pos_left _ (by omega)) (Nat.le_mul_of_pos_left _ (by omega))
theorem jc_hzB {d : Nat} {u : js_S} {x : Nat} {room : Int32} (hw : jc_Ow d u (u 9 x)) (hd : d ≤ 2) (hx : x < 40) (hr : room = jc_room u (nI x)) (hC : jc_Cp u (jc_Nn d) (jc_Dn d - 1)) (h : ¬ room ≤ 0) : ∃ e, d = e + 1 ∧ jc_Ow (e + 1) u (u 9 x) ∧ jc_Cp u (1 + jc_Nn e) (jc_Dn e) := by
  obtain ⟨e, rfl⟩ := jc_dpos hw hd hx hr h
  exact ⟨e, rfl, hw, jc_Cp1 hC⟩
theorem jc_mf1_ok {e : Nat} {L : js_S → Int32 → Int32 → Int32 → js_S} (hL : jc_Lok e L) (hd : e + 1 ≤ 2) {u : js_S} {x : Nat} {a step : Int32} (hS : jc_Sh u) (hx : x < 40) (h8 : ¬ u 8 x = 0) (ha : ∃ i, i < 32 ∧ a = nI i) (hw : jc_Ow (e + 1) u (u 9 x)) (hC : jc_Cp u (jc_Nn (e + 1)) (jc_Dn (e + 1) - 1)) (h1 : ¬ u 1 (ix a) = -2) :
    jc_Sh (js_up (jc_mkFrame L u (nI x) (u 1 (ix a)) step) 12 x (nI (js_free u 5 38 1))) ∧ jc_Gr u (js_up (jc_mkFrame L u (nI x) (u 1 (ix a)) step) 12 x (nI (js_free u 5 38 1))) x (1 + jc_Nn e) (jc_Dn e) (1 + jc_Nn e) := by
  obtain ⟨s1, g1⟩ := jc_mkFrame_ok hL hd (step := step) hS hx hw (jc_Cp1 hC) (jc_Sfx hS ha h1)
  exact ⟨jc_Sh_12 s1 (jq_nI js_f38), jc_Gr_12 (jc_Gr_x g1)⟩
theorem jc_hzC1 {d e : Nat} {L : js_S → Int32 → Int32 → Int32 → js_S} (hL : jc_Lok e L) (he : d = e + 1) (hd : d ≤ 2) {u : js_S} {x : Nat} {a step : Int32} (hS : jc_Sh u) (hx : x < 40) (h8 : ¬ u 8 x = 0) (ha : ∃ i, i < 32 ∧ a = nI i) (hw : jc_Ow d u (u 9 x)) (hC : jc_Cp u (jc_Nn d) (jc_Dn d - 1)) (h1 : ¬ u 1 (ix a) = -2) : jc_Sh (js_up (jc_mkFrame L u (nI x) (u 1 (ix a)) step) 12 x (nI (js_free u 5 38 1))) := by
  subst he
  exact (jc_mf1_ok hL hd hS hx h8 ha hw hC h1).1
theorem jc_hzC2 {d e : Nat} {L : js_S → Int32 → Int32 → Int32 → js_S} (hL : jc_Lok e L) (he : d = e + 1) (hd : d ≤ 2) {u : js_S} {x : Nat} {a step room : Int32} (hS : jc_Sh u) (hx : x < 40) (h8 : ¬ u 8 x = 0) (ha : ∃ i, i < 32 ∧ a = nI i) (hw : jc_Ow d u (u 9 x)) (hC : jc_Cp u (jc_Nn d) (jc_Dn d - 1)) (hr : room = jc_room u (nI x)) (h1 : ¬ u 1 (ix a) = -2) (h : ¬ room + -1 ≤ 0) :
    ∃ f, d = f + 1 ∧ jc_Ow (f + 1) (js_up (jc_mkFrame L u (nI x) (u 1 (ix a)) step) 12 x (nI (js_free u 5 38 1))) (js_up (jc_mkFrame L u (nI x) (u 1 (ix a)) step) 12 x (nI (js_free u 5 38 1)) 9 x) ∧ jc_Cp (js_up (jc_mkFrame L u (nI x) (u 1 (ix a)) step) 12 x (nI (js_free u 5 38 1))) (1 + jc_Nn f) (jc_Dn f) := by
  subst he
  obtain ⟨s1, g1⟩ := jc_mf1_ok hL hd (step := step) hS hx h8 ha hw hC h1
  have h9 := (g1.2.1 x hx h8).2.1
  refine ⟨e, rfl, ?_, ?_⟩
  · rw [h9]
    exact jc_Ow_Gr hw g1
  · have he1 : e = 1 := by
      rcases (show e = 0 ∨ e = 1 by omega) with rfl | rfl
      · rw [hr, jc_room_eq hw hd hx] at h
        exact absurd (by decide) h
      · rfl
    subst he1
    exact jc_Cp_Gr (jc_Cp_le hC (by decide) (by decide)) g1 (by omega)
end
section
set_option maxHeartbeats 4000000 in
set_option maxRecDepth 100000 in
theorem c_makeFrame (l : Launch) (D : va_G) (aK ad : Nat → Nat) (cA : Nat → ClassId) (d k : Nat) (hk : 4 ≤ k) (L : js_S → Int32 → Int32 → Int32 → js_S) (hL : jc_LC l D aK ad cA d L k) (hd : d + 1 ≤ 2) (u : js_S) (x : Nat) (url : Int32) (step : Int32) (hS : jc_Sh u) (hx9 : x < 40) (hw : jc_Ow (d + 1) u (u 9 x)) (hC : jc_Cp u (1 + jc_Nn d) (jc_Dn d)) (hu : jq 256 url) : jx_M l y_J_makeFrame b_J_makeFrame 6 (some (.object "JointHistory$Navigable")) (jr (k + 1)) D (jc_tys cA) aK 158 ad (jc_cell ad aK cA) [.ref (ad 0), jv ad 78 (nI x), .int url, .int step] u (fun r : Int32 => some (jv ad 38 r)) (fun r u' => r = nI (js_free u 5 38 1) ∧ u' = (jc_mkFrame L u (nI x) url step)) := by
  refine jx_enter "JointHistory" (by decide) rfl (by simp [lg_sl, vc_int, vc_ref, vc_long, jv_cat]) ?_
  intro p e s m args below meth c A Q H locs ls hQ hc hh hr hlk hl
  have hx := hc.1
  have hb := hc.2.1
  have hl : lv_has ls 6 [(0, .ref (ad 0)), (1, jv ad 78 (nI x)), (2, .int url), (3, .int step)] := by simpa [lv_args, vc_int, vc_ref, vc_long, jv_cat] using hl
  have h0 : u 5 (js_free u 5 38 1) = 0 := js_f38z (by have := hC.2.1; omega) hC.1
  have hC1 : jc_Cp (jc_mk0 u (js_free u 5 38 1) (nI x)) (jc_Nn d) (jc_Dn d) := jc_Cp_Gr (jc_Cp_le hC (by omega) (by omega)) (jc_Gr_mk0 js_f38 h0) (by omega)
  refine lv_aload_n hx hb d_J_makeFrame_0 rfl (lv_at hl 0 rfl) ?_
  refine jx_callV [] [] hc hh (c_freeNavigable l D aK ad cA u) wy_J_240 ⟨by decide, rfl, rfl⟩ ⟨rfl, rfl, by simp only [jr]; omega, by simp only [jr]; omega⟩ rfl hl.1 rfl (by decide) ⟨Nat.zero_le _, Nat.zero_le _⟩ d_J_makeFrame_1 (fun r u9 H locs hp hh _ _ => ?_)
  rw [hp.2] at hh
  refine W.eq (g2 := F0 m 4 ls [jv ad 38 (nI (js_free u 5 38 1))]) (by rw [hp.1]; rfl) ?_
  refine jv_astore (i := 4) (lv' := [(4, jv ad 38 (nI (js_free u 5 38 1))), (0, .ref (ad 0)), (1, jv ad 78 (nI x)), (2, .int url), (3, .int step)]) hx hb d_J_makeFrame_4 hl (by decide) rfl (fun ls hl => ?_)
  refine jv_aload hx hb d_J_makeFrame_6 (lv_at hl 0 rfl) ?_
  refine lv_iconst (v := 1) hx hb d_J_makeFrame_8 (by decide) ?_
  refine jp_5 hc hh js_f38 (by decide) wf_J_43 d_J_makeFrame_9 (fun H locs hh => ?_)
  refine jv_aload hx hb d_J_makeFrame_12 (lv_at hl 0 rfl) ?_
  refine jv_aload_n hx hb d_J_makeFrame_14 rfl (lv_at hl 2 rfl) ?_
  refine jg_D hc hh hx9 1 (by decide) rfl wf_J_211 d_J_makeFrame_15 ?_
  refine jgx_N hc hh (by rw [js_up_f (by decide)]; exact jc_Ow_ok hw) 2 (by decide) rfl wf_J_233 d_J_makeFrame_18 ?_
  refine lv_iconst (v := 1) hx hb d_J_makeFrame_21 (by decide) ?_
  refine lv_iadd hx hb d_J_makeFrame_22 ?_
  refine jp_6 hc hh js_f38 wf_J_233 d_J_makeFrame_23 (fun H locs hh => ?_)
  refine jv_aload hx hb d_J_makeFrame_26 (lv_at hl 0 rfl) ?_
  refine jv_aload_n hx hb d_J_makeFrame_28 rfl (lv_at hl 2 rfl) ?_
  refine jp_7 hc hh js_f38 wf_J_208 d_J_makeFrame_29 (fun H locs hh => ?_)
  have J32 : ∀  (H : Heap) (locs : List Loc) (ls : Array Slot), jx_H D 158 ad (jc_cell ad aK cA (jc_mk0 u (js_free u 5 38 1) (nI x))) A s.heap H locs → lv_has ls 6 [(0, .ref (ad 0)), (1, jv ad 78 (nI x)), (2, .int url), (3, .int step), (4, jv ad 38 (nI (js_free u 5 38 1)))] → W p l e (jr (k + 1)) s m args below meth c H locs 0 0 Q (F0 m 32 ls []) := by
    intro  H locs ls hh hl
    refine lv_aload_n hx hb d_J_makeFrame_32 rfl (lv_at hl 0 rfl) ?_
    refine lv_iload_n hx hb d_J_makeFrame_33 rfl (lv_at hl 2 rfl) ?_
    refine jx_callV [.int url] [] hc hh (c_followDetours l D aK ad cA (jc_mk0 u (js_free u 5 38 1) (nI x)) url (jc_mk0_Sh hS hx9 hw) hu) wy_J_131 ⟨by decide, rfl, rfl⟩ ⟨rfl, rfl, by simp only [jr]; omega, by simp only [jr]; omega⟩ rfl hl.1 rfl (by decide) ⟨Nat.zero_le _, Nat.zero_le _⟩ d_J_makeFrame_34 (fun r u9 H locs hp hh _ _ => ?_)
    rw [hp.2] at hh
    refine W.eq (g2 := F0 m 37 ls [.int (jc_fd (jc_mk0 u (js_free u 5 38 1) (nI x)) 4 url)]) (by rw [hp.1]; rfl) ?_
    refine lv_istore (i := 5) (lv' := [(5, .int (jc_fd (jc_mk0 u (js_free u 5 38 1) (nI x)) 4 url)), (0, .ref (ad 0)), (1, jv ad 78 (nI x)), (2, .int url), (3, .int step), (4, jv ad 38 (nI (js_free u 5 38 1)))]) hx hb d_J_makeFrame_37 hl (by decide) (by simp [vc_int, vc_ref, vc_long, jv_cat]) (fun ls hl => ?_)
    refine lv_aload_n hx hb d_J_makeFrame_39 rfl (lv_at hl 1 rfl) ?_
    refine jv_aload hx hb d_J_makeFrame_40 (lv_at hl 5 rfl) ?_
    refine lv_iload_n hx hb d_J_makeFrame_42 rfl (lv_at hl 4 rfl) ?_
    refine lv_iload hx hb d_J_makeFrame_43 (lv_at hl 0 rfl) ?_
    refine lv_iconst (v := 0) hx hb d_J_makeFrame_45 (by decide) ?_
    refine lv_aload_n hx hb d_J_makeFrame_46 rfl (lv_at hl 1 rfl) ?_
    refine jv_aload hx hb d_J_makeFrame_47 (lv_at hl 5 rfl) ?_
    refine lv_iload hx hb d_J_makeFrame_49 (lv_at hl 0 rfl) ?_
    refine lv_iload_n hx hb d_J_makeFrame_51 rfl (lv_at hl 4 rfl) ?_
    refine jx_callV [jv ad 38 (nI (js_free u 5 38 1)), .int (jc_fd (jc_mk0 u (js_free u 5 38 1) (nI x)) 4 url), .int step] [.int 0, .int (jc_fd (jc_mk0 u (js_free u 5 38 1) (nI x)) 4 url), .int step, jv ad 38 (nI (js_free u 5 38 1)), .ref (ad 0)] hc hh (hL (jc_mk0 u (js_free u 5 38 1) (nI x)) (nI (js_free u 5 38 1)) (jc_fd (jc_mk0 u (js_free u 5 38 1) (nI x)) 4 url) step (jc_mk0_Sh hS hx9 hw) (jc_mk0_own js_f38 h0 hw hd hx9) hC1 (jc_fd_ok (jc_mk0_Sh hS hx9 hw) 4 hu)) wy_J_47 ⟨by decide, rfl, rfl⟩ ⟨rfl, rfl, by simp only [jr]; omega, by simp only [jr]; omega⟩ rfl hl.1 rfl (by simp [vc_int, vc_ref, vc_long, jv_cat]) ⟨Nat.zero_le _, Nat.zero_le _⟩ d_J_makeFrame_52 (fun r u9 H locs hp hh _ _ => ?_)
    rw [hp.2] at hh
    refine W.eq (g2 := F0 m 55 ls [jv ad 78 (nI (js_free (jc_mk0 u (js_free u 5 38 1) (nI x)) 8 39 0)), .int 0, .int (jc_fd (jc_mk0 u (js_free u 5 38 1) (nI x)) 4 url), .int step, jv ad 38 (nI (js_free u 5 38 1)), .ref (ad 0)]) (by rw [hp.1]; rfl) ?_
    refine jx_callV [jv ad 38 (nI (js_free u 5 38 1)), .int step, .int (jc_fd (jc_mk0 u (js_free u 5 38 1) (nI x)) 4 url), .int 0, jv ad 78 (nI (js_free (jc_mk0 u (js_free u 5 38 1) (nI x)) 8 39 0))] [] hc hh (c_addEntry l D aK ad cA (L (jc_mk0 u (js_free u 5 38 1) (nI x)) (nI (js_free u 5 38 1)) (jc_fd (jc_mk0 u (js_free u 5 38 1) (nI x)) 4 url) step) (nI (js_free u 5 38 1)) step (jc_fd (jc_mk0 u (js_free u 5 38 1) (nI x)) 4 url) 0 (nI (js_free (jc_mk0 u (js_free u 5 38 1) (nI x)) 8 39 0))) wy_J_51 ⟨by decide, rfl, rfl⟩ ⟨rfl, rfl, by simp only [jr]; omega, by simp only [jr]; omega⟩ rfl hl.1 rfl (by decide) ⟨Nat.zero_le _, Nat.zero_le _⟩ d_J_makeFrame_55 (fun r u9 H locs hp hh _ _ => ?_)
    rw [hp.2] at hh
    refine W.eq (g2 := F0 m 58 ls []) rfl ?_
    refine jv_aload hx hb d_J_makeFrame_58 (lv_at hl 5 rfl) ?_
    exact jx_aret (r := (nI (js_free u 5 38 1))) hc hh hQ hlk hr (jv_or _ _ _) rfl ⟨rfl, by unfold jc_mkFrame jc_mkF; rfl⟩ d_J_makeFrame_60
  have e1 : (jc_mk0 u (js_free u 5 38 1) (nI x)) = (js_up (js_up (js_up u 5 (js_free u 5 38 1) 1) 6 (js_free u 5 38 1) (((js_up u 5 (js_free u 5 38 1) 1) 6 (ix ((js_up u 5 (js_free u 5 38 1) 1) 9 x))) + 1)) 7 (js_free u 5 38 1) (nI x)) := by unfold jc_mk0; rw [ix_nI (show x < 2 ^ 31 by omega)]
  refine J32 _ _ _ ?_ ?_
  ·
    try rw [e1]
    exact hh
  try rw [e1]
  exact lv_sub hl [1, 2, 3, 4, 0] rfl
set_option maxHeartbeats 4000000 in
set_option maxRecDepth 100000 in
theorem c_makeFrames (l : Launch) (D : va_G) (aK ad : Nat → Nat) (cA : Nat → ClassId) (d k : Nat) (hk : 4 ≤ k) (L : js_S → Int32 → Int32 → Int32 → js_S) (hF : ∀ e, d = e + 1 → jc_FC l D aK ad cA e L k ∧ jc_Lok e L) (hd : d ≤ 2) (u : js_S) (x : Nat) (a : Int32) (step : Int32) (hS : jc_Sh u) (hx9 : x < 40) (h8 : ¬ u 8 x = 0) (ha : ∃ i, i < 32 ∧ a = nI i) (hw : jc_Ow d u (u 9 x)) (hC : jc_Cp u (jc_Nn d) (jc_Dn d - 1)) : jx_M l y_J_makeFrames b_J_makeFrames 6 none (jr (k + 1)) D (jc_tys cA) aK 158 ad (jc_cell ad aK cA) [.ref (ad 0), jv ad 78 (nI x), jv ad 6 a, .int step] u (fun _ : Unit => none) (fun r u' => r = () ∧ u' = (jc_mkFrames L u (nI x) a step)) := by
  refine jx_enter "JointHistory" (by decide) rfl (by simp [lg_sl, vc_int, vc_ref, vc_long, jv_cat]) ?_
  intro p e s m args below meth c A Q H locs ls hQ hc hh hr hlk hl
  have hx := hc.1
  have hb := hc.2.1
  have hl : lv_has ls 6 [(0, .ref (ad 0)), (1, jv ad 78 (nI x)), (2, jv ad 6 a), (3, .int step)] := by simpa [lv_args, vc_int, vc_ref, vc_long, jv_cat] using hl
  refine lv_iconst (v := 2) hx hb d_J_makeFrames_0 (by decide) ?_
  refine jv_aload_n hx hb d_J_makeFrames_1 rfl (lv_at hl 1 rfl) ?_
  refine jg_D hc hh hx9 1 (by decide) rfl wf_J_211 d_J_makeFrames_2 ?_
  refine jgx_N hc hh (jc_Ow_ok hw) 2 (by decide) rfl wf_J_233 d_J_makeFrames_5 ?_
  refine lv_isub hx hb d_J_makeFrames_8 ?_
  refine lv_istore (i := 4) (lv' := [(4, .int (2 - (u 6 (ix (u 9 x))))), (0, .ref (ad 0)), (1, jv ad 78 (nI x)), (2, jv ad 6 a), (3, .int step)]) hx hb d_J_makeFrames_9 hl (by decide) rfl (fun ls hl => ?_)
  have J11 : ∀ (room : Int32) (ls : Array Slot), (room = jc_room u (nI x)) → lv_has ls 6 [(0, .ref (ad 0)), (1, jv ad 78 (nI x)), (2, jv ad 6 a), (3, .int step), (4, .int room)] → W p l e (jr (k + 1)) s m args below meth c H locs 0 0 Q (F0 m 11 ls []) := by
    intro room ls hrm hl
    have J42 : ∀ (v : js_S) (rr : Int32) (H : Heap) (locs : List Loc) (ls : Array Slot), (jc_Sh v) → (jc_mfB L v (nI x) a step rr = jc_mkFrames L u (nI x) a step) → (¬ rr ≤ 0 → ∃ e, d = e + 1 ∧ jc_Ow (e + 1) v (v 9 x) ∧ jc_Cp v (1 + jc_Nn e) (jc_Dn e)) → jx_H D 158 ad (jc_cell ad aK cA v) A s.heap H locs → lv_has ls 6 [(0, .ref (ad 0)), (1, jv ad 78 (nI x)), (2, jv ad 6 a), (3, .int step), (4, .int rr)] → W p l e (jr (k + 1)) s m args below meth c H locs 0 0 Q (F0 m 42 ls []) := by
      intro v rr H locs ls hSv hv hz hh hl
      refine lv_iload hx hb d_J_makeFrames_42 (lv_at hl 4 rfl) ?_
      refine lv_if_le (tgt := 90) hx hb d_J_makeFrames_44 rfl (fun h44 => ?_) (fun h44 => ?_)
      ·
        exact jx_vret (r := ()) hc hh hQ hlk hr rfl ⟨rfl, by rw [← hv]; simp [jc_mfB, jc_mf2, h44, ix_nI (show x < 2 ^ 31 by omega)]⟩ d_J_makeFrames_90
      refine jv_aload_n hx hb d_J_makeFrames_47 rfl (lv_at hl 2 rfl) ?_
      refine jgx_A hc hh ha 2 (by decide) rfl wf_J_75 d_J_makeFrames_48 ?_
      refine lv_bipush (v := -2) hx hb d_J_makeFrames_51 (by decide) ?_
      refine lv_icmp_eq (tgt := 90) hx hb d_J_makeFrames_53 rfl (fun h53 => ?_) (fun h53 => ?_)
      ·
        exact jx_vret (r := ()) hc hh hQ hlk hr rfl ⟨rfl, by rw [← hv]; simp [jc_mfB, jc_mf2, h44, h53, ix_nI (show x < 2 ^ 31 by omega)]⟩ d_J_makeFrames_90
      refine lv_aload_n hx hb d_J_makeFrames_56 rfl (lv_at hl 0 rfl) ?_
      refine jv_aload_n hx hb d_J_makeFrames_57 rfl (lv_at hl 1 rfl) ?_
      refine jv_aload_n hx hb d_J_makeFrames_58 rfl (lv_at hl 2 rfl) ?_
      refine jgx_A hc hh ha 2 (by decide) rfl wf_J_75 d_J_makeFrames_59 ?_
      refine lv_iload_n hx hb d_J_makeFrames_62 rfl (lv_at hl 3 rfl) ?_
      obtain ⟨e9, he9, hw9, hC9⟩ := hz h44
      obtain ⟨hFC, hLo⟩ := hF e9 he9
      refine jx_callV [jv ad 78 (nI x), .int (v 2 (ix a)), .int step] [] hc hh (hFC v x (v 2 (ix a)) step hSv hx9 hw9 hC9 (jc_Ssx hSv ha h53)) wy_J_236 ⟨by decide, rfl, rfl⟩ ⟨rfl, rfl, by simp only [jr]; omega, by simp only [jr]; omega⟩ rfl hl.1 rfl (by decide) ⟨Nat.zero_le _, Nat.zero_le _⟩ d_J_makeFrames_63 (fun r u9 H locs hp hh _ _ => ?_)
      rw [hp.2] at hh
      refine W.eq (g2 := F0 m 66 ls [jv ad 38 (nI (js_free v 5 38 1))]) (by rw [hp.1]; rfl) ?_
      refine jv_astore (i := 5) (lv' := [(5, jv ad 38 (nI (js_free v 5 38 1))), (0, .ref (ad 0)), (1, jv ad 78 (nI x)), (2, jv ad 6 a), (3, .int step), (4, .int rr)]) hx hb d_J_makeFrames_66 hl (by decide) rfl (fun ls hl => ?_)
      refine jv_aload_n hx hb d_J_makeFrames_68 rfl (lv_at hl 2 rfl) ?_
      refine jg_D hc hh hx9 4 (by decide) rfl wf_J_171 d_J_makeFrames_69 ?_
      refine jv_ifnonnull (tgt := 84) hx hb d_J_makeFrames_72 rfl (fun h72 => ?_) (fun h72 => ?_)
      ·
        refine jv_aload_n hx hb d_J_makeFrames_84 rfl (lv_at hl 2 rfl) ?_
        refine jv_aload hx hb d_J_makeFrames_85 (lv_at hl 0 rfl) ?_
        refine jp_13 hc hh hx9 wf_J_177 d_J_makeFrames_87 (fun H locs hh => ?_)
        exact jx_vret (r := ()) hc hh hQ hlk hr rfl ⟨rfl, by rw [← hv]; simp [jc_mfB, jc_mf2, h44, h53, h72, ix_nI (show x < 2 ^ 31 by omega)]⟩ d_J_makeFrames_90
      refine jv_aload_n hx hb d_J_makeFrames_75 rfl (lv_at hl 2 rfl) ?_
      refine jv_aload hx hb d_J_makeFrames_76 (lv_at hl 0 rfl) ?_
      refine jp_12 hc hh hx9 wf_J_171 d_J_makeFrames_78 (fun H locs hh => ?_)
      refine lv_goto (tgt := 90) hx hb d_J_makeFrames_81 rfl ?_
      exact jx_vret (r := ()) hc hh hQ hlk hr rfl ⟨rfl, by rw [← hv]; simp [jc_mfB, jc_mf2, h44, h53, h72, ix_nI (show x < 2 ^ 31 by omega)]⟩ d_J_makeFrames_90
    refine lv_iload hx hb d_J_makeFrames_11 (lv_at hl 4 rfl) ?_
    refine lv_if_le (tgt := 42) hx hb d_J_makeFrames_13 rfl (fun h13 => ?_) (fun h13 => ?_)
    ·
      refine J42 u room _ _ _ hS (by simp [jc_mkFrames, ← hrm, h13]) (fun q => absurd h13 q) ?_ ?_
      ·
        exact hh
      exact lv_sub hl [0, 1, 2, 3, 4] rfl
    refine jv_aload_n hx hb d_J_makeFrames_16 rfl (lv_at hl 2 rfl) ?_
    refine jgx_A hc hh ha 1 (by decide) rfl wf_J_71 d_J_makeFrames_17 ?_
    refine lv_bipush (v := -2) hx hb d_J_makeFrames_20 (by decide) ?_
    refine lv_icmp_eq (tgt := 42) hx hb d_J_makeFrames_22 rfl (fun h22 => ?_) (fun h22 => ?_)
    ·
      refine J42 u room _ _ _ hS (by simp [jc_mkFrames, ← hrm, h13, h22]) (jc_hzB hw hd hx9 hrm hC) ?_ ?_
      ·
        exact hh
      exact lv_sub hl [0, 1, 2, 3, 4] rfl
    refine jv_aload_n hx hb d_J_makeFrames_25 rfl (lv_at hl 1 rfl) ?_
    refine lv_aload_n hx hb d_J_makeFrames_26 rfl (lv_at hl 0 rfl) ?_
    refine jv_aload_n hx hb d_J_makeFrames_27 rfl (lv_at hl 1 rfl) ?_
    refine jv_aload_n hx hb d_J_makeFrames_28 rfl (lv_at hl 2 rfl) ?_
    refine jgx_A hc hh ha 1 (by decide) rfl wf_J_71 d_J_makeFrames_29 ?_
    refine lv_iload_n hx hb d_J_makeFrames_32 rfl (lv_at hl 3 rfl) ?_
    obtain ⟨e9, he9⟩ := jc_dpos hw hd hx9 hrm h13
    obtain ⟨hFC, hLo⟩ := hF e9 he9
    refine jx_callV [jv ad 78 (nI x), .int (u 1 (ix a)), .int step] [jv ad 78 (nI x)] hc hh (hFC u x (u 1 (ix a)) step hS hx9 (he9 ▸ hw) (jc_Cp1 (he9 ▸ hC)) (jc_Sfx hS ha h22)) wy_J_236 ⟨by decide, rfl, rfl⟩ ⟨rfl, rfl, by simp only [jr]; omega, by simp only [jr]; omega⟩ rfl hl.1 rfl (by simp [vc_int, vc_ref, vc_long, jv_cat]) ⟨Nat.zero_le _, Nat.zero_le _⟩ d_J_makeFrames_33 (fun r u9 H locs hp hh _ _ => ?_)
    rw [hp.2] at hh
    refine W.eq (g2 := F0 m 36 ls [jv ad 38 (nI (js_free u 5 38 1)), jv ad 78 (nI x)]) (by rw [hp.1]; rfl) ?_
    refine jp_12 hc hh hx9 wf_J_171 d_J_makeFrames_36 (fun H locs hh => ?_)
    refine lv_iinc (k := 4) (v := (room + (-1))) (lv' := [(4, .int (room + (-1))), (0, .ref (ad 0)), (1, jv ad 78 (nI x)), (2, jv ad 6 a), (3, .int step)]) hx hb d_J_makeFrames_39 hl rfl rfl (by decide) rfl (fun ls hl => ?_)
    refine J42 (js_up (jc_mkFrame L u (nI x) (u 1 (ix a)) step) 12 x (nI (js_free u 5 38 1))) (room + (-1)) _ _ _ (jc_hzC1 hLo he9 hd hS hx9 h8 ha hw hC h22) (by simp [jc_mkFrames, jc_mf1, ← hrm, h13, h22, ix_nI (show x < 2 ^ 31 by omega)]) (jc_hzC2 hLo he9 hd hS hx9 h8 ha hw hC hrm h22) ?_ ?_
    ·
      exact hh
    exact lv_sub hl [1, 2, 3, 4, 0] rfl
  refine J11 (2 - (u 6 (ix (u 9 x)))) _ (by unfold jc_room; rw [ix_nI (show x < 2 ^ 31 by omega)]) ?_
  exact lv_sub hl [1, 2, 3, 4, 0] rfl
set_option maxHeartbeats 4000000 in
set_option maxRecDepth 100000 in
theorem c_load (l : Launch) (D : va_G) (aK ad : Nat → Nat) (cA : Nat → ClassId) (d k : Nat) (hk : 4 ≤ k) (L : js_S → Int32 → Int32 → Int32 → js_S) (hMF : jc_MC l D aK ad cA d L k) (u : js_S) (o : Int32) (url : Int32) (step : Int32) (hS : jc_Sh u) (hw : jc_Ow d u o) (hC : jc_Cp u (jc_Nn d) (jc_Dn d)) (hu : jq 256 url) : jx_M l y_J_load b_J_load 8 (some (.object "JointHistory$Document")) (jr (k + 1)) D (jc_tys cA) aK 158 ad (jc_cell ad aK cA) [.ref (ad 0), jv ad 38 o, .int url, .int step] u (fun r : Int32 => some (jv ad 78 r)) (fun r u' => r = nI (js_free u 8 39 0) ∧ u' = (jc_loadB L u o url step)) := by
  refine jx_enter "JointHistory" (by decide) rfl (by simp [lg_sl, vc_int, vc_ref, vc_long, jv_cat]) ?_
  intro p e s m args below meth c A Q H locs ls hQ hc hh hr hlk hl
  have hx := hc.1
  have hb := hc.2.1
  have hl : lv_has ls 8 [(0, .ref (ad 0)), (1, jv ad 38 o), (2, .int url), (3, .int step)] := by simpa [lv_args, vc_int, vc_ref, vc_long, jv_cat] using hl
  have hD1 := jc_Dn_pos d
  have h0 : u 8 (js_free u 8 39 0) = 0 := js_f39z (by have := hC.2.2.1; omega)
  refine jv_aload_n hx hb d_J_load_0 rfl (lv_at hl 1 rfl) ?_
  refine jgx_N hc hh (jc_Ow_ok hw) 3 (by decide) rfl wf_J_208 d_J_load_1 ?_
  refine jv_astore (i := 4) (lv' := [(4, jv ad 78 (u 7 (ix o))), (0, .ref (ad 0)), (1, jv ad 38 o), (2, .int url), (3, .int step)]) hx hb d_J_load_4 hl (by decide) rfl (fun ls hl => ?_)
  refine jv_aload hx hb d_J_load_6 (lv_at hl 0 rfl) ?_
  refine jv_ifnull (tgt := 23) hx hb d_J_load_8 rfl (fun h8 => ?_) (fun h8 => ?_)
  ·
    refine lv_iconst (v := 0) hx hb d_J_load_23 (by decide) ?_
    have J24 : ∀  (ls : Array Slot), lv_has ls 8 [(0, .ref (ad 0)), (1, jv ad 38 o), (2, .int url), (3, .int step), (4, jv ad 78 (u 7 (ix o)))] → W p l e (jr (k + 1)) s m args below meth c H locs 0 0 Q (F0 m 24 ls [.int (jc_boxed u (u 7 (ix o)))]) := by
      intro  ls hl
      refine lv_istore (i := 5) (lv' := [(5, .int (jc_boxed u (u 7 (ix o)))), (0, .ref (ad 0)), (1, jv ad 38 o), (2, .int url), (3, .int step), (4, jv ad 78 (u 7 (ix o)))]) hx hb d_J_load_24 hl (by decide) (by simp [vc_int, vc_ref, vc_long, jv_cat]) (fun ls hl => ?_)
      refine lv_aload_n hx hb d_J_load_26 rfl (lv_at hl 1 rfl) ?_
      refine jv_aload_n hx hb d_J_load_27 rfl (lv_at hl 2 rfl) ?_
      refine jx_callV [jv ad 38 o] [] hc hh (c_freeDocument l D aK ad cA u o) wy_J_222 ⟨by decide, rfl, rfl⟩ ⟨rfl, rfl, by simp only [jr]; omega, by simp only [jr]; omega⟩ rfl hl.1 rfl (by decide) ⟨Nat.zero_le _, Nat.zero_le _⟩ d_J_load_28 (fun r u9 H locs hp hh _ _ => ?_)
      rw [hp.2] at hh
      refine W.eq (g2 := F0 m 31 ls [jv ad 78 (nI (js_free u 8 39 0))]) (by rw [hp.1]; rfl) ?_
      refine jv_astore (i := 6) (lv' := [(6, jv ad 78 (nI (js_free u 8 39 0))), (5, .int (jc_boxed u (u 7 (ix o)))), (0, .ref (ad 0)), (1, jv ad 38 o), (2, .int url), (3, .int step), (4, jv ad 78 (u 7 (ix o)))]) hx hb d_J_load_31 hl (by decide) rfl (fun ls hl => ?_)
      refine lv_iload_n hx hb d_J_load_33 rfl (lv_at hl 4 rfl) ?_
      refine lv_iconst (v := -1) hx hb d_J_load_34 (by decide) ?_
      refine lv_icmp_ne (tgt := 75) hx hb d_J_load_35 rfl (fun h35 => ?_) (fun h35 => ?_)
      ·
        refine lv_aload_n hx hb d_J_load_75 rfl (lv_at hl 2 rfl) ?_
        refine jg_J hc hh 0 (by decide) rfl wf_J_11 d_J_load_76 ?_
        refine lv_iload_n hx hb d_J_load_79 rfl (lv_at hl 4 rfl) ?_
        refine jx_callS [.int url] [.ref (ad 1)] hc hh (c_pageOf l D aK ad cA (jc_freeDoc u o) url) wy_J_202 ⟨rfl, rfl, by simp only [jr]; omega, by simp only [jr]; omega⟩ rfl hl.1 rfl (by simp [vc_int, vc_ref, vc_long, jv_cat]) ⟨Nat.zero_le _, Nat.zero_le _⟩ d_J_load_80 (fun r u9 H locs hp hh _ _ => ?_)
        rw [hp.2] at hh
        refine W.eq (g2 := F0 m 83 ls [.int (url / 8), .ref (ad 1)]) (by rw [hp.1]; rfl) ?_
        refine jax_A hc hh (js_pg hu h35) d_J_load_83 ?_
        refine jv_astore (i := 7) (lv' := [(7, jv ad 6 (url / 8)), (6, jv ad 78 (nI (js_free u 8 39 0))), (5, .int (jc_boxed u (u 7 (ix o)))), (0, .ref (ad 0)), (1, jv ad 38 o), (2, .int url), (3, .int step), (4, jv ad 78 (u 7 (ix o)))]) hx hb d_J_load_84 hl (by decide) (by simp [vc_int, vc_ref, vc_long, jv_cat]) (fun ls hl => ?_)
        refine jv_aload hx hb d_J_load_86 (lv_at hl 0 rfl) ?_
        refine jgx_A hc hh (js_pg hu h35) 0 (by decide) rfl wf_J_68 d_J_load_88 ?_
        refine jk_get (j := 0) hc hh (by decide) wf_J_62 d_J_load_91 ?_
        refine jv_acmp_eq (tgt := 115) (n := 3) hx hb (by decide) (jk_inj hc) (jc_Skx (jc_Sh_fdx hS (jc_Ow_ok hw)) (js_pg hu h35)) (jq_nI (by decide)) d_J_load_94 rfl (fun h94 => ?_) (fun h94 => ?_)
        ·
          refine jv_aload hx hb d_J_load_115 (lv_at hl 1 rfl) ?_
          refine jv_aload hx hb d_J_load_117 (lv_at hl 0 rfl) ?_
          refine jgx_A hc hh (js_pg hu h35) 3 (by decide) rfl wf_J_78 d_J_load_119 ?_
          refine lv_if_ne (tgt := 130) hx hb d_J_load_122 rfl (fun h122 => ?_) (fun h122 => ?_)
          ·
            refine lv_iconst (v := 1) hx hb d_J_load_130 (by decide) ?_
            refine lv_goto (tgt := 135) hx hb d_J_load_131 rfl ?_
            have J135 : ∀  (ls : Array Slot), lv_has ls 8 [(0, .ref (ad 0)), (2, .int url), (3, .int step), (6, jv ad 78 (nI (js_free u 8 39 0))), (7, jv ad 6 (url / 8))] → W p l e (jr (k + 1)) s m args below meth c H locs 0 0 Q (F0 m 135 ls [.int (jc_bx (jc_freeDoc u o) (url / 8) (jc_boxed u (u 7 (ix o)))), jv ad 78 (nI (js_free u 8 39 0))]) := by
              intro  ls hl
              refine jp_11 hc hh js_f39 jc_bx_z wf_J_219 d_J_load_135 (fun H locs hh => ?_)
              refine jv_aload hx hb d_J_load_138 (lv_at hl 3 rfl) ?_
              refine jv_aload hx hb d_J_load_140 (lv_at hl 3 rfl) ?_
              refine jg_D hc hh js_f39 3 (by decide) rfl wf_J_219 d_J_load_142 ?_
              refine lv_if_eq (tgt := 155) hx hb d_J_load_145 rfl (fun h145 => ?_) (fun h145 => ?_)
              ·
                refine lv_iload_n hx hb d_J_load_155 rfl (lv_at hl 1 rfl) ?_
                refine jx_callS [.int url] [jv ad 78 (nI (js_free u 8 39 0))] hc hh (c_hostOf l D aK ad cA (js_up (jc_freeDoc u o) 11 (js_free u 8 39 0) (jc_bx (jc_freeDoc u o) (url / 8) (jc_boxed u (u 7 (ix o))))) url) wy_J_205 ⟨rfl, rfl, by simp only [jr]; omega, by simp only [jr]; omega⟩ rfl hl.1 rfl (by simp [vc_int, vc_ref, vc_long, jv_cat]) ⟨Nat.zero_le _, Nat.zero_le _⟩ d_J_load_156 (fun r u9 H locs hp hh _ _ => ?_)
                rw [hp.2] at hh
                refine W.eq (g2 := F0 m 159 ls [.int (url / 64), jv ad 78 (nI (js_free u 8 39 0))]) (by rw [hp.1]; rfl) ?_
                refine jp_10 hc hh js_f39 wf_J_168 d_J_load_159 (fun H locs hh => ?_)
                have J162 : ∀  (H : Heap) (locs : List Loc) (ls : Array Slot), jx_H D 158 ad (jc_cell ad aK cA (jc_ldC (jc_freeDoc u o) (js_free u 8 39 0) url (jc_bx (jc_freeDoc u o) (url / 8) (jc_boxed u (u 7 (ix o)))))) A s.heap H locs → lv_has ls 8 [(0, .ref (ad 0)), (2, .int url), (3, .int step), (6, jv ad 78 (nI (js_free u 8 39 0))), (7, jv ad 6 (url / 8))] → W p l e (jr (k + 1)) s m args below meth c H locs 0 0 Q (F0 m 162 ls []) := by
                  intro  H locs ls hh hl
                  refine lv_aload_n hx hb d_J_load_162 rfl (lv_at hl 0 rfl) ?_
                  refine jv_aload hx hb d_J_load_163 (lv_at hl 3 rfl) ?_
                  refine jv_aload hx hb d_J_load_165 (lv_at hl 4 rfl) ?_
                  refine lv_iload_n hx hb d_J_load_167 rfl (lv_at hl 2 rfl) ?_
                  refine jx_callV [jv ad 78 (nI (js_free u 8 39 0)), jv ad 6 (url / 8), .int step] [] hc hh (hMF (jc_ldC (jc_freeDoc u o) (js_free u 8 39 0) url (jc_bx (jc_freeDoc u o) (url / 8) (jc_boxed u (u 7 (ix o))))) (js_free u 8 39 0) (url / 8) step (jc_Sh_ldC (jc_Sh_fdx hS (jc_Ow_ok hw))) js_f39 (by rw [(jc_ldC_fd _ rfl).1]; decide) (js_pg hu h35) (by rw [(jc_ldC_fd _ rfl).2]; exact jc_Ow_Gr hw (jc_ldC_Gr (jc_Gr_doc h0) h0)) (jc_Cp_Gr (jc_Cp_le hC (by omega) (by omega)) (jc_ldC_Gr (jc_Gr_doc h0) h0) (by omega))) wy_J_229 ⟨by decide, rfl, rfl⟩ ⟨rfl, rfl, by simp only [jr]; omega, by simp only [jr]; omega⟩ rfl hl.1 rfl (by decide) ⟨Nat.zero_le _, Nat.zero_le _⟩ d_J_load_168 (fun r u9 H locs hp hh _ _ => ?_)
                  rw [hp.2] at hh
                  refine W.eq (g2 := F0 m 171 ls []) rfl ?_
                  refine jv_aload hx hb d_J_load_171 (lv_at hl 3 rfl) ?_
                  exact jx_aret (r := (nI (js_free u 8 39 0))) hc hh hQ hlk hr (jv_or _ _ _) rfl ⟨rfl, by simp [jc_loadB, jc_ldU, h35, h94]⟩ d_J_load_173
                have e1 : (jc_ldC (jc_freeDoc u o) (js_free u 8 39 0) url (jc_bx (jc_freeDoc u o) (url / 8) (jc_boxed u (u 7 (ix o))))) = (js_up (js_up (jc_freeDoc u o) 11 (js_free u 8 39 0) (jc_bx (jc_freeDoc u o) (url / 8) (jc_boxed u (u 7 (ix o))))) 10 (js_free u 8 39 0) (url / 64)) := by first | (simp [jc_ldC, jc_opq, h145]; done) | (simp [jc_ldC, jc_opq, eq_true h145]; done)
                refine J162 _ _ _ ?_ ?_
                ·
                  try rw [e1]
                  exact hh
                try rw [e1]
                exact lv_sub hl [0, 1, 2, 3, 4] rfl
              refine lv_aload_n hx hb d_J_load_148 rfl (lv_at hl 0 rfl) ?_
              refine jx_callV [] [jv ad 78 (nI (js_free u 8 39 0))] hc hh (c_giveOpaqueOrigin l D aK ad cA (js_up (jc_freeDoc u o) 11 (js_free u 8 39 0) (jc_bx (jc_freeDoc u o) (url / 8) (jc_boxed u (u 7 (ix o)))))) wy_J_226 ⟨by decide, rfl, rfl⟩ ⟨rfl, rfl, by simp only [jr]; omega, by simp only [jr]; omega⟩ rfl hl.1 rfl (by simp [vc_int, vc_ref, vc_long, jv_cat]) ⟨Nat.zero_le _, Nat.zero_le _⟩ d_J_load_149 (fun r u9 H locs hp hh _ _ => ?_)
              rw [hp.2] at hh
              refine W.eq (g2 := F0 m 152 ls [.int (4 + (js_up (jc_freeDoc u o) 11 (js_free u 8 39 0) (jc_bx (jc_freeDoc u o) (url / 8) (jc_boxed u (u 7 (ix o))))) 24 0), jv ad 78 (nI (js_free u 8 39 0))]) (by rw [hp.1]; rfl) ?_
              refine lv_goto (tgt := 159) hx hb d_J_load_152 rfl ?_
              refine jp_10 hc hh js_f39 wf_J_168 d_J_load_159 (fun H locs hh => ?_)
              have J162 : ∀  (H : Heap) (locs : List Loc) (ls : Array Slot), jx_H D 158 ad (jc_cell ad aK cA (jc_ldC (jc_freeDoc u o) (js_free u 8 39 0) url (jc_bx (jc_freeDoc u o) (url / 8) (jc_boxed u (u 7 (ix o)))))) A s.heap H locs → lv_has ls 8 [(0, .ref (ad 0)), (2, .int url), (3, .int step), (6, jv ad 78 (nI (js_free u 8 39 0))), (7, jv ad 6 (url / 8))] → W p l e (jr (k + 1)) s m args below meth c H locs 0 0 Q (F0 m 162 ls []) := by
                intro  H locs ls hh hl
                refine lv_aload_n hx hb d_J_load_162 rfl (lv_at hl 0 rfl) ?_
                refine jv_aload hx hb d_J_load_163 (lv_at hl 3 rfl) ?_
                refine jv_aload hx hb d_J_load_165 (lv_at hl 4 rfl) ?_
                refine lv_iload_n hx hb d_J_load_167 rfl (lv_at hl 2 rfl) ?_
                refine jx_callV [jv ad 78 (nI (js_free u 8 39 0)), jv ad 6 (url / 8), .int step] [] hc hh (hMF (jc_ldC (jc_freeDoc u o) (js_free u 8 39 0) url (jc_bx (jc_freeDoc u o) (url / 8) (jc_boxed u (u 7 (ix o))))) (js_free u 8 39 0) (url / 8) step (jc_Sh_ldC (jc_Sh_fdx hS (jc_Ow_ok hw))) js_f39 (by rw [(jc_ldC_fd _ rfl).1]; decide) (js_pg hu h35) (by rw [(jc_ldC_fd _ rfl).2]; exact jc_Ow_Gr hw (jc_ldC_Gr (jc_Gr_doc h0) h0)) (jc_Cp_Gr (jc_Cp_le hC (by omega) (by omega)) (jc_ldC_Gr (jc_Gr_doc h0) h0) (by omega))) wy_J_229 ⟨by decide, rfl, rfl⟩ ⟨rfl, rfl, by simp only [jr]; omega, by simp only [jr]; omega⟩ rfl hl.1 rfl (by decide) ⟨Nat.zero_le _, Nat.zero_le _⟩ d_J_load_168 (fun r u9 H locs hp hh _ _ => ?_)
                rw [hp.2] at hh
                refine W.eq (g2 := F0 m 171 ls []) rfl ?_
                refine jv_aload hx hb d_J_load_171 (lv_at hl 3 rfl) ?_
                exact jx_aret (r := (nI (js_free u 8 39 0))) hc hh hQ hlk hr (jv_or _ _ _) rfl ⟨rfl, by simp [jc_loadB, jc_ldU, h35, h94]⟩ d_J_load_173
              have e2 : (jc_ldC (jc_freeDoc u o) (js_free u 8 39 0) url (jc_bx (jc_freeDoc u o) (url / 8) (jc_boxed u (u 7 (ix o))))) = (js_up (js_up (js_up (jc_freeDoc u o) 11 (js_free u 8 39 0) (jc_bx (jc_freeDoc u o) (url / 8) (jc_boxed u (u 7 (ix o))))) 24 0 ((js_up (jc_freeDoc u o) 11 (js_free u 8 39 0) (jc_bx (jc_freeDoc u o) (url / 8) (jc_boxed u (u 7 (ix o))))) 24 0 + 1)) 10 (js_free u 8 39 0) (4 + (js_up (jc_freeDoc u o) 11 (js_free u 8 39 0) (jc_bx (jc_freeDoc u o) (url / 8) (jc_boxed u (u 7 (ix o))))) 24 0)) := by simp [jc_ldC, jc_opq, h145]
              refine J162 _ _ _ ?_ ?_
              ·
                try rw [e2]
                exact hh
              try rw [e2]
              exact lv_sub hl [0, 1, 2, 3, 4] rfl
            have e3 : (jc_bx (jc_freeDoc u o) (url / 8) (jc_boxed u (u 7 (ix o)))) = 1 := by first | (simp [jc_bx, h35, h94, h122]; done) | (simp [jc_bx, h35, eq_true h94, h122]; done)
            refine W.eq (g2 := F0 m 135 ls [.int (jc_bx (jc_freeDoc u o) (url / 8) (jc_boxed u (u 7 (ix o)))), jv ad 78 (nI (js_free u 8 39 0))]) (by first | (rw [e3]; done) | (rw [e3]; rfl)) ?_
            refine J135 _ ?_
            exact lv_sub hl [3, 5, 6, 1, 0] rfl
          refine lv_iload hx hb d_J_load_125 (lv_at hl 2 rfl) ?_
          refine lv_if_eq (tgt := 134) hx hb d_J_load_127 rfl (fun h127 => ?_) (fun h127 => ?_)
          ·
            refine lv_iconst (v := 0) hx hb d_J_load_134 (by decide) ?_
            have J135 : ∀  (ls : Array Slot), lv_has ls 8 [(0, .ref (ad 0)), (2, .int url), (3, .int step), (6, jv ad 78 (nI (js_free u 8 39 0))), (7, jv ad 6 (url / 8))] → W p l e (jr (k + 1)) s m args below meth c H locs 0 0 Q (F0 m 135 ls [.int (jc_bx (jc_freeDoc u o) (url / 8) (jc_boxed u (u 7 (ix o)))), jv ad 78 (nI (js_free u 8 39 0))]) := by
              intro  ls hl
              refine jp_11 hc hh js_f39 jc_bx_z wf_J_219 d_J_load_135 (fun H locs hh => ?_)
              refine jv_aload hx hb d_J_load_138 (lv_at hl 3 rfl) ?_
              refine jv_aload hx hb d_J_load_140 (lv_at hl 3 rfl) ?_
              refine jg_D hc hh js_f39 3 (by decide) rfl wf_J_219 d_J_load_142 ?_
              refine lv_if_eq (tgt := 155) hx hb d_J_load_145 rfl (fun h145 => ?_) (fun h145 => ?_)
              ·
                refine lv_iload_n hx hb d_J_load_155 rfl (lv_at hl 1 rfl) ?_
                refine jx_callS [.int url] [jv ad 78 (nI (js_free u 8 39 0))] hc hh (c_hostOf l D aK ad cA (js_up (jc_freeDoc u o) 11 (js_free u 8 39 0) (jc_bx (jc_freeDoc u o) (url / 8) (jc_boxed u (u 7 (ix o))))) url) wy_J_205 ⟨rfl, rfl, by simp only [jr]; omega, by simp only [jr]; omega⟩ rfl hl.1 rfl (by simp [vc_int, vc_ref, vc_long, jv_cat]) ⟨Nat.zero_le _, Nat.zero_le _⟩ d_J_load_156 (fun r u9 H locs hp hh _ _ => ?_)
                rw [hp.2] at hh
                refine W.eq (g2 := F0 m 159 ls [.int (url / 64), jv ad 78 (nI (js_free u 8 39 0))]) (by rw [hp.1]; rfl) ?_
                refine jp_10 hc hh js_f39 wf_J_168 d_J_load_159 (fun H locs hh => ?_)
                have J162 : ∀  (H : Heap) (locs : List Loc) (ls : Array Slot), jx_H D 158 ad (jc_cell ad aK cA (jc_ldC (jc_freeDoc u o) (js_free u 8 39 0) url (jc_bx (jc_freeDoc u o) (url / 8) (jc_boxed u (u 7 (ix o)))))) A s.heap H locs → lv_has ls 8 [(0, .ref (ad 0)), (2, .int url), (3, .int step), (6, jv ad 78 (nI (js_free u 8 39 0))), (7, jv ad 6 (url / 8))] → W p l e (jr (k + 1)) s m args below meth c H locs 0 0 Q (F0 m 162 ls []) := by
                  intro  H locs ls hh hl
                  refine lv_aload_n hx hb d_J_load_162 rfl (lv_at hl 0 rfl) ?_
                  refine jv_aload hx hb d_J_load_163 (lv_at hl 3 rfl) ?_
                  refine jv_aload hx hb d_J_load_165 (lv_at hl 4 rfl) ?_
                  refine lv_iload_n hx hb d_J_load_167 rfl (lv_at hl 2 rfl) ?_
                  refine jx_callV [jv ad 78 (nI (js_free u 8 39 0)), jv ad 6 (url / 8), .int step] [] hc hh (hMF (jc_ldC (jc_freeDoc u o) (js_free u 8 39 0) url (jc_bx (jc_freeDoc u o) (url / 8) (jc_boxed u (u 7 (ix o))))) (js_free u 8 39 0) (url / 8) step (jc_Sh_ldC (jc_Sh_fdx hS (jc_Ow_ok hw))) js_f39 (by rw [(jc_ldC_fd _ rfl).1]; decide) (js_pg hu h35) (by rw [(jc_ldC_fd _ rfl).2]; exact jc_Ow_Gr hw (jc_ldC_Gr (jc_Gr_doc h0) h0)) (jc_Cp_Gr (jc_Cp_le hC (by omega) (by omega)) (jc_ldC_Gr (jc_Gr_doc h0) h0) (by omega))) wy_J_229 ⟨by decide, rfl, rfl⟩ ⟨rfl, rfl, by simp only [jr]; omega, by simp only [jr]; omega⟩ rfl hl.1 rfl (by decide) ⟨Nat.zero_le _, Nat.zero_le _⟩ d_J_load_168 (fun r u9 H locs hp hh _ _ => ?_)
                  rw [hp.2] at hh
                  refine W.eq (g2 := F0 m 171 ls []) rfl ?_
                  refine jv_aload hx hb d_J_load_171 (lv_at hl 3 rfl) ?_
                  exact jx_aret (r := (nI (js_free u 8 39 0))) hc hh hQ hlk hr (jv_or _ _ _) rfl ⟨rfl, by simp [jc_loadB, jc_ldU, h35, h94]⟩ d_J_load_173
                have e4 : (jc_ldC (jc_freeDoc u o) (js_free u 8 39 0) url (jc_bx (jc_freeDoc u o) (url / 8) (jc_boxed u (u 7 (ix o))))) = (js_up (js_up (jc_freeDoc u o) 11 (js_free u 8 39 0) (jc_bx (jc_freeDoc u o) (url / 8) (jc_boxed u (u 7 (ix o))))) 10 (js_free u 8 39 0) (url / 64)) := by first | (simp [jc_ldC, jc_opq, h145]; done) | (simp [jc_ldC, jc_opq, eq_true h145]; done)
                refine J162 _ _ _ ?_ ?_
                ·
                  try rw [e4]
                  exact hh
                try rw [e4]
                exact lv_sub hl [0, 1, 2, 3, 4] rfl
              refine lv_aload_n hx hb d_J_load_148 rfl (lv_at hl 0 rfl) ?_
              refine jx_callV [] [jv ad 78 (nI (js_free u 8 39 0))] hc hh (c_giveOpaqueOrigin l D aK ad cA (js_up (jc_freeDoc u o) 11 (js_free u 8 39 0) (jc_bx (jc_freeDoc u o) (url / 8) (jc_boxed u (u 7 (ix o)))))) wy_J_226 ⟨by decide, rfl, rfl⟩ ⟨rfl, rfl, by simp only [jr]; omega, by simp only [jr]; omega⟩ rfl hl.1 rfl (by simp [vc_int, vc_ref, vc_long, jv_cat]) ⟨Nat.zero_le _, Nat.zero_le _⟩ d_J_load_149 (fun r u9 H locs hp hh _ _ => ?_)
              rw [hp.2] at hh
              refine W.eq (g2 := F0 m 152 ls [.int (4 + (js_up (jc_freeDoc u o) 11 (js_free u 8 39 0) (jc_bx (jc_freeDoc u o) (url / 8) (jc_boxed u (u 7 (ix o))))) 24 0), jv ad 78 (nI (js_free u 8 39 0))]) (by rw [hp.1]; rfl) ?_
              refine lv_goto (tgt := 159) hx hb d_J_load_152 rfl ?_
              refine jp_10 hc hh js_f39 wf_J_168 d_J_load_159 (fun H locs hh => ?_)
              have J162 : ∀  (H : Heap) (locs : List Loc) (ls : Array Slot), jx_H D 158 ad (jc_cell ad aK cA (jc_ldC (jc_freeDoc u o) (js_free u 8 39 0) url (jc_bx (jc_freeDoc u o) (url / 8) (jc_boxed u (u 7 (ix o)))))) A s.heap H locs → lv_has ls 8 [(0, .ref (ad 0)), (2, .int url), (3, .int step), (6, jv ad 78 (nI (js_free u 8 39 0))), (7, jv ad 6 (url / 8))] → W p l e (jr (k + 1)) s m args below meth c H locs 0 0 Q (F0 m 162 ls []) := by
                intro  H locs ls hh hl
                refine lv_aload_n hx hb d_J_load_162 rfl (lv_at hl 0 rfl) ?_
                refine jv_aload hx hb d_J_load_163 (lv_at hl 3 rfl) ?_
                refine jv_aload hx hb d_J_load_165 (lv_at hl 4 rfl) ?_
                refine lv_iload_n hx hb d_J_load_167 rfl (lv_at hl 2 rfl) ?_
                refine jx_callV [jv ad 78 (nI (js_free u 8 39 0)), jv ad 6 (url / 8), .int step] [] hc hh (hMF (jc_ldC (jc_freeDoc u o) (js_free u 8 39 0) url (jc_bx (jc_freeDoc u o) (url / 8) (jc_boxed u (u 7 (ix o))))) (js_free u 8 39 0) (url / 8) step (jc_Sh_ldC (jc_Sh_fdx hS (jc_Ow_ok hw))) js_f39 (by rw [(jc_ldC_fd _ rfl).1]; decide) (js_pg hu h35) (by rw [(jc_ldC_fd _ rfl).2]; exact jc_Ow_Gr hw (jc_ldC_Gr (jc_Gr_doc h0) h0)) (jc_Cp_Gr (jc_Cp_le hC (by omega) (by omega)) (jc_ldC_Gr (jc_Gr_doc h0) h0) (by omega))) wy_J_229 ⟨by decide, rfl, rfl⟩ ⟨rfl, rfl, by simp only [jr]; omega, by simp only [jr]; omega⟩ rfl hl.1 rfl (by decide) ⟨Nat.zero_le _, Nat.zero_le _⟩ d_J_load_168 (fun r u9 H locs hp hh _ _ => ?_)
                rw [hp.2] at hh
                refine W.eq (g2 := F0 m 171 ls []) rfl ?_
                refine jv_aload hx hb d_J_load_171 (lv_at hl 3 rfl) ?_
                exact jx_aret (r := (nI (js_free u 8 39 0))) hc hh hQ hlk hr (jv_or _ _ _) rfl ⟨rfl, by simp [jc_loadB, jc_ldU, h35, h94]⟩ d_J_load_173
              have e5 : (jc_ldC (jc_freeDoc u o) (js_free u 8 39 0) url (jc_bx (jc_freeDoc u o) (url / 8) (jc_boxed u (u 7 (ix o))))) = (js_up (js_up (js_up (jc_freeDoc u o) 11 (js_free u 8 39 0) (jc_bx (jc_freeDoc u o) (url / 8) (jc_boxed u (u 7 (ix o))))) 24 0 ((js_up (jc_freeDoc u o) 11 (js_free u 8 39 0) (jc_bx (jc_freeDoc u o) (url / 8) (jc_boxed u (u 7 (ix o))))) 24 0 + 1)) 10 (js_free u 8 39 0) (4 + (js_up (jc_freeDoc u o) 11 (js_free u 8 39 0) (jc_bx (jc_freeDoc u o) (url / 8) (jc_boxed u (u 7 (ix o))))) 24 0)) := by simp [jc_ldC, jc_opq, h145]
              refine J162 _ _ _ ?_ ?_
              ·
                try rw [e5]
                exact hh
              try rw [e5]
              exact lv_sub hl [0, 1, 2, 3, 4] rfl
            have e6 : (jc_bx (jc_freeDoc u o) (url / 8) (jc_boxed u (u 7 (ix o)))) = 0 := by first | (simp [jc_bx, h35, h94, h122, h127]; done) | (simp [jc_bx, h35, eq_true h94, eq_true h122, eq_true h127]; done)
            refine W.eq (g2 := F0 m 135 ls [.int (jc_bx (jc_freeDoc u o) (url / 8) (jc_boxed u (u 7 (ix o)))), jv ad 78 (nI (js_free u 8 39 0))]) (by first | (rw [e6]; done) | (rw [e6]; rfl)) ?_
            refine J135 _ ?_
            exact lv_sub hl [3, 5, 6, 1, 0] rfl
          refine lv_iconst (v := 1) hx hb d_J_load_130 (by decide) ?_
          refine lv_goto (tgt := 135) hx hb d_J_load_131 rfl ?_
          have J135 : ∀  (ls : Array Slot), lv_has ls 8 [(0, .ref (ad 0)), (2, .int url), (3, .int step), (6, jv ad 78 (nI (js_free u 8 39 0))), (7, jv ad 6 (url / 8))] → W p l e (jr (k + 1)) s m args below meth c H locs 0 0 Q (F0 m 135 ls [.int (jc_bx (jc_freeDoc u o) (url / 8) (jc_boxed u (u 7 (ix o)))), jv ad 78 (nI (js_free u 8 39 0))]) := by
            intro  ls hl
            refine jp_11 hc hh js_f39 jc_bx_z wf_J_219 d_J_load_135 (fun H locs hh => ?_)
            refine jv_aload hx hb d_J_load_138 (lv_at hl 3 rfl) ?_
            refine jv_aload hx hb d_J_load_140 (lv_at hl 3 rfl) ?_
            refine jg_D hc hh js_f39 3 (by decide) rfl wf_J_219 d_J_load_142 ?_
            refine lv_if_eq (tgt := 155) hx hb d_J_load_145 rfl (fun h145 => ?_) (fun h145 => ?_)
            ·
              refine lv_iload_n hx hb d_J_load_155 rfl (lv_at hl 1 rfl) ?_
              refine jx_callS [.int url] [jv ad 78 (nI (js_free u 8 39 0))] hc hh (c_hostOf l D aK ad cA (js_up (jc_freeDoc u o) 11 (js_free u 8 39 0) (jc_bx (jc_freeDoc u o) (url / 8) (jc_boxed u (u 7 (ix o))))) url) wy_J_205 ⟨rfl, rfl, by simp only [jr]; omega, by simp only [jr]; omega⟩ rfl hl.1 rfl (by simp [vc_int, vc_ref, vc_long, jv_cat]) ⟨Nat.zero_le _, Nat.zero_le _⟩ d_J_load_156 (fun r u9 H locs hp hh _ _ => ?_)
              rw [hp.2] at hh
              refine W.eq (g2 := F0 m 159 ls [.int (url / 64), jv ad 78 (nI (js_free u 8 39 0))]) (by rw [hp.1]; rfl) ?_
              refine jp_10 hc hh js_f39 wf_J_168 d_J_load_159 (fun H locs hh => ?_)
              have J162 : ∀  (H : Heap) (locs : List Loc) (ls : Array Slot), jx_H D 158 ad (jc_cell ad aK cA (jc_ldC (jc_freeDoc u o) (js_free u 8 39 0) url (jc_bx (jc_freeDoc u o) (url / 8) (jc_boxed u (u 7 (ix o)))))) A s.heap H locs → lv_has ls 8 [(0, .ref (ad 0)), (2, .int url), (3, .int step), (6, jv ad 78 (nI (js_free u 8 39 0))), (7, jv ad 6 (url / 8))] → W p l e (jr (k + 1)) s m args below meth c H locs 0 0 Q (F0 m 162 ls []) := by
                intro  H locs ls hh hl
                refine lv_aload_n hx hb d_J_load_162 rfl (lv_at hl 0 rfl) ?_
                refine jv_aload hx hb d_J_load_163 (lv_at hl 3 rfl) ?_
                refine jv_aload hx hb d_J_load_165 (lv_at hl 4 rfl) ?_
                refine lv_iload_n hx hb d_J_load_167 rfl (lv_at hl 2 rfl) ?_
                refine jx_callV [jv ad 78 (nI (js_free u 8 39 0)), jv ad 6 (url / 8), .int step] [] hc hh (hMF (jc_ldC (jc_freeDoc u o) (js_free u 8 39 0) url (jc_bx (jc_freeDoc u o) (url / 8) (jc_boxed u (u 7 (ix o))))) (js_free u 8 39 0) (url / 8) step (jc_Sh_ldC (jc_Sh_fdx hS (jc_Ow_ok hw))) js_f39 (by rw [(jc_ldC_fd _ rfl).1]; decide) (js_pg hu h35) (by rw [(jc_ldC_fd _ rfl).2]; exact jc_Ow_Gr hw (jc_ldC_Gr (jc_Gr_doc h0) h0)) (jc_Cp_Gr (jc_Cp_le hC (by omega) (by omega)) (jc_ldC_Gr (jc_Gr_doc h0) h0) (by omega))) wy_J_229 ⟨by decide, rfl, rfl⟩ ⟨rfl, rfl, by simp only [jr]; omega, by simp only [jr]; omega⟩ rfl hl.1 rfl (by decide) ⟨Nat.zero_le _, Nat.zero_le _⟩ d_J_load_168 (fun r u9 H locs hp hh _ _ => ?_)
                rw [hp.2] at hh
                refine W.eq (g2 := F0 m 171 ls []) rfl ?_
                refine jv_aload hx hb d_J_load_171 (lv_at hl 3 rfl) ?_
                exact jx_aret (r := (nI (js_free u 8 39 0))) hc hh hQ hlk hr (jv_or _ _ _) rfl ⟨rfl, by simp [jc_loadB, jc_ldU, h35, h94]⟩ d_J_load_173
              have e7 : (jc_ldC (jc_freeDoc u o) (js_free u 8 39 0) url (jc_bx (jc_freeDoc u o) (url / 8) (jc_boxed u (u 7 (ix o))))) = (js_up (js_up (jc_freeDoc u o) 11 (js_free u 8 39 0) (jc_bx (jc_freeDoc u o) (url / 8) (jc_boxed u (u 7 (ix o))))) 10 (js_free u 8 39 0) (url / 64)) := by first | (simp [jc_ldC, jc_opq, h145]; done) | (simp [jc_ldC, jc_opq, eq_true h145]; done)
              refine J162 _ _ _ ?_ ?_
              ·
                try rw [e7]
                exact hh
              try rw [e7]
              exact lv_sub hl [0, 1, 2, 3, 4] rfl
            refine lv_aload_n hx hb d_J_load_148 rfl (lv_at hl 0 rfl) ?_
            refine jx_callV [] [jv ad 78 (nI (js_free u 8 39 0))] hc hh (c_giveOpaqueOrigin l D aK ad cA (js_up (jc_freeDoc u o) 11 (js_free u 8 39 0) (jc_bx (jc_freeDoc u o) (url / 8) (jc_boxed u (u 7 (ix o)))))) wy_J_226 ⟨by decide, rfl, rfl⟩ ⟨rfl, rfl, by simp only [jr]; omega, by simp only [jr]; omega⟩ rfl hl.1 rfl (by simp [vc_int, vc_ref, vc_long, jv_cat]) ⟨Nat.zero_le _, Nat.zero_le _⟩ d_J_load_149 (fun r u9 H locs hp hh _ _ => ?_)
            rw [hp.2] at hh
            refine W.eq (g2 := F0 m 152 ls [.int (4 + (js_up (jc_freeDoc u o) 11 (js_free u 8 39 0) (jc_bx (jc_freeDoc u o) (url / 8) (jc_boxed u (u 7 (ix o))))) 24 0), jv ad 78 (nI (js_free u 8 39 0))]) (by rw [hp.1]; rfl) ?_
            refine lv_goto (tgt := 159) hx hb d_J_load_152 rfl ?_
            refine jp_10 hc hh js_f39 wf_J_168 d_J_load_159 (fun H locs hh => ?_)
            have J162 : ∀  (H : Heap) (locs : List Loc) (ls : Array Slot), jx_H D 158 ad (jc_cell ad aK cA (jc_ldC (jc_freeDoc u o) (js_free u 8 39 0) url (jc_bx (jc_freeDoc u o) (url / 8) (jc_boxed u (u 7 (ix o)))))) A s.heap H locs → lv_has ls 8 [(0, .ref (ad 0)), (2, .int url), (3, .int step), (6, jv ad 78 (nI (js_free u 8 39 0))), (7, jv ad 6 (url / 8))] → W p l e (jr (k + 1)) s m args below meth c H locs 0 0 Q (F0 m 162 ls []) := by
              intro  H locs ls hh hl
              refine lv_aload_n hx hb d_J_load_162 rfl (lv_at hl 0 rfl) ?_
              refine jv_aload hx hb d_J_load_163 (lv_at hl 3 rfl) ?_
              refine jv_aload hx hb d_J_load_165 (lv_at hl 4 rfl) ?_
              refine lv_iload_n hx hb d_J_load_167 rfl (lv_at hl 2 rfl) ?_
              refine jx_callV [jv ad 78 (nI (js_free u 8 39 0)), jv ad 6 (url / 8), .int step] [] hc hh (hMF (jc_ldC (jc_freeDoc u o) (js_free u 8 39 0) url (jc_bx (jc_freeDoc u o) (url / 8) (jc_boxed u (u 7 (ix o))))) (js_free u 8 39 0) (url / 8) step (jc_Sh_ldC (jc_Sh_fdx hS (jc_Ow_ok hw))) js_f39 (by rw [(jc_ldC_fd _ rfl).1]; decide) (js_pg hu h35) (by rw [(jc_ldC_fd _ rfl).2]; exact jc_Ow_Gr hw (jc_ldC_Gr (jc_Gr_doc h0) h0)) (jc_Cp_Gr (jc_Cp_le hC (by omega) (by omega)) (jc_ldC_Gr (jc_Gr_doc h0) h0) (by omega))) wy_J_229 ⟨by decide, rfl, rfl⟩ ⟨rfl, rfl, by simp only [jr]; omega, by simp only [jr]; omega⟩ rfl hl.1 rfl (by decide) ⟨Nat.zero_le _, Nat.zero_le _⟩ d_J_load_168 (fun r u9 H locs hp hh _ _ => ?_)
              rw [hp.2] at hh
              refine W.eq (g2 := F0 m 171 ls []) rfl ?_
              refine jv_aload hx hb d_J_load_171 (lv_at hl 3 rfl) ?_
              exact jx_aret (r := (nI (js_free u 8 39 0))) hc hh hQ hlk hr (jv_or _ _ _) rfl ⟨rfl, by simp [jc_loadB, jc_ldU, h35, h94]⟩ d_J_load_173
            have e8 : (jc_ldC (jc_freeDoc u o) (js_free u 8 39 0) url (jc_bx (jc_freeDoc u o) (url / 8) (jc_boxed u (u 7 (ix o))))) = (js_up (js_up (js_up (jc_freeDoc u o) 11 (js_free u 8 39 0) (jc_bx (jc_freeDoc u o) (url / 8) (jc_boxed u (u 7 (ix o))))) 24 0 ((js_up (jc_freeDoc u o) 11 (js_free u 8 39 0) (jc_bx (jc_freeDoc u o) (url / 8) (jc_boxed u (u 7 (ix o))))) 24 0 + 1)) 10 (js_free u 8 39 0) (4 + (js_up (jc_freeDoc u o) 11 (js_free u 8 39 0) (jc_bx (jc_freeDoc u o) (url / 8) (jc_boxed u (u 7 (ix o))))) 24 0)) := by simp [jc_ldC, jc_opq, h145]
            refine J162 _ _ _ ?_ ?_
            ·
              try rw [e8]
              exact hh
            try rw [e8]
            exact lv_sub hl [0, 1, 2, 3, 4] rfl
          have e9 : (jc_bx (jc_freeDoc u o) (url / 8) (jc_boxed u (u 7 (ix o)))) = 1 := by first | (simp [jc_bx, h35, h94, h122, h127]; done) | (simp [jc_bx, h35, eq_true h94, eq_true h122, h127]; done)
          refine W.eq (g2 := F0 m 135 ls [.int (jc_bx (jc_freeDoc u o) (url / 8) (jc_boxed u (u 7 (ix o)))), jv ad 78 (nI (js_free u 8 39 0))]) (by first | (rw [e9]; done) | (rw [e9]; rfl)) ?_
          refine J135 _ ?_
          exact lv_sub hl [3, 5, 6, 1, 0] rfl
        refine jv_aload hx hb d_J_load_97 (lv_at hl 1 rfl) ?_
        refine lv_iconst (v := 0) hx hb d_J_load_99 (by decide) ?_
        refine jp_11 hc hh js_f39 (by decide) wf_J_219 d_J_load_100 (fun H locs hh => ?_)
        refine jv_aload hx hb d_J_load_103 (lv_at hl 1 rfl) ?_
        refine lv_aload_n hx hb d_J_load_105 rfl (lv_at hl 3 rfl) ?_
        refine jx_callV [] [jv ad 78 (nI (js_free u 8 39 0))] hc hh (c_giveOpaqueOrigin l D aK ad cA (js_up (jc_freeDoc u o) 11 (js_free u 8 39 0) 0)) wy_J_226 ⟨by decide, rfl, rfl⟩ ⟨rfl, rfl, by simp only [jr]; omega, by simp only [jr]; omega⟩ rfl hl.1 rfl (by simp [vc_int, vc_ref, vc_long, jv_cat]) ⟨Nat.zero_le _, Nat.zero_le _⟩ d_J_load_106 (fun r u9 H locs hp hh _ _ => ?_)
        rw [hp.2] at hh
        refine W.eq (g2 := F0 m 109 ls [.int (4 + (js_up (jc_freeDoc u o) 11 (js_free u 8 39 0) 0) 24 0), jv ad 78 (nI (js_free u 8 39 0))]) (by rw [hp.1]; rfl) ?_
        refine jp_10 hc hh js_f39 wf_J_168 d_J_load_109 (fun H locs hh => ?_)
        refine jv_aload hx hb d_J_load_112 (lv_at hl 1 rfl) ?_
        exact jx_aret (r := (nI (js_free u 8 39 0))) hc hh hQ hlk hr (jv_or _ _ _) rfl ⟨rfl, by simp [jc_loadB, jc_ldU, jc_opq, h35, h94]⟩ d_J_load_114
      refine jv_aload hx hb d_J_load_38 (lv_at hl 0 rfl) ?_
      refine lv_iload hx hb d_J_load_40 (lv_at hl 1 rfl) ?_
      refine jp_11 hc hh js_f39 jc_boxed_z wf_J_219 d_J_load_42 (fun H locs hh => ?_)
      refine jv_aload hx hb d_J_load_45 (lv_at hl 0 rfl) ?_
      refine jv_aload hx hb d_J_load_47 (lv_at hl 6 rfl) ?_
      refine jv_ifnull (tgt := 57) hx hb d_J_load_49 rfl (fun h49 => ?_) (fun h49 => ?_)
      ·
        refine lv_aload_n hx hb d_J_load_57 rfl (lv_at hl 2 rfl) ?_
        refine jx_callV [] [jv ad 78 (nI (js_free u 8 39 0))] hc hh (c_giveOpaqueOrigin l D aK ad cA (js_up (jc_freeDoc u o) 11 (js_free u 8 39 0) (jc_boxed u (u 7 (ix o))))) wy_J_226 ⟨by decide, rfl, rfl⟩ ⟨rfl, rfl, by simp only [jr]; omega, by simp only [jr]; omega⟩ rfl hl.1 rfl (by simp [vc_int, vc_ref, vc_long, jv_cat]) ⟨Nat.zero_le _, Nat.zero_le _⟩ d_J_load_58 (fun r u9 H locs hp hh _ _ => ?_)
        rw [hp.2] at hh
        refine W.eq (g2 := F0 m 61 ls [.int (4 + (js_up (jc_freeDoc u o) 11 (js_free u 8 39 0) (jc_boxed u (u 7 (ix o)))) 24 0), jv ad 78 (nI (js_free u 8 39 0))]) (by rw [hp.1]; rfl) ?_
        refine lv_goto (tgt := 69) hx hb d_J_load_61 rfl ?_
        refine jp_10 hc hh js_f39 wf_J_168 d_J_load_69 (fun H locs hh => ?_)
        refine jv_aload hx hb d_J_load_72 (lv_at hl 0 rfl) ?_
        exact jx_aret (r := (nI (js_free u 8 39 0))) hc hh hQ hlk hr (jv_or _ _ _) rfl ⟨rfl, by simp [jc_loadB, jc_ldA, jc_opq, h35, h49]⟩ d_J_load_74
      refine lv_iload hx hb d_J_load_52 (lv_at hl 1 rfl) ?_
      refine lv_if_eq (tgt := 64) hx hb d_J_load_54 rfl (fun h54 => ?_) (fun h54 => ?_)
      ·
        refine jv_aload hx hb d_J_load_64 (lv_at hl 6 rfl) ?_
        refine jgx_D hc hh (jq_ne (jc_S7x hS (jc_Ow_ok hw)) h49) 2 (by decide) rfl wf_J_168 d_J_load_66 ?_
        refine jp_10 hc hh js_f39 wf_J_168 d_J_load_69 (fun H locs hh => ?_)
        refine jv_aload hx hb d_J_load_72 (lv_at hl 0 rfl) ?_
        exact jx_aret (r := (nI (js_free u 8 39 0))) hc hh hQ hlk hr (jv_or _ _ _) rfl ⟨rfl, by simp [jc_loadB, jc_ldA, jc_opq, h35, h49, h54]⟩ d_J_load_74
      refine lv_aload_n hx hb d_J_load_57 rfl (lv_at hl 2 rfl) ?_
      refine jx_callV [] [jv ad 78 (nI (js_free u 8 39 0))] hc hh (c_giveOpaqueOrigin l D aK ad cA (js_up (jc_freeDoc u o) 11 (js_free u 8 39 0) (jc_boxed u (u 7 (ix o))))) wy_J_226 ⟨by decide, rfl, rfl⟩ ⟨rfl, rfl, by simp only [jr]; omega, by simp only [jr]; omega⟩ rfl hl.1 rfl (by simp [vc_int, vc_ref, vc_long, jv_cat]) ⟨Nat.zero_le _, Nat.zero_le _⟩ d_J_load_58 (fun r u9 H locs hp hh _ _ => ?_)
      rw [hp.2] at hh
      refine W.eq (g2 := F0 m 61 ls [.int (4 + (js_up (jc_freeDoc u o) 11 (js_free u 8 39 0) (jc_boxed u (u 7 (ix o)))) 24 0), jv ad 78 (nI (js_free u 8 39 0))]) (by rw [hp.1]; rfl) ?_
      refine lv_goto (tgt := 69) hx hb d_J_load_61 rfl ?_
      refine jp_10 hc hh js_f39 wf_J_168 d_J_load_69 (fun H locs hh => ?_)
      refine jv_aload hx hb d_J_load_72 (lv_at hl 0 rfl) ?_
      exact jx_aret (r := (nI (js_free u 8 39 0))) hc hh hQ hlk hr (jv_or _ _ _) rfl ⟨rfl, by simp [jc_loadB, jc_ldA, jc_opq, h35, h49, h54]⟩ d_J_load_74
    have e10 : (jc_boxed u (u 7 (ix o))) = 0 := by first | (simp [jc_boxed, h8]; done) | (simp [jc_boxed, eq_true h8]; done)
    refine W.eq (g2 := F0 m 24 ls [.int (jc_boxed u (u 7 (ix o)))]) (by first | (rw [e10]; done) | (rw [e10]; rfl)) ?_
    refine J24 _ ?_
    exact lv_sub hl [1, 2, 3, 4, 0] rfl
  refine jv_aload hx hb d_J_load_11 (lv_at hl 0 rfl) ?_
  refine jgx_D hc hh (jq_ne (jc_S7x hS (jc_Ow_ok hw)) h8) 3 (by decide) rfl wf_J_219 d_J_load_13 ?_
  refine lv_if_eq (tgt := 23) hx hb d_J_load_16 rfl (fun h16 => ?_) (fun h16 => ?_)
  ·
    refine lv_iconst (v := 0) hx hb d_J_load_23 (by decide) ?_
    have J24 : ∀  (ls : Array Slot), lv_has ls 8 [(0, .ref (ad 0)), (1, jv ad 38 o), (2, .int url), (3, .int step), (4, jv ad 78 (u 7 (ix o)))] → W p l e (jr (k + 1)) s m args below meth c H locs 0 0 Q (F0 m 24 ls [.int (jc_boxed u (u 7 (ix o)))]) := by
      intro  ls hl
      refine lv_istore (i := 5) (lv' := [(5, .int (jc_boxed u (u 7 (ix o)))), (0, .ref (ad 0)), (1, jv ad 38 o), (2, .int url), (3, .int step), (4, jv ad 78 (u 7 (ix o)))]) hx hb d_J_load_24 hl (by decide) (by simp [vc_int, vc_ref, vc_long, jv_cat]) (fun ls hl => ?_)
      refine lv_aload_n hx hb d_J_load_26 rfl (lv_at hl 1 rfl) ?_
      refine jv_aload_n hx hb d_J_load_27 rfl (lv_at hl 2 rfl) ?_
      refine jx_callV [jv ad 38 o] [] hc hh (c_freeDocument l D aK ad cA u o) wy_J_222 ⟨by decide, rfl, rfl⟩ ⟨rfl, rfl, by simp only [jr]; omega, by simp only [jr]; omega⟩ rfl hl.1 rfl (by decide) ⟨Nat.zero_le _, Nat.zero_le _⟩ d_J_load_28 (fun r u9 H locs hp hh _ _ => ?_)
      rw [hp.2] at hh
      refine W.eq (g2 := F0 m 31 ls [jv ad 78 (nI (js_free u 8 39 0))]) (by rw [hp.1]; rfl) ?_
      refine jv_astore (i := 6) (lv' := [(6, jv ad 78 (nI (js_free u 8 39 0))), (5, .int (jc_boxed u (u 7 (ix o)))), (0, .ref (ad 0)), (1, jv ad 38 o), (2, .int url), (3, .int step), (4, jv ad 78 (u 7 (ix o)))]) hx hb d_J_load_31 hl (by decide) rfl (fun ls hl => ?_)
      refine lv_iload_n hx hb d_J_load_33 rfl (lv_at hl 4 rfl) ?_
      refine lv_iconst (v := -1) hx hb d_J_load_34 (by decide) ?_
      refine lv_icmp_ne (tgt := 75) hx hb d_J_load_35 rfl (fun h35 => ?_) (fun h35 => ?_)
      ·
        refine lv_aload_n hx hb d_J_load_75 rfl (lv_at hl 2 rfl) ?_
        refine jg_J hc hh 0 (by decide) rfl wf_J_11 d_J_load_76 ?_
        refine lv_iload_n hx hb d_J_load_79 rfl (lv_at hl 4 rfl) ?_
        refine jx_callS [.int url] [.ref (ad 1)] hc hh (c_pageOf l D aK ad cA (jc_freeDoc u o) url) wy_J_202 ⟨rfl, rfl, by simp only [jr]; omega, by simp only [jr]; omega⟩ rfl hl.1 rfl (by simp [vc_int, vc_ref, vc_long, jv_cat]) ⟨Nat.zero_le _, Nat.zero_le _⟩ d_J_load_80 (fun r u9 H locs hp hh _ _ => ?_)
        rw [hp.2] at hh
        refine W.eq (g2 := F0 m 83 ls [.int (url / 8), .ref (ad 1)]) (by rw [hp.1]; rfl) ?_
        refine jax_A hc hh (js_pg hu h35) d_J_load_83 ?_
        refine jv_astore (i := 7) (lv' := [(7, jv ad 6 (url / 8)), (6, jv ad 78 (nI (js_free u 8 39 0))), (5, .int (jc_boxed u (u 7 (ix o)))), (0, .ref (ad 0)), (1, jv ad 38 o), (2, .int url), (3, .int step), (4, jv ad 78 (u 7 (ix o)))]) hx hb d_J_load_84 hl (by decide) (by simp [vc_int, vc_ref, vc_long, jv_cat]) (fun ls hl => ?_)
        refine jv_aload hx hb d_J_load_86 (lv_at hl 0 rfl) ?_
        refine jgx_A hc hh (js_pg hu h35) 0 (by decide) rfl wf_J_68 d_J_load_88 ?_
        refine jk_get (j := 0) hc hh (by decide) wf_J_62 d_J_load_91 ?_
        refine jv_acmp_eq (tgt := 115) (n := 3) hx hb (by decide) (jk_inj hc) (jc_Skx (jc_Sh_fdx hS (jc_Ow_ok hw)) (js_pg hu h35)) (jq_nI (by decide)) d_J_load_94 rfl (fun h94 => ?_) (fun h94 => ?_)
        ·
          refine jv_aload hx hb d_J_load_115 (lv_at hl 1 rfl) ?_
          refine jv_aload hx hb d_J_load_117 (lv_at hl 0 rfl) ?_
          refine jgx_A hc hh (js_pg hu h35) 3 (by decide) rfl wf_J_78 d_J_load_119 ?_
          refine lv_if_ne (tgt := 130) hx hb d_J_load_122 rfl (fun h122 => ?_) (fun h122 => ?_)
          ·
            refine lv_iconst (v := 1) hx hb d_J_load_130 (by decide) ?_
            refine lv_goto (tgt := 135) hx hb d_J_load_131 rfl ?_
            have J135 : ∀  (ls : Array Slot), lv_has ls 8 [(0, .ref (ad 0)), (2, .int url), (3, .int step), (6, jv ad 78 (nI (js_free u 8 39 0))), (7, jv ad 6 (url / 8))] → W p l e (jr (k + 1)) s m args below meth c H locs 0 0 Q (F0 m 135 ls [.int (jc_bx (jc_freeDoc u o) (url / 8) (jc_boxed u (u 7 (ix o)))), jv ad 78 (nI (js_free u 8 39 0))]) := by
              intro  ls hl
              refine jp_11 hc hh js_f39 jc_bx_z wf_J_219 d_J_load_135 (fun H locs hh => ?_)
              refine jv_aload hx hb d_J_load_138 (lv_at hl 3 rfl) ?_
              refine jv_aload hx hb d_J_load_140 (lv_at hl 3 rfl) ?_
              refine jg_D hc hh js_f39 3 (by decide) rfl wf_J_219 d_J_load_142 ?_
              refine lv_if_eq (tgt := 155) hx hb d_J_load_145 rfl (fun h145 => ?_) (fun h145 => ?_)
              ·
                refine lv_iload_n hx hb d_J_load_155 rfl (lv_at hl 1 rfl) ?_
                refine jx_callS [.int url] [jv ad 78 (nI (js_free u 8 39 0))] hc hh (c_hostOf l D aK ad cA (js_up (jc_freeDoc u o) 11 (js_free u 8 39 0) (jc_bx (jc_freeDoc u o) (url / 8) (jc_boxed u (u 7 (ix o))))) url) wy_J_205 ⟨rfl, rfl, by simp only [jr]; omega, by simp only [jr]; omega⟩ rfl hl.1 rfl (by simp [vc_int, vc_ref, vc_long, jv_cat]) ⟨Nat.zero_le _, Nat.zero_le _⟩ d_J_load_156 (fun r u9 H locs hp hh _ _ => ?_)
                rw [hp.2] at hh
                refine W.eq (g2 := F0 m 159 ls [.int (url / 64), jv ad 78 (nI (js_free u 8 39 0))]) (by rw [hp.1]; rfl) ?_
                refine jp_10 hc hh js_f39 wf_J_168 d_J_load_159 (fun H locs hh => ?_)
                have J162 : ∀  (H : Heap) (locs : List Loc) (ls : Array Slot), jx_H D 158 ad (jc_cell ad aK cA (jc_ldC (jc_freeDoc u o) (js_free u 8 39 0) url (jc_bx (jc_freeDoc u o) (url / 8) (jc_boxed u (u 7 (ix o)))))) A s.heap H locs → lv_has ls 8 [(0, .ref (ad 0)), (2, .int url), (3, .int step), (6, jv ad 78 (nI (js_free u 8 39 0))), (7, jv ad 6 (url / 8))] → W p l e (jr (k + 1)) s m args below meth c H locs 0 0 Q (F0 m 162 ls []) := by
                  intro  H locs ls hh hl
                  refine lv_aload_n hx hb d_J_load_162 rfl (lv_at hl 0 rfl) ?_
                  refine jv_aload hx hb d_J_load_163 (lv_at hl 3 rfl) ?_
                  refine jv_aload hx hb d_J_load_165 (lv_at hl 4 rfl) ?_
                  refine lv_iload_n hx hb d_J_load_167 rfl (lv_at hl 2 rfl) ?_
                  refine jx_callV [jv ad 78 (nI (js_free u 8 39 0)), jv ad 6 (url / 8), .int step] [] hc hh (hMF (jc_ldC (jc_freeDoc u o) (js_free u 8 39 0) url (jc_bx (jc_freeDoc u o) (url / 8) (jc_boxed u (u 7 (ix o))))) (js_free u 8 39 0) (url / 8) step (jc_Sh_ldC (jc_Sh_fdx hS (jc_Ow_ok hw))) js_f39 (by rw [(jc_ldC_fd _ rfl).1]; decide) (js_pg hu h35) (by rw [(jc_ldC_fd _ rfl).2]; exact jc_Ow_Gr hw (jc_ldC_Gr (jc_Gr_doc h0) h0)) (jc_Cp_Gr (jc_Cp_le hC (by omega) (by omega)) (jc_ldC_Gr (jc_Gr_doc h0) h0) (by omega))) wy_J_229 ⟨by decide, rfl, rfl⟩ ⟨rfl, rfl, by simp only [jr]; omega, by simp only [jr]; omega⟩ rfl hl.1 rfl (by decide) ⟨Nat.zero_le _, Nat.zero_le _⟩ d_J_load_168 (fun r u9 H locs hp hh _ _ => ?_)
                  rw [hp.2] at hh
                  refine W.eq (g2 := F0 m 171 ls []) rfl ?_
                  refine jv_aload hx hb d_J_load_171 (lv_at hl 3 rfl) ?_
                  exact jx_aret (r := (nI (js_free u 8 39 0))) hc hh hQ hlk hr (jv_or _ _ _) rfl ⟨rfl, by simp [jc_loadB, jc_ldU, h35, h94]⟩ d_J_load_173
                have e11 : (jc_ldC (jc_freeDoc u o) (js_free u 8 39 0) url (jc_bx (jc_freeDoc u o) (url / 8) (jc_boxed u (u 7 (ix o))))) = (js_up (js_up (jc_freeDoc u o) 11 (js_free u 8 39 0) (jc_bx (jc_freeDoc u o) (url / 8) (jc_boxed u (u 7 (ix o))))) 10 (js_free u 8 39 0) (url / 64)) := by first | (simp [jc_ldC, jc_opq, h145]; done) | (simp [jc_ldC, jc_opq, eq_true h145]; done)
                refine J162 _ _ _ ?_ ?_
                ·
                  try rw [e11]
                  exact hh
                try rw [e11]
                exact lv_sub hl [0, 1, 2, 3, 4] rfl
              refine lv_aload_n hx hb d_J_load_148 rfl (lv_at hl 0 rfl) ?_
              refine jx_callV [] [jv ad 78 (nI (js_free u 8 39 0))] hc hh (c_giveOpaqueOrigin l D aK ad cA (js_up (jc_freeDoc u o) 11 (js_free u 8 39 0) (jc_bx (jc_freeDoc u o) (url / 8) (jc_boxed u (u 7 (ix o)))))) wy_J_226 ⟨by decide, rfl, rfl⟩ ⟨rfl, rfl, by simp only [jr]; omega, by simp only [jr]; omega⟩ rfl hl.1 rfl (by simp [vc_int, vc_ref, vc_long, jv_cat]) ⟨Nat.zero_le _, Nat.zero_le _⟩ d_J_load_149 (fun r u9 H locs hp hh _ _ => ?_)
              rw [hp.2] at hh
              refine W.eq (g2 := F0 m 152 ls [.int (4 + (js_up (jc_freeDoc u o) 11 (js_free u 8 39 0) (jc_bx (jc_freeDoc u o) (url / 8) (jc_boxed u (u 7 (ix o))))) 24 0), jv ad 78 (nI (js_free u 8 39 0))]) (by rw [hp.1]; rfl) ?_
              refine lv_goto (tgt := 159) hx hb d_J_load_152 rfl ?_
              refine jp_10 hc hh js_f39 wf_J_168 d_J_load_159 (fun H locs hh => ?_)
              have J162 : ∀  (H : Heap) (locs : List Loc) (ls : Array Slot), jx_H D 158 ad (jc_cell ad aK cA (jc_ldC (jc_freeDoc u o) (js_free u 8 39 0) url (jc_bx (jc_freeDoc u o) (url / 8) (jc_boxed u (u 7 (ix o)))))) A s.heap H locs → lv_has ls 8 [(0, .ref (ad 0)), (2, .int url), (3, .int step), (6, jv ad 78 (nI (js_free u 8 39 0))), (7, jv ad 6 (url / 8))] → W p l e (jr (k + 1)) s m args below meth c H locs 0 0 Q (F0 m 162 ls []) := by
                intro  H locs ls hh hl
                refine lv_aload_n hx hb d_J_load_162 rfl (lv_at hl 0 rfl) ?_
                refine jv_aload hx hb d_J_load_163 (lv_at hl 3 rfl) ?_
                refine jv_aload hx hb d_J_load_165 (lv_at hl 4 rfl) ?_
                refine lv_iload_n hx hb d_J_load_167 rfl (lv_at hl 2 rfl) ?_
                refine jx_callV [jv ad 78 (nI (js_free u 8 39 0)), jv ad 6 (url / 8), .int step] [] hc hh (hMF (jc_ldC (jc_freeDoc u o) (js_free u 8 39 0) url (jc_bx (jc_freeDoc u o) (url / 8) (jc_boxed u (u 7 (ix o))))) (js_free u 8 39 0) (url / 8) step (jc_Sh_ldC (jc_Sh_fdx hS (jc_Ow_ok hw))) js_f39 (by rw [(jc_ldC_fd _ rfl).1]; decide) (js_pg hu h35) (by rw [(jc_ldC_fd _ rfl).2]; exact jc_Ow_Gr hw (jc_ldC_Gr (jc_Gr_doc h0) h0)) (jc_Cp_Gr (jc_Cp_le hC (by omega) (by omega)) (jc_ldC_Gr (jc_Gr_doc h0) h0) (by omega))) wy_J_229 ⟨by decide, rfl, rfl⟩ ⟨rfl, rfl, by simp only [jr]; omega, by simp only [jr]; omega⟩ rfl hl.1 rfl (by decide) ⟨Nat.zero_le _, Nat.zero_le _⟩ d_J_load_168 (fun r u9 H locs hp hh _ _ => ?_)
                rw [hp.2] at hh
                refine W.eq (g2 := F0 m 171 ls []) rfl ?_
                refine jv_aload hx hb d_J_load_171 (lv_at hl 3 rfl) ?_
                exact jx_aret (r := (nI (js_free u 8 39 0))) hc hh hQ hlk hr (jv_or _ _ _) rfl ⟨rfl, by simp [jc_loadB, jc_ldU, h35, h94]⟩ d_J_load_173
              have e12 : (jc_ldC (jc_freeDoc u o) (js_free u 8 39 0) url (jc_bx (jc_freeDoc u o) (url / 8) (jc_boxed u (u 7 (ix o))))) = (js_up (js_up (js_up (jc_freeDoc u o) 11 (js_free u 8 39 0) (jc_bx (jc_freeDoc u o) (url / 8) (jc_boxed u (u 7 (ix o))))) 24 0 ((js_up (jc_freeDoc u o) 11 (js_free u 8 39 0) (jc_bx (jc_freeDoc u o) (url / 8) (jc_boxed u (u 7 (ix o))))) 24 0 + 1)) 10 (js_free u 8 39 0) (4 + (js_up (jc_freeDoc u o) 11 (js_free u 8 39 0) (jc_bx (jc_freeDoc u o) (url / 8) (jc_boxed u (u 7 (ix o))))) 24 0)) := by simp [jc_ldC, jc_opq, h145]
              refine J162 _ _ _ ?_ ?_
              ·
                try rw [e12]
                exact hh
              try rw [e12]
              exact lv_sub hl [0, 1, 2, 3, 4] rfl
            have e13 : (jc_bx (jc_freeDoc u o) (url / 8) (jc_boxed u (u 7 (ix o)))) = 1 := by first | (simp [jc_bx, h35, h94, h122]; done) | (simp [jc_bx, h35, eq_true h94, h122]; done)
            refine W.eq (g2 := F0 m 135 ls [.int (jc_bx (jc_freeDoc u o) (url / 8) (jc_boxed u (u 7 (ix o)))), jv ad 78 (nI (js_free u 8 39 0))]) (by first | (rw [e13]; done) | (rw [e13]; rfl)) ?_
            refine J135 _ ?_
            exact lv_sub hl [3, 5, 6, 1, 0] rfl
          refine lv_iload hx hb d_J_load_125 (lv_at hl 2 rfl) ?_
          refine lv_if_eq (tgt := 134) hx hb d_J_load_127 rfl (fun h127 => ?_) (fun h127 => ?_)
          ·
            refine lv_iconst (v := 0) hx hb d_J_load_134 (by decide) ?_
            have J135 : ∀  (ls : Array Slot), lv_has ls 8 [(0, .ref (ad 0)), (2, .int url), (3, .int step), (6, jv ad 78 (nI (js_free u 8 39 0))), (7, jv ad 6 (url / 8))] → W p l e (jr (k + 1)) s m args below meth c H locs 0 0 Q (F0 m 135 ls [.int (jc_bx (jc_freeDoc u o) (url / 8) (jc_boxed u (u 7 (ix o)))), jv ad 78 (nI (js_free u 8 39 0))]) := by
              intro  ls hl
              refine jp_11 hc hh js_f39 jc_bx_z wf_J_219 d_J_load_135 (fun H locs hh => ?_)
              refine jv_aload hx hb d_J_load_138 (lv_at hl 3 rfl) ?_
              refine jv_aload hx hb d_J_load_140 (lv_at hl 3 rfl) ?_
              refine jg_D hc hh js_f39 3 (by decide) rfl wf_J_219 d_J_load_142 ?_
              refine lv_if_eq (tgt := 155) hx hb d_J_load_145 rfl (fun h145 => ?_) (fun h145 => ?_)
              ·
                refine lv_iload_n hx hb d_J_load_155 rfl (lv_at hl 1 rfl) ?_
                refine jx_callS [.int url] [jv ad 78 (nI (js_free u 8 39 0))] hc hh (c_hostOf l D aK ad cA (js_up (jc_freeDoc u o) 11 (js_free u 8 39 0) (jc_bx (jc_freeDoc u o) (url / 8) (jc_boxed u (u 7 (ix o))))) url) wy_J_205 ⟨rfl, rfl, by simp only [jr]; omega, by simp only [jr]; omega⟩ rfl hl.1 rfl (by simp [vc_int, vc_ref, vc_long, jv_cat]) ⟨Nat.zero_le _, Nat.zero_le _⟩ d_J_load_156 (fun r u9 H locs hp hh _ _ => ?_)
                rw [hp.2] at hh
                refine W.eq (g2 := F0 m 159 ls [.int (url / 64), jv ad 78 (nI (js_free u 8 39 0))]) (by rw [hp.1]; rfl) ?_
                refine jp_10 hc hh js_f39 wf_J_168 d_J_load_159 (fun H locs hh => ?_)
                have J162 : ∀  (H : Heap) (locs : List Loc) (ls : Array Slot), jx_H D 158 ad (jc_cell ad aK cA (jc_ldC (jc_freeDoc u o) (js_free u 8 39 0) url (jc_bx (jc_freeDoc u o) (url / 8) (jc_boxed u (u 7 (ix o)))))) A s.heap H locs → lv_has ls 8 [(0, .ref (ad 0)), (2, .int url), (3, .int step), (6, jv ad 78 (nI (js_free u 8 39 0))), (7, jv ad 6 (url / 8))] → W p l e (jr (k + 1)) s m args below meth c H locs 0 0 Q (F0 m 162 ls []) := by
                  intro  H locs ls hh hl
                  refine lv_aload_n hx hb d_J_load_162 rfl (lv_at hl 0 rfl) ?_
                  refine jv_aload hx hb d_J_load_163 (lv_at hl 3 rfl) ?_
                  refine jv_aload hx hb d_J_load_165 (lv_at hl 4 rfl) ?_
                  refine lv_iload_n hx hb d_J_load_167 rfl (lv_at hl 2 rfl) ?_
                  refine jx_callV [jv ad 78 (nI (js_free u 8 39 0)), jv ad 6 (url / 8), .int step] [] hc hh (hMF (jc_ldC (jc_freeDoc u o) (js_free u 8 39 0) url (jc_bx (jc_freeDoc u o) (url / 8) (jc_boxed u (u 7 (ix o))))) (js_free u 8 39 0) (url / 8) step (jc_Sh_ldC (jc_Sh_fdx hS (jc_Ow_ok hw))) js_f39 (by rw [(jc_ldC_fd _ rfl).1]; decide) (js_pg hu h35) (by rw [(jc_ldC_fd _ rfl).2]; exact jc_Ow_Gr hw (jc_ldC_Gr (jc_Gr_doc h0) h0)) (jc_Cp_Gr (jc_Cp_le hC (by omega) (by omega)) (jc_ldC_Gr (jc_Gr_doc h0) h0) (by omega))) wy_J_229 ⟨by decide, rfl, rfl⟩ ⟨rfl, rfl, by simp only [jr]; omega, by simp only [jr]; omega⟩ rfl hl.1 rfl (by decide) ⟨Nat.zero_le _, Nat.zero_le _⟩ d_J_load_168 (fun r u9 H locs hp hh _ _ => ?_)
                  rw [hp.2] at hh
                  refine W.eq (g2 := F0 m 171 ls []) rfl ?_
                  refine jv_aload hx hb d_J_load_171 (lv_at hl 3 rfl) ?_
                  exact jx_aret (r := (nI (js_free u 8 39 0))) hc hh hQ hlk hr (jv_or _ _ _) rfl ⟨rfl, by simp [jc_loadB, jc_ldU, h35, h94]⟩ d_J_load_173
                have e14 : (jc_ldC (jc_freeDoc u o) (js_free u 8 39 0) url (jc_bx (jc_freeDoc u o) (url / 8) (jc_boxed u (u 7 (ix o))))) = (js_up (js_up (jc_freeDoc u o) 11 (js_free u 8 39 0) (jc_bx (jc_freeDoc u o) (url / 8) (jc_boxed u (u 7 (ix o))))) 10 (js_free u 8 39 0) (url / 64)) := by first | (simp [jc_ldC, jc_opq, h145]; done) | (simp [jc_ldC, jc_opq, eq_true h145]; done)
                refine J162 _ _ _ ?_ ?_
                ·
                  try rw [e14]
                  exact hh
                try rw [e14]
                exact lv_sub hl [0, 1, 2, 3, 4] rfl
              refine lv_aload_n hx hb d_J_load_148 rfl (lv_at hl 0 rfl) ?_
              refine jx_callV [] [jv ad 78 (nI (js_free u 8 39 0))] hc hh (c_giveOpaqueOrigin l D aK ad cA (js_up (jc_freeDoc u o) 11 (js_free u 8 39 0) (jc_bx (jc_freeDoc u o) (url / 8) (jc_boxed u (u 7 (ix o)))))) wy_J_226 ⟨by decide, rfl, rfl⟩ ⟨rfl, rfl, by simp only [jr]; omega, by simp only [jr]; omega⟩ rfl hl.1 rfl (by simp [vc_int, vc_ref, vc_long, jv_cat]) ⟨Nat.zero_le _, Nat.zero_le _⟩ d_J_load_149 (fun r u9 H locs hp hh _ _ => ?_)
              rw [hp.2] at hh
              refine W.eq (g2 := F0 m 152 ls [.int (4 + (js_up (jc_freeDoc u o) 11 (js_free u 8 39 0) (jc_bx (jc_freeDoc u o) (url / 8) (jc_boxed u (u 7 (ix o))))) 24 0), jv ad 78 (nI (js_free u 8 39 0))]) (by rw [hp.1]; rfl) ?_
              refine lv_goto (tgt := 159) hx hb d_J_load_152 rfl ?_
              refine jp_10 hc hh js_f39 wf_J_168 d_J_load_159 (fun H locs hh => ?_)
              have J162 : ∀  (H : Heap) (locs : List Loc) (ls : Array Slot), jx_H D 158 ad (jc_cell ad aK cA (jc_ldC (jc_freeDoc u o) (js_free u 8 39 0) url (jc_bx (jc_freeDoc u o) (url / 8) (jc_boxed u (u 7 (ix o)))))) A s.heap H locs → lv_has ls 8 [(0, .ref (ad 0)), (2, .int url), (3, .int step), (6, jv ad 78 (nI (js_free u 8 39 0))), (7, jv ad 6 (url / 8))] → W p l e (jr (k + 1)) s m args below meth c H locs 0 0 Q (F0 m 162 ls []) := by
                intro  H locs ls hh hl
                refine lv_aload_n hx hb d_J_load_162 rfl (lv_at hl 0 rfl) ?_
                refine jv_aload hx hb d_J_load_163 (lv_at hl 3 rfl) ?_
                refine jv_aload hx hb d_J_load_165 (lv_at hl 4 rfl) ?_
                refine lv_iload_n hx hb d_J_load_167 rfl (lv_at hl 2 rfl) ?_
                refine jx_callV [jv ad 78 (nI (js_free u 8 39 0)), jv ad 6 (url / 8), .int step] [] hc hh (hMF (jc_ldC (jc_freeDoc u o) (js_free u 8 39 0) url (jc_bx (jc_freeDoc u o) (url / 8) (jc_boxed u (u 7 (ix o))))) (js_free u 8 39 0) (url / 8) step (jc_Sh_ldC (jc_Sh_fdx hS (jc_Ow_ok hw))) js_f39 (by rw [(jc_ldC_fd _ rfl).1]; decide) (js_pg hu h35) (by rw [(jc_ldC_fd _ rfl).2]; exact jc_Ow_Gr hw (jc_ldC_Gr (jc_Gr_doc h0) h0)) (jc_Cp_Gr (jc_Cp_le hC (by omega) (by omega)) (jc_ldC_Gr (jc_Gr_doc h0) h0) (by omega))) wy_J_229 ⟨by decide, rfl, rfl⟩ ⟨rfl, rfl, by simp only [jr]; omega, by simp only [jr]; omega⟩ rfl hl.1 rfl (by decide) ⟨Nat.zero_le _, Nat.zero_le _⟩ d_J_load_168 (fun r u9 H locs hp hh _ _ => ?_)
                rw [hp.2] at hh
                refine W.eq (g2 := F0 m 171 ls []) rfl ?_
                refine jv_aload hx hb d_J_load_171 (lv_at hl 3 rfl) ?_
                exact jx_aret (r := (nI (js_free u 8 39 0))) hc hh hQ hlk hr (jv_or _ _ _) rfl ⟨rfl, by simp [jc_loadB, jc_ldU, h35, h94]⟩ d_J_load_173
              have e15 : (jc_ldC (jc_freeDoc u o) (js_free u 8 39 0) url (jc_bx (jc_freeDoc u o) (url / 8) (jc_boxed u (u 7 (ix o))))) = (js_up (js_up (js_up (jc_freeDoc u o) 11 (js_free u 8 39 0) (jc_bx (jc_freeDoc u o) (url / 8) (jc_boxed u (u 7 (ix o))))) 24 0 ((js_up (jc_freeDoc u o) 11 (js_free u 8 39 0) (jc_bx (jc_freeDoc u o) (url / 8) (jc_boxed u (u 7 (ix o))))) 24 0 + 1)) 10 (js_free u 8 39 0) (4 + (js_up (jc_freeDoc u o) 11 (js_free u 8 39 0) (jc_bx (jc_freeDoc u o) (url / 8) (jc_boxed u (u 7 (ix o))))) 24 0)) := by simp [jc_ldC, jc_opq, h145]
              refine J162 _ _ _ ?_ ?_
              ·
                try rw [e15]
                exact hh
              try rw [e15]
              exact lv_sub hl [0, 1, 2, 3, 4] rfl
            have e16 : (jc_bx (jc_freeDoc u o) (url / 8) (jc_boxed u (u 7 (ix o)))) = 0 := by first | (simp [jc_bx, h35, h94, h122, h127]; done) | (simp [jc_bx, h35, eq_true h94, eq_true h122, eq_true h127]; done)
            refine W.eq (g2 := F0 m 135 ls [.int (jc_bx (jc_freeDoc u o) (url / 8) (jc_boxed u (u 7 (ix o)))), jv ad 78 (nI (js_free u 8 39 0))]) (by first | (rw [e16]; done) | (rw [e16]; rfl)) ?_
            refine J135 _ ?_
            exact lv_sub hl [3, 5, 6, 1, 0] rfl
          refine lv_iconst (v := 1) hx hb d_J_load_130 (by decide) ?_
          refine lv_goto (tgt := 135) hx hb d_J_load_131 rfl ?_
          have J135 : ∀  (ls : Array Slot), lv_has ls 8 [(0, .ref (ad 0)), (2, .int url), (3, .int step), (6, jv ad 78 (nI (js_free u 8 39 0))), (7, jv ad 6 (url / 8))] → W p l e (jr (k + 1)) s m args below meth c H locs 0 0 Q (F0 m 135 ls [.int (jc_bx (jc_freeDoc u o) (url / 8) (jc_boxed u (u 7 (ix o)))), jv ad 78 (nI (js_free u 8 39 0))]) := by
            intro  ls hl
            refine jp_11 hc hh js_f39 jc_bx_z wf_J_219 d_J_load_135 (fun H locs hh => ?_)
            refine jv_aload hx hb d_J_load_138 (lv_at hl 3 rfl) ?_
            refine jv_aload hx hb d_J_load_140 (lv_at hl 3 rfl) ?_
            refine jg_D hc hh js_f39 3 (by decide) rfl wf_J_219 d_J_load_142 ?_
            refine lv_if_eq (tgt := 155) hx hb d_J_load_145 rfl (fun h145 => ?_) (fun h145 => ?_)
            ·
              refine lv_iload_n hx hb d_J_load_155 rfl (lv_at hl 1 rfl) ?_
              refine jx_callS [.int url] [jv ad 78 (nI (js_free u 8 39 0))] hc hh (c_hostOf l D aK ad cA (js_up (jc_freeDoc u o) 11 (js_free u 8 39 0) (jc_bx (jc_freeDoc u o) (url / 8) (jc_boxed u (u 7 (ix o))))) url) wy_J_205 ⟨rfl, rfl, by simp only [jr]; omega, by simp only [jr]; omega⟩ rfl hl.1 rfl (by simp [vc_int, vc_ref, vc_long, jv_cat]) ⟨Nat.zero_le _, Nat.zero_le _⟩ d_J_load_156 (fun r u9 H locs hp hh _ _ => ?_)
              rw [hp.2] at hh
              refine W.eq (g2 := F0 m 159 ls [.int (url / 64), jv ad 78 (nI (js_free u 8 39 0))]) (by rw [hp.1]; rfl) ?_
              refine jp_10 hc hh js_f39 wf_J_168 d_J_load_159 (fun H locs hh => ?_)
              have J162 : ∀  (H : Heap) (locs : List Loc) (ls : Array Slot), jx_H D 158 ad (jc_cell ad aK cA (jc_ldC (jc_freeDoc u o) (js_free u 8 39 0) url (jc_bx (jc_freeDoc u o) (url / 8) (jc_boxed u (u 7 (ix o)))))) A s.heap H locs → lv_has ls 8 [(0, .ref (ad 0)), (2, .int url), (3, .int step), (6, jv ad 78 (nI (js_free u 8 39 0))), (7, jv ad 6 (url / 8))] → W p l e (jr (k + 1)) s m args below meth c H locs 0 0 Q (F0 m 162 ls []) := by
                intro  H locs ls hh hl
                refine lv_aload_n hx hb d_J_load_162 rfl (lv_at hl 0 rfl) ?_
                refine jv_aload hx hb d_J_load_163 (lv_at hl 3 rfl) ?_
                refine jv_aload hx hb d_J_load_165 (lv_at hl 4 rfl) ?_
                refine lv_iload_n hx hb d_J_load_167 rfl (lv_at hl 2 rfl) ?_
                refine jx_callV [jv ad 78 (nI (js_free u 8 39 0)), jv ad 6 (url / 8), .int step] [] hc hh (hMF (jc_ldC (jc_freeDoc u o) (js_free u 8 39 0) url (jc_bx (jc_freeDoc u o) (url / 8) (jc_boxed u (u 7 (ix o))))) (js_free u 8 39 0) (url / 8) step (jc_Sh_ldC (jc_Sh_fdx hS (jc_Ow_ok hw))) js_f39 (by rw [(jc_ldC_fd _ rfl).1]; decide) (js_pg hu h35) (by rw [(jc_ldC_fd _ rfl).2]; exact jc_Ow_Gr hw (jc_ldC_Gr (jc_Gr_doc h0) h0)) (jc_Cp_Gr (jc_Cp_le hC (by omega) (by omega)) (jc_ldC_Gr (jc_Gr_doc h0) h0) (by omega))) wy_J_229 ⟨by decide, rfl, rfl⟩ ⟨rfl, rfl, by simp only [jr]; omega, by simp only [jr]; omega⟩ rfl hl.1 rfl (by decide) ⟨Nat.zero_le _, Nat.zero_le _⟩ d_J_load_168 (fun r u9 H locs hp hh _ _ => ?_)
                rw [hp.2] at hh
                refine W.eq (g2 := F0 m 171 ls []) rfl ?_
                refine jv_aload hx hb d_J_load_171 (lv_at hl 3 rfl) ?_
                exact jx_aret (r := (nI (js_free u 8 39 0))) hc hh hQ hlk hr (jv_or _ _ _) rfl ⟨rfl, by simp [jc_loadB, jc_ldU, h35, h94]⟩ d_J_load_173
              have e17 : (jc_ldC (jc_freeDoc u o) (js_free u 8 39 0) url (jc_bx (jc_freeDoc u o) (url / 8) (jc_boxed u (u 7 (ix o))))) = (js_up (js_up (jc_freeDoc u o) 11 (js_free u 8 39 0) (jc_bx (jc_freeDoc u o) (url / 8) (jc_boxed u (u 7 (ix o))))) 10 (js_free u 8 39 0) (url / 64)) := by first | (simp [jc_ldC, jc_opq, h145]; done) | (simp [jc_ldC, jc_opq, eq_true h145]; done)
              refine J162 _ _ _ ?_ ?_
              ·
                try rw [e17]
                exact hh
              try rw [e17]
              exact lv_sub hl [0, 1, 2, 3, 4] rfl
            refine lv_aload_n hx hb d_J_load_148 rfl (lv_at hl 0 rfl) ?_
            refine jx_callV [] [jv ad 78 (nI (js_free u 8 39 0))] hc hh (c_giveOpaqueOrigin l D aK ad cA (js_up (jc_freeDoc u o) 11 (js_free u 8 39 0) (jc_bx (jc_freeDoc u o) (url / 8) (jc_boxed u (u 7 (ix o)))))) wy_J_226 ⟨by decide, rfl, rfl⟩ ⟨rfl, rfl, by simp only [jr]; omega, by simp only [jr]; omega⟩ rfl hl.1 rfl (by simp [vc_int, vc_ref, vc_long, jv_cat]) ⟨Nat.zero_le _, Nat.zero_le _⟩ d_J_load_149 (fun r u9 H locs hp hh _ _ => ?_)
            rw [hp.2] at hh
            refine W.eq (g2 := F0 m 152 ls [.int (4 + (js_up (jc_freeDoc u o) 11 (js_free u 8 39 0) (jc_bx (jc_freeDoc u o) (url / 8) (jc_boxed u (u 7 (ix o))))) 24 0), jv ad 78 (nI (js_free u 8 39 0))]) (by rw [hp.1]; rfl) ?_
            refine lv_goto (tgt := 159) hx hb d_J_load_152 rfl ?_
            refine jp_10 hc hh js_f39 wf_J_168 d_J_load_159 (fun H locs hh => ?_)
            have J162 : ∀  (H : Heap) (locs : List Loc) (ls : Array Slot), jx_H D 158 ad (jc_cell ad aK cA (jc_ldC (jc_freeDoc u o) (js_free u 8 39 0) url (jc_bx (jc_freeDoc u o) (url / 8) (jc_boxed u (u 7 (ix o)))))) A s.heap H locs → lv_has ls 8 [(0, .ref (ad 0)), (2, .int url), (3, .int step), (6, jv ad 78 (nI (js_free u 8 39 0))), (7, jv ad 6 (url / 8))] → W p l e (jr (k + 1)) s m args below meth c H locs 0 0 Q (F0 m 162 ls []) := by
              intro  H locs ls hh hl
              refine lv_aload_n hx hb d_J_load_162 rfl (lv_at hl 0 rfl) ?_
              refine jv_aload hx hb d_J_load_163 (lv_at hl 3 rfl) ?_
              refine jv_aload hx hb d_J_load_165 (lv_at hl 4 rfl) ?_
              refine lv_iload_n hx hb d_J_load_167 rfl (lv_at hl 2 rfl) ?_
              refine jx_callV [jv ad 78 (nI (js_free u 8 39 0)), jv ad 6 (url / 8), .int step] [] hc hh (hMF (jc_ldC (jc_freeDoc u o) (js_free u 8 39 0) url (jc_bx (jc_freeDoc u o) (url / 8) (jc_boxed u (u 7 (ix o))))) (js_free u 8 39 0) (url / 8) step (jc_Sh_ldC (jc_Sh_fdx hS (jc_Ow_ok hw))) js_f39 (by rw [(jc_ldC_fd _ rfl).1]; decide) (js_pg hu h35) (by rw [(jc_ldC_fd _ rfl).2]; exact jc_Ow_Gr hw (jc_ldC_Gr (jc_Gr_doc h0) h0)) (jc_Cp_Gr (jc_Cp_le hC (by omega) (by omega)) (jc_ldC_Gr (jc_Gr_doc h0) h0) (by omega))) wy_J_229 ⟨by decide, rfl, rfl⟩ ⟨rfl, rfl, by simp only [jr]; omega, by simp only [jr]; omega⟩ rfl hl.1 rfl (by decide) ⟨Nat.zero_le _, Nat.zero_le _⟩ d_J_load_168 (fun r u9 H locs hp hh _ _ => ?_)
              rw [hp.2] at hh
              refine W.eq (g2 := F0 m 171 ls []) rfl ?_
              refine jv_aload hx hb d_J_load_171 (lv_at hl 3 rfl) ?_
              exact jx_aret (r := (nI (js_free u 8 39 0))) hc hh hQ hlk hr (jv_or _ _ _) rfl ⟨rfl, by simp [jc_loadB, jc_ldU, h35, h94]⟩ d_J_load_173
            have e18 : (jc_ldC (jc_freeDoc u o) (js_free u 8 39 0) url (jc_bx (jc_freeDoc u o) (url / 8) (jc_boxed u (u 7 (ix o))))) = (js_up (js_up (js_up (jc_freeDoc u o) 11 (js_free u 8 39 0) (jc_bx (jc_freeDoc u o) (url / 8) (jc_boxed u (u 7 (ix o))))) 24 0 ((js_up (jc_freeDoc u o) 11 (js_free u 8 39 0) (jc_bx (jc_freeDoc u o) (url / 8) (jc_boxed u (u 7 (ix o))))) 24 0 + 1)) 10 (js_free u 8 39 0) (4 + (js_up (jc_freeDoc u o) 11 (js_free u 8 39 0) (jc_bx (jc_freeDoc u o) (url / 8) (jc_boxed u (u 7 (ix o))))) 24 0)) := by simp [jc_ldC, jc_opq, h145]
            refine J162 _ _ _ ?_ ?_
            ·
              try rw [e18]
              exact hh
            try rw [e18]
            exact lv_sub hl [0, 1, 2, 3, 4] rfl
          have e19 : (jc_bx (jc_freeDoc u o) (url / 8) (jc_boxed u (u 7 (ix o)))) = 1 := by first | (simp [jc_bx, h35, h94, h122, h127]; done) | (simp [jc_bx, h35, eq_true h94, eq_true h122, h127]; done)
          refine W.eq (g2 := F0 m 135 ls [.int (jc_bx (jc_freeDoc u o) (url / 8) (jc_boxed u (u 7 (ix o)))), jv ad 78 (nI (js_free u 8 39 0))]) (by first | (rw [e19]; done) | (rw [e19]; rfl)) ?_
          refine J135 _ ?_
          exact lv_sub hl [3, 5, 6, 1, 0] rfl
        refine jv_aload hx hb d_J_load_97 (lv_at hl 1 rfl) ?_
        refine lv_iconst (v := 0) hx hb d_J_load_99 (by decide) ?_
        refine jp_11 hc hh js_f39 (by decide) wf_J_219 d_J_load_100 (fun H locs hh => ?_)
        refine jv_aload hx hb d_J_load_103 (lv_at hl 1 rfl) ?_
        refine lv_aload_n hx hb d_J_load_105 rfl (lv_at hl 3 rfl) ?_
        refine jx_callV [] [jv ad 78 (nI (js_free u 8 39 0))] hc hh (c_giveOpaqueOrigin l D aK ad cA (js_up (jc_freeDoc u o) 11 (js_free u 8 39 0) 0)) wy_J_226 ⟨by decide, rfl, rfl⟩ ⟨rfl, rfl, by simp only [jr]; omega, by simp only [jr]; omega⟩ rfl hl.1 rfl (by simp [vc_int, vc_ref, vc_long, jv_cat]) ⟨Nat.zero_le _, Nat.zero_le _⟩ d_J_load_106 (fun r u9 H locs hp hh _ _ => ?_)
        rw [hp.2] at hh
        refine W.eq (g2 := F0 m 109 ls [.int (4 + (js_up (jc_freeDoc u o) 11 (js_free u 8 39 0) 0) 24 0), jv ad 78 (nI (js_free u 8 39 0))]) (by rw [hp.1]; rfl) ?_
        refine jp_10 hc hh js_f39 wf_J_168 d_J_load_109 (fun H locs hh => ?_)
        refine jv_aload hx hb d_J_load_112 (lv_at hl 1 rfl) ?_
        exact jx_aret (r := (nI (js_free u 8 39 0))) hc hh hQ hlk hr (jv_or _ _ _) rfl ⟨rfl, by simp [jc_loadB, jc_ldU, jc_opq, h35, h94]⟩ d_J_load_114
      refine jv_aload hx hb d_J_load_38 (lv_at hl 0 rfl) ?_
      refine lv_iload hx hb d_J_load_40 (lv_at hl 1 rfl) ?_
      refine jp_11 hc hh js_f39 jc_boxed_z wf_J_219 d_J_load_42 (fun H locs hh => ?_)
      refine jv_aload hx hb d_J_load_45 (lv_at hl 0 rfl) ?_
      refine jv_aload hx hb d_J_load_47 (lv_at hl 6 rfl) ?_
      refine jv_ifnull (tgt := 57) hx hb d_J_load_49 rfl (fun h49 => ?_) (fun h49 => ?_)
      ·
        refine lv_aload_n hx hb d_J_load_57 rfl (lv_at hl 2 rfl) ?_
        refine jx_callV [] [jv ad 78 (nI (js_free u 8 39 0))] hc hh (c_giveOpaqueOrigin l D aK ad cA (js_up (jc_freeDoc u o) 11 (js_free u 8 39 0) (jc_boxed u (u 7 (ix o))))) wy_J_226 ⟨by decide, rfl, rfl⟩ ⟨rfl, rfl, by simp only [jr]; omega, by simp only [jr]; omega⟩ rfl hl.1 rfl (by simp [vc_int, vc_ref, vc_long, jv_cat]) ⟨Nat.zero_le _, Nat.zero_le _⟩ d_J_load_58 (fun r u9 H locs hp hh _ _ => ?_)
        rw [hp.2] at hh
        refine W.eq (g2 := F0 m 61 ls [.int (4 + (js_up (jc_freeDoc u o) 11 (js_free u 8 39 0) (jc_boxed u (u 7 (ix o)))) 24 0), jv ad 78 (nI (js_free u 8 39 0))]) (by rw [hp.1]; rfl) ?_
        refine lv_goto (tgt := 69) hx hb d_J_load_61 rfl ?_
        refine jp_10 hc hh js_f39 wf_J_168 d_J_load_69 (fun H locs hh => ?_)
        refine jv_aload hx hb d_J_load_72 (lv_at hl 0 rfl) ?_
        exact jx_aret (r := (nI (js_free u 8 39 0))) hc hh hQ hlk hr (jv_or _ _ _) rfl ⟨rfl, by simp [jc_loadB, jc_ldA, jc_opq, h35, h49]⟩ d_J_load_74
      refine lv_iload hx hb d_J_load_52 (lv_at hl 1 rfl) ?_
      refine lv_if_eq (tgt := 64) hx hb d_J_load_54 rfl (fun h54 => ?_) (fun h54 => ?_)
      ·
        refine jv_aload hx hb d_J_load_64 (lv_at hl 6 rfl) ?_
        refine jgx_D hc hh (jq_ne (jc_S7x hS (jc_Ow_ok hw)) h49) 2 (by decide) rfl wf_J_168 d_J_load_66 ?_
        refine jp_10 hc hh js_f39 wf_J_168 d_J_load_69 (fun H locs hh => ?_)
        refine jv_aload hx hb d_J_load_72 (lv_at hl 0 rfl) ?_
        exact jx_aret (r := (nI (js_free u 8 39 0))) hc hh hQ hlk hr (jv_or _ _ _) rfl ⟨rfl, by simp [jc_loadB, jc_ldA, jc_opq, h35, h49, h54]⟩ d_J_load_74
      refine lv_aload_n hx hb d_J_load_57 rfl (lv_at hl 2 rfl) ?_
      refine jx_callV [] [jv ad 78 (nI (js_free u 8 39 0))] hc hh (c_giveOpaqueOrigin l D aK ad cA (js_up (jc_freeDoc u o) 11 (js_free u 8 39 0) (jc_boxed u (u 7 (ix o))))) wy_J_226 ⟨by decide, rfl, rfl⟩ ⟨rfl, rfl, by simp only [jr]; omega, by simp only [jr]; omega⟩ rfl hl.1 rfl (by simp [vc_int, vc_ref, vc_long, jv_cat]) ⟨Nat.zero_le _, Nat.zero_le _⟩ d_J_load_58 (fun r u9 H locs hp hh _ _ => ?_)
      rw [hp.2] at hh
      refine W.eq (g2 := F0 m 61 ls [.int (4 + (js_up (jc_freeDoc u o) 11 (js_free u 8 39 0) (jc_boxed u (u 7 (ix o)))) 24 0), jv ad 78 (nI (js_free u 8 39 0))]) (by rw [hp.1]; rfl) ?_
      refine lv_goto (tgt := 69) hx hb d_J_load_61 rfl ?_
      refine jp_10 hc hh js_f39 wf_J_168 d_J_load_69 (fun H locs hh => ?_)
      refine jv_aload hx hb d_J_load_72 (lv_at hl 0 rfl) ?_
      exact jx_aret (r := (nI (js_free u 8 39 0))) hc hh hQ hlk hr (jv_or _ _ _) rfl ⟨rfl, by simp [jc_loadB, jc_ldA, jc_opq, h35, h49, h54]⟩ d_J_load_74
    have e20 : (jc_boxed u (u 7 (ix o))) = 0 := by first | (simp [jc_boxed, h8, h16]; done) | (simp [jc_boxed, h8, eq_true h16]; done)
    refine W.eq (g2 := F0 m 24 ls [.int (jc_boxed u (u 7 (ix o)))]) (by first | (rw [e20]; done) | (rw [e20]; rfl)) ?_
    refine J24 _ ?_
    exact lv_sub hl [1, 2, 3, 4, 0] rfl
  refine lv_iconst (v := 1) hx hb d_J_load_19 (by decide) ?_
  refine lv_goto (tgt := 24) hx hb d_J_load_20 rfl ?_
  have J24 : ∀  (ls : Array Slot), lv_has ls 8 [(0, .ref (ad 0)), (1, jv ad 38 o), (2, .int url), (3, .int step), (4, jv ad 78 (u 7 (ix o)))] → W p l e (jr (k + 1)) s m args below meth c H locs 0 0 Q (F0 m 24 ls [.int (jc_boxed u (u 7 (ix o)))]) := by
    intro  ls hl
    refine lv_istore (i := 5) (lv' := [(5, .int (jc_boxed u (u 7 (ix o)))), (0, .ref (ad 0)), (1, jv ad 38 o), (2, .int url), (3, .int step), (4, jv ad 78 (u 7 (ix o)))]) hx hb d_J_load_24 hl (by decide) (by simp [vc_int, vc_ref, vc_long, jv_cat]) (fun ls hl => ?_)
    refine lv_aload_n hx hb d_J_load_26 rfl (lv_at hl 1 rfl) ?_
    refine jv_aload_n hx hb d_J_load_27 rfl (lv_at hl 2 rfl) ?_
    refine jx_callV [jv ad 38 o] [] hc hh (c_freeDocument l D aK ad cA u o) wy_J_222 ⟨by decide, rfl, rfl⟩ ⟨rfl, rfl, by simp only [jr]; omega, by simp only [jr]; omega⟩ rfl hl.1 rfl (by decide) ⟨Nat.zero_le _, Nat.zero_le _⟩ d_J_load_28 (fun r u9 H locs hp hh _ _ => ?_)
    rw [hp.2] at hh
    refine W.eq (g2 := F0 m 31 ls [jv ad 78 (nI (js_free u 8 39 0))]) (by rw [hp.1]; rfl) ?_
    refine jv_astore (i := 6) (lv' := [(6, jv ad 78 (nI (js_free u 8 39 0))), (5, .int (jc_boxed u (u 7 (ix o)))), (0, .ref (ad 0)), (1, jv ad 38 o), (2, .int url), (3, .int step), (4, jv ad 78 (u 7 (ix o)))]) hx hb d_J_load_31 hl (by decide) rfl (fun ls hl => ?_)
    refine lv_iload_n hx hb d_J_load_33 rfl (lv_at hl 4 rfl) ?_
    refine lv_iconst (v := -1) hx hb d_J_load_34 (by decide) ?_
    refine lv_icmp_ne (tgt := 75) hx hb d_J_load_35 rfl (fun h35 => ?_) (fun h35 => ?_)
    ·
      refine lv_aload_n hx hb d_J_load_75 rfl (lv_at hl 2 rfl) ?_
      refine jg_J hc hh 0 (by decide) rfl wf_J_11 d_J_load_76 ?_
      refine lv_iload_n hx hb d_J_load_79 rfl (lv_at hl 4 rfl) ?_
      refine jx_callS [.int url] [.ref (ad 1)] hc hh (c_pageOf l D aK ad cA (jc_freeDoc u o) url) wy_J_202 ⟨rfl, rfl, by simp only [jr]; omega, by simp only [jr]; omega⟩ rfl hl.1 rfl (by simp [vc_int, vc_ref, vc_long, jv_cat]) ⟨Nat.zero_le _, Nat.zero_le _⟩ d_J_load_80 (fun r u9 H locs hp hh _ _ => ?_)
      rw [hp.2] at hh
      refine W.eq (g2 := F0 m 83 ls [.int (url / 8), .ref (ad 1)]) (by rw [hp.1]; rfl) ?_
      refine jax_A hc hh (js_pg hu h35) d_J_load_83 ?_
      refine jv_astore (i := 7) (lv' := [(7, jv ad 6 (url / 8)), (6, jv ad 78 (nI (js_free u 8 39 0))), (5, .int (jc_boxed u (u 7 (ix o)))), (0, .ref (ad 0)), (1, jv ad 38 o), (2, .int url), (3, .int step), (4, jv ad 78 (u 7 (ix o)))]) hx hb d_J_load_84 hl (by decide) (by simp [vc_int, vc_ref, vc_long, jv_cat]) (fun ls hl => ?_)
      refine jv_aload hx hb d_J_load_86 (lv_at hl 0 rfl) ?_
      refine jgx_A hc hh (js_pg hu h35) 0 (by decide) rfl wf_J_68 d_J_load_88 ?_
      refine jk_get (j := 0) hc hh (by decide) wf_J_62 d_J_load_91 ?_
      refine jv_acmp_eq (tgt := 115) (n := 3) hx hb (by decide) (jk_inj hc) (jc_Skx (jc_Sh_fdx hS (jc_Ow_ok hw)) (js_pg hu h35)) (jq_nI (by decide)) d_J_load_94 rfl (fun h94 => ?_) (fun h94 => ?_)
      ·
        refine jv_aload hx hb d_J_load_115 (lv_at hl 1 rfl) ?_
        refine jv_aload hx hb d_J_load_117 (lv_at hl 0 rfl) ?_
        refine jgx_A hc hh (js_pg hu h35) 3 (by decide) rfl wf_J_78 d_J_load_119 ?_
        refine lv_if_ne (tgt := 130) hx hb d_J_load_122 rfl (fun h122 => ?_) (fun h122 => ?_)
        ·
          refine lv_iconst (v := 1) hx hb d_J_load_130 (by decide) ?_
          refine lv_goto (tgt := 135) hx hb d_J_load_131 rfl ?_
          have J135 : ∀  (ls : Array Slot), lv_has ls 8 [(0, .ref (ad 0)), (2, .int url), (3, .int step), (6, jv ad 78 (nI (js_free u 8 39 0))), (7, jv ad 6 (url / 8))] → W p l e (jr (k + 1)) s m args below meth c H locs 0 0 Q (F0 m 135 ls [.int (jc_bx (jc_freeDoc u o) (url / 8) (jc_boxed u (u 7 (ix o)))), jv ad 78 (nI (js_free u 8 39 0))]) := by
            intro  ls hl
            refine jp_11 hc hh js_f39 jc_bx_z wf_J_219 d_J_load_135 (fun H locs hh => ?_)
            refine jv_aload hx hb d_J_load_138 (lv_at hl 3 rfl) ?_
            refine jv_aload hx hb d_J_load_140 (lv_at hl 3 rfl) ?_
            refine jg_D hc hh js_f39 3 (by decide) rfl wf_J_219 d_J_load_142 ?_
            refine lv_if_eq (tgt := 155) hx hb d_J_load_145 rfl (fun h145 => ?_) (fun h145 => ?_)
            ·
              refine lv_iload_n hx hb d_J_load_155 rfl (lv_at hl 1 rfl) ?_
              refine jx_callS [.int url] [jv ad 78 (nI (js_free u 8 39 0))] hc hh (c_hostOf l D aK ad cA (js_up (jc_freeDoc u o) 11 (js_free u 8 39 0) (jc_bx (jc_freeDoc u o) (url / 8) (jc_boxed u (u 7 (ix o))))) url) wy_J_205 ⟨rfl, rfl, by simp only [jr]; omega, by simp only [jr]; omega⟩ rfl hl.1 rfl (by simp [vc_int, vc_ref, vc_long, jv_cat]) ⟨Nat.zero_le _, Nat.zero_le _⟩ d_J_load_156 (fun r u9 H locs hp hh _ _ => ?_)
              rw [hp.2] at hh
              refine W.eq (g2 := F0 m 159 ls [.int (url / 64), jv ad 78 (nI (js_free u 8 39 0))]) (by rw [hp.1]; rfl) ?_
              refine jp_10 hc hh js_f39 wf_J_168 d_J_load_159 (fun H locs hh => ?_)
              have J162 : ∀  (H : Heap) (locs : List Loc) (ls : Array Slot), jx_H D 158 ad (jc_cell ad aK cA (jc_ldC (jc_freeDoc u o) (js_free u 8 39 0) url (jc_bx (jc_freeDoc u o) (url / 8) (jc_boxed u (u 7 (ix o)))))) A s.heap H locs → lv_has ls 8 [(0, .ref (ad 0)), (2, .int url), (3, .int step), (6, jv ad 78 (nI (js_free u 8 39 0))), (7, jv ad 6 (url / 8))] → W p l e (jr (k + 1)) s m args below meth c H locs 0 0 Q (F0 m 162 ls []) := by
                intro  H locs ls hh hl
                refine lv_aload_n hx hb d_J_load_162 rfl (lv_at hl 0 rfl) ?_
                refine jv_aload hx hb d_J_load_163 (lv_at hl 3 rfl) ?_
                refine jv_aload hx hb d_J_load_165 (lv_at hl 4 rfl) ?_
                refine lv_iload_n hx hb d_J_load_167 rfl (lv_at hl 2 rfl) ?_
                refine jx_callV [jv ad 78 (nI (js_free u 8 39 0)), jv ad 6 (url / 8), .int step] [] hc hh (hMF (jc_ldC (jc_freeDoc u o) (js_free u 8 39 0) url (jc_bx (jc_freeDoc u o) (url / 8) (jc_boxed u (u 7 (ix o))))) (js_free u 8 39 0) (url / 8) step (jc_Sh_ldC (jc_Sh_fdx hS (jc_Ow_ok hw))) js_f39 (by rw [(jc_ldC_fd _ rfl).1]; decide) (js_pg hu h35) (by rw [(jc_ldC_fd _ rfl).2]; exact jc_Ow_Gr hw (jc_ldC_Gr (jc_Gr_doc h0) h0)) (jc_Cp_Gr (jc_Cp_le hC (by omega) (by omega)) (jc_ldC_Gr (jc_Gr_doc h0) h0) (by omega))) wy_J_229 ⟨by decide, rfl, rfl⟩ ⟨rfl, rfl, by simp only [jr]; omega, by simp only [jr]; omega⟩ rfl hl.1 rfl (by decide) ⟨Nat.zero_le _, Nat.zero_le _⟩ d_J_load_168 (fun r u9 H locs hp hh _ _ => ?_)
                rw [hp.2] at hh
                refine W.eq (g2 := F0 m 171 ls []) rfl ?_
                refine jv_aload hx hb d_J_load_171 (lv_at hl 3 rfl) ?_
                exact jx_aret (r := (nI (js_free u 8 39 0))) hc hh hQ hlk hr (jv_or _ _ _) rfl ⟨rfl, by simp [jc_loadB, jc_ldU, h35, h94]⟩ d_J_load_173
              have e21 : (jc_ldC (jc_freeDoc u o) (js_free u 8 39 0) url (jc_bx (jc_freeDoc u o) (url / 8) (jc_boxed u (u 7 (ix o))))) = (js_up (js_up (jc_freeDoc u o) 11 (js_free u 8 39 0) (jc_bx (jc_freeDoc u o) (url / 8) (jc_boxed u (u 7 (ix o))))) 10 (js_free u 8 39 0) (url / 64)) := by first | (simp [jc_ldC, jc_opq, h145]; done) | (simp [jc_ldC, jc_opq, eq_true h145]; done)
              refine J162 _ _ _ ?_ ?_
              ·
                try rw [e21]
                exact hh
              try rw [e21]
              exact lv_sub hl [0, 1, 2, 3, 4] rfl
            refine lv_aload_n hx hb d_J_load_148 rfl (lv_at hl 0 rfl) ?_
            refine jx_callV [] [jv ad 78 (nI (js_free u 8 39 0))] hc hh (c_giveOpaqueOrigin l D aK ad cA (js_up (jc_freeDoc u o) 11 (js_free u 8 39 0) (jc_bx (jc_freeDoc u o) (url / 8) (jc_boxed u (u 7 (ix o)))))) wy_J_226 ⟨by decide, rfl, rfl⟩ ⟨rfl, rfl, by simp only [jr]; omega, by simp only [jr]; omega⟩ rfl hl.1 rfl (by simp [vc_int, vc_ref, vc_long, jv_cat]) ⟨Nat.zero_le _, Nat.zero_le _⟩ d_J_load_149 (fun r u9 H locs hp hh _ _ => ?_)
            rw [hp.2] at hh
            refine W.eq (g2 := F0 m 152 ls [.int (4 + (js_up (jc_freeDoc u o) 11 (js_free u 8 39 0) (jc_bx (jc_freeDoc u o) (url / 8) (jc_boxed u (u 7 (ix o))))) 24 0), jv ad 78 (nI (js_free u 8 39 0))]) (by rw [hp.1]; rfl) ?_
            refine lv_goto (tgt := 159) hx hb d_J_load_152 rfl ?_
            refine jp_10 hc hh js_f39 wf_J_168 d_J_load_159 (fun H locs hh => ?_)
            have J162 : ∀  (H : Heap) (locs : List Loc) (ls : Array Slot), jx_H D 158 ad (jc_cell ad aK cA (jc_ldC (jc_freeDoc u o) (js_free u 8 39 0) url (jc_bx (jc_freeDoc u o) (url / 8) (jc_boxed u (u 7 (ix o)))))) A s.heap H locs → lv_has ls 8 [(0, .ref (ad 0)), (2, .int url), (3, .int step), (6, jv ad 78 (nI (js_free u 8 39 0))), (7, jv ad 6 (url / 8))] → W p l e (jr (k + 1)) s m args below meth c H locs 0 0 Q (F0 m 162 ls []) := by
              intro  H locs ls hh hl
              refine lv_aload_n hx hb d_J_load_162 rfl (lv_at hl 0 rfl) ?_
              refine jv_aload hx hb d_J_load_163 (lv_at hl 3 rfl) ?_
              refine jv_aload hx hb d_J_load_165 (lv_at hl 4 rfl) ?_
              refine lv_iload_n hx hb d_J_load_167 rfl (lv_at hl 2 rfl) ?_
              refine jx_callV [jv ad 78 (nI (js_free u 8 39 0)), jv ad 6 (url / 8), .int step] [] hc hh (hMF (jc_ldC (jc_freeDoc u o) (js_free u 8 39 0) url (jc_bx (jc_freeDoc u o) (url / 8) (jc_boxed u (u 7 (ix o))))) (js_free u 8 39 0) (url / 8) step (jc_Sh_ldC (jc_Sh_fdx hS (jc_Ow_ok hw))) js_f39 (by rw [(jc_ldC_fd _ rfl).1]; decide) (js_pg hu h35) (by rw [(jc_ldC_fd _ rfl).2]; exact jc_Ow_Gr hw (jc_ldC_Gr (jc_Gr_doc h0) h0)) (jc_Cp_Gr (jc_Cp_le hC (by omega) (by omega)) (jc_ldC_Gr (jc_Gr_doc h0) h0) (by omega))) wy_J_229 ⟨by decide, rfl, rfl⟩ ⟨rfl, rfl, by simp only [jr]; omega, by simp only [jr]; omega⟩ rfl hl.1 rfl (by decide) ⟨Nat.zero_le _, Nat.zero_le _⟩ d_J_load_168 (fun r u9 H locs hp hh _ _ => ?_)
              rw [hp.2] at hh
              refine W.eq (g2 := F0 m 171 ls []) rfl ?_
              refine jv_aload hx hb d_J_load_171 (lv_at hl 3 rfl) ?_
              exact jx_aret (r := (nI (js_free u 8 39 0))) hc hh hQ hlk hr (jv_or _ _ _) rfl ⟨rfl, by simp [jc_loadB, jc_ldU, h35, h94]⟩ d_J_load_173
            have e22 : (jc_ldC (jc_freeDoc u o) (js_free u 8 39 0) url (jc_bx (jc_freeDoc u o) (url / 8) (jc_boxed u (u 7 (ix o))))) = (js_up (js_up (js_up (jc_freeDoc u o) 11 (js_free u 8 39 0) (jc_bx (jc_freeDoc u o) (url / 8) (jc_boxed u (u 7 (ix o))))) 24 0 ((js_up (jc_freeDoc u o) 11 (js_free u 8 39 0) (jc_bx (jc_freeDoc u o) (url / 8) (jc_boxed u (u 7 (ix o))))) 24 0 + 1)) 10 (js_free u 8 39 0) (4 + (js_up (jc_freeDoc u o) 11 (js_free u 8 39 0) (jc_bx (jc_freeDoc u o) (url / 8) (jc_boxed u (u 7 (ix o))))) 24 0)) := by simp [jc_ldC, jc_opq, h145]
            refine J162 _ _ _ ?_ ?_
            ·
              try rw [e22]
              exact hh
            try rw [e22]
            exact lv_sub hl [0, 1, 2, 3, 4] rfl
          have e23 : (jc_bx (jc_freeDoc u o) (url / 8) (jc_boxed u (u 7 (ix o)))) = 1 := by first | (simp [jc_bx, h35, h94, h122]; done) | (simp [jc_bx, h35, eq_true h94, h122]; done)
          refine W.eq (g2 := F0 m 135 ls [.int (jc_bx (jc_freeDoc u o) (url / 8) (jc_boxed u (u 7 (ix o)))), jv ad 78 (nI (js_free u 8 39 0))]) (by first | (rw [e23]; done) | (rw [e23]; rfl)) ?_
          refine J135 _ ?_
          exact lv_sub hl [3, 5, 6, 1, 0] rfl
        refine lv_iload hx hb d_J_load_125 (lv_at hl 2 rfl) ?_
        refine lv_if_eq (tgt := 134) hx hb d_J_load_127 rfl (fun h127 => ?_) (fun h127 => ?_)
        ·
          refine lv_iconst (v := 0) hx hb d_J_load_134 (by decide) ?_
          have J135 : ∀  (ls : Array Slot), lv_has ls 8 [(0, .ref (ad 0)), (2, .int url), (3, .int step), (6, jv ad 78 (nI (js_free u 8 39 0))), (7, jv ad 6 (url / 8))] → W p l e (jr (k + 1)) s m args below meth c H locs 0 0 Q (F0 m 135 ls [.int (jc_bx (jc_freeDoc u o) (url / 8) (jc_boxed u (u 7 (ix o)))), jv ad 78 (nI (js_free u 8 39 0))]) := by
            intro  ls hl
            refine jp_11 hc hh js_f39 jc_bx_z wf_J_219 d_J_load_135 (fun H locs hh => ?_)
            refine jv_aload hx hb d_J_load_138 (lv_at hl 3 rfl) ?_
            refine jv_aload hx hb d_J_load_140 (lv_at hl 3 rfl) ?_
            refine jg_D hc hh js_f39 3 (by decide) rfl wf_J_219 d_J_load_142 ?_
            refine lv_if_eq (tgt := 155) hx hb d_J_load_145 rfl (fun h145 => ?_) (fun h145 => ?_)
            ·
              refine lv_iload_n hx hb d_J_load_155 rfl (lv_at hl 1 rfl) ?_
              refine jx_callS [.int url] [jv ad 78 (nI (js_free u 8 39 0))] hc hh (c_hostOf l D aK ad cA (js_up (jc_freeDoc u o) 11 (js_free u 8 39 0) (jc_bx (jc_freeDoc u o) (url / 8) (jc_boxed u (u 7 (ix o))))) url) wy_J_205 ⟨rfl, rfl, by simp only [jr]; omega, by simp only [jr]; omega⟩ rfl hl.1 rfl (by simp [vc_int, vc_ref, vc_long, jv_cat]) ⟨Nat.zero_le _, Nat.zero_le _⟩ d_J_load_156 (fun r u9 H locs hp hh _ _ => ?_)
              rw [hp.2] at hh
              refine W.eq (g2 := F0 m 159 ls [.int (url / 64), jv ad 78 (nI (js_free u 8 39 0))]) (by rw [hp.1]; rfl) ?_
              refine jp_10 hc hh js_f39 wf_J_168 d_J_load_159 (fun H locs hh => ?_)
              have J162 : ∀  (H : Heap) (locs : List Loc) (ls : Array Slot), jx_H D 158 ad (jc_cell ad aK cA (jc_ldC (jc_freeDoc u o) (js_free u 8 39 0) url (jc_bx (jc_freeDoc u o) (url / 8) (jc_boxed u (u 7 (ix o)))))) A s.heap H locs → lv_has ls 8 [(0, .ref (ad 0)), (2, .int url), (3, .int step), (6, jv ad 78 (nI (js_free u 8 39 0))), (7, jv ad 6 (url / 8))] → W p l e (jr (k + 1)) s m args below meth c H locs 0 0 Q (F0 m 162 ls []) := by
                intro  H locs ls hh hl
                refine lv_aload_n hx hb d_J_load_162 rfl (lv_at hl 0 rfl) ?_
                refine jv_aload hx hb d_J_load_163 (lv_at hl 3 rfl) ?_
                refine jv_aload hx hb d_J_load_165 (lv_at hl 4 rfl) ?_
                refine lv_iload_n hx hb d_J_load_167 rfl (lv_at hl 2 rfl) ?_
                refine jx_callV [jv ad 78 (nI (js_free u 8 39 0)), jv ad 6 (url / 8), .int step] [] hc hh (hMF (jc_ldC (jc_freeDoc u o) (js_free u 8 39 0) url (jc_bx (jc_freeDoc u o) (url / 8) (jc_boxed u (u 7 (ix o))))) (js_free u 8 39 0) (url / 8) step (jc_Sh_ldC (jc_Sh_fdx hS (jc_Ow_ok hw))) js_f39 (by rw [(jc_ldC_fd _ rfl).1]; decide) (js_pg hu h35) (by rw [(jc_ldC_fd _ rfl).2]; exact jc_Ow_Gr hw (jc_ldC_Gr (jc_Gr_doc h0) h0)) (jc_Cp_Gr (jc_Cp_le hC (by omega) (by omega)) (jc_ldC_Gr (jc_Gr_doc h0) h0) (by omega))) wy_J_229 ⟨by decide, rfl, rfl⟩ ⟨rfl, rfl, by simp only [jr]; omega, by simp only [jr]; omega⟩ rfl hl.1 rfl (by decide) ⟨Nat.zero_le _, Nat.zero_le _⟩ d_J_load_168 (fun r u9 H locs hp hh _ _ => ?_)
                rw [hp.2] at hh
                refine W.eq (g2 := F0 m 171 ls []) rfl ?_
                refine jv_aload hx hb d_J_load_171 (lv_at hl 3 rfl) ?_
                exact jx_aret (r := (nI (js_free u 8 39 0))) hc hh hQ hlk hr (jv_or _ _ _) rfl ⟨rfl, by simp [jc_loadB, jc_ldU, h35, h94]⟩ d_J_load_173
              have e24 : (jc_ldC (jc_freeDoc u o) (js_free u 8 39 0) url (jc_bx (jc_freeDoc u o) (url / 8) (jc_boxed u (u 7 (ix o))))) = (js_up (js_up (jc_freeDoc u o) 11 (js_free u 8 39 0) (jc_bx (jc_freeDoc u o) (url / 8) (jc_boxed u (u 7 (ix o))))) 10 (js_free u 8 39 0) (url / 64)) := by first | (simp [jc_ldC, jc_opq, h145]; done) | (simp [jc_ldC, jc_opq, eq_true h145]; done)
              refine J162 _ _ _ ?_ ?_
              ·
                try rw [e24]
                exact hh
              try rw [e24]
              exact lv_sub hl [0, 1, 2, 3, 4] rfl
            refine lv_aload_n hx hb d_J_load_148 rfl (lv_at hl 0 rfl) ?_
            refine jx_callV [] [jv ad 78 (nI (js_free u 8 39 0))] hc hh (c_giveOpaqueOrigin l D aK ad cA (js_up (jc_freeDoc u o) 11 (js_free u 8 39 0) (jc_bx (jc_freeDoc u o) (url / 8) (jc_boxed u (u 7 (ix o)))))) wy_J_226 ⟨by decide, rfl, rfl⟩ ⟨rfl, rfl, by simp only [jr]; omega, by simp only [jr]; omega⟩ rfl hl.1 rfl (by simp [vc_int, vc_ref, vc_long, jv_cat]) ⟨Nat.zero_le _, Nat.zero_le _⟩ d_J_load_149 (fun r u9 H locs hp hh _ _ => ?_)
            rw [hp.2] at hh
            refine W.eq (g2 := F0 m 152 ls [.int (4 + (js_up (jc_freeDoc u o) 11 (js_free u 8 39 0) (jc_bx (jc_freeDoc u o) (url / 8) (jc_boxed u (u 7 (ix o))))) 24 0), jv ad 78 (nI (js_free u 8 39 0))]) (by rw [hp.1]; rfl) ?_
            refine lv_goto (tgt := 159) hx hb d_J_load_152 rfl ?_
            refine jp_10 hc hh js_f39 wf_J_168 d_J_load_159 (fun H locs hh => ?_)
            have J162 : ∀  (H : Heap) (locs : List Loc) (ls : Array Slot), jx_H D 158 ad (jc_cell ad aK cA (jc_ldC (jc_freeDoc u o) (js_free u 8 39 0) url (jc_bx (jc_freeDoc u o) (url / 8) (jc_boxed u (u 7 (ix o)))))) A s.heap H locs → lv_has ls 8 [(0, .ref (ad 0)), (2, .int url), (3, .int step), (6, jv ad 78 (nI (js_free u 8 39 0))), (7, jv ad 6 (url / 8))] → W p l e (jr (k + 1)) s m args below meth c H locs 0 0 Q (F0 m 162 ls []) := by
              intro  H locs ls hh hl
              refine lv_aload_n hx hb d_J_load_162 rfl (lv_at hl 0 rfl) ?_
              refine jv_aload hx hb d_J_load_163 (lv_at hl 3 rfl) ?_
              refine jv_aload hx hb d_J_load_165 (lv_at hl 4 rfl) ?_
              refine lv_iload_n hx hb d_J_load_167 rfl (lv_at hl 2 rfl) ?_
              refine jx_callV [jv ad 78 (nI (js_free u 8 39 0)), jv ad 6 (url / 8), .int step] [] hc hh (hMF (jc_ldC (jc_freeDoc u o) (js_free u 8 39 0) url (jc_bx (jc_freeDoc u o) (url / 8) (jc_boxed u (u 7 (ix o))))) (js_free u 8 39 0) (url / 8) step (jc_Sh_ldC (jc_Sh_fdx hS (jc_Ow_ok hw))) js_f39 (by rw [(jc_ldC_fd _ rfl).1]; decide) (js_pg hu h35) (by rw [(jc_ldC_fd _ rfl).2]; exact jc_Ow_Gr hw (jc_ldC_Gr (jc_Gr_doc h0) h0)) (jc_Cp_Gr (jc_Cp_le hC (by omega) (by omega)) (jc_ldC_Gr (jc_Gr_doc h0) h0) (by omega))) wy_J_229 ⟨by decide, rfl, rfl⟩ ⟨rfl, rfl, by simp only [jr]; omega, by simp only [jr]; omega⟩ rfl hl.1 rfl (by decide) ⟨Nat.zero_le _, Nat.zero_le _⟩ d_J_load_168 (fun r u9 H locs hp hh _ _ => ?_)
              rw [hp.2] at hh
              refine W.eq (g2 := F0 m 171 ls []) rfl ?_
              refine jv_aload hx hb d_J_load_171 (lv_at hl 3 rfl) ?_
              exact jx_aret (r := (nI (js_free u 8 39 0))) hc hh hQ hlk hr (jv_or _ _ _) rfl ⟨rfl, by simp [jc_loadB, jc_ldU, h35, h94]⟩ d_J_load_173
            have e25 : (jc_ldC (jc_freeDoc u o) (js_free u 8 39 0) url (jc_bx (jc_freeDoc u o) (url / 8) (jc_boxed u (u 7 (ix o))))) = (js_up (js_up (js_up (jc_freeDoc u o) 11 (js_free u 8 39 0) (jc_bx (jc_freeDoc u o) (url / 8) (jc_boxed u (u 7 (ix o))))) 24 0 ((js_up (jc_freeDoc u o) 11 (js_free u 8 39 0) (jc_bx (jc_freeDoc u o) (url / 8) (jc_boxed u (u 7 (ix o))))) 24 0 + 1)) 10 (js_free u 8 39 0) (4 + (js_up (jc_freeDoc u o) 11 (js_free u 8 39 0) (jc_bx (jc_freeDoc u o) (url / 8) (jc_boxed u (u 7 (ix o))))) 24 0)) := by simp [jc_ldC, jc_opq, h145]
            refine J162 _ _ _ ?_ ?_
            ·
              try rw [e25]
              exact hh
            try rw [e25]
            exact lv_sub hl [0, 1, 2, 3, 4] rfl
          have e26 : (jc_bx (jc_freeDoc u o) (url / 8) (jc_boxed u (u 7 (ix o)))) = 0 := by first | (simp [jc_bx, h35, h94, h122, h127]; done) | (simp [jc_bx, h35, eq_true h94, eq_true h122, eq_true h127]; done)
          refine W.eq (g2 := F0 m 135 ls [.int (jc_bx (jc_freeDoc u o) (url / 8) (jc_boxed u (u 7 (ix o)))), jv ad 78 (nI (js_free u 8 39 0))]) (by first | (rw [e26]; done) | (rw [e26]; rfl)) ?_
          refine J135 _ ?_
          exact lv_sub hl [3, 5, 6, 1, 0] rfl
        refine lv_iconst (v := 1) hx hb d_J_load_130 (by decide) ?_
        refine lv_goto (tgt := 135) hx hb d_J_load_131 rfl ?_
        have J135 : ∀  (ls : Array Slot), lv_has ls 8 [(0, .ref (ad 0)), (2, .int url), (3, .int step), (6, jv ad 78 (nI (js_free u 8 39 0))), (7, jv ad 6 (url / 8))] → W p l e (jr (k + 1)) s m args below meth c H locs 0 0 Q (F0 m 135 ls [.int (jc_bx (jc_freeDoc u o) (url / 8) (jc_boxed u (u 7 (ix o)))), jv ad 78 (nI (js_free u 8 39 0))]) := by
          intro  ls hl
          refine jp_11 hc hh js_f39 jc_bx_z wf_J_219 d_J_load_135 (fun H locs hh => ?_)
          refine jv_aload hx hb d_J_load_138 (lv_at hl 3 rfl) ?_
          refine jv_aload hx hb d_J_load_140 (lv_at hl 3 rfl) ?_
          refine jg_D hc hh js_f39 3 (by decide) rfl wf_J_219 d_J_load_142 ?_
          refine lv_if_eq (tgt := 155) hx hb d_J_load_145 rfl (fun h145 => ?_) (fun h145 => ?_)
          ·
            refine lv_iload_n hx hb d_J_load_155 rfl (lv_at hl 1 rfl) ?_
            refine jx_callS [.int url] [jv ad 78 (nI (js_free u 8 39 0))] hc hh (c_hostOf l D aK ad cA (js_up (jc_freeDoc u o) 11 (js_free u 8 39 0) (jc_bx (jc_freeDoc u o) (url / 8) (jc_boxed u (u 7 (ix o))))) url) wy_J_205 ⟨rfl, rfl, by simp only [jr]; omega, by simp only [jr]; omega⟩ rfl hl.1 rfl (by simp [vc_int, vc_ref, vc_long, jv_cat]) ⟨Nat.zero_le _, Nat.zero_le _⟩ d_J_load_156 (fun r u9 H locs hp hh _ _ => ?_)
            rw [hp.2] at hh
            refine W.eq (g2 := F0 m 159 ls [.int (url / 64), jv ad 78 (nI (js_free u 8 39 0))]) (by rw [hp.1]; rfl) ?_
            refine jp_10 hc hh js_f39 wf_J_168 d_J_load_159 (fun H locs hh => ?_)
            have J162 : ∀  (H : Heap) (locs : List Loc) (ls : Array Slot), jx_H D 158 ad (jc_cell ad aK cA (jc_ldC (jc_freeDoc u o) (js_free u 8 39 0) url (jc_bx (jc_freeDoc u o) (url / 8) (jc_boxed u (u 7 (ix o)))))) A s.heap H locs → lv_has ls 8 [(0, .ref (ad 0)), (2, .int url), (3, .int step), (6, jv ad 78 (nI (js_free u 8 39 0))), (7, jv ad 6 (url / 8))] → W p l e (jr (k + 1)) s m args below meth c H locs 0 0 Q (F0 m 162 ls []) := by
              intro  H locs ls hh hl
              refine lv_aload_n hx hb d_J_load_162 rfl (lv_at hl 0 rfl) ?_
              refine jv_aload hx hb d_J_load_163 (lv_at hl 3 rfl) ?_
              refine jv_aload hx hb d_J_load_165 (lv_at hl 4 rfl) ?_
              refine lv_iload_n hx hb d_J_load_167 rfl (lv_at hl 2 rfl) ?_
              refine jx_callV [jv ad 78 (nI (js_free u 8 39 0)), jv ad 6 (url / 8), .int step] [] hc hh (hMF (jc_ldC (jc_freeDoc u o) (js_free u 8 39 0) url (jc_bx (jc_freeDoc u o) (url / 8) (jc_boxed u (u 7 (ix o))))) (js_free u 8 39 0) (url / 8) step (jc_Sh_ldC (jc_Sh_fdx hS (jc_Ow_ok hw))) js_f39 (by rw [(jc_ldC_fd _ rfl).1]; decide) (js_pg hu h35) (by rw [(jc_ldC_fd _ rfl).2]; exact jc_Ow_Gr hw (jc_ldC_Gr (jc_Gr_doc h0) h0)) (jc_Cp_Gr (jc_Cp_le hC (by omega) (by omega)) (jc_ldC_Gr (jc_Gr_doc h0) h0) (by omega))) wy_J_229 ⟨by decide, rfl, rfl⟩ ⟨rfl, rfl, by simp only [jr]; omega, by simp only [jr]; omega⟩ rfl hl.1 rfl (by decide) ⟨Nat.zero_le _, Nat.zero_le _⟩ d_J_load_168 (fun r u9 H locs hp hh _ _ => ?_)
              rw [hp.2] at hh
              refine W.eq (g2 := F0 m 171 ls []) rfl ?_
              refine jv_aload hx hb d_J_load_171 (lv_at hl 3 rfl) ?_
              exact jx_aret (r := (nI (js_free u 8 39 0))) hc hh hQ hlk hr (jv_or _ _ _) rfl ⟨rfl, by simp [jc_loadB, jc_ldU, h35, h94]⟩ d_J_load_173
            have e27 : (jc_ldC (jc_freeDoc u o) (js_free u 8 39 0) url (jc_bx (jc_freeDoc u o) (url / 8) (jc_boxed u (u 7 (ix o))))) = (js_up (js_up (jc_freeDoc u o) 11 (js_free u 8 39 0) (jc_bx (jc_freeDoc u o) (url / 8) (jc_boxed u (u 7 (ix o))))) 10 (js_free u 8 39 0) (url / 64)) := by first | (simp [jc_ldC, jc_opq, h145]; done) | (simp [jc_ldC, jc_opq, eq_true h145]; done)
            refine J162 _ _ _ ?_ ?_
            ·
              try rw [e27]
              exact hh
            try rw [e27]
            exact lv_sub hl [0, 1, 2, 3, 4] rfl
          refine lv_aload_n hx hb d_J_load_148 rfl (lv_at hl 0 rfl) ?_
          refine jx_callV [] [jv ad 78 (nI (js_free u 8 39 0))] hc hh (c_giveOpaqueOrigin l D aK ad cA (js_up (jc_freeDoc u o) 11 (js_free u 8 39 0) (jc_bx (jc_freeDoc u o) (url / 8) (jc_boxed u (u 7 (ix o)))))) wy_J_226 ⟨by decide, rfl, rfl⟩ ⟨rfl, rfl, by simp only [jr]; omega, by simp only [jr]; omega⟩ rfl hl.1 rfl (by simp [vc_int, vc_ref, vc_long, jv_cat]) ⟨Nat.zero_le _, Nat.zero_le _⟩ d_J_load_149 (fun r u9 H locs hp hh _ _ => ?_)
          rw [hp.2] at hh
          refine W.eq (g2 := F0 m 152 ls [.int (4 + (js_up (jc_freeDoc u o) 11 (js_free u 8 39 0) (jc_bx (jc_freeDoc u o) (url / 8) (jc_boxed u (u 7 (ix o))))) 24 0), jv ad 78 (nI (js_free u 8 39 0))]) (by rw [hp.1]; rfl) ?_
          refine lv_goto (tgt := 159) hx hb d_J_load_152 rfl ?_
          refine jp_10 hc hh js_f39 wf_J_168 d_J_load_159 (fun H locs hh => ?_)
          have J162 : ∀  (H : Heap) (locs : List Loc) (ls : Array Slot), jx_H D 158 ad (jc_cell ad aK cA (jc_ldC (jc_freeDoc u o) (js_free u 8 39 0) url (jc_bx (jc_freeDoc u o) (url / 8) (jc_boxed u (u 7 (ix o)))))) A s.heap H locs → lv_has ls 8 [(0, .ref (ad 0)), (2, .int url), (3, .int step), (6, jv ad 78 (nI (js_free u 8 39 0))), (7, jv ad 6 (url / 8))] → W p l e (jr (k + 1)) s m args below meth c H locs 0 0 Q (F0 m 162 ls []) := by
            intro  H locs ls hh hl
            refine lv_aload_n hx hb d_J_load_162 rfl (lv_at hl 0 rfl) ?_
            refine jv_aload hx hb d_J_load_163 (lv_at hl 3 rfl) ?_
            refine jv_aload hx hb d_J_load_165 (lv_at hl 4 rfl) ?_
            refine lv_iload_n hx hb d_J_load_167 rfl (lv_at hl 2 rfl) ?_
            refine jx_callV [jv ad 78 (nI (js_free u 8 39 0)), jv ad 6 (url / 8), .int step] [] hc hh (hMF (jc_ldC (jc_freeDoc u o) (js_free u 8 39 0) url (jc_bx (jc_freeDoc u o) (url / 8) (jc_boxed u (u 7 (ix o))))) (js_free u 8 39 0) (url / 8) step (jc_Sh_ldC (jc_Sh_fdx hS (jc_Ow_ok hw))) js_f39 (by rw [(jc_ldC_fd _ rfl).1]; decide) (js_pg hu h35) (by rw [(jc_ldC_fd _ rfl).2]; exact jc_Ow_Gr hw (jc_ldC_Gr (jc_Gr_doc h0) h0)) (jc_Cp_Gr (jc_Cp_le hC (by omega) (by omega)) (jc_ldC_Gr (jc_Gr_doc h0) h0) (by omega))) wy_J_229 ⟨by decide, rfl, rfl⟩ ⟨rfl, rfl, by simp only [jr]; omega, by simp only [jr]; omega⟩ rfl hl.1 rfl (by decide) ⟨Nat.zero_le _, Nat.zero_le _⟩ d_J_load_168 (fun r u9 H locs hp hh _ _ => ?_)
            rw [hp.2] at hh
            refine W.eq (g2 := F0 m 171 ls []) rfl ?_
            refine jv_aload hx hb d_J_load_171 (lv_at hl 3 rfl) ?_
            exact jx_aret (r := (nI (js_free u 8 39 0))) hc hh hQ hlk hr (jv_or _ _ _) rfl ⟨rfl, by simp [jc_loadB, jc_ldU, h35, h94]⟩ d_J_load_173
          have e28 : (jc_ldC (jc_freeDoc u o) (js_free u 8 39 0) url (jc_bx (jc_freeDoc u o) (url / 8) (jc_boxed u (u 7 (ix o))))) = (js_up (js_up (js_up (jc_freeDoc u o) 11 (js_free u 8 39 0) (jc_bx (jc_freeDoc u o) (url / 8) (jc_boxed u (u 7 (ix o))))) 24 0 ((js_up (jc_freeDoc u o) 11 (js_free u 8 39 0) (jc_bx (jc_freeDoc u o) (url / 8) (jc_boxed u (u 7 (ix o))))) 24 0 + 1)) 10 (js_free u 8 39 0) (4 + (js_up (jc_freeDoc u o) 11 (js_free u 8 39 0) (jc_bx (jc_freeDoc u o) (url / 8) (jc_boxed u (u 7 (ix o))))) 24 0)) := by simp [jc_ldC, jc_opq, h145]
          refine J162 _ _ _ ?_ ?_
          ·
            try rw [e28]
            exact hh
          try rw [e28]
          exact lv_sub hl [0, 1, 2, 3, 4] rfl
        have e29 : (jc_bx (jc_freeDoc u o) (url / 8) (jc_boxed u (u 7 (ix o)))) = 1 := by first | (simp [jc_bx, h35, h94, h122, h127]; done) | (simp [jc_bx, h35, eq_true h94, eq_true h122, h127]; done)
        refine W.eq (g2 := F0 m 135 ls [.int (jc_bx (jc_freeDoc u o) (url / 8) (jc_boxed u (u 7 (ix o)))), jv ad 78 (nI (js_free u 8 39 0))]) (by first | (rw [e29]; done) | (rw [e29]; rfl)) ?_
        refine J135 _ ?_
        exact lv_sub hl [3, 5, 6, 1, 0] rfl
      refine jv_aload hx hb d_J_load_97 (lv_at hl 1 rfl) ?_
      refine lv_iconst (v := 0) hx hb d_J_load_99 (by decide) ?_
      refine jp_11 hc hh js_f39 (by decide) wf_J_219 d_J_load_100 (fun H locs hh => ?_)
      refine jv_aload hx hb d_J_load_103 (lv_at hl 1 rfl) ?_
      refine lv_aload_n hx hb d_J_load_105 rfl (lv_at hl 3 rfl) ?_
      refine jx_callV [] [jv ad 78 (nI (js_free u 8 39 0))] hc hh (c_giveOpaqueOrigin l D aK ad cA (js_up (jc_freeDoc u o) 11 (js_free u 8 39 0) 0)) wy_J_226 ⟨by decide, rfl, rfl⟩ ⟨rfl, rfl, by simp only [jr]; omega, by simp only [jr]; omega⟩ rfl hl.1 rfl (by simp [vc_int, vc_ref, vc_long, jv_cat]) ⟨Nat.zero_le _, Nat.zero_le _⟩ d_J_load_106 (fun r u9 H locs hp hh _ _ => ?_)
      rw [hp.2] at hh
      refine W.eq (g2 := F0 m 109 ls [.int (4 + (js_up (jc_freeDoc u o) 11 (js_free u 8 39 0) 0) 24 0), jv ad 78 (nI (js_free u 8 39 0))]) (by rw [hp.1]; rfl) ?_
      refine jp_10 hc hh js_f39 wf_J_168 d_J_load_109 (fun H locs hh => ?_)
      refine jv_aload hx hb d_J_load_112 (lv_at hl 1 rfl) ?_
      exact jx_aret (r := (nI (js_free u 8 39 0))) hc hh hQ hlk hr (jv_or _ _ _) rfl ⟨rfl, by simp [jc_loadB, jc_ldU, jc_opq, h35, h94]⟩ d_J_load_114
    refine jv_aload hx hb d_J_load_38 (lv_at hl 0 rfl) ?_
    refine lv_iload hx hb d_J_load_40 (lv_at hl 1 rfl) ?_
    refine jp_11 hc hh js_f39 jc_boxed_z wf_J_219 d_J_load_42 (fun H locs hh => ?_)
    refine jv_aload hx hb d_J_load_45 (lv_at hl 0 rfl) ?_
    refine jv_aload hx hb d_J_load_47 (lv_at hl 6 rfl) ?_
    refine jv_ifnull (tgt := 57) hx hb d_J_load_49 rfl (fun h49 => ?_) (fun h49 => ?_)
    ·
      refine lv_aload_n hx hb d_J_load_57 rfl (lv_at hl 2 rfl) ?_
      refine jx_callV [] [jv ad 78 (nI (js_free u 8 39 0))] hc hh (c_giveOpaqueOrigin l D aK ad cA (js_up (jc_freeDoc u o) 11 (js_free u 8 39 0) (jc_boxed u (u 7 (ix o))))) wy_J_226 ⟨by decide, rfl, rfl⟩ ⟨rfl, rfl, by simp only [jr]; omega, by simp only [jr]; omega⟩ rfl hl.1 rfl (by simp [vc_int, vc_ref, vc_long, jv_cat]) ⟨Nat.zero_le _, Nat.zero_le _⟩ d_J_load_58 (fun r u9 H locs hp hh _ _ => ?_)
      rw [hp.2] at hh
      refine W.eq (g2 := F0 m 61 ls [.int (4 + (js_up (jc_freeDoc u o) 11 (js_free u 8 39 0) (jc_boxed u (u 7 (ix o)))) 24 0), jv ad 78 (nI (js_free u 8 39 0))]) (by rw [hp.1]; rfl) ?_
      refine lv_goto (tgt := 69) hx hb d_J_load_61 rfl ?_
      refine jp_10 hc hh js_f39 wf_J_168 d_J_load_69 (fun H locs hh => ?_)
      refine jv_aload hx hb d_J_load_72 (lv_at hl 0 rfl) ?_
      exact jx_aret (r := (nI (js_free u 8 39 0))) hc hh hQ hlk hr (jv_or _ _ _) rfl ⟨rfl, by simp [jc_loadB, jc_ldA, jc_opq, h35, h49]⟩ d_J_load_74
    refine lv_iload hx hb d_J_load_52 (lv_at hl 1 rfl) ?_
    refine lv_if_eq (tgt := 64) hx hb d_J_load_54 rfl (fun h54 => ?_) (fun h54 => ?_)
    ·
      refine jv_aload hx hb d_J_load_64 (lv_at hl 6 rfl) ?_
      refine jgx_D hc hh (jq_ne (jc_S7x hS (jc_Ow_ok hw)) h49) 2 (by decide) rfl wf_J_168 d_J_load_66 ?_
      refine jp_10 hc hh js_f39 wf_J_168 d_J_load_69 (fun H locs hh => ?_)
      refine jv_aload hx hb d_J_load_72 (lv_at hl 0 rfl) ?_
      exact jx_aret (r := (nI (js_free u 8 39 0))) hc hh hQ hlk hr (jv_or _ _ _) rfl ⟨rfl, by simp [jc_loadB, jc_ldA, jc_opq, h35, h49, h54]⟩ d_J_load_74
    refine lv_aload_n hx hb d_J_load_57 rfl (lv_at hl 2 rfl) ?_
    refine jx_callV [] [jv ad 78 (nI (js_free u 8 39 0))] hc hh (c_giveOpaqueOrigin l D aK ad cA (js_up (jc_freeDoc u o) 11 (js_free u 8 39 0) (jc_boxed u (u 7 (ix o))))) wy_J_226 ⟨by decide, rfl, rfl⟩ ⟨rfl, rfl, by simp only [jr]; omega, by simp only [jr]; omega⟩ rfl hl.1 rfl (by simp [vc_int, vc_ref, vc_long, jv_cat]) ⟨Nat.zero_le _, Nat.zero_le _⟩ d_J_load_58 (fun r u9 H locs hp hh _ _ => ?_)
    rw [hp.2] at hh
    refine W.eq (g2 := F0 m 61 ls [.int (4 + (js_up (jc_freeDoc u o) 11 (js_free u 8 39 0) (jc_boxed u (u 7 (ix o)))) 24 0), jv ad 78 (nI (js_free u 8 39 0))]) (by rw [hp.1]; rfl) ?_
    refine lv_goto (tgt := 69) hx hb d_J_load_61 rfl ?_
    refine jp_10 hc hh js_f39 wf_J_168 d_J_load_69 (fun H locs hh => ?_)
    refine jv_aload hx hb d_J_load_72 (lv_at hl 0 rfl) ?_
    exact jx_aret (r := (nI (js_free u 8 39 0))) hc hh hQ hlk hr (jv_or _ _ _) rfl ⟨rfl, by simp [jc_loadB, jc_ldA, jc_opq, h35, h49, h54]⟩ d_J_load_74
  have e30 : (jc_boxed u (u 7 (ix o))) = 1 := by simp [jc_boxed, h8, h16]
  refine W.eq (g2 := F0 m 24 ls [.int (jc_boxed u (u 7 (ix o)))]) (by first | (rw [e30]; done) | (rw [e30]; rfl)) ?_
  refine J24 _ ?_
  exact lv_sub hl [1, 2, 3, 4, 0] rfl
end
