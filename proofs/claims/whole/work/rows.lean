section
-- ===== PART A: goes FIRST, ahead of the names: the tables' words, and 'selects' of the private methods out of them =====
/-- a private method of a class that the tables say can be made, by its rows of tables_1 -/
def lw_okq (q : MethodName × Nat) : Prop := (q.1.cls ≠ "java/lang/invoke/MethodHandle" ∧ q.1.cls ≠ "java/lang/invoke/VarHandle") ∧ Cond.instantiable q.1.cls q.2 ∈ tables_1 ∧ Cond.privateMethod q.1 ∈ tables_1 ∧ Cond.instanceMethod q.1 ∈ tables_1
theorem lw_p0 : lw_okq (⟨"JointHistory", "load", "(LJointHistory$Navigable;II)LJointHistory$Document;"⟩, 9) := ⟨⟨by decide +kernel, by decide +kernel⟩, List.mem_of_getElem? (i := 10) (by decide +kernel), List.mem_of_getElem? (i := 120) (by decide +kernel), List.mem_of_getElem? (i := 121) (by decide +kernel)⟩
theorem lw_p1 : lw_okq (⟨"JointHistory", "freeDocument", "(LJointHistory$Navigable;)LJointHistory$Document;"⟩, 9) := ⟨⟨by decide +kernel, by decide +kernel⟩, List.mem_of_getElem? (i := 10) (by decide +kernel), List.mem_of_getElem? (i := 124) (by decide +kernel), List.mem_of_getElem? (i := 125) (by decide +kernel)⟩
theorem lw_p2 : lw_okq (⟨"JointHistory", "giveOpaqueOrigin", "()I"⟩, 9) := ⟨⟨by decide +kernel, by decide +kernel⟩, List.mem_of_getElem? (i := 10) (by decide +kernel), List.mem_of_getElem? (i := 128) (by decide +kernel), List.mem_of_getElem? (i := 129) (by decide +kernel)⟩
theorem lw_p3 : lw_okq (⟨"JointHistory", "makeFrames", "(LJointHistory$Document;LJointHistory$Answer;I)V"⟩, 9) := ⟨⟨by decide +kernel, by decide +kernel⟩, List.mem_of_getElem? (i := 10) (by decide +kernel), List.mem_of_getElem? (i := 139) (by decide +kernel), List.mem_of_getElem? (i := 140) (by decide +kernel)⟩
theorem lw_p4 : lw_okq (⟨"JointHistory", "makeFrame", "(LJointHistory$Document;II)LJointHistory$Navigable;"⟩, 9) := ⟨⟨by decide +kernel, by decide +kernel⟩, List.mem_of_getElem? (i := 10) (by decide +kernel), List.mem_of_getElem? (i := 143) (by decide +kernel), List.mem_of_getElem? (i := 144) (by decide +kernel)⟩
theorem lw_p5 : lw_okq (⟨"JointHistory", "freeNavigable", "()LJointHistory$Navigable;"⟩, 9) := ⟨⟨by decide +kernel, by decide +kernel⟩, List.mem_of_getElem? (i := 10) (by decide +kernel), List.mem_of_getElem? (i := 147) (by decide +kernel), List.mem_of_getElem? (i := 148) (by decide +kernel)⟩
theorem lw_p6 : lw_okq (⟨"JointHistory", "followDetours", "(I)I"⟩, 9) := ⟨⟨by decide +kernel, by decide +kernel⟩, List.mem_of_getElem? (i := 10) (by decide +kernel), List.mem_of_getElem? (i := 151) (by decide +kernel), List.mem_of_getElem? (i := 152) (by decide +kernel)⟩
theorem lw_p7 : lw_okq (⟨"JointHistory", "isDetour", "(I)Z"⟩, 9) := ⟨⟨by decide +kernel, by decide +kernel⟩, List.mem_of_getElem? (i := 10) (by decide +kernel), List.mem_of_getElem? (i := 155) (by decide +kernel), List.mem_of_getElem? (i := 156) (by decide +kernel)⟩
theorem lw_p8 : lw_okq (⟨"JointHistory", "addEntry", "(LJointHistory$Navigable;IIILJointHistory$Document;)V"⟩, 9) := ⟨⟨by decide +kernel, by decide +kernel⟩, List.mem_of_getElem? (i := 10) (by decide +kernel), List.mem_of_getElem? (i := 164) (by decide +kernel), List.mem_of_getElem? (i := 165) (by decide +kernel)⟩
theorem lw_p9 : lw_okq (⟨"JointHistory", "shownEntry", "(II)LJointHistory$Entry;"⟩, 9) := ⟨⟨by decide +kernel, by decide +kernel⟩, List.mem_of_getElem? (i := 10) (by decide +kernel), List.mem_of_getElem? (i := 226) (by decide +kernel), List.mem_of_getElem? (i := 227) (by decide +kernel)⟩
theorem lw_p10 : lw_okq (⟨"JointHistory", "entryAt", "(LJointHistory$Navigable;I)LJointHistory$Entry;"⟩, 9) := ⟨⟨by decide +kernel, by decide +kernel⟩, List.mem_of_getElem? (i := 10) (by decide +kernel), List.mem_of_getElem? (i := 230) (by decide +kernel), List.mem_of_getElem? (i := 231) (by decide +kernel)⟩
theorem lw_p11 : lw_okq (⟨"JointHistory", "isFull", "(Z)Z"⟩, 9) := ⟨⟨by decide +kernel, by decide +kernel⟩, List.mem_of_getElem? (i := 10) (by decide +kernel), List.mem_of_getElem? (i := 234) (by decide +kernel), List.mem_of_getElem? (i := 235) (by decide +kernel)⟩
theorem lw_p12 : lw_okq (⟨"JointHistory", "entriesUpTo", "(I)I"⟩, 9) := ⟨⟨by decide +kernel, by decide +kernel⟩, List.mem_of_getElem? (i := 10) (by decide +kernel), List.mem_of_getElem? (i := 239) (by decide +kernel), List.mem_of_getElem? (i := 240) (by decide +kernel)⟩
theorem lw_p13 : lw_okq (⟨"JointHistory", "dropLaterEntries", "()V"⟩, 9) := ⟨⟨by decide +kernel, by decide +kernel⟩, List.mem_of_getElem? (i := 10) (by decide +kernel), List.mem_of_getElem? (i := 243) (by decide +kernel), List.mem_of_getElem? (i := 244) (by decide +kernel)⟩
theorem lw_p14 : lw_okq (⟨"JointHistory", "dropWhatIsGone", "()V"⟩, 9) := ⟨⟨by decide +kernel, by decide +kernel⟩, List.mem_of_getElem? (i := 10) (by decide +kernel), List.mem_of_getElem? (i := 247) (by decide +kernel), List.mem_of_getElem? (i := 248) (by decide +kernel)⟩
theorem lw_p15 : lw_okq (⟨"JointHistory", "keepOnlyHeldDocuments", "()V"⟩, 9) := ⟨⟨by decide +kernel, by decide +kernel⟩, List.mem_of_getElem? (i := 10) (by decide +kernel), List.mem_of_getElem? (i := 251) (by decide +kernel), List.mem_of_getElem? (i := 252) (by decide +kernel)⟩
def lw_privs_1 : List (MethodName × Nat) := [(⟨"JointHistory", "load", "(LJointHistory$Navigable;II)LJointHistory$Document;"⟩, 9), (⟨"JointHistory", "freeDocument", "(LJointHistory$Navigable;)LJointHistory$Document;"⟩, 9), (⟨"JointHistory", "giveOpaqueOrigin", "()I"⟩, 9), (⟨"JointHistory", "makeFrames", "(LJointHistory$Document;LJointHistory$Answer;I)V"⟩, 9), (⟨"JointHistory", "makeFrame", "(LJointHistory$Document;II)LJointHistory$Navigable;"⟩, 9), (⟨"JointHistory", "freeNavigable", "()LJointHistory$Navigable;"⟩, 9), (⟨"JointHistory", "followDetours", "(I)I"⟩, 9), (⟨"JointHistory", "isDetour", "(I)Z"⟩, 9), (⟨"JointHistory", "addEntry", "(LJointHistory$Navigable;IIILJointHistory$Document;)V"⟩, 9), (⟨"JointHistory", "shownEntry", "(II)LJointHistory$Entry;"⟩, 9), (⟨"JointHistory", "entryAt", "(LJointHistory$Navigable;I)LJointHistory$Entry;"⟩, 9), (⟨"JointHistory", "isFull", "(Z)Z"⟩, 9), (⟨"JointHistory", "entriesUpTo", "(I)I"⟩, 9), (⟨"JointHistory", "dropLaterEntries", "()V"⟩, 9), (⟨"JointHistory", "dropWhatIsGone", "()V"⟩, 9), (⟨"JointHistory", "keepOnlyHeldDocuments", "()V"⟩, 9)]
theorem lw_r1 : ∀ q ∈ lw_privs_1, lw_okq q := List.forall_mem_cons.mpr ⟨lw_p0, List.forall_mem_cons.mpr ⟨lw_p1, List.forall_mem_cons.mpr ⟨lw_p2, List.forall_mem_cons.mpr ⟨lw_p3, List.forall_mem_cons.mpr ⟨lw_p4, List.forall_mem_cons.mpr ⟨lw_p5, List.forall_mem_cons.mpr ⟨lw_p6, List.forall_mem_cons.mpr ⟨lw_p7, List.forall_mem_cons.mpr ⟨lw_p8, List.forall_mem_cons.mpr ⟨lw_p9, List.forall_mem_cons.mpr ⟨lw_p10, List.forall_mem_cons.mpr ⟨lw_p11, List.forall_mem_cons.mpr ⟨lw_p12, List.forall_mem_cons.mpr ⟨lw_p13, List.forall_mem_cons.mpr ⟨lw_p14, List.forall_mem_cons.mpr ⟨lw_p15, fun _ h => absurd h List.not_mem_nil⟩⟩⟩⟩⟩⟩⟩⟩⟩⟩⟩⟩⟩⟩⟩⟩
theorem lw_p16 : lw_okq (⟨"JointHistory", "dropFramesOfGoneDocuments", "()V"⟩, 9) := ⟨⟨by decide +kernel, by decide +kernel⟩, List.mem_of_getElem? (i := 10) (by decide +kernel), List.mem_of_getElem? (i := 255) (by decide +kernel), List.mem_of_getElem? (i := 256) (by decide +kernel)⟩
theorem lw_p17 : lw_okq (⟨"JointHistory", "dropEntriesOfGoneNavigables", "()V"⟩, 9) := ⟨⟨by decide +kernel, by decide +kernel⟩, List.mem_of_getElem? (i := 10) (by decide +kernel), List.mem_of_getElem? (i := 259) (by decide +kernel), List.mem_of_getElem? (i := 260) (by decide +kernel)⟩
theorem lw_p18 : lw_okq (⟨"JointHistory", "putEntry", "(LJointHistory$Entry;IILJointHistory$Document;Z)V"⟩, 9) := ⟨⟨by decide +kernel, by decide +kernel⟩, List.mem_of_getElem? (i := 10) (by decide +kernel), List.mem_of_getElem? (i := 266) (by decide +kernel), List.mem_of_getElem? (i := 267) (by decide +kernel)⟩
theorem lw_p19 : lw_okq (⟨"JointHistory", "settlePresentStep", "()V"⟩, 9) := ⟨⟨by decide +kernel, by decide +kernel⟩, List.mem_of_getElem? (i := 10) (by decide +kernel), List.mem_of_getElem? (i := 270) (by decide +kernel), List.mem_of_getElem? (i := 271) (by decide +kernel)⟩
theorem lw_p20 : lw_okq (⟨"JointHistory", "collectUsedSteps", "()I"⟩, 9) := ⟨⟨by decide +kernel, by decide +kernel⟩, List.mem_of_getElem? (i := 10) (by decide +kernel), List.mem_of_getElem? (i := 285) (by decide +kernel), List.mem_of_getElem? (i := 286) (by decide +kernel)⟩
theorem lw_p21 : lw_okq (⟨"JointHistory", "insertStep", "(II)I"⟩, 9) := ⟨⟨by decide +kernel, by decide +kernel⟩, List.mem_of_getElem? (i := 10) (by decide +kernel), List.mem_of_getElem? (i := 289) (by decide +kernel), List.mem_of_getElem? (i := 290) (by decide +kernel)⟩
theorem lw_p22 : lw_okq (⟨"JointHistory", "placeOfPresent", "(I)I"⟩, 9) := ⟨⟨by decide +kernel, by decide +kernel⟩, List.mem_of_getElem? (i := 10) (by decide +kernel), List.mem_of_getElem? (i := 293) (by decide +kernel), List.mem_of_getElem? (i := 294) (by decide +kernel)⟩
theorem lw_p23 : lw_okq (⟨"JointHistory", "countMove", "(LJointHistory$Entry;LJointHistory$Entry;)V"⟩, 9) := ⟨⟨by decide +kernel, by decide +kernel⟩, List.mem_of_getElem? (i := 10) (by decide +kernel), List.mem_of_getElem? (i := 297) (by decide +kernel), List.mem_of_getElem? (i := 298) (by decide +kernel)⟩
theorem lw_p24 : lw_okq (⟨"JointHistory", "takeOut", "(LJointHistory$Navigable;)V"⟩, 9) := ⟨⟨by decide +kernel, by decide +kernel⟩, List.mem_of_getElem? (i := 10) (by decide +kernel), List.mem_of_getElem? (i := 305) (by decide +kernel), List.mem_of_getElem? (i := 306) (by decide +kernel)⟩
theorem lw_p25 : lw_okq (⟨"JointHistory", "shownNavigables", "()I"⟩, 9) := ⟨⟨by decide +kernel, by decide +kernel⟩, List.mem_of_getElem? (i := 10) (by decide +kernel), List.mem_of_getElem? (i := 349) (by decide +kernel), List.mem_of_getElem? (i := 350) (by decide +kernel)⟩
theorem lw_p26 : lw_okq (⟨"JointHistory", "allNavigables", "()I"⟩, 9) := ⟨⟨by decide +kernel, by decide +kernel⟩, List.mem_of_getElem? (i := 10) (by decide +kernel), List.mem_of_getElem? (i := 353) (by decide +kernel), List.mem_of_getElem? (i := 354) (by decide +kernel)⟩
theorem lw_p27 : lw_okq (⟨"JointHistoryModel", "make", "(II)I"⟩, 26) := ⟨⟨by decide +kernel, by decide +kernel⟩, List.mem_of_getElem? (i := 357) (by decide +kernel), List.mem_of_getElem? (i := 363) (by decide +kernel), List.mem_of_getElem? (i := 364) (by decide +kernel)⟩
theorem lw_p28 : lw_okq (⟨"JointHistoryModel", "freshOrigin", "()I"⟩, 26) := ⟨⟨by decide +kernel, by decide +kernel⟩, List.mem_of_getElem? (i := 357) (by decide +kernel), List.mem_of_getElem? (i := 367) (by decide +kernel), List.mem_of_getElem? (i := 368) (by decide +kernel)⟩
theorem lw_p29 : lw_okq (⟨"JointHistoryModel", "write", "(IIII)I"⟩, 26) := ⟨⟨by decide +kernel, by decide +kernel⟩, List.mem_of_getElem? (i := 357) (by decide +kernel), List.mem_of_getElem? (i := 371) (by decide +kernel), List.mem_of_getElem? (i := 372) (by decide +kernel)⟩
theorem lw_p30 : lw_okq (⟨"JointHistoryModel", "mark", "()V"⟩, 26) := ⟨⟨by decide +kernel, by decide +kernel⟩, List.mem_of_getElem? (i := 357) (by decide +kernel), List.mem_of_getElem? (i := 375) (by decide +kernel), List.mem_of_getElem? (i := 376) (by decide +kernel)⟩
theorem lw_p31 : lw_okq (⟨"JointHistoryModel", "keep", "(I)V"⟩, 26) := ⟨⟨by decide +kernel, by decide +kernel⟩, List.mem_of_getElem? (i := 357) (by decide +kernel), List.mem_of_getElem? (i := 379) (by decide +kernel), List.mem_of_getElem? (i := 380) (by decide +kernel)⟩
def lw_privs_2 : List (MethodName × Nat) := [(⟨"JointHistory", "dropFramesOfGoneDocuments", "()V"⟩, 9), (⟨"JointHistory", "dropEntriesOfGoneNavigables", "()V"⟩, 9), (⟨"JointHistory", "putEntry", "(LJointHistory$Entry;IILJointHistory$Document;Z)V"⟩, 9), (⟨"JointHistory", "settlePresentStep", "()V"⟩, 9), (⟨"JointHistory", "collectUsedSteps", "()I"⟩, 9), (⟨"JointHistory", "insertStep", "(II)I"⟩, 9), (⟨"JointHistory", "placeOfPresent", "(I)I"⟩, 9), (⟨"JointHistory", "countMove", "(LJointHistory$Entry;LJointHistory$Entry;)V"⟩, 9), (⟨"JointHistory", "takeOut", "(LJointHistory$Navigable;)V"⟩, 9), (⟨"JointHistory", "shownNavigables", "()I"⟩, 9), (⟨"JointHistory", "allNavigables", "()I"⟩, 9), (⟨"JointHistoryModel", "make", "(II)I"⟩, 26), (⟨"JointHistoryModel", "freshOrigin", "()I"⟩, 26), (⟨"JointHistoryModel", "write", "(IIII)I"⟩, 26), (⟨"JointHistoryModel", "mark", "()V"⟩, 26), (⟨"JointHistoryModel", "keep", "(I)V"⟩, 26)]
theorem lw_r2 : ∀ q ∈ lw_privs_2, lw_okq q := List.forall_mem_cons.mpr ⟨lw_p16, List.forall_mem_cons.mpr ⟨lw_p17, List.forall_mem_cons.mpr ⟨lw_p18, List.forall_mem_cons.mpr ⟨lw_p19, List.forall_mem_cons.mpr ⟨lw_p20, List.forall_mem_cons.mpr ⟨lw_p21, List.forall_mem_cons.mpr ⟨lw_p22, List.forall_mem_cons.mpr ⟨lw_p23, List.forall_mem_cons.mpr ⟨lw_p24, List.forall_mem_cons.mpr ⟨lw_p25, List.forall_mem_cons.mpr ⟨lw_p26, List.forall_mem_cons.mpr ⟨lw_p27, List.forall_mem_cons.mpr ⟨lw_p28, List.forall_mem_cons.mpr ⟨lw_p29, List.forall_mem_cons.mpr ⟨lw_p30, List.forall_mem_cons.mpr ⟨lw_p31, fun _ h => absurd h List.not_mem_nil⟩⟩⟩⟩⟩⟩⟩⟩⟩⟩⟩⟩⟩⟩⟩⟩
theorem lw_p32 : lw_okq (⟨"JointHistoryModel", "presentOf", "(I)I"⟩, 26) := ⟨⟨by decide +kernel, by decide +kernel⟩, List.mem_of_getElem? (i := 357) (by decide +kernel), List.mem_of_getElem? (i := 383) (by decide +kernel), List.mem_of_getElem? (i := 384) (by decide +kernel)⟩
theorem lw_p33 : lw_okq (⟨"JointHistoryModel", "show", "(I)V"⟩, 26) := ⟨⟨by decide +kernel, by decide +kernel⟩, List.mem_of_getElem? (i := 357) (by decide +kernel), List.mem_of_getElem? (i := 387) (by decide +kernel), List.mem_of_getElem? (i := 388) (by decide +kernel)⟩
theorem lw_p34 : lw_okq (⟨"JointHistoryModel", "isShown", "(I)Z"⟩, 26) := ⟨⟨by decide +kernel, by decide +kernel⟩, List.mem_of_getElem? (i := 357) (by decide +kernel), List.mem_of_getElem? (i := 490) (by decide +kernel), List.mem_of_getElem? (i := 491) (by decide +kernel)⟩
theorem lw_p35 : lw_okq (⟨"JointHistoryModel", "full", "(Z)Z"⟩, 26) := ⟨⟨by decide +kernel, by decide +kernel⟩, List.mem_of_getElem? (i := 357) (by decide +kernel), List.mem_of_getElem? (i := 494) (by decide +kernel), List.mem_of_getElem? (i := 495) (by decide +kernel)⟩
theorem lw_p36 : lw_okq (⟨"JointHistoryModel", "enter", "(IIIZI)V"⟩, 26) := ⟨⟨by decide +kernel, by decide +kernel⟩, List.mem_of_getElem? (i := 357) (by decide +kernel), List.mem_of_getElem? (i := 501) (by decide +kernel), List.mem_of_getElem? (i := 502) (by decide +kernel)⟩
theorem lw_p37 : lw_okq (⟨"JointHistoryModel", "cutOff", "()V"⟩, 26) := ⟨⟨by decide +kernel, by decide +kernel⟩, List.mem_of_getElem? (i := 357) (by decide +kernel), List.mem_of_getElem? (i := 505) (by decide +kernel), List.mem_of_getElem? (i := 506) (by decide +kernel)⟩
theorem lw_p38 : lw_okq (⟨"JointHistoryModel", "load", "(III)I"⟩, 26) := ⟨⟨by decide +kernel, by decide +kernel⟩, List.mem_of_getElem? (i := 357) (by decide +kernel), List.mem_of_getElem? (i := 509) (by decide +kernel), List.mem_of_getElem? (i := 510) (by decide +kernel)⟩
theorem lw_p39 : lw_okq (⟨"JointHistoryModel", "deep", "(I)I"⟩, 26) := ⟨⟨by decide +kernel, by decide +kernel⟩, List.mem_of_getElem? (i := 357) (by decide +kernel), List.mem_of_getElem? (i := 513) (by decide +kernel), List.mem_of_getElem? (i := 514) (by decide +kernel)⟩
theorem lw_p40 : lw_okq (⟨"JointHistoryModel", "loadWindow", "(II)I"⟩, 26) := ⟨⟨by decide +kernel, by decide +kernel⟩, List.mem_of_getElem? (i := 357) (by decide +kernel), List.mem_of_getElem? (i := 517) (by decide +kernel), List.mem_of_getElem? (i := 518) (by decide +kernel)⟩
theorem lw_p41 : lw_okq (⟨"JointHistoryModel", "wanted", "(III)I"⟩, 26) := ⟨⟨by decide +kernel, by decide +kernel⟩, List.mem_of_getElem? (i := 357) (by decide +kernel), List.mem_of_getElem? (i := 521) (by decide +kernel), List.mem_of_getElem? (i := 522) (by decide +kernel)⟩
theorem lw_p42 : lw_okq (⟨"JointHistoryModel", "frameFor", "(III)I"⟩, 26) := ⟨⟨by decide +kernel, by decide +kernel⟩, List.mem_of_getElem? (i := 357) (by decide +kernel), List.mem_of_getElem? (i := 525) (by decide +kernel), List.mem_of_getElem? (i := 526) (by decide +kernel)⟩
theorem lw_p43 : lw_okq (⟨"JointHistoryModel", "paperOf", "(I)I"⟩, 26) := ⟨⟨by decide +kernel, by decide +kernel⟩, List.mem_of_getElem? (i := 357) (by decide +kernel), List.mem_of_getElem? (i := 529) (by decide +kernel), List.mem_of_getElem? (i := 530) (by decide +kernel)⟩
theorem lw_p44 : lw_okq (⟨"JointHistoryModel", "loadMiddle", "(III)I"⟩, 26) := ⟨⟨by decide +kernel, by decide +kernel⟩, List.mem_of_getElem? (i := 357) (by decide +kernel), List.mem_of_getElem? (i := 533) (by decide +kernel), List.mem_of_getElem? (i := 534) (by decide +kernel)⟩
theorem lw_p45 : lw_okq (⟨"JointHistoryModel", "settle", "()V"⟩, 26) := ⟨⟨by decide +kernel, by decide +kernel⟩, List.mem_of_getElem? (i := 357) (by decide +kernel), List.mem_of_getElem? (i := 537) (by decide +kernel), List.mem_of_getElem? (i := 538) (by decide +kernel)⟩
theorem lw_p46 : lw_okq (⟨"JointHistoryModel", "used", "(I)Z"⟩, 26) := ⟨⟨by decide +kernel, by decide +kernel⟩, List.mem_of_getElem? (i := 357) (by decide +kernel), List.mem_of_getElem? (i := 541) (by decide +kernel), List.mem_of_getElem? (i := 542) (by decide +kernel)⟩
theorem lw_p47 : lw_okq (⟨"JointHistoryModel", "stepAt", "(J)I"⟩, 26) := ⟨⟨by decide +kernel, by decide +kernel⟩, List.mem_of_getElem? (i := 357) (by decide +kernel), List.mem_of_getElem? (i := 553) (by decide +kernel), List.mem_of_getElem? (i := 554) (by decide +kernel)⟩
def lw_privs_3 : List (MethodName × Nat) := [(⟨"JointHistoryModel", "presentOf", "(I)I"⟩, 26), (⟨"JointHistoryModel", "show", "(I)V"⟩, 26), (⟨"JointHistoryModel", "isShown", "(I)Z"⟩, 26), (⟨"JointHistoryModel", "full", "(Z)Z"⟩, 26), (⟨"JointHistoryModel", "enter", "(IIIZI)V"⟩, 26), (⟨"JointHistoryModel", "cutOff", "()V"⟩, 26), (⟨"JointHistoryModel", "load", "(III)I"⟩, 26), (⟨"JointHistoryModel", "deep", "(I)I"⟩, 26), (⟨"JointHistoryModel", "loadWindow", "(II)I"⟩, 26), (⟨"JointHistoryModel", "wanted", "(III)I"⟩, 26), (⟨"JointHistoryModel", "frameFor", "(III)I"⟩, 26), (⟨"JointHistoryModel", "paperOf", "(I)I"⟩, 26), (⟨"JointHistoryModel", "loadMiddle", "(III)I"⟩, 26), (⟨"JointHistoryModel", "settle", "()V"⟩, 26), (⟨"JointHistoryModel", "used", "(I)Z"⟩, 26), (⟨"JointHistoryModel", "stepAt", "(J)I"⟩, 26)]
theorem lw_r3 : ∀ q ∈ lw_privs_3, lw_okq q := List.forall_mem_cons.mpr ⟨lw_p32, List.forall_mem_cons.mpr ⟨lw_p33, List.forall_mem_cons.mpr ⟨lw_p34, List.forall_mem_cons.mpr ⟨lw_p35, List.forall_mem_cons.mpr ⟨lw_p36, List.forall_mem_cons.mpr ⟨lw_p37, List.forall_mem_cons.mpr ⟨lw_p38, List.forall_mem_cons.mpr ⟨lw_p39, List.forall_mem_cons.mpr ⟨lw_p40, List.forall_mem_cons.mpr ⟨lw_p41, List.forall_mem_cons.mpr ⟨lw_p42, List.forall_mem_cons.mpr ⟨lw_p43, List.forall_mem_cons.mpr ⟨lw_p44, List.forall_mem_cons.mpr ⟨lw_p45, List.forall_mem_cons.mpr ⟨lw_p46, List.forall_mem_cons.mpr ⟨lw_p47, fun _ h => absurd h List.not_mem_nil⟩⟩⟩⟩⟩⟩⟩⟩⟩⟩⟩⟩⟩⟩⟩⟩
def lw_privs : List (MethodName × Nat) := lw_privs_1 ++ (lw_privs_2 ++ (lw_privs_3))
def lw_tbl : List Cond := k2_sels lw_privs ++ tables_1
theorem lw_privs_ok : ∀ q ∈ lw_privs, lw_okq q := by
  show ∀ q ∈ lw_privs_1 ++ (lw_privs_2 ++ (lw_privs_3)), lw_okq q
  exact List.forall_mem_append.mpr ⟨lw_r1, List.forall_mem_append.mpr ⟨lw_r2, lw_r3⟩⟩
end
section
/-! Names: classes, fields, methods; the words that all contracts rest on: those of the tables that a call keeps. -/
def jw_all : List Cond := lw_tbl.filter goodWord
theorem jw_good : ∀ w ∈ jw_all, (w.onTables && w.keeps) = true ∨ ∃ ty, w = .arrayClass ty := fun w h => good_of_word (List.mem_filter.mp h).2
theorem jw_tb {w : Cond} {i : Nat} (h : tables_1[i]? = some w) (hg : goodWord w = true) : w ∈ jw_all := List.mem_filter.mpr ⟨List.mem_append_right _ (List.mem_of_getElem? h), hg⟩
theorem jw_pv {q : MethodName × Nat} {i : Nat} (h : lw_privs[i]? = some q) : Cond.selects q.1.cls q.1 q.1 ∈ jw_all := List.mem_filter.mpr ⟨List.mem_append_left _ (List.mem_map.mpr ⟨q, List.mem_of_getElem? h, rfl⟩), rfl⟩
def R_J : String := "JointHistory"
def F_J : u_T := fun k => match k with
  | 0 => ("JointHistory", "answers", "[LJointHistory$Answer;", true)
  | 1 => ("JointHistory", "navigables", "[LJointHistory$Navigable;", true)
  | 2 => ("JointHistory", "documents", "[LJointHistory$Document;", true)
  | 3 => ("JointHistory", "rows", "[LJointHistory$Entry;", true)
  | 4 => ("JointHistory", "usedSteps", "[I", true)
  | 5 => ("JointHistory", "presentStep", "I", false)
  | 6 => ("JointHistory", "pops", "I", false)
  | 7 => ("JointHistory", "hashes", "I", false)
  | _ => ("JointHistory", "opaques", "I", false)
def t_J : Nat → FieldType := fun k => match k with
  | 0 => .array (.object "JointHistory$Answer")
  | 1 => .array (.object "JointHistory$Navigable")
  | 2 => .array (.object "JointHistory$Document")
  | 3 => .array (.object "JointHistory$Entry")
  | 4 => .array (.int)
  | 5 => .int
  | 6 => .int
  | 7 => .int
  | _ => .int
theorem n_J : ∀ a, a < 9 → ∀ b, b < 9 → a ≠ b → (F_J a).2.1 ≠ (F_J b).2.1 := by decide +kernel
theorem t_J_ok : ∀ k, k < 9 → parseFieldDescriptor (F_J k).2.2.1 = some (t_J k) := by decide +kernel
set_option maxRecDepth 20000 in
theorem jn_J0 : u_lay R_J F_J 0 ∈ jw_all := jw_tb (i := 176) rfl rfl
set_option maxRecDepth 20000 in
theorem jn_J1 : u_lay R_J F_J 1 ∈ jw_all := jw_tb (i := 178) rfl rfl
set_option maxRecDepth 20000 in
theorem jn_J2 : u_lay R_J F_J 2 ∈ jw_all := jw_tb (i := 180) rfl rfl
set_option maxRecDepth 20000 in
theorem jn_J3 : u_lay R_J F_J 3 ∈ jw_all := jw_tb (i := 182) rfl rfl
set_option maxRecDepth 20000 in
theorem jn_J4 : u_lay R_J F_J 4 ∈ jw_all := jw_tb (i := 184) rfl rfl
set_option maxRecDepth 20000 in
theorem jn_J5 : u_lay R_J F_J 5 ∈ jw_all := jw_tb (i := 186) rfl rfl
set_option maxRecDepth 20000 in
theorem jn_J6 : u_lay R_J F_J 6 ∈ jw_all := jw_tb (i := 188) rfl rfl
set_option maxRecDepth 20000 in
theorem jn_J7 : u_lay R_J F_J 7 ∈ jw_all := jw_tb (i := 190) rfl rfl
set_option maxRecDepth 20000 in
theorem jn_J8 : u_lay R_J F_J 8 ∈ jw_all := jw_tb (i := 192) rfl rfl
theorem jn_J : ∀ w ∈ u_ws R_J F_J 9, w ∈ jw_all := by
  intro w hw
  obtain ⟨k, hk, rfl⟩ := List.mem_map.mp hw
  have hk := List.mem_range.mp hk
  match k, hk with
  | 0, _ => exact jn_J0
  | 1, _ => exact jn_J1
  | 2, _ => exact jn_J2
  | 3, _ => exact jn_J3
  | 4, _ => exact jn_J4
  | 5, _ => exact jn_J5
  | 6, _ => exact jn_J6
  | 7, _ => exact jn_J7
  | 8, _ => exact jn_J8
  | k + 9, h => omega
def R_A : String := "JointHistory$Answer"
def F_A : u_T := fun k => match k with
  | 0 => ("JointHistory$Answer", "kind", "LJointHistory$Kind;", false)
  | 1 => ("JointHistory$Answer", "first", "I", false)
  | 2 => ("JointHistory$Answer", "second", "I", false)
  | 3 => ("JointHistory$Answer", "strict", "Z", false)
  | _ => ("JointHistory$Answer", "target", "I", false)
def t_A : Nat → FieldType := fun k => match k with
  | 0 => .object "JointHistory$Kind"
  | 1 => .int
  | 2 => .int
  | 3 => .boolean
  | _ => .int
theorem n_A : ∀ a, a < 5 → ∀ b, b < 5 → a ≠ b → (F_A a).2.1 ≠ (F_A b).2.1 := by decide +kernel
theorem t_A_ok : ∀ k, k < 5 → parseFieldDescriptor (F_A k).2.2.1 = some (t_A k) := by decide +kernel
set_option maxRecDepth 20000 in
theorem jn_A0 : u_lay R_A F_A 0 ∈ jw_all := jw_tb (i := 40) rfl rfl
set_option maxRecDepth 20000 in
theorem jn_A1 : u_lay R_A F_A 1 ∈ jw_all := jw_tb (i := 42) rfl rfl
set_option maxRecDepth 20000 in
theorem jn_A2 : u_lay R_A F_A 2 ∈ jw_all := jw_tb (i := 44) rfl rfl
set_option maxRecDepth 20000 in
theorem jn_A3 : u_lay R_A F_A 3 ∈ jw_all := jw_tb (i := 46) rfl rfl
set_option maxRecDepth 20000 in
theorem jn_A4 : u_lay R_A F_A 4 ∈ jw_all := jw_tb (i := 48) rfl rfl
theorem jn_A : ∀ w ∈ u_ws R_A F_A 5, w ∈ jw_all := by
  intro w hw
  obtain ⟨k, hk, rfl⟩ := List.mem_map.mp hw
  have hk := List.mem_range.mp hk
  match k, hk with
  | 0, _ => exact jn_A0
  | 1, _ => exact jn_A1
  | 2, _ => exact jn_A2
  | 3, _ => exact jn_A3
  | 4, _ => exact jn_A4
  | k + 5, h => omega
def R_N : String := "JointHistory$Navigable"
def F_N : u_T := fun k => match k with
  | 0 => ("JointHistory$Navigable", "number", "I", true)
  | 1 => ("JointHistory$Navigable", "there", "Z", false)
  | 2 => ("JointHistory$Navigable", "level", "I", false)
  | _ => ("JointHistory$Navigable", "above", "LJointHistory$Document;", false)
def t_N : Nat → FieldType := fun k => match k with
  | 0 => .int
  | 1 => .boolean
  | 2 => .int
  | _ => .object "JointHistory$Document"
theorem n_N : ∀ a, a < 4 → ∀ b, b < 4 → a ≠ b → (F_N a).2.1 ≠ (F_N b).2.1 := by decide +kernel
theorem t_N_ok : ∀ k, k < 4 → parseFieldDescriptor (F_N k).2.2.1 = some (t_N k) := by decide +kernel
set_option maxRecDepth 20000 in
theorem jn_N0 : u_lay R_N F_N 0 ∈ jw_all := jw_tb (i := 62) rfl rfl
set_option maxRecDepth 20000 in
theorem jn_N1 : u_lay R_N F_N 1 ∈ jw_all := jw_tb (i := 64) rfl rfl
set_option maxRecDepth 20000 in
theorem jn_N2 : u_lay R_N F_N 2 ∈ jw_all := jw_tb (i := 66) rfl rfl
set_option maxRecDepth 20000 in
theorem jn_N3 : u_lay R_N F_N 3 ∈ jw_all := jw_tb (i := 68) rfl rfl
theorem jn_N : ∀ w ∈ u_ws R_N F_N 4, w ∈ jw_all := by
  intro w hw
  obtain ⟨k, hk, rfl⟩ := List.mem_map.mp hw
  have hk := List.mem_range.mp hk
  match k, hk with
  | 0, _ => exact jn_N0
  | 1, _ => exact jn_N1
  | 2, _ => exact jn_N2
  | 3, _ => exact jn_N3
  | k + 4, h => omega
def R_D : String := "JointHistory$Document"
def F_D : u_T := fun k => match k with
  | 0 => ("JointHistory$Document", "there", "Z", false)
  | 1 => ("JointHistory$Document", "owner", "LJointHistory$Navigable;", false)
  | 2 => ("JointHistory$Document", "origin", "I", false)
  | 3 => ("JointHistory$Document", "sandboxed", "Z", false)
  | 4 => ("JointHistory$Document", "first", "LJointHistory$Navigable;", false)
  | _ => ("JointHistory$Document", "second", "LJointHistory$Navigable;", false)
def t_D : Nat → FieldType := fun k => match k with
  | 0 => .boolean
  | 1 => .object "JointHistory$Navigable"
  | 2 => .int
  | 3 => .boolean
  | 4 => .object "JointHistory$Navigable"
  | _ => .object "JointHistory$Navigable"
theorem n_D : ∀ a, a < 6 → ∀ b, b < 6 → a ≠ b → (F_D a).2.1 ≠ (F_D b).2.1 := by decide +kernel
theorem t_D_ok : ∀ k, k < 6 → parseFieldDescriptor (F_D k).2.2.1 = some (t_D k) := by decide +kernel
set_option maxRecDepth 20000 in
theorem jn_D0 : u_lay R_D F_D 0 ∈ jw_all := jw_tb (i := 82) rfl rfl
set_option maxRecDepth 20000 in
theorem jn_D1 : u_lay R_D F_D 1 ∈ jw_all := jw_tb (i := 84) rfl rfl
set_option maxRecDepth 20000 in
theorem jn_D2 : u_lay R_D F_D 2 ∈ jw_all := jw_tb (i := 86) rfl rfl
set_option maxRecDepth 20000 in
theorem jn_D3 : u_lay R_D F_D 3 ∈ jw_all := jw_tb (i := 88) rfl rfl
set_option maxRecDepth 20000 in
theorem jn_D4 : u_lay R_D F_D 4 ∈ jw_all := jw_tb (i := 90) rfl rfl
set_option maxRecDepth 20000 in
theorem jn_D5 : u_lay R_D F_D 5 ∈ jw_all := jw_tb (i := 92) rfl rfl
theorem jn_D : ∀ w ∈ u_ws R_D F_D 6, w ∈ jw_all := by
  intro w hw
  obtain ⟨k, hk, rfl⟩ := List.mem_map.mp hw
  have hk := List.mem_range.mp hk
  match k, hk with
  | 0, _ => exact jn_D0
  | 1, _ => exact jn_D1
  | 2, _ => exact jn_D2
  | 3, _ => exact jn_D3
  | 4, _ => exact jn_D4
  | 5, _ => exact jn_D5
  | k + 6, h => omega
def R_E : String := "JointHistory$Entry"
def F_E : u_T := fun k => match k with
  | 0 => ("JointHistory$Entry", "there", "Z", false)
  | 1 => ("JointHistory$Entry", "owner", "LJointHistory$Navigable;", false)
  | 2 => ("JointHistory$Entry", "step", "I", false)
  | 3 => ("JointHistory$Entry", "url", "I", false)
  | 4 => ("JointHistory$Entry", "state", "I", false)
  | _ => ("JointHistory$Entry", "document", "LJointHistory$Document;", false)
def t_E : Nat → FieldType := fun k => match k with
  | 0 => .boolean
  | 1 => .object "JointHistory$Navigable"
  | 2 => .int
  | 3 => .int
  | 4 => .int
  | _ => .object "JointHistory$Document"
theorem n_E : ∀ a, a < 6 → ∀ b, b < 6 → a ≠ b → (F_E a).2.1 ≠ (F_E b).2.1 := by decide +kernel
theorem t_E_ok : ∀ k, k < 6 → parseFieldDescriptor (F_E k).2.2.1 = some (t_E k) := by decide +kernel
set_option maxRecDepth 20000 in
theorem jn_E0 : u_lay R_E F_E 0 ∈ jw_all := jw_tb (i := 106) rfl rfl
set_option maxRecDepth 20000 in
theorem jn_E1 : u_lay R_E F_E 1 ∈ jw_all := jw_tb (i := 108) rfl rfl
set_option maxRecDepth 20000 in
theorem jn_E2 : u_lay R_E F_E 2 ∈ jw_all := jw_tb (i := 110) rfl rfl
set_option maxRecDepth 20000 in
theorem jn_E3 : u_lay R_E F_E 3 ∈ jw_all := jw_tb (i := 112) rfl rfl
set_option maxRecDepth 20000 in
theorem jn_E4 : u_lay R_E F_E 4 ∈ jw_all := jw_tb (i := 114) rfl rfl
set_option maxRecDepth 20000 in
theorem jn_E5 : u_lay R_E F_E 5 ∈ jw_all := jw_tb (i := 116) rfl rfl
theorem jn_E : ∀ w ∈ u_ws R_E F_E 6, w ∈ jw_all := by
  intro w hw
  obtain ⟨k, hk, rfl⟩ := List.mem_map.mp hw
  have hk := List.mem_range.mp hk
  match k, hk with
  | 0, _ => exact jn_E0
  | 1, _ => exact jn_E1
  | 2, _ => exact jn_E2
  | 3, _ => exact jn_E3
  | 4, _ => exact jn_E4
  | 5, _ => exact jn_E5
  | k + 6, h => omega
def R_M : String := "JointHistoryModel"
def F_M : u_T := fun k => match k with
  | 0 => ("JointHistoryModel", "answer", "[I", true)
  | 1 => ("JointHistoryModel", "firstOf", "[I", true)
  | 2 => ("JointHistoryModel", "secondOf", "[I", true)
  | 3 => ("JointHistoryModel", "strictOf", "[Z", true)
  | 4 => ("JointHistoryModel", "owner", "[I", true)
  | 5 => ("JointHistoryModel", "stepOf", "[I", true)
  | 6 => ("JointHistoryModel", "urlOf", "[I", true)
  | 7 => ("JointHistoryModel", "stateOf", "[I", true)
  | 8 => ("JointHistoryModel", "paper", "[I", true)
  | 9 => ("JointHistoryModel", "entry", "[Z", true)
  | 10 => ("JointHistoryModel", "there", "[Z", true)
  | 11 => ("JointHistoryModel", "originOf", "[I", true)
  | 12 => ("JointHistoryModel", "sandboxed", "[Z", true)
  | 13 => ("JointHistoryModel", "left", "[I", true)
  | 14 => ("JointHistoryModel", "right", "[I", true)
  | 15 => ("JointHistoryModel", "exists", "[Z", true)
  | 16 => ("JointHistoryModel", "above", "[I", true)
  | 17 => ("JointHistoryModel", "shown", "[Z", true)
  | 18 => ("JointHistoryModel", "then", "[I", true)
  | 19 => ("JointHistoryModel", "keepPaper", "[Z", true)
  | 20 => ("JointHistoryModel", "keepNav", "[Z", true)
  | 21 => ("JointHistoryModel", "now", "I", false)
  | 22 => ("JointHistoryModel", "opaque", "I", false)
  | 23 => ("JointHistoryModel", "pops", "I", false)
  | 24 => ("JointHistoryModel", "hashes", "I", false)
  | _ => ("JointHistoryModel", "landed", "I", false)
def t_M : Nat → FieldType := fun k => match k with
  | 0 => .array (.int)
  | 1 => .array (.int)
  | 2 => .array (.int)
  | 3 => .array (.boolean)
  | 4 => .array (.int)
  | 5 => .array (.int)
  | 6 => .array (.int)
  | 7 => .array (.int)
  | 8 => .array (.int)
  | 9 => .array (.boolean)
  | 10 => .array (.boolean)
  | 11 => .array (.int)
  | 12 => .array (.boolean)
  | 13 => .array (.int)
  | 14 => .array (.int)
  | 15 => .array (.boolean)
  | 16 => .array (.int)
  | 17 => .array (.boolean)
  | 18 => .array (.int)
  | 19 => .array (.boolean)
  | 20 => .array (.boolean)
  | 21 => .int
  | 22 => .int
  | 23 => .int
  | 24 => .int
  | _ => .int
theorem n_M : ∀ a, a < 26 → ∀ b, b < 26 → a ≠ b → (F_M a).2.1 ≠ (F_M b).2.1 := by decide +kernel
theorem t_M_ok : ∀ k, k < 26 → parseFieldDescriptor (F_M k).2.2.1 = some (t_M k) := by decide +kernel
set_option maxRecDepth 20000 in
theorem jn_M0 : u_lay R_M F_M 0 ∈ jw_all := jw_tb (i := 416) rfl rfl
set_option maxRecDepth 20000 in
theorem jn_M1 : u_lay R_M F_M 1 ∈ jw_all := jw_tb (i := 418) rfl rfl
set_option maxRecDepth 20000 in
theorem jn_M2 : u_lay R_M F_M 2 ∈ jw_all := jw_tb (i := 420) rfl rfl
set_option maxRecDepth 20000 in
theorem jn_M3 : u_lay R_M F_M 3 ∈ jw_all := jw_tb (i := 422) rfl rfl
set_option maxRecDepth 20000 in
theorem jn_M4 : u_lay R_M F_M 4 ∈ jw_all := jw_tb (i := 424) rfl rfl
set_option maxRecDepth 20000 in
theorem jn_M5 : u_lay R_M F_M 5 ∈ jw_all := jw_tb (i := 426) rfl rfl
set_option maxRecDepth 20000 in
theorem jn_M6 : u_lay R_M F_M 6 ∈ jw_all := jw_tb (i := 428) rfl rfl
set_option maxRecDepth 20000 in
theorem jn_M7 : u_lay R_M F_M 7 ∈ jw_all := jw_tb (i := 430) rfl rfl
set_option maxRecDepth 20000 in
theorem jn_M8 : u_lay R_M F_M 8 ∈ jw_all := jw_tb (i := 432) rfl rfl
set_option maxRecDepth 20000 in
theorem jn_M9 : u_lay R_M F_M 9 ∈ jw_all := jw_tb (i := 434) rfl rfl
set_option maxRecDepth 20000 in
theorem jn_M10 : u_lay R_M F_M 10 ∈ jw_all := jw_tb (i := 436) rfl rfl
set_option maxRecDepth 20000 in
theorem jn_M11 : u_lay R_M F_M 11 ∈ jw_all := jw_tb (i := 438) rfl rfl
set_option maxRecDepth 20000 in
theorem jn_M12 : u_lay R_M F_M 12 ∈ jw_all := jw_tb (i := 440) rfl rfl
set_option maxRecDepth 20000 in
theorem jn_M13 : u_lay R_M F_M 13 ∈ jw_all := jw_tb (i := 442) rfl rfl
set_option maxRecDepth 20000 in
theorem jn_M14 : u_lay R_M F_M 14 ∈ jw_all := jw_tb (i := 444) rfl rfl
set_option maxRecDepth 20000 in
theorem jn_M15 : u_lay R_M F_M 15 ∈ jw_all := jw_tb (i := 446) rfl rfl
set_option maxRecDepth 20000 in
theorem jn_M16 : u_lay R_M F_M 16 ∈ jw_all := jw_tb (i := 448) rfl rfl
set_option maxRecDepth 20000 in
theorem jn_M17 : u_lay R_M F_M 17 ∈ jw_all := jw_tb (i := 450) rfl rfl
set_option maxRecDepth 20000 in
theorem jn_M18 : u_lay R_M F_M 18 ∈ jw_all := jw_tb (i := 452) rfl rfl
set_option maxRecDepth 20000 in
theorem jn_M19 : u_lay R_M F_M 19 ∈ jw_all := jw_tb (i := 454) rfl rfl
set_option maxRecDepth 20000 in
theorem jn_M20 : u_lay R_M F_M 20 ∈ jw_all := jw_tb (i := 456) rfl rfl
set_option maxRecDepth 20000 in
theorem jn_M21 : u_lay R_M F_M 21 ∈ jw_all := jw_tb (i := 458) rfl rfl
set_option maxRecDepth 20000 in
theorem jn_M22 : u_lay R_M F_M 22 ∈ jw_all := jw_tb (i := 460) rfl rfl
set_option maxRecDepth 20000 in
theorem jn_M23 : u_lay R_M F_M 23 ∈ jw_all := jw_tb (i := 462) rfl rfl
set_option maxRecDepth 20000 in
theorem jn_M24 : u_lay R_M F_M 24 ∈ jw_all := jw_tb (i := 464) rfl rfl
set_option maxRecDepth 20000 in
theorem jn_M25 : u_lay R_M F_M 25 ∈ jw_all := jw_tb (i := 466) rfl rfl
theorem jn_M : ∀ w ∈ u_ws R_M F_M 26, w ∈ jw_all := by
  intro w hw
  obtain ⟨k, hk, rfl⟩ := List.mem_map.mp hw
  have hk := List.mem_range.mp hk
  match k, hk with
  | 0, _ => exact jn_M0
  | 1, _ => exact jn_M1
  | 2, _ => exact jn_M2
  | 3, _ => exact jn_M3
  | 4, _ => exact jn_M4
  | 5, _ => exact jn_M5
  | 6, _ => exact jn_M6
  | 7, _ => exact jn_M7
  | 8, _ => exact jn_M8
  | 9, _ => exact jn_M9
  | 10, _ => exact jn_M10
  | 11, _ => exact jn_M11
  | 12, _ => exact jn_M12
  | 13, _ => exact jn_M13
  | 14, _ => exact jn_M14
  | 15, _ => exact jn_M15
  | 16, _ => exact jn_M16
  | 17, _ => exact jn_M17
  | 18, _ => exact jn_M18
  | 19, _ => exact jn_M19
  | 20, _ => exact jn_M20
  | 21, _ => exact jn_M21
  | 22, _ => exact jn_M22
  | 23, _ => exact jn_M23
  | 24, _ => exact jn_M24
  | 25, _ => exact jn_M25
  | k + 26, h => omega
abbrev classes : List vw_C := [(R_J, F_J, 9), (R_A, F_A, 5), (R_N, F_N, 4), (R_D, F_D, 6), (R_E, F_E, 6), (R_M, F_M, 26)]
abbrev b_J_init : ByteArray := prog_1_method_1_code
def y_J_init : MethodName := ⟨"JointHistory", "<init>", "()V"⟩
abbrev b_A_init : ByteArray := prog_2_method_1_code
def y_A_init : MethodName := ⟨"JointHistory$Answer", "<init>", "()V"⟩
abbrev b_N_init : ByteArray := prog_6_method_1_code
def y_N_init : MethodName := ⟨"JointHistory$Navigable", "<init>", "(I)V"⟩
abbrev b_D_init : ByteArray := prog_3_method_1_code
def y_D_init : MethodName := ⟨"JointHistory$Document", "<init>", "()V"⟩
abbrev b_E_init : ByteArray := prog_4_method_1_code
def y_E_init : MethodName := ⟨"JointHistory$Entry", "<init>", "()V"⟩
abbrev b_J_load : ByteArray := prog_1_method_36_code
def y_J_load : MethodName := ⟨"JointHistory", "load", "(LJointHistory$Navigable;II)LJointHistory$Document;"⟩
abbrev b_J_freeDocument : ByteArray := prog_1_method_41_code
def y_J_freeDocument : MethodName := ⟨"JointHistory", "freeDocument", "(LJointHistory$Navigable;)LJointHistory$Document;"⟩
abbrev b_J_giveOpaqueOrigin : ByteArray := prog_1_method_37_code
def y_J_giveOpaqueOrigin : MethodName := ⟨"JointHistory", "giveOpaqueOrigin", "()I"⟩
abbrev b_J_pageOf : ByteArray := prog_1_method_23_code
def y_J_pageOf : MethodName := ⟨"JointHistory", "pageOf", "(I)I"⟩
abbrev b_J_hostOf : ByteArray := prog_1_method_22_code
def y_J_hostOf : MethodName := ⟨"JointHistory", "hostOf", "(I)I"⟩
abbrev b_J_makeFrames : ByteArray := prog_1_method_38_code
def y_J_makeFrames : MethodName := ⟨"JointHistory", "makeFrames", "(LJointHistory$Document;LJointHistory$Answer;I)V"⟩
abbrev b_J_makeFrame : ByteArray := prog_1_method_39_code
def y_J_makeFrame : MethodName := ⟨"JointHistory", "makeFrame", "(LJointHistory$Document;II)LJointHistory$Navigable;"⟩
abbrev b_J_freeNavigable : ByteArray := prog_1_method_40_code
def y_J_freeNavigable : MethodName := ⟨"JointHistory", "freeNavigable", "()LJointHistory$Navigable;"⟩
abbrev b_J_followDetours : ByteArray := prog_1_method_34_code
def y_J_followDetours : MethodName := ⟨"JointHistory", "followDetours", "(I)I"⟩
abbrev b_J_isDetour : ByteArray := prog_1_method_35_code
def y_J_isDetour : MethodName := ⟨"JointHistory", "isDetour", "(I)Z"⟩
abbrev b_J_fragmentOf : ByteArray := prog_1_method_24_code
def y_J_fragmentOf : MethodName := ⟨"JointHistory", "fragmentOf", "(I)I"⟩
abbrev b_J_addEntry : ByteArray := prog_1_method_42_code
def y_J_addEntry : MethodName := ⟨"JointHistory", "addEntry", "(LJointHistory$Navigable;IIILJointHistory$Document;)V"⟩
abbrev b_J_content : ByteArray := prog_1_method_2_code
def y_J_content : MethodName := ⟨"JointHistory", "content", "(IIIZ)Z"⟩
abbrev b_J_isPage : ByteArray := prog_1_method_18_code
def y_J_isPage : MethodName := ⟨"JointHistory", "isPage", "(I)Z"⟩
abbrev b_J_isFrameChoice : ByteArray := prog_1_method_21_code
def y_J_isFrameChoice : MethodName := ⟨"JointHistory", "isFrameChoice", "(I)Z"⟩
abbrev b_J_isUrlOrBlank : ByteArray := prog_1_method_20_code
def y_J_isUrlOrBlank : MethodName := ⟨"JointHistory", "isUrlOrBlank", "(I)Z"⟩
abbrev b_J_isUrl : ByteArray := prog_1_method_19_code
def y_J_isUrl : MethodName := ⟨"JointHistory", "isUrl", "(I)Z"⟩
abbrev b_J_detour : ByteArray := prog_1_method_3_code
def y_J_detour : MethodName := ⟨"JointHistory", "detour", "(II)Z"⟩
abbrev b_J_fault : ByteArray := prog_1_method_4_code
def y_J_fault : MethodName := ⟨"JointHistory", "fault", "(I)Z"⟩
abbrev b_J_navigate : ByteArray := prog_1_method_5_code
def y_J_navigate : MethodName := ⟨"JointHistory", "navigate", "(IIZ)I"⟩
abbrev b_J_shownEntry : ByteArray := prog_1_method_32_code
def y_J_shownEntry : MethodName := ⟨"JointHistory", "shownEntry", "(II)LJointHistory$Entry;"⟩
abbrev b_J_entryAt : ByteArray := prog_1_method_33_code
def y_J_entryAt : MethodName := ⟨"JointHistory", "entryAt", "(LJointHistory$Navigable;I)LJointHistory$Entry;"⟩
abbrev b_J_isFull : ByteArray := prog_1_method_28_code
def y_J_isFull : MethodName := ⟨"JointHistory", "isFull", "(Z)Z"⟩
abbrev b_J_entriesUpTo : ByteArray := prog_1_method_29_code
def y_J_entriesUpTo : MethodName := ⟨"JointHistory", "entriesUpTo", "(I)I"⟩
abbrev b_J_dropLaterEntries : ByteArray := prog_1_method_44_code
def y_J_dropLaterEntries : MethodName := ⟨"JointHistory", "dropLaterEntries", "()V"⟩
abbrev b_J_dropWhatIsGone : ByteArray := prog_1_method_46_code
def y_J_dropWhatIsGone : MethodName := ⟨"JointHistory", "dropWhatIsGone", "()V"⟩
abbrev b_J_keepOnlyHeldDocuments : ByteArray := prog_1_method_47_code
def y_J_keepOnlyHeldDocuments : MethodName := ⟨"JointHistory", "keepOnlyHeldDocuments", "()V"⟩
abbrev b_J_dropFramesOfGoneDocuments : ByteArray := prog_1_method_48_code
def y_J_dropFramesOfGoneDocuments : MethodName := ⟨"JointHistory", "dropFramesOfGoneDocuments", "()V"⟩
abbrev b_J_dropEntriesOfGoneNavigables : ByteArray := prog_1_method_49_code
def y_J_dropEntriesOfGoneNavigables : MethodName := ⟨"JointHistory", "dropEntriesOfGoneNavigables", "()V"⟩
abbrev b_J_isFragmentMove : ByteArray := prog_1_method_26_code
def y_J_isFragmentMove : MethodName := ⟨"JointHistory", "isFragmentMove", "(II)Z"⟩
abbrev b_J_putEntry : ByteArray := prog_1_method_43_code
def y_J_putEntry : MethodName := ⟨"JointHistory", "putEntry", "(LJointHistory$Entry;IILJointHistory$Document;Z)V"⟩
abbrev b_J_settlePresentStep : ByteArray := prog_1_method_50_code
def y_J_settlePresentStep : MethodName := ⟨"JointHistory", "settlePresentStep", "()V"⟩
abbrev b_J_rewrite : ByteArray := prog_1_method_6_code
def y_J_rewrite : MethodName := ⟨"JointHistory", "rewrite", "(IIIZ)I"⟩
abbrev b_J_mayRewrite : ByteArray := prog_1_method_27_code
def y_J_mayRewrite : MethodName := ⟨"JointHistory", "mayRewrite", "(II)Z"⟩
abbrev b_J_go : ByteArray := prog_1_method_7_code
def y_J_go : MethodName := ⟨"JointHistory", "go", "(I)I"⟩
abbrev b_J_collectUsedSteps : ByteArray := prog_1_method_51_code
def y_J_collectUsedSteps : MethodName := ⟨"JointHistory", "collectUsedSteps", "()I"⟩
abbrev b_J_insertStep : ByteArray := prog_1_method_52_code
def y_J_insertStep : MethodName := ⟨"JointHistory", "insertStep", "(II)I"⟩
abbrev b_J_placeOfPresent : ByteArray := prog_1_method_53_code
def y_J_placeOfPresent : MethodName := ⟨"JointHistory", "placeOfPresent", "(I)I"⟩
abbrev b_J_countMove : ByteArray := prog_1_method_54_code
def y_J_countMove : MethodName := ⟨"JointHistory", "countMove", "(LJointHistory$Entry;LJointHistory$Entry;)V"⟩
abbrev b_J_detach : ByteArray := prog_1_method_8_code
def y_J_detach : MethodName := ⟨"JointHistory", "detach", "(I)I"⟩
abbrev b_J_takeOut : ByteArray := prog_1_method_45_code
def y_J_takeOut : MethodName := ⟨"JointHistory", "takeOut", "(LJointHistory$Navigable;)V"⟩
abbrev b_J_url : ByteArray := prog_1_method_9_code
def y_J_url : MethodName := ⟨"JointHistory", "url", "(I)I"⟩
abbrev b_J_state : ByteArray := prog_1_method_10_code
def y_J_state : MethodName := ⟨"JointHistory", "state", "(I)J"⟩
abbrev b_J_step : ByteArray := prog_1_method_11_code
def y_J_step : MethodName := ⟨"JointHistory", "step", "(I)I"⟩
abbrev b_J_origin : ByteArray := prog_1_method_12_code
def y_J_origin : MethodName := ⟨"JointHistory", "origin", "(I)I"⟩
abbrev b_J_frame : ByteArray := prog_1_method_13_code
def y_J_frame : MethodName := ⟨"JointHistory", "frame", "(II)I"⟩
abbrev b_J_numberOf : ByteArray := prog_1_method_25_code
def y_J_numberOf : MethodName := ⟨"JointHistory", "numberOf", "(LJointHistory$Navigable;)I"⟩
abbrev b_J_entries : ByteArray := prog_1_method_14_code
def y_J_entries : MethodName := ⟨"JointHistory", "entries", "(I)I"⟩
abbrev b_J_present : ByteArray := prog_1_method_15_code
def y_J_present : MethodName := ⟨"JointHistory", "present", "()I"⟩
abbrev b_J_length : ByteArray := prog_1_method_16_code
def y_J_length : MethodName := ⟨"JointHistory", "length", "()I"⟩
abbrev b_J_count : ByteArray := prog_1_method_17_code
def y_J_count : MethodName := ⟨"JointHistory", "count", "(I)I"⟩
abbrev b_J_shownNavigables : ByteArray := prog_1_method_31_code
def y_J_shownNavigables : MethodName := ⟨"JointHistory", "shownNavigables", "()I"⟩
abbrev b_J_allNavigables : ByteArray := prog_1_method_30_code
def y_J_allNavigables : MethodName := ⟨"JointHistory", "allNavigables", "()I"⟩
abbrev b_M_init : ByteArray := prog_8_method_1_code
def y_M_init : MethodName := ⟨"JointHistoryModel", "<init>", "()V"⟩
abbrev b_M_make : ByteArray := prog_8_method_7_code
def y_M_make : MethodName := ⟨"JointHistoryModel", "make", "(II)I"⟩
abbrev b_M_freshOrigin : ByteArray := prog_8_method_6_code
def y_M_freshOrigin : MethodName := ⟨"JointHistoryModel", "freshOrigin", "()I"⟩
abbrev b_M_write : ByteArray := prog_8_method_8_code
def y_M_write : MethodName := ⟨"JointHistoryModel", "write", "(IIII)I"⟩
abbrev b_M_mark : ByteArray := prog_8_method_17_code
def y_M_mark : MethodName := ⟨"JointHistoryModel", "mark", "()V"⟩
abbrev b_M_keep : ByteArray := prog_8_method_16_code
def y_M_keep : MethodName := ⟨"JointHistoryModel", "keep", "(I)V"⟩
abbrev b_M_presentOf : ByteArray := prog_8_method_19_code
def y_M_presentOf : MethodName := ⟨"JointHistoryModel", "presentOf", "(I)I"⟩
abbrev b_M_show : ByteArray := prog_8_method_18_code
def y_M_show : MethodName := ⟨"JointHistoryModel", "show", "(I)V"⟩
abbrev b_M_content : ByteArray := prog_8_method_3_code
def y_M_content : MethodName := ⟨"JointHistoryModel", "content", "(IIIZ)Z"⟩
abbrev b_M_between : ByteArray := prog_8_method_2_code
def y_M_between : MethodName := ⟨"JointHistoryModel", "between", "(III)Z"⟩
abbrev b_M_detour : ByteArray := prog_8_method_4_code
def y_M_detour : MethodName := ⟨"JointHistoryModel", "detour", "(II)Z"⟩
abbrev b_M_fault : ByteArray := prog_8_method_5_code
def y_M_fault : MethodName := ⟨"JointHistoryModel", "fault", "(I)Z"⟩
abbrev b_M_navigate : ByteArray := prog_8_method_27_code
def y_M_navigate : MethodName := ⟨"JointHistoryModel", "navigate", "(IIZ)I"⟩
abbrev b_M_isShown : ByteArray := prog_8_method_20_code
def y_M_isShown : MethodName := ⟨"JointHistoryModel", "isShown", "(I)Z"⟩
abbrev b_M_full : ByteArray := prog_8_method_23_code
def y_M_full : MethodName := ⟨"JointHistoryModel", "full", "(Z)Z"⟩
abbrev b_M_fragment : ByteArray := prog_8_method_26_code
def y_M_fragment : MethodName := ⟨"JointHistoryModel", "fragment", "(I)I"⟩
abbrev b_M_enter : ByteArray := prog_8_method_25_code
def y_M_enter : MethodName := ⟨"JointHistoryModel", "enter", "(IIIZI)V"⟩
abbrev b_M_cutOff : ByteArray := prog_8_method_24_code
def y_M_cutOff : MethodName := ⟨"JointHistoryModel", "cutOff", "()V"⟩
abbrev b_M_load : ByteArray := prog_8_method_15_code
def y_M_load : MethodName := ⟨"JointHistoryModel", "load", "(III)I"⟩
abbrev b_M_deep : ByteArray := prog_8_method_14_code
def y_M_deep : MethodName := ⟨"JointHistoryModel", "deep", "(I)I"⟩
abbrev b_M_loadWindow : ByteArray := prog_8_method_13_code
def y_M_loadWindow : MethodName := ⟨"JointHistoryModel", "loadWindow", "(II)I"⟩
abbrev b_M_wanted : ByteArray := prog_8_method_11_code
def y_M_wanted : MethodName := ⟨"JointHistoryModel", "wanted", "(III)I"⟩
abbrev b_M_frameFor : ByteArray := prog_8_method_9_code
def y_M_frameFor : MethodName := ⟨"JointHistoryModel", "frameFor", "(III)I"⟩
abbrev b_M_paperOf : ByteArray := prog_8_method_10_code
def y_M_paperOf : MethodName := ⟨"JointHistoryModel", "paperOf", "(I)I"⟩
abbrev b_M_loadMiddle : ByteArray := prog_8_method_12_code
def y_M_loadMiddle : MethodName := ⟨"JointHistoryModel", "loadMiddle", "(III)I"⟩
abbrev b_M_settle : ByteArray := prog_8_method_22_code
def y_M_settle : MethodName := ⟨"JointHistoryModel", "settle", "()V"⟩
abbrev b_M_used : ByteArray := prog_8_method_21_code
def y_M_used : MethodName := ⟨"JointHistoryModel", "used", "(I)Z"⟩
abbrev b_M_rewrite : ByteArray := prog_8_method_28_code
def y_M_rewrite : MethodName := ⟨"JointHistoryModel", "rewrite", "(IIIZ)I"⟩
abbrev b_M_go : ByteArray := prog_8_method_30_code
def y_M_go : MethodName := ⟨"JointHistoryModel", "go", "(I)I"⟩
abbrev b_M_stepAt : ByteArray := prog_8_method_29_code
def y_M_stepAt : MethodName := ⟨"JointHistoryModel", "stepAt", "(J)I"⟩
abbrev b_M_detach : ByteArray := prog_8_method_31_code
def y_M_detach : MethodName := ⟨"JointHistoryModel", "detach", "(I)I"⟩
abbrev b_M_url : ByteArray := prog_8_method_32_code
def y_M_url : MethodName := ⟨"JointHistoryModel", "url", "(I)I"⟩
abbrev b_M_state : ByteArray := prog_8_method_33_code
def y_M_state : MethodName := ⟨"JointHistoryModel", "state", "(I)J"⟩
abbrev b_M_step : ByteArray := prog_8_method_34_code
def y_M_step : MethodName := ⟨"JointHistoryModel", "step", "(I)I"⟩
abbrev b_M_origin : ByteArray := prog_8_method_35_code
def y_M_origin : MethodName := ⟨"JointHistoryModel", "origin", "(I)I"⟩
abbrev b_M_frame : ByteArray := prog_8_method_36_code
def y_M_frame : MethodName := ⟨"JointHistoryModel", "frame", "(II)I"⟩
abbrev b_M_entries : ByteArray := prog_8_method_37_code
def y_M_entries : MethodName := ⟨"JointHistoryModel", "entries", "(I)I"⟩
abbrev b_M_present : ByteArray := prog_8_method_38_code
def y_M_present : MethodName := ⟨"JointHistoryModel", "present", "()I"⟩
abbrev b_M_length : ByteArray := prog_8_method_39_code
def y_M_length : MethodName := ⟨"JointHistoryModel", "length", "()I"⟩
abbrev b_M_count : ByteArray := prog_8_method_40_code
def y_M_count : MethodName := ⟨"JointHistoryModel", "count", "(I)I"⟩
end
section
/-! Each link of a field or a method, in the list of words. -/
set_option maxRecDepth 20000 in
theorem wf_A_9 : Cond.fieldLink "JointHistory$Answer" 9 "JointHistory$Kind" "CONTENT" "LJointHistory$Kind;" ∈ jw_all := jw_tb (i := 30) rfl rfl
set_option maxRecDepth 20000 in
theorem wf_A_15 : Cond.fieldLink "JointHistory$Answer" 15 "JointHistory$Answer" "kind" "LJointHistory$Kind;" ∈ jw_all := jw_tb (i := 32) rfl rfl
set_option maxRecDepth 20000 in
theorem wf_J_68 : Cond.fieldLink "JointHistory" 68 "JointHistory$Answer" "kind" "LJointHistory$Kind;" ∈ jw_all := jw_tb (i := 33) rfl rfl
set_option maxRecDepth 20000 in
theorem wf_A_20 : Cond.fieldLink "JointHistory$Answer" 20 "JointHistory$Answer" "first" "I" ∈ jw_all := jw_tb (i := 34) rfl rfl
set_option maxRecDepth 20000 in
theorem wf_J_71 : Cond.fieldLink "JointHistory" 71 "JointHistory$Answer" "first" "I" ∈ jw_all := jw_tb (i := 35) rfl rfl
set_option maxRecDepth 20000 in
theorem wf_A_24 : Cond.fieldLink "JointHistory$Answer" 24 "JointHistory$Answer" "second" "I" ∈ jw_all := jw_tb (i := 36) rfl rfl
set_option maxRecDepth 20000 in
theorem wf_J_75 : Cond.fieldLink "JointHistory" 75 "JointHistory$Answer" "second" "I" ∈ jw_all := jw_tb (i := 37) rfl rfl
set_option maxRecDepth 20000 in
theorem wf_J_78 : Cond.fieldLink "JointHistory" 78 "JointHistory$Answer" "strict" "Z" ∈ jw_all := jw_tb (i := 38) rfl rfl
set_option maxRecDepth 20000 in
theorem wf_J_87 : Cond.fieldLink "JointHistory" 87 "JointHistory$Answer" "target" "I" ∈ jw_all := jw_tb (i := 39) rfl rfl
set_option maxRecDepth 20000 in
theorem wf_N_7 : Cond.fieldLink "JointHistory$Navigable" 7 "JointHistory$Navigable" "number" "I" ∈ jw_all := jw_tb (i := 57) rfl rfl
set_option maxRecDepth 20000 in
theorem wf_J_196 : Cond.fieldLink "JointHistory" 196 "JointHistory$Navigable" "number" "I" ∈ jw_all := jw_tb (i := 58) rfl rfl
set_option maxRecDepth 20000 in
theorem wf_J_43 : Cond.fieldLink "JointHistory" 43 "JointHistory$Navigable" "there" "Z" ∈ jw_all := jw_tb (i := 59) rfl rfl
set_option maxRecDepth 20000 in
theorem wf_J_233 : Cond.fieldLink "JointHistory" 233 "JointHistory$Navigable" "level" "I" ∈ jw_all := jw_tb (i := 60) rfl rfl
set_option maxRecDepth 20000 in
theorem wf_J_208 : Cond.fieldLink "JointHistory" 208 "JointHistory$Navigable" "above" "LJointHistory$Document;" ∈ jw_all := jw_tb (i := 61) rfl rfl
set_option maxRecDepth 20000 in
theorem wf_J_244 : Cond.fieldLink "JointHistory" 244 "JointHistory$Document" "there" "Z" ∈ jw_all := jw_tb (i := 76) rfl rfl
set_option maxRecDepth 20000 in
theorem wf_J_211 : Cond.fieldLink "JointHistory" 211 "JointHistory$Document" "owner" "LJointHistory$Navigable;" ∈ jw_all := jw_tb (i := 77) rfl rfl
set_option maxRecDepth 20000 in
theorem wf_J_168 : Cond.fieldLink "JointHistory" 168 "JointHistory$Document" "origin" "I" ∈ jw_all := jw_tb (i := 78) rfl rfl
set_option maxRecDepth 20000 in
theorem wf_J_219 : Cond.fieldLink "JointHistory" 219 "JointHistory$Document" "sandboxed" "Z" ∈ jw_all := jw_tb (i := 79) rfl rfl
set_option maxRecDepth 20000 in
theorem wf_J_171 : Cond.fieldLink "JointHistory" 171 "JointHistory$Document" "first" "LJointHistory$Navigable;" ∈ jw_all := jw_tb (i := 80) rfl rfl
set_option maxRecDepth 20000 in
theorem wf_J_177 : Cond.fieldLink "JointHistory" 177 "JointHistory$Document" "second" "LJointHistory$Navigable;" ∈ jw_all := jw_tb (i := 81) rfl rfl
set_option maxRecDepth 20000 in
theorem wf_J_179 : Cond.fieldLink "JointHistory" 179 "JointHistory$Entry" "there" "Z" ∈ jw_all := jw_tb (i := 100) rfl rfl
set_option maxRecDepth 20000 in
theorem wf_J_135 : Cond.fieldLink "JointHistory" 135 "JointHistory$Entry" "owner" "LJointHistory$Navigable;" ∈ jw_all := jw_tb (i := 101) rfl rfl
set_option maxRecDepth 20000 in
theorem wf_J_128 : Cond.fieldLink "JointHistory" 128 "JointHistory$Entry" "step" "I" ∈ jw_all := jw_tb (i := 102) rfl rfl
set_option maxRecDepth 20000 in
theorem wf_J_103 : Cond.fieldLink "JointHistory" 103 "JointHistory$Entry" "url" "I" ∈ jw_all := jw_tb (i := 103) rfl rfl
set_option maxRecDepth 20000 in
theorem wf_J_165 : Cond.fieldLink "JointHistory" 165 "JointHistory$Entry" "state" "I" ∈ jw_all := jw_tb (i := 104) rfl rfl
set_option maxRecDepth 20000 in
theorem wf_J_120 : Cond.fieldLink "JointHistory" 120 "JointHistory$Entry" "document" "LJointHistory$Document;" ∈ jw_all := jw_tb (i := 105) rfl rfl
set_option maxRecDepth 20000 in
theorem wf_J_62 : Cond.fieldLink "JointHistory" 62 "JointHistory$Kind" "CONTENT" "LJointHistory$Kind;" ∈ jw_all := jw_tb (i := 134) rfl rfl
set_option maxRecDepth 20000 in
theorem wf_J_84 : Cond.fieldLink "JointHistory" 84 "JointHistory$Kind" "DETOUR" "LJointHistory$Kind;" ∈ jw_all := jw_tb (i := 158) rfl rfl
set_option maxRecDepth 20000 in
theorem wf_J_11 : Cond.fieldLink "JointHistory" 11 "JointHistory" "answers" "[LJointHistory$Answer;" ∈ jw_all := jw_tb (i := 167) rfl rfl
set_option maxRecDepth 20000 in
theorem wf_J_17 : Cond.fieldLink "JointHistory" 17 "JointHistory" "navigables" "[LJointHistory$Navigable;" ∈ jw_all := jw_tb (i := 168) rfl rfl
set_option maxRecDepth 20000 in
theorem wf_J_23 : Cond.fieldLink "JointHistory" 23 "JointHistory" "documents" "[LJointHistory$Document;" ∈ jw_all := jw_tb (i := 169) rfl rfl
set_option maxRecDepth 20000 in
theorem wf_J_29 : Cond.fieldLink "JointHistory" 29 "JointHistory" "rows" "[LJointHistory$Entry;" ∈ jw_all := jw_tb (i := 170) rfl rfl
set_option maxRecDepth 20000 in
theorem wf_J_33 : Cond.fieldLink "JointHistory" 33 "JointHistory" "usedSteps" "[I" ∈ jw_all := jw_tb (i := 171) rfl rfl
set_option maxRecDepth 20000 in
theorem wf_J_96 : Cond.fieldLink "JointHistory" 96 "JointHistory" "presentStep" "I" ∈ jw_all := jw_tb (i := 172) rfl rfl
set_option maxRecDepth 20000 in
theorem wf_J_190 : Cond.fieldLink "JointHistory" 190 "JointHistory" "pops" "I" ∈ jw_all := jw_tb (i := 173) rfl rfl
set_option maxRecDepth 20000 in
theorem wf_J_117 : Cond.fieldLink "JointHistory" 117 "JointHistory" "hashes" "I" ∈ jw_all := jw_tb (i := 174) rfl rfl
set_option maxRecDepth 20000 in
theorem wf_J_193 : Cond.fieldLink "JointHistory" 193 "JointHistory" "opaques" "I" ∈ jw_all := jw_tb (i := 175) rfl rfl
set_option maxRecDepth 20000 in
theorem wf_J_90 : Cond.fieldLink "JointHistory" 90 "JointHistory$Kind" "FAULT" "LJointHistory$Kind;" ∈ jw_all := jw_tb (i := 219) rfl rfl
set_option maxRecDepth 20000 in
theorem wf_M_7 : Cond.fieldLink "JointHistoryModel" 7 "JointHistoryModel" "answer" "[I" ∈ jw_all := jw_tb (i := 390) rfl rfl
set_option maxRecDepth 20000 in
theorem wf_M_13 : Cond.fieldLink "JointHistoryModel" 13 "JointHistoryModel" "firstOf" "[I" ∈ jw_all := jw_tb (i := 391) rfl rfl
set_option maxRecDepth 20000 in
theorem wf_M_16 : Cond.fieldLink "JointHistoryModel" 16 "JointHistoryModel" "secondOf" "[I" ∈ jw_all := jw_tb (i := 392) rfl rfl
set_option maxRecDepth 20000 in
theorem wf_M_19 : Cond.fieldLink "JointHistoryModel" 19 "JointHistoryModel" "strictOf" "[Z" ∈ jw_all := jw_tb (i := 393) rfl rfl
set_option maxRecDepth 20000 in
theorem wf_M_23 : Cond.fieldLink "JointHistoryModel" 23 "JointHistoryModel" "owner" "[I" ∈ jw_all := jw_tb (i := 394) rfl rfl
set_option maxRecDepth 20000 in
theorem wf_M_26 : Cond.fieldLink "JointHistoryModel" 26 "JointHistoryModel" "stepOf" "[I" ∈ jw_all := jw_tb (i := 395) rfl rfl
set_option maxRecDepth 20000 in
theorem wf_M_29 : Cond.fieldLink "JointHistoryModel" 29 "JointHistoryModel" "urlOf" "[I" ∈ jw_all := jw_tb (i := 396) rfl rfl
set_option maxRecDepth 20000 in
theorem wf_M_32 : Cond.fieldLink "JointHistoryModel" 32 "JointHistoryModel" "stateOf" "[I" ∈ jw_all := jw_tb (i := 397) rfl rfl
set_option maxRecDepth 20000 in
theorem wf_M_35 : Cond.fieldLink "JointHistoryModel" 35 "JointHistoryModel" "paper" "[I" ∈ jw_all := jw_tb (i := 398) rfl rfl
set_option maxRecDepth 20000 in
theorem wf_M_38 : Cond.fieldLink "JointHistoryModel" 38 "JointHistoryModel" "entry" "[Z" ∈ jw_all := jw_tb (i := 399) rfl rfl
set_option maxRecDepth 20000 in
theorem wf_M_41 : Cond.fieldLink "JointHistoryModel" 41 "JointHistoryModel" "there" "[Z" ∈ jw_all := jw_tb (i := 400) rfl rfl
set_option maxRecDepth 20000 in
theorem wf_M_44 : Cond.fieldLink "JointHistoryModel" 44 "JointHistoryModel" "originOf" "[I" ∈ jw_all := jw_tb (i := 401) rfl rfl
set_option maxRecDepth 20000 in
theorem wf_M_47 : Cond.fieldLink "JointHistoryModel" 47 "JointHistoryModel" "sandboxed" "[Z" ∈ jw_all := jw_tb (i := 402) rfl rfl
set_option maxRecDepth 20000 in
theorem wf_M_50 : Cond.fieldLink "JointHistoryModel" 50 "JointHistoryModel" "left" "[I" ∈ jw_all := jw_tb (i := 403) rfl rfl
set_option maxRecDepth 20000 in
theorem wf_M_53 : Cond.fieldLink "JointHistoryModel" 53 "JointHistoryModel" "right" "[I" ∈ jw_all := jw_tb (i := 404) rfl rfl
set_option maxRecDepth 20000 in
theorem wf_M_56 : Cond.fieldLink "JointHistoryModel" 56 "JointHistoryModel" "exists" "[Z" ∈ jw_all := jw_tb (i := 405) rfl rfl
set_option maxRecDepth 20000 in
theorem wf_M_59 : Cond.fieldLink "JointHistoryModel" 59 "JointHistoryModel" "above" "[I" ∈ jw_all := jw_tb (i := 406) rfl rfl
set_option maxRecDepth 20000 in
theorem wf_M_62 : Cond.fieldLink "JointHistoryModel" 62 "JointHistoryModel" "shown" "[Z" ∈ jw_all := jw_tb (i := 407) rfl rfl
set_option maxRecDepth 20000 in
theorem wf_M_65 : Cond.fieldLink "JointHistoryModel" 65 "JointHistoryModel" "then" "[I" ∈ jw_all := jw_tb (i := 408) rfl rfl
set_option maxRecDepth 20000 in
theorem wf_M_68 : Cond.fieldLink "JointHistoryModel" 68 "JointHistoryModel" "keepPaper" "[Z" ∈ jw_all := jw_tb (i := 409) rfl rfl
set_option maxRecDepth 20000 in
theorem wf_M_71 : Cond.fieldLink "JointHistoryModel" 71 "JointHistoryModel" "keepNav" "[Z" ∈ jw_all := jw_tb (i := 410) rfl rfl
set_option maxRecDepth 20000 in
theorem wf_M_130 : Cond.fieldLink "JointHistoryModel" 130 "JointHistoryModel" "now" "I" ∈ jw_all := jw_tb (i := 411) rfl rfl
set_option maxRecDepth 20000 in
theorem wf_M_89 : Cond.fieldLink "JointHistoryModel" 89 "JointHistoryModel" "opaque" "I" ∈ jw_all := jw_tb (i := 412) rfl rfl
set_option maxRecDepth 20000 in
theorem wf_M_167 : Cond.fieldLink "JointHistoryModel" 167 "JointHistoryModel" "pops" "I" ∈ jw_all := jw_tb (i := 413) rfl rfl
set_option maxRecDepth 20000 in
theorem wf_M_156 : Cond.fieldLink "JointHistoryModel" 156 "JointHistoryModel" "hashes" "I" ∈ jw_all := jw_tb (i := 414) rfl rfl
set_option maxRecDepth 20000 in
theorem wf_M_93 : Cond.fieldLink "JointHistoryModel" 93 "JointHistoryModel" "landed" "I" ∈ jw_all := jw_tb (i := 415) rfl rfl
end
section
/-! The class as functions of a store: field number, row -> value. A reference is the number of its row, or -1. -/
abbrev js_S : Type := Nat → Nat → Int32
def js_up (s : js_S) (f i : Nat) (v : Int32) : js_S := fun g j => if g = f ∧ j = i then v else s g j
theorem js_up_s (s : js_S) (f i : Nat) (v : Int32) : js_up s f i v f i = v := by simp [js_up]
theorem js_up_f {s : js_S} {f i g j : Nat} {v : Int32} (h : ¬ g = f) : js_up s f i v g j = s g j := by simp [js_up, h]
theorem js_up_i {s : js_S} {f i g j : Nat} {v : Int32} (h : ¬ j = i) : js_up s f i v g j = s g j := by simp [js_up, h]
abbrev ix (x : Int32) : Nat := x.toNatClampNeg
theorem ix_nI {n : Nat} (h : n < 2 ^ 31) : ix (nI n) = n := nI_clamp h
/-- the first row from i on, among k, whose flag f isn't set; if there is none, the one behind them -/
def js_free (s : js_S) (f : Nat) : Nat → Nat → Nat
  | 0, i => i
  | k + 1, i => if s f i = 0 then i else js_free s f k (i + 1)
def js_b (p : Prop) [Decidable p] : Int32 := if p then 1 else 0
-- static methods
def jc_isPage (x : Int32) : Int32 := if x < 0 then 0 else if 32 ≤ x then 0 else 1
def jc_isUrl (x : Int32) : Int32 := if x < 0 then 0 else if 256 ≤ x then 0 else 1
def jc_isUB (x : Int32) : Int32 := if x = -1 then 1 else if jc_isUrl x = 0 then 0 else 1
def jc_isFC (x : Int32) : Int32 := if x = -2 then 1 else if jc_isUB x = 0 then 0 else 1
def jc_frag (x : Int32) : Int32 := if x = -1 then 0 else x - x / 8 * 8
def jc_isFM (x y : Int32) : Int32 := if x = -1 then 0 else if y = -1 then 0 else if jc_frag y = 0 then 0 else if x / 8 = y / 8 then 1 else 0
def jc_mayR (x y : Int32) : Int32 := if x = -1 then 0 else if x / 64 = y / 64 then (if x / 64 = 3 then (if x / 8 = y / 8 then 1 else 0) else 1) else 0
-- reading
def jc_cntE (s : js_S) (st : Int32) : Nat → Nat
  | 0 => 0
  | i + 1 => if s 14 i ≠ 0 ∧ ¬ st < s 16 i then jc_cntE s st i + 1 else jc_cntE s st i
def jc_cntN (s : js_S) : Nat → Nat
  | 0 => 0
  | i + 1 => if s 5 i ≠ 0 then jc_cntN s i + 1 else jc_cntN s i
def jc_cntO (s : js_S) (o : Int32) : Nat → Nat
  | 0 => 0
  | i + 1 => if s 14 i ≠ 0 ∧ s 15 i = o then jc_cntO s o i + 1 else jc_cntO s o i
def jc_eA (s : js_S) (nav st : Int32) : Nat → Int32
  | 0 => -1
  | i + 1 => if s 14 i ≠ 0 ∧ s 15 i = nav ∧ ¬ st < s 16 i ∧ (jc_eA s nav st i = -1 ∨ ¬ s 16 i ≤ s 16 (ix (jc_eA s nav st i))) then nI i else jc_eA s nav st i
def jc_entryAt (s : js_S) (nav st : Int32) : Int32 := jc_eA s nav st 40
/-- may the document d (or none) be seen at the step: is it its owner's there -/
def jc_held (s : js_S) (d st : Int32) : Bool := decide (d = -1 ∨ (jc_entryAt s (s 9 (ix d)) st ≠ -1 ∧ s 19 (ix (jc_entryAt s (s 9 (ix d)) st)) = d))
def jc_up1 (s : js_S) (d : Int32) : Int32 := if d = -1 then -1 else s 7 (ix (s 9 (ix d)))
def jc_shownEntry (s : js_S) (n st : Int32) : Int32 :=
  if ¬ n < 0 ∧ ¬ 40 ≤ n ∧ s 5 (ix n) ≠ 0 ∧ jc_held s (s 7 (ix n)) st = true ∧ jc_held s (jc_up1 s (s 7 (ix n))) st = true then jc_entryAt s n st else -1
def jc_cntS (s : js_S) (st : Int32) : Nat → Nat
  | 0 => 0
  | i + 1 => if jc_shownEntry s (nI i) st ≠ -1 then jc_cntS s st i + 1 else jc_cntS s st i
-- loading
def jc_fd (s : js_S) : Nat → Int32 → Int32
  | 0, u => u
  | k + 1, u => if u ≠ -1 ∧ s 0 (ix (u / 8)) = 1 then jc_fd s k (if jc_frag (s 4 (ix (u / 8))) = 0 then s 4 (ix (u / 8)) + jc_frag u else s 4 (ix (u / 8))) else u
def jc_addEntry (s : js_S) (owner step url state doc : Int32) : js_S :=
  js_up (js_up (js_up (js_up (js_up (js_up s 14 (js_free s 14 39 0) 1) 15 (js_free s 14 39 0) owner) 16 (js_free s 14 39 0) step) 17 (js_free s 14 39 0) url) 18 (js_free s 14 39 0) state) 19 (js_free s 14 39 0) doc
def jc_freeDoc (s : js_S) (owner : Int32) : js_S :=
  js_up (js_up (js_up (js_up s 8 (js_free s 8 39 0) 1) 9 (js_free s 8 39 0) owner) 12 (js_free s 8 39 0) (-1)) 13 (js_free s 8 39 0) (-1)
def jc_opq (s : js_S) (i : Nat) : js_S := js_up (js_up s 24 0 (s 24 0 + 1)) 10 i (4 + s 24 0)
def jc_mkFrame (L : js_S → Int32 → Int32 → Int32 → js_S) (s : js_S) (doc url step : Int32) : js_S :=
  let n := js_free s 5 38 1
  let s1 := js_up (js_up (js_up s 5 n 1) 6 n (s 6 (ix (s 9 (ix doc))) + 1)) 7 n doc
  let led := jc_fd s1 4 url
  jc_addEntry (L s1 (nI n) led step) (nI n) step led 0 (nI (js_free s1 8 39 0))
def jc_mf1 (L : js_S → Int32 → Int32 → Int32 → js_S) (s : js_S) (doc : Int32) (a : Nat) (step : Int32) : js_S := js_up (jc_mkFrame L s doc (s 1 a) step) 12 (ix doc) (nI (js_free s 5 38 1))
def jc_mf2 (L : js_S → Int32 → Int32 → Int32 → js_S) (s : js_S) (doc : Int32) (a : Nat) (step : Int32) : js_S :=
  if jc_mkFrame L s doc (s 2 a) step 12 (ix doc) = -1 then js_up (jc_mkFrame L s doc (s 2 a) step) 12 (ix doc) (nI (js_free s 5 38 1)) else js_up (jc_mkFrame L s doc (s 2 a) step) 13 (ix doc) (nI (js_free s 5 38 1))
def jc_room (s : js_S) (doc : Int32) : Int32 := 2 - s 6 (ix (s 9 (ix doc)))
def jc_mkFrames (L : js_S → Int32 → Int32 → Int32 → js_S) (s : js_S) (doc : Int32) (a : Nat) (step : Int32) : js_S :=
  if 0 < jc_room s doc ∧ s 1 a ≠ -2 then
    (if 0 < jc_room s doc + -1 ∧ jc_mf1 L s doc a step 2 a ≠ -2 then jc_mf2 L (jc_mf1 L s doc a step) doc a step else jc_mf1 L s doc a step)
  else (if 0 < jc_room s doc ∧ s 2 a ≠ -2 then jc_mf2 L s doc a step else s)
def jc_loadB (L : js_S → Int32 → Int32 → Int32 → js_S) (s : js_S) (owner url step : Int32) : js_S :=
  let above := s 7 (ix owner)
  let boxed := js_b (above ≠ -1 ∧ s 11 (ix above) ≠ 0)
  let i := js_free s 8 39 0
  let s1 := jc_freeDoc s owner
  if url = -1 then
    let s2 := js_up s1 11 i boxed
    if above = -1 ∨ boxed ≠ 0 then jc_opq s2 i else js_up s2 10 i (s2 10 (ix above))
  else
    let a := ix (url / 8)
    if s1 0 a ≠ 0 then jc_opq (js_up s1 11 i 0) i
    else
      let bx := js_b (s1 3 a ≠ 0 ∨ boxed ≠ 0)
      let s2 := js_up s1 11 i bx
      let s3 := if bx ≠ 0 then jc_opq s2 i else js_up s2 10 i (url / 64)
      jc_mkFrames L s3 (nI i) a step
def jc_load : Nat → js_S → Int32 → Int32 → Int32 → js_S
  | 0 => jc_loadB (fun s _ _ _ => s)
  | d + 1 => jc_loadB (jc_load d)
-- dropping
def jc_kd1 (s : js_S) : Nat → js_S
  | 0 => s
  | i + 1 => js_up (jc_kd1 s i) 8 i 0
def jc_kd2 (s : js_S) : Nat → js_S
  | 0 => s
  | i + 1 => if jc_kd2 s i 14 i ≠ 0 then js_up (jc_kd2 s i) 8 (ix (jc_kd2 s i 19 i)) 1 else jc_kd2 s i
def jc_keepDocs (s : js_S) : js_S := jc_kd2 (jc_kd1 s 40) 40
def jc_df (s : js_S) : Nat → js_S
  | 0 => s
  | i + 1 => if jc_df s i 7 i ≠ -1 ∧ jc_df s i 8 (ix (jc_df s i 7 i)) = 0 then js_up (jc_df s i) 5 i 0 else jc_df s i
def jc_de (s : js_S) : Nat → js_S
  | 0 => s
  | i + 1 => if jc_de s i 14 i ≠ 0 ∧ jc_de s i 5 (ix (jc_de s i 15 i)) = 0 then js_up (jc_de s i) 14 i 0 else jc_de s i
def jc_round (s : js_S) : js_S := jc_de (jc_df (jc_keepDocs s) 40) 40
def jc_gone (s : js_S) : js_S := jc_round (jc_round (jc_round s))
def jc_dl (s : js_S) : Nat → js_S
  | 0 => s
  | i + 1 => if ¬ jc_dl s i 16 i ≤ jc_dl s i 21 0 then js_up (jc_dl s i) 14 i 0 else jc_dl s i
def jc_dropLater (s : js_S) : js_S := jc_gone (jc_dl s 40)
def jc_lt (s : js_S) : Nat → Int32
  | 0 => 0
  | i + 1 => if s 14 i ≠ 0 ∧ ¬ s 21 0 < s 16 i ∧ ¬ s 16 i ≤ jc_lt s i then s 16 i else jc_lt s i
def jc_settle (s : js_S) : js_S := js_up s 21 0 (jc_lt s 40)
def jc_takeOut (s : js_S) (n : Int32) : js_S :=
  let a := s 7 (ix n)
  if a = -1 then s else
    let s1 := if s 12 (ix a) = n then js_up s 12 (ix a) (s 13 (ix a)) else s
    js_up (js_up s1 13 (ix a) (-1)) 5 (ix n) 0
def jc_putEntry (s : js_S) (e url state doc push : Int32) : js_S :=
  if push ≠ 0 then
    let s1 := js_up s 21 0 (s 21 0 + 1)
    jc_addEntry s1 (s1 15 (ix e)) (s1 21 0) url state doc
  else jc_settle (jc_gone (js_up (js_up (js_up s 17 (ix e) url) 18 (ix e) state) 19 (ix e) doc))
-- used steps
/-- from at downwards: the place behind the last one that is not greater -/
def jc_at (s : js_S) (st : Int32) : Nat → Nat
  | 0 => 0
  | k + 1 => if st < s 20 k then jc_at s st k else k + 1
def jc_sh (s : js_S) (at_ : Nat) : Nat → js_S
  | 0 => s
  | k + 1 => if at_ < k + 1 then jc_sh (js_up s 20 (k + 1) (s 20 k)) at_ k else s
def jc_insQ (s : js_S) (st : Int32) (n : Nat) : Bool := decide (0 < jc_at s st n ∧ s 20 (jc_at s st n - 1) = st)
def jc_ins (s : js_S) (st : Int32) (n : Nat) : js_S := js_up (jc_sh s (jc_at s st n) n) 20 (jc_at s st n) st
/-- the used steps of the first i rows are collected: the store, how many -/
def jc_cu (s : js_S) : Nat → js_S × Nat
  | 0 => (s, 0)
  | i + 1 => if (jc_cu s i).1 14 i ≠ 0 then (if jc_insQ (jc_cu s i).1 ((jc_cu s i).1 16 i) (jc_cu s i).2 = true then jc_cu s i else (jc_ins (jc_cu s i).1 ((jc_cu s i).1 16 i) (jc_cu s i).2, (jc_cu s i).2 + 1)) else jc_cu s i
def jc_place (s : js_S) : Nat → Nat → Nat
  | 0, i => i
  | k + 1, i => if s 20 i < s 21 0 then jc_place s k (i + 1) else i
def jc_move (s : js_S) (x y : Int32) : js_S :=
  if x = -1 ∨ y = -1 ∨ x = y ∨ s 19 (ix x) ≠ s 19 (ix y) then s
  else if jc_frag (s 17 (ix x)) ≠ jc_frag (s 17 (ix y)) then js_up (js_up s 22 0 (s 22 0 + 1)) 23 0 (s 23 0 + 1) else js_up s 22 0 (s 22 0 + 1)
def jc_mv (s : js_S) (st : Int32) : Nat → js_S
  | 0 => s
  | i + 1 => jc_move (jc_mv s st i) (jc_shownEntry (jc_mv s st i) (nI i) (jc_mv s st i 21 0)) (jc_shownEntry (jc_mv s st i) (nI i) st)
-- the public methods: answer and store
def jc_content (s : js_S) (page a b strict : Int32) : Int32 × js_S :=
  if jc_isPage page = 0 ∨ jc_isFC a = 0 ∨ jc_isFC b = 0 then (0, s)
  else (1, js_up (js_up (js_up (js_up s 0 (ix page) 0) 1 (ix page) a) 2 (ix page) b) 3 (ix page) strict)
def jc_detour (s : js_S) (page url : Int32) : Int32 × js_S :=
  if jc_isPage page = 0 ∨ jc_isUrl url = 0 then (0, s) else (1, js_up (js_up s 0 (ix page) 1) 4 (ix page) url)
def jc_fault (s : js_S) (page : Int32) : Int32 × js_S := if jc_isPage page = 0 then (0, s) else (1, js_up s 0 (ix page) 2)
def jc_full (s : js_S) (push : Int32) : Int32 := js_b (36 ≤ jc_cntE s (if push ≠ 0 then s 21 0 else 2147483647) 40)
def jc_nav (s : js_S) (e url : Int32) (push : Int32) : js_S :=
  if jc_isFM (s 17 (ix e)) url ≠ 0 then
    jc_putEntry (if url ≠ s 17 (ix e) then js_up s 23 0 (s 23 0 + 1) else s) e url 0 (s 19 (ix e)) push
  else jc_putEntry (jc_load 2 s (s 15 (ix e)) (jc_fd s 4 url) (if push ≠ 0 then s 21 0 + 1 else s 16 (ix e))) e (jc_fd s 4 url) 0 (nI (js_free s 8 39 0)) push
def jc_navigate (s : js_S) (n url rep : Int32) : Int32 × js_S :=
  if jc_isUB url = 0 then (-3, s) else
  if jc_shownEntry s n (s 21 0) = -1 then (-4, s) else
  if jc_full s (js_b (rep = 0 ∧ url ≠ s 17 (ix (jc_shownEntry s n (s 21 0))))) ≠ 0 then (-5, s) else
  if rep = 0 ∧ url ≠ s 17 (ix (jc_shownEntry s n (s 21 0))) then
    (jc_nav (jc_dropLater s) (jc_shownEntry s n (s 21 0)) url 1 21 0, jc_nav (jc_dropLater s) (jc_shownEntry s n (s 21 0)) url 1)
  else (jc_nav s (jc_shownEntry s n (s 21 0)) url 0 21 0, jc_nav s (jc_shownEntry s n (s 21 0)) url 0)
def jc_rew (s : js_S) (e url state push : Int32) : js_S := jc_putEntry s e (if url = -1 then s 17 (ix e) else url) state (s 19 (ix e)) push
def jc_rewrite (s : js_S) (n url state push : Int32) : Int32 × js_S :=
  if jc_isUB url = 0 then (-3, s) else
  if jc_shownEntry s n (s 21 0) = -1 then (-4, s) else
  if url ≠ -1 ∧ jc_mayR (s 17 (ix (jc_shownEntry s n (s 21 0)))) url = 0 then (-6, s) else
  if jc_full s push ≠ 0 then (-5, s) else
  if push ≠ 0 then (jc_rew (jc_dropLater s) (jc_shownEntry s n (s 21 0)) url state push 21 0, jc_rew (jc_dropLater s) (jc_shownEntry s n (s 21 0)) url state push)
  else (jc_rew s (jc_shownEntry s n (s 21 0)) url state push 21 0, jc_rew s (jc_shownEntry s n (s 21 0)) url state push)
def jc_go (s : js_S) (delta : Int32) : Int32 × js_S :=
  let c := jc_cu s 40
  let aim := (nI (jc_place c.1 (c.2 - 1) 0)).toInt64 + delta.toInt64
  if aim < 0 ∨ lN c.2 ≤ aim then (-7, c.1) else
    let t := c.1 20 (ix aim.toInt32)
    (t, js_up (jc_mv c.1 t 40) 21 0 t)
def jc_detach (s : js_S) (n : Int32) : Int32 × js_S :=
  if n = 0 then (-3, s) else if jc_shownEntry s n (s 21 0) = -1 then (-4, s) else
  (jc_settle (jc_gone (jc_takeOut s (s 15 (ix (jc_shownEntry s n (s 21 0)))))) 21 0, jc_settle (jc_gone (jc_takeOut s (s 15 (ix (jc_shownEntry s n (s 21 0)))))))
def jc_url (s : js_S) (n : Int32) : Int32 := if jc_shownEntry s n (s 21 0) = -1 then -4 else s 17 (ix (jc_shownEntry s n (s 21 0)))
def jc_state (s : js_S) (n : Int32) : Int64 := if jc_shownEntry s n (s 21 0) = -1 then 1099511627776 else (s 18 (ix (jc_shownEntry s n (s 21 0)))).toInt64
def jc_step (s : js_S) (n : Int32) : Int32 := if jc_shownEntry s n (s 21 0) = -1 then -4 else s 16 (ix (jc_shownEntry s n (s 21 0)))
def jc_origin (s : js_S) (n : Int32) : Int32 := if jc_shownEntry s n (s 21 0) = -1 then -4 else s 10 (ix (s 19 (ix (jc_shownEntry s n (s 21 0)))))
def jc_numOf (x : Int32) : Int32 := if x = -1 then -7 else x
def jc_frame (s : js_S) (n k : Int32) : Int32 :=
  if jc_shownEntry s n (s 21 0) = -1 then -4 else if k = 0 then jc_numOf (s 12 (ix (s 19 (ix (jc_shownEntry s n (s 21 0)))))) else if k = 1 then jc_numOf (s 13 (ix (s 19 (ix (jc_shownEntry s n (s 21 0)))))) else -7
def jc_entries (s : js_S) (n : Int32) : Int32 := if jc_shownEntry s n (s 21 0) = -1 then -4 else nI (jc_cntO s (s 15 (ix (jc_shownEntry s n (s 21 0)))) 40)
def jc_length (s : js_S) : Int32 × js_S := (nI (jc_cu s 40).2, (jc_cu s 40).1)
def jc_count (s : js_S) (k : Int32) : Int32 :=
  if k = 0 then nI (jc_cntS s (s 21 0) 40) else if k = 1 then nI (jc_cntN s 40) else if k = 2 then nI (jc_cntE s 2147483647 40) else if k = 3 then s 22 0 else if k = 4 then s 23 0 else if k = 5 then s 24 0 else -7
end
section
/-! The reference as functions of a store: array number (or field), row -> value. -/
def jm_frag (x : Int32) : Int32 := if x = -1 then 0 else x - x / 8 * 8
def jm_btw (v lo hi : Int32) : Int32 := js_b (lo ≤ v ∧ v ≤ hi)
def jm_content (s : js_S) (page a b strict : Int32) : Int32 × js_S :=
  if jm_btw page 0 31 = 0 ∨ jm_btw a (-2) 255 = 0 ∨ jm_btw b (-2) 255 = 0 then (0, s)
  else (1, js_up (js_up (js_up (js_up s 0 (ix page) 0) 1 (ix page) a) 2 (ix page) b) 3 (ix page) strict)
def jm_detour (s : js_S) (page url : Int32) : Int32 × js_S :=
  if jm_btw page 0 31 = 0 ∨ jm_btw url 0 255 = 0 then (0, s) else (1, js_up (js_up s 0 (ix page) 1) 1 (ix page) url)
def jm_fault (s : js_S) (page : Int32) : Int32 × js_S := if jm_btw page 0 31 = 0 then (0, s) else (1, js_up s 0 (ix page) 2)
/-- a new opaque origin for the document d -/
def jm_opq (s : js_S) (d : Nat) : js_S := js_up (js_up s 22 0 (s 22 0 + 1)) 11 d (3 + (s 22 0 + 1))
def jm_fd (s : js_S) : Nat → js_S
  | 0 => s
  | k + 1 => if s 0 (ix (s 25 0 / 8)) = 1 then jm_fd (js_up s 25 0 (if s 1 (ix (s 25 0 / 8)) - s 1 (ix (s 25 0 / 8)) / 8 * 8 = 0 then s 1 (ix (s 25 0 / 8)) + (s 25 0 - s 25 0 / 8 * 8) else s 1 (ix (s 25 0 / 8)))) k else s
def jm_mk0 (s : js_S) (d : Nat) : js_S := js_up (js_up (js_up s 10 d 1) 13 d (-1)) 14 d (-1)
def jm_under (s : js_S) (nav : Int32) : Int32 := js_b (0 ≤ s 16 (ix nav) ∧ s 12 (ix (s 16 (ix nav))) ≠ 0)
def jm_mk1 (s : js_S) (d : Nat) (under : Int32) : js_S :=
  if s 0 (ix (s 25 0 / 8)) ≠ 0 then jm_opq (js_up s 12 d 0) d
  else if under ≠ 0 ∨ s 3 (ix (s 25 0 / 8)) ≠ 0 then jm_opq (js_up s 12 d 1) d
  else js_up (js_up s 12 d 0) 11 d (s 25 0 / 64)
def jm_mkB (s : js_S) (d : Nat) (nav url under : Int32) : js_S :=
  if url = -1 then
    (if 0 ≤ s 16 (ix nav) ∧ under = 0 then js_up s 11 d (s 11 (ix (s 16 (ix nav)))) else jm_opq s d)
  else jm_mk1 (jm_fd s 4) d under
/-- make: the document's row is js_free s there 47 0 -/
def jm_make (s : js_S) (nav url : Int32) : js_S :=
  jm_mkB (js_up (js_up (jm_mk0 s (js_free s 10 47 0)) 25 0 url) 12 (js_free s 10 47 0) (jm_under (jm_mk0 s (js_free s 10 47 0)) nav)) (js_free s 10 47 0) nav url (jm_under (jm_mk0 s (js_free s 10 47 0)) nav)
def jm_wr (s : js_S) (e : Nat) (nav step url d : Int32) : js_S :=
  js_up (js_up (js_up (js_up (js_up (js_up s 9 e 1) 4 e nav) 5 e step) 6 e url) 7 e 0) 8 e d
def jm_write (s : js_S) (nav step url d : Int32) : js_S := jm_wr s (js_free s 9 47 0) nav step url d
def jm_ff0 (s : js_S) (d : Int32) (nav : Nat) : js_S :=
  if js_up (js_up s 15 nav 1) 16 nav d 13 (ix d) < 0 then js_up (js_up (js_up s 15 nav 1) 16 nav d) 13 (ix d) (nI nav) else js_up (js_up (js_up s 15 nav 1) 16 nav d) 14 (ix d) (nI nav)
/-- frameFor: the navigable's row is js_free s exists 46 1 -/
def jm_frameFor (s : js_S) (d url step : Int32) : js_S :=
  jm_write (jm_make (jm_ff0 s d (js_free s 15 46 1)) (nI (js_free s 15 46 1)) url) (nI (js_free s 15 46 1)) step (jm_make (jm_ff0 s d (js_free s 15 46 1)) (nI (js_free s 15 46 1)) url 25 0) (nI (js_free (jm_ff0 s d (js_free s 15 46 1)) 10 47 0))
/-- paperOf from row e on, k rows more -/
def jm_po (s : js_S) (nav : Int32) : Nat → Nat → Int32
  | 0, _ => -1
  | k + 1, e => if s 9 e ≠ 0 ∧ s 4 e = nav then s 8 e else jm_po s nav k (e + 1)
def jm_wanted (s : js_S) (url k most : Int32) : Int32 :=
  if url = -1 ∨ s 0 (ix (url / 8)) ≠ 0 ∨ most ≤ k then -2
  else if k = 0 then (if s 1 (ix (url / 8)) = -2 then s 2 (ix (url / 8)) else s 1 (ix (url / 8)))
  else (if s 1 (ix (url / 8)) = -2 then -2 else s 2 (ix (url / 8)))
def jm_lm (s : js_S) (d step : Int32) : js_S :=
  js_up (if jm_wanted s (s 25 0) 0 1 ≠ -2 then jm_frameFor s d (jm_wanted s (s 25 0) 0 1) step else s) 25 0 (s 25 0)
def jm_loadMiddle (s : js_S) (nav url step : Int32) : js_S := jm_lm (jm_make s nav url) (nI (js_free s 10 47 0)) step
def jm_lwi (s : js_S) (f step : Int32) : js_S :=
  if jm_wanted s (s 25 0) 0 1 ≠ -2 then jm_frameFor s (jm_po s f 48 0) (jm_wanted s (s 25 0) 0 1) step else s
def jm_lw (s : js_S) (d to step k : Int32) : js_S :=
  if jm_wanted s to k 2 ≠ -2 then jm_lwi (jm_frameFor s d (jm_wanted s to k 2) step) (nI (js_free s 15 46 1)) step else s
def jm_loadWindow (s : js_S) (url step : Int32) : js_S :=
  js_up (jm_lw (jm_lw (jm_make s 0 url) (nI (js_free s 10 47 0)) (jm_make s 0 url 25 0) step 0) (nI (js_free s 10 47 0)) (jm_make s 0 url 25 0) step 1) 25 0 (jm_make s 0 url 25 0)
/-- deep, from row e on: 1 or 2 -/
def jm_dp (s : js_S) (a : Int32) : Nat → Nat → Int32
  | 0, _ => 2
  | k + 1, e => if s 9 e ≠ 0 ∧ s 4 e = 0 ∧ s 8 e = a then 1 else jm_dp s a k (e + 1)
def jm_deep (s : js_S) (nav : Int32) : Int32 := if nav = 0 then 0 else jm_dp s (s 16 (ix nav)) 48 0
def jm_load (s : js_S) (nav url step : Int32) : js_S :=
  if jm_deep s nav = 0 then jm_loadWindow s url step else if jm_deep s nav = 1 then jm_loadMiddle s nav url step else jm_make s nav url
def jm_keep (s : js_S) (n : Int32) : js_S := if 0 ≤ n then js_up s 20 (ix n) 1 else s
def jm_m0 (s : js_S) : Nat → js_S
  | 0 => s
  | k + 1 => js_up (js_up (js_up (jm_m0 s k) 19 k 0) 20 k (js_b (k = 0))) 17 k (js_b (k = 0))
def jm_me (s : js_S) (e : Nat) : js_S :=
  if s 9 e ≠ 0 ∧ s 20 (ix (s 4 e)) ≠ 0 then
    jm_keep (jm_keep (js_up s 19 (ix (s 8 e)) 1) (js_up s 19 (ix (s 8 e)) 1 13 (ix (s 8 e)))) (jm_keep (js_up s 19 (ix (s 8 e)) 1) (js_up s 19 (ix (s 8 e)) 1 13 (ix (s 8 e))) 14 (ix (s 8 e)))
  else s
def jm_m1 (s : js_S) : Nat → js_S
  | 0 => s
  | e + 1 => jm_me (jm_m1 s e) e
def jm_m2 (s : js_S) : Nat → js_S
  | 0 => s
  | k + 1 => js_up (js_up (js_up (jm_m2 s k) 15 k (js_b (jm_m2 s k 15 k ≠ 0 ∧ jm_m2 s k 20 k ≠ 0))) 10 k (js_b (jm_m2 s k 10 k ≠ 0 ∧ jm_m2 s k 19 k ≠ 0))) 9 k (js_b (jm_m2 s k 9 k ≠ 0 ∧ jm_m2 s k 20 (ix (jm_m2 s k 4 k)) ≠ 0))
/-- presentOf, over the first e rows: the best row, its step -/
def jm_pr (s : js_S) (nav : Int32) : Nat → Int32 × Int32
  | 0 => (0, -1)
  | e + 1 => if s 9 e ≠ 0 ∧ s 4 e = nav ∧ s 5 e ≤ s 21 0 ∧ (jm_pr s nav e).2 < s 5 e then (nI e, s 5 e) else jm_pr s nav e
def jm_presentOf (s : js_S) (nav : Int32) : Int32 := (jm_pr s nav 48).1
def jm_show (s : js_S) (d : Int32) : js_S :=
  let s1 := if 0 ≤ s 13 (ix d) then js_up s 17 (ix (s 13 (ix d))) 1 else s
  if 0 ≤ s1 14 (ix d) then js_up s1 17 (ix (s1 14 (ix d))) 1 else s1
def jm_m3 (s : js_S) : Nat → js_S
  | 0 => s
  | n + 1 => if jm_m3 s n 17 n ≠ 0 then jm_show (jm_m3 s n) (jm_m3 s n 8 (ix (jm_presentOf (jm_m3 s n) (nI n)))) else jm_m3 s n
def jm_mark (s : js_S) : js_S :=
  let a := jm_m1 (jm_m1 (jm_m1 (jm_m0 s 48) 48) 48) 48
  jm_m3 (jm_m3 (jm_m3 (jm_m2 a 48) 48) 48) 48
def jm_isShown (s : js_S) (n : Int32) : Int32 := js_b (0 ≤ n ∧ n ≤ 47 ∧ s 17 (ix n) ≠ 0)
def jm_us (s : js_S) (st : Int32) : Nat → Nat → Int32
  | 0, _ => 0
  | k + 1, e => if s 9 e ≠ 0 ∧ s 5 e = st then 1 else jm_us s st k (e + 1)
def jm_used (s : js_S) (st : Int32) : Int32 := jm_us s st 48 0
/-- settle's loop, at most k times -/
def jm_st (s : js_S) : Nat → js_S
  | 0 => s
  | k + 1 => if 0 < s 21 0 ∧ jm_used s (s 21 0) = 0 then jm_st (js_up s 21 0 (s 21 0 - 1)) k else s
def jm_settle (s : js_S) : js_S := jm_mark (jm_st s (ix (s 21 0)))
def jm_fu (s : js_S) (push : Int32) : Nat → Nat
  | 0 => 0
  | e + 1 => if s 9 e ≠ 0 ∧ (push = 0 ∨ s 5 e ≤ s 21 0) then jm_fu s push e + 1 else jm_fu s push e
def jm_full (s : js_S) (push : Int32) : Int32 := js_b (36 ≤ jm_fu s push 48)
def jm_co (s : js_S) : Nat → js_S
  | 0 => s
  | e + 1 => js_up (jm_co s e) 9 e (js_b (jm_co s e 9 e ≠ 0 ∧ jm_co s e 5 e ≤ jm_co s e 21 0))
def jm_cutOff (s : js_S) : js_S := jm_mark (jm_co s 48)
def jm_fin (s : js_S) (e to state p : Int32) : js_S := jm_settle (jm_mark (js_up (js_up (js_up s 6 (ix e) to) 7 (ix e) state) 8 (ix e) p))
def jm_en2 (s : js_S) (n e to state p push : Int32) : js_S :=
  if push ≠ 0 then
    let s1 := js_up s 21 0 (s 21 0 + 1)
    jm_fin (jm_write s1 n (s1 21 0) to p) (nI (js_free s1 9 47 0)) to state p
  else jm_fin s e to state p
def jm_en1 (s : js_S) (n e url state push d : Int32) : js_S :=
  if d < 0 then
    let s1 := jm_load s n url (if push ≠ 0 then s 21 0 + 1 else s 5 (ix e))
    jm_en2 s1 n e (s1 25 0) state (nI (js_free s 10 47 0)) push
  else jm_en2 s n e url state d push
def jm_enter (s : js_S) (n url state push d : Int32) : js_S :=
  if push ≠ 0 then jm_en1 (jm_cutOff s) n (jm_presentOf (jm_cutOff s) n) url state push d else jm_en1 s n (jm_presentOf s n) url state push d
def jm_within (old url : Int32) : Int32 := js_b (url ≠ -1 ∧ jm_frag url ≠ 0 ∧ old ≠ -1 ∧ old / 8 = url / 8)
def jm_nav (s : js_S) (n url e push : Int32) : js_S :=
  let w := jm_within (s 6 (ix e)) url
  let s1 := if w ≠ 0 ∧ url ≠ s 6 (ix e) then js_up s 24 0 (s 24 0 + 1) else s
  jm_enter s1 n url 0 push (if w ≠ 0 then s1 8 (ix e) else -1)
def jm_navigate (s : js_S) (n url rep : Int32) : Int32 × js_S :=
  if jm_btw url (-1) 255 = 0 then (-3, s) else
  if jm_isShown s n = 0 then (-4, s) else
  if jm_full s (js_b (rep = 0 ∧ url ≠ s 6 (ix (jm_presentOf s n)))) ≠ 0 then (-5, s) else
  (jm_nav s n url (jm_presentOf s n) (js_b (rep = 0 ∧ url ≠ s 6 (ix (jm_presentOf s n)))) 21 0, jm_nav s n url (jm_presentOf s n) (js_b (rep = 0 ∧ url ≠ s 6 (ix (jm_presentOf s n)))))
def jm_rew (s : js_S) (n url state push e : Int32) : js_S := jm_enter s n (if url = -1 then s 6 (ix e) else url) state push (s 8 (ix e))
def jm_forb (old url : Int32) : Bool := decide (url ≠ -1 ∧ (old = -1 ∨ old / 64 ≠ url / 64 ∨ (old / 64 = 3 ∧ old / 8 ≠ url / 8)))
def jm_rewrite (s : js_S) (n url state push : Int32) : Int32 × js_S :=
  if jm_btw url (-1) 255 = 0 then (-3, s) else
  if jm_isShown s n = 0 then (-4, s) else
  if jm_forb (s 6 (ix (jm_presentOf s n))) url = true then (-6, s) else
  if jm_full s push ≠ 0 then (-5, s) else
  (jm_rew s n url state push (jm_presentOf s n) 21 0, jm_rew s n url state push (jm_presentOf s n))
def jm_cu (s : js_S) : Nat → Nat
  | 0 => 0
  | k + 1 => if jm_used s (nI k) ≠ 0 then jm_cu s k + 1 else jm_cu s k
def jm_sa (s : js_S) (n : Int64) : Nat → Nat → Nat → Int32
  | 0, _, _ => -1
  | k + 1, t, b => if jm_used s (nI t) ≠ 0 then (if lN b = n then nI t else jm_sa s n k (t + 1) (b + 1)) else jm_sa s n k (t + 1) b
def jm_stepAt (s : js_S) (n : Int64) : Int32 := jm_sa s n 601 0 0
def jm_g1 (s : js_S) : Nat → js_S
  | 0 => s
  | n + 1 => js_up (jm_g1 s n) 18 n (if jm_g1 s n 17 n ≠ 0 then jm_presentOf (jm_g1 s n) (nI n) else -1)
def jm_gm (s : js_S) (e t : Int32) : js_S :=
  if 0 ≤ e ∧ 0 ≤ t ∧ e ≠ t ∧ s 8 (ix e) = s 8 (ix t) then
    js_up (js_up s 23 0 (s 23 0 + 1)) 24 0 (if jm_frag (s 6 (ix e)) = jm_frag (s 6 (ix t)) then s 24 0 else s 24 0 + 1)
  else s
def jm_g2 (s : js_S) : Nat → js_S
  | 0 => s
  | n + 1 => jm_gm (jm_g2 s n) (if jm_g2 s n 17 n ≠ 0 then jm_presentOf (jm_g2 s n) (nI n) else -1) (jm_g2 s n 18 n)
def jm_go (s : js_S) (delta : Int32) : Int32 × js_S :=
  let to := jm_stepAt s (lN (jm_cu s (ix (s 21 0))) + delta.toInt64)
  if to < 0 then (-7, s) else
    let s2 := jm_g2 (jm_mark (js_up (jm_g1 s 48) 21 0 to)) 48
    (s2 21 0, s2)
def jm_tk (s : js_S) (n : Int32) : js_S :=
  let d := s 16 (ix n)
  let s1 := if s 13 (ix d) = n then js_up s 13 (ix d) (s 14 (ix d)) else s
  js_up s1 14 (ix d) (-1)
def jm_detach (s : js_S) (n : Int32) : Int32 × js_S :=
  if n = 0 then (-3, s) else if jm_isShown s n = 0 then (-4, s) else
  (jm_settle (jm_mark (jm_tk s n)) 21 0, jm_settle (jm_mark (jm_tk s n)))
def jm_url (s : js_S) (n : Int32) : Int32 := if jm_isShown s n ≠ 0 then s 6 (ix (jm_presentOf s n)) else -4
def jm_state (s : js_S) (n : Int32) : Int64 := if jm_isShown s n ≠ 0 then (s 7 (ix (jm_presentOf s n))).toInt64 else 1099511627776
def jm_step (s : js_S) (n : Int32) : Int32 := if jm_isShown s n ≠ 0 then s 5 (ix (jm_presentOf s n)) else -4
def jm_origin (s : js_S) (n : Int32) : Int32 := if jm_isShown s n ≠ 0 then s 11 (ix (s 8 (ix (jm_presentOf s n)))) else -4
def jm_frame (s : js_S) (n k : Int32) : Int32 :=
  if jm_isShown s n = 0 then -4 else
    let d := s 8 (ix (jm_presentOf s n))
    let f := if k = 0 then s 13 (ix d) else if k = 1 then s 14 (ix d) else -1
    if f < 0 then -7 else f
def jm_cntO (s : js_S) (o : Int32) : Nat → Nat
  | 0 => 0
  | e + 1 => if s 9 e ≠ 0 ∧ s 4 e = o then jm_cntO s o e + 1 else jm_cntO s o e
def jm_entries (s : js_S) (n : Int32) : Int32 := if jm_isShown s n ≠ 0 then nI (jm_cntO s n 48) else -4
def jm_length (s : js_S) : Int32 := nI (jm_cu s 601)
def jm_cntF (s : js_S) (f : Nat) : Nat → Nat
  | 0 => 0
  | i + 1 => if s f i ≠ 0 then jm_cntF s f i + 1 else jm_cntF s f i
def jm_count (s : js_S) (k : Int32) : Int32 :=
  if k = 0 then nI (jm_cntF s 17 48) else if k = 1 then nI (jm_cntF s 15 48) else if k = 2 then nI (jm_cntF s 9 48) else if k = 3 then s 23 0 else if k = 4 then s 24 0 else if k = 5 then s 22 0 else -7
end
section
/-! One kind of world for both classes: n cells at ad 0 .. ad (n - 1), their contents a function of the store; contracts, calls and ends in one form. -/
def jx_W (n : Nat) (ad : Nat → Nat) (ce : Nat → va_E) : va_W := (List.range n).map (fun k => (ad k, ce k))
theorem jx_at {n : Nat} {ad : Nat → Nat} {ce : Nat → va_E} {k : Nat} (h : k < n) : (jx_W n ad ce)[k]? = some (ad k, ce k) := by
  simp [jx_W, h]
theorem jx_in {n : Nat} {ad : Nat → Nat} {ce : Nat → va_E} {k : Nat} {q : Nat × va_E} (h : (jx_W n ad ce)[k]? = some q) : k < n ∧ q = (ad k, ce k) := by
  by_cases hk : k < n
  · rw [jx_at hk] at h
    exact ⟨hk, (Option.some.inj h).symm⟩
  · rw [List.getElem?_eq_none (by simp [jx_W]; omega)] at h
    cases h
theorem jx_set {n : Nat} {ad : Nat → Nat} {ce ce' : Nat → va_E} {k : Nat} (hk : k < n) (h : ∀ j, j < n → j ≠ k → ce' j = ce j) : (jx_W n ad ce).set k (ad k, ce' k) = jx_W n ad ce' := by
  apply List.ext_getElem?
  intro j
  by_cases hj : j < n
  · rw [jx_at hj]
    by_cases hjk : j = k
    · subst hjk
      rw [List.getElem?_set_self (by simp [jx_W]; omega)]
    · rw [List.getElem?_set_ne (Ne.symm hjk), jx_at hj, h j hj hjk]
  · rw [List.getElem?_eq_none (by simp [jx_W]; omega), List.getElem?_eq_none (by simp [jx_W]; omega)]
def jx_A (n : Nat) (ad : Nat → Nat) (sz : Nat) : Nat → Prop := fun q => (∃ k, k < n ∧ q = ad k) ∨ sz ≤ q
theorem jx_D {n : Nat} {ad : Nat → Nat} {ce : Nat → va_E} {A : Nat → Prop} {sz : Nat} (h : va_D A (jx_W n ad ce)) : va_D (jx_A n ad sz) (jx_W n ad ce) :=
  ⟨h.1, fun k q hk => Or.inl ⟨k, (jx_in hk).1, by rw [(jx_in hk).2]⟩⟩
/-- va_D speaks of addresses alone -/
theorem jx_Dce {n : Nat} {ad : Nat → Nat} {ce ce' : Nat → va_E} {A : Nat → Prop} (h : va_D A (jx_W n ad ce)) : va_D A (jx_W n ad ce') := by
  refine ⟨fun i j p q hp hq e => ?_, fun k q hk => ?_⟩
  · obtain ⟨hi, rfl⟩ := jx_in hp
    obtain ⟨hj, rfl⟩ := jx_in hq
    exact h.1 i j (ad i, ce i) (ad j, ce j) (jx_at hi) (jx_at hj) e
  · obtain ⟨hi, rfl⟩ := jx_in hk
    exact h.2 k (ad k, ce k) (jx_at hi)
theorem jx_Aof {n : Nat} {ad : Nat → Nat} {ce : Nat → va_E} {A : Nat → Prop} (h : va_D A (jx_W n ad ce)) {k : Nat} (hk : k < n) : A (ad k) := h.2 k _ (jx_at hk)
theorem jx_inj {n : Nat} {ad : Nat → Nat} {ce : Nat → va_E} {A : Nat → Prop} (h : va_D A (jx_W n ad ce)) {i j : Nat} (hi : i < n) (hj : j < n) (e : ad i = ad j) : i = j := h.1 i j _ _ (jx_at hi) (jx_at hj) e
abbrev jk_En (aK : Nat → Nat) (A : Nat → Prop) (U : State) (H : Heap) : Prop := va_En "JointHistory$Kind" "LJointHistory$Kind;" ["CONTENT", "DETOUR", "FAULT"] [] aK A U H
/-- what stands fast in a method's body -/
def jx_C (p : Program) (s : State) (m : MethodId) (args : Array Value) (c : Code) (cc : ByteArray) (nL : Nat) (own : String) (D : va_G) (tys : List (ClassId × FieldType)) (aK : Nat → Nat) (A : Nat → Prop) : Prop :=
  p.tables.exec = Jvm.exec ∧ c.code = cc ∧ c.maxLocals = nL ∧ s.vm.findClass own = some m.cls ∧ (∀ w ∈ jw_all, w.before args s = true) ∧ va_K D classes tys s ∧ jk_En aK A s s.heap ∧ (∀ q, s.heap.size ≤ q → A q)
/-- the world now -/
def jx_H (D : va_G) (n : Nat) (ad : Nat → Nat) (ce : Nat → va_E) (A : Nat → Prop) (H0 H : Heap) (locs : List Loc) : Prop := va_P D classes (jx_W n ad ce) H ∧ va_D A (jx_W n ad ce) ∧ va_S A H0 H locs
def jx_Qc {ρ : Type} (enc : ρ → Option Value) (post : ρ → js_S → Prop) (D : va_G) (n : Nat) (ad : Nat → Nat) (ce : js_S → Nat → va_E) (A : Nat → Prop) : Array Value → State → Outcome → State → Prop := fun _ st oc t =>
  (∃ (r : ρ) (u : js_S), oc = .returned (enc r) ∧ post r u ∧ va_P D classes (jx_W n ad (ce u)) t.heap) ∧ va_F A st t
def jx_Pc (D : va_G) (tys : List (ClassId × FieldType)) (aK : Nat → Nat) (n : Nat) (ad : Nat → Nat) (ce : Nat → va_E) (sz : Nat) (av : List Value) : Array Value → State → Prop :=
  va_Pc av (fun U => U.heap.size = sz ∧ va_P D classes (jx_W n ad ce) U.heap ∧ va_D (fun _ => True) (jx_W n ad ce) ∧ va_K D classes tys U ∧ jk_En aK (jx_A n ad sz) U U.heap)
def jx_M {ρ : Type} (l : Launch) (y : MethodName) (b : ByteArray) (nL : Nat) (ret : Option FieldType) (rm : Room) (D : va_G) (tys : List (ClassId × FieldType)) (aK : Nat → Nat) (n : Nat) (ad : Nat → Nat) (ce : js_S → Nat → va_E) (av : List Value) (u : js_S) (enc : ρ → Option Value) (post : ρ → js_S → Prop) : Prop :=
  ∀ sz, Met l y (.code y b nL ret :: jw_all) rm (jx_Pc D tys aK n ad (ce u) sz av) (jx_Qc enc post D n ad ce (jx_A n ad sz)) 0 0 (jx_A n ad sz)
/-- room for k calls one in the other -/
def jr (k : Nat) : Room := { frames := k, cells := 0, slots := 0, locals := 40 * k }
theorem jx_enter {ρ : Type} {l : Launch} {y : MethodName} {b : ByteArray} {nL : Nat} {ret : Option FieldType} {rm : Room} {D : va_G} {tys : List (ClassId × FieldType)} {aK : Nat → Nat} {n : Nat} {ad : Nat → Nat} {ce : js_S → Nat → va_E} {av : List Value} {u : js_S} {enc : ρ → Option Value} {post : ρ → js_S → Prop} (own : String)
    (hy : plainName y.cls = true) (ho : y.cls = own) (hn : (lg_sl av).length ≤ nL)
    (body : ∀ (p : Program) (e : Env) (s : State) (m : MethodId) (args : Array Value) (below : List Frame) (meth : Method) (c : Code) (A : Nat → Prop) (Q : State → Prop) (ls : Array Slot), Q = MQ below (jx_Qc enc post D n ad ce A) args s 0 0 A → jx_C p s m args c b nL own D tys aK A → jx_H D n ad (ce u) A s.heap s.heap [] → meth.sig.returnType = ret → meth.locks = false → lv_has ls nL (lv_args 0 av) →
      W p l e rm s m args below meth c s.heap [] 0 0 Q (F0 m 0 ls [])) : jx_M l y b nL ret rm D tys aK n ad ce av u enc post := by
  intro sz
  refine Met.ofW (cc := b) (maxL := nL) (ret := ret) hy rfl ?_
  intro p e s m args below meth c s₁ B hml hv
  obtain ⟨rfl, hsz, hP, hD0, hK, hE⟩ := hv
  subst hsz
  have hts := atoms_spec (ws := .code y b nL ret :: jw_all) B.pre
  have hown : s.vm.findClass y.cls = some m.cls := findClass_of_methodNamed B.named
  have hl := lv_entry av (n := nL) hn
  rw [lg_entry_eq]
  exact body p e s m _ below meth c (jx_A n ad s.heap.size) _ _ rfl ⟨B.exec, B.bytes, hml, by rw [← ho]; exact hown, fun w hw => hts w (List.mem_cons_of_mem _ hw), hK, hE, fun q hq => Or.inr hq⟩ ⟨hP, jx_D hD0, va_S.rf⟩ B.returns B.notSynchronized hl
section JXR
variable {p : Program} {l : Launch} {e : Env} {R : Room} {s : State} {m : MethodId} {args : Array Value} {below : List Frame} {meth : Method} {c : Code} {H : Heap} {locs : List Loc} {cells slots : Nat} {Q : State → Prop} {cc : ByteArray} {pc nL : Nat} {ls : Array Slot} {rest : List Value} {own : String} {D : va_G} {tys : List (ClassId × FieldType)} {aK : Nat → Nat} {n : Nat} {ad : Nat → Nat} {ce : js_S → Nat → va_E} {A : Nat → Prop} {u : js_S}
theorem jx_iret {ρ : Type} {enc : ρ → Option Value} {post : ρ → js_S → Prop} (hc : jx_C p s m args c cc nL own D tys aK A) (hh : jx_H D n ad (ce u) A s.heap H locs) (hQ : Q = MQ below (jx_Qc enc post D n ad ce A) args s cells slots A) (hlk : meth.locks = false) {r : ρ} {v : Int32} {ty : FieldType} (hr : meth.sig.returnType = some ty) (hn : narrow ty (.int v) = .int v) (he : enc r = some (.int v)) (hp : post r u) (hdg : decode cc pc = .ok (.ireturn, 1)) :
    W p l e R s m args below meth c H locs cells slots Q (F0 m pc ls [.int v]) := by
  subst hQ
  exact W.zret hc.1 hc.2.1 hr hn (fun t ht _ => ⟨⟨r, u, by rw [he], hp, by rw [ht]; exact hh.1⟩, hh.2.2.F ht⟩) hh.2.2.2.2 hdg hlk
theorem jx_lret {ρ : Type} {enc : ρ → Option Value} {post : ρ → js_S → Prop} (hc : jx_C p s m args c cc nL own D tys aK A) (hh : jx_H D n ad (ce u) A s.heap H locs) (hQ : Q = MQ below (jx_Qc enc post D n ad ce A) args s cells slots A) (hlk : meth.locks = false) {r : ρ} {v : Int64} (hr : meth.sig.returnType = some .long) (he : enc r = some (.long v)) (hp : post r u) (hdg : decode cc pc = .ok (.lreturn, 1)) :
    W p l e R s m args below meth c H locs cells slots Q (F0 m pc ls [.long v]) := by
  subst hQ
  exact W.lret hc.1 hc.2.1 hr (fun t ht _ => ⟨⟨r, u, by rw [he], hp, by rw [ht]; exact hh.1⟩, hh.2.2.F ht⟩) hh.2.2.2.2 hdg hlk
theorem jx_vret {ρ : Type} {enc : ρ → Option Value} {post : ρ → js_S → Prop} (hc : jx_C p s m args c cc nL own D tys aK A) (hh : jx_H D n ad (ce u) A s.heap H locs) (hQ : Q = MQ below (jx_Qc enc post D n ad ce A) args s cells slots A) (hlk : meth.locks = false) {r : ρ} (hr : meth.sig.returnType = none) (he : enc r = none) (hp : post r u) (hdg : decode cc pc = .ok (.return_, 1)) :
    W p l e R s m args below meth c H locs cells slots Q (F0 m pc ls []) := by
  subst hQ
  exact W.vret hc.1 hc.2.1 hr (fun t ht _ => ⟨⟨r, u, by rw [he], hp, by rw [ht]; exact hh.1⟩, hh.2.2.F ht⟩) hh.2.2.2.2 hdg hlk
theorem jx_aret {ρ : Type} {enc : ρ → Option Value} {post : ρ → js_S → Prop} (hc : jx_C p s m args c cc nL own D tys aK A) (hh : jx_H D n ad (ce u) A s.heap H locs) (hQ : Q = MQ below (jx_Qc enc post D n ad ce A) args s cells slots A) (hlk : meth.locks = false) {r : ρ} {v : Value} {C : String} (hr : meth.sig.returnType = some (.object C)) (hv : v = .null ∨ ∃ a, v = .ref a) (he : enc r = some v) (hp : post r u) (hdg : decode cc pc = .ok (.areturn, 1)) :
    W p l e R s m args below meth c H locs cells slots Q (F0 m pc ls [v]) := by
  subst hQ
  exact W.aret hc.1 hc.2.1 hr (Or.inl ⟨C, rfl⟩) hv (fun t ht _ => ⟨⟨r, u, by rw [he], hp, by rw [ht]; exact hh.1⟩, hh.2.2.F ht⟩) hh.2.2.2.2 hdg hlk
/-- behind a call of a contract in this form -/
theorem jx_go {ρ : Type} {enc : ρ → Option Value} {post : ρ → js_S → Prop} {st0 : List Value} {a : Array Value} {A0 A1 : Nat → Prop} {H0 : Heap} {free : Addr → Prop} (hr : va_Run p l e R s m args below meth c H locs cells slots 0 0 (F0 m pc ls st0) rest (jx_Qc enc post D n ad ce A1 a) free) (hS : va_S A0 H0 H locs) (hA : ∀ q, q < H.size → A1 q → A0 q) (hf : ∀ q, free q → A0 q)
    (kk : ∀ (r : ρ) (u' : js_S) (H1 : Heap) (locs1 : List Loc), post r u' → va_P D classes (jx_W n ad (ce u')) H1 → H.size ≤ H1.size → (∀ q : Nat, q < H.size → ¬ A1 q → H1[q]? = H[q]?) → va_S A0 H0 H1 locs1 → W p l e R s m args below meth c H1 locs1 cells slots Q (F0 m (pc + 3) ls ((enc r).toList ++ rest))) : W p l e R s m args below meth c H locs cells slots Q (F0 m pc ls st0) := by
  intro T hT X
  obtain ⟨v, st₀, t, T', L, h0, X', hL, e1, e2, ⟨⟨r, u', hv, hp, hb⟩, hz, hk⟩, st⟩ := hr T hT X
  cases hv
  rw [h0] at hz hk
  obtain ⟨t2, a1, b1⟩ := kk r u' T'.heap (locs ++ L) hp (by rw [e1]; exact hb) (by rw [e1]; exact hz) (fun q h1 h2 => by rw [e1]; exact hk q h1 h2)
    ⟨Nat.le_trans hS.1 (by rw [e1]; exact hz), fun q h1 h2 => by rw [e1, hk q (Nat.lt_of_lt_of_le h1 hS.1) (fun z => h2 (hA q (Nat.lt_of_lt_of_le h1 hS.1) z))]; exact hS.2.1 q h1 h2, fun q hq => by
      rcases List.mem_append.mp hq with h | h
      · exact hS.2.2 q h
      · exact hf _ (hL q h)⟩ T' rfl X'
  exact ⟨t2, st t2 a1, b1⟩
end JXR
def jx_Y (own : String) (idx : Nat) (y : MethodName) (b : ByteArray) (nL : Nat) (ret : Option FieldType) (k : Nat) : Prop :=
  Cond.code y b nL ret ∈ jw_all ∧ Cond.methodLink own idx y ∈ jw_all ∧ Cond.initialized y.cls ∈ jw_all ∧ y.cls ≠ "java/lang/invoke/MethodHandle" ∧ y.cls ≠ "java/lang/invoke/VarHandle" ∧ (parseMethodDescriptor y.desc).map (fun d => d.parameters.length) = some k
def jx_YV (own : String) (idx : Nat) (y : MethodName) (b : ByteArray) (nL : Nat) (ret : Option FieldType) (k : Nat) : Prop :=
  jx_Y own idx y b nL ret k ∧ Cond.instanceMethod y ∈ jw_all ∧ Cond.selects y.cls y y ∈ jw_all
def jx_YS (own : String) (idx : Nat) (y : MethodName) (b : ByteArray) (nL : Nat) (ret : Option FieldType) (k : Nat) : Prop :=
  jx_Y own idx y b nL ret k ∧ Cond.static y ∈ jw_all
theorem jx_good {y : MethodName} {b : ByteArray} {nL : Nat} {ret : Option FieldType} (h : Cond.code y b nL ret ∈ jw_all) : GoodIn jw_all (Cond.code y b nL ret :: jw_all) := by
  intro w hw
  rcases List.mem_cons.mp hw with rfl | hw
  · exact ⟨h, jw_good _ h⟩
  · exact ⟨hw, jw_good _ hw⟩
theorem jx_blind {D : va_G} {tys : List (ClassId × FieldType)} {aK : Nat → Nat} {n : Nat} {ad : Nat → Nat} {ce : Nat → va_E} {sz : Nat} {av : List Value} : FrameBlind (jx_Pc D tys aK n ad ce sz av) := by
  intro a U g mk q
  obtain ⟨q0, q1, qP, qD, qK, qE⟩ := q
  exact ⟨q0, q1, qP, qD, va_K.moved (u := U) (U := U.calling g mk a) (Vm.Alike.refl U.vm) qK, va_En.moved (u := U) (U := U.calling g mk a) (Vm.Alike.refl U.vm) qE⟩
section JXC
variable {p : Program} {l : Launch} {e : Env} {R : Room} {s : State} {m : MethodId} {args : Array Value} {below : List Frame} {meth : Method} {c : Code} {H : Heap} {locs : List Loc} {cells slots : Nat} {Q : State → Prop} {cc : ByteArray} {pc nL : Nat} {ls : Array Slot} {own : String} {D : va_G} {tys : List (ClassId × FieldType)} {aK : Nat → Nat} {n : Nat} {ad : Nat → Nat} {ce : js_S → Nat → va_E} {A : Nat → Prop} {u : js_S}
theorem jx_sub (hc : jx_C p s m args c cc nL own D tys aK A) {ce : Nat → va_E} (hh : jx_H D n ad ce A s.heap H locs) : ∀ q, jx_A n ad H.size q → A q := by
  intro q h
  rcases h with ⟨k, hk, rfl⟩ | h
  · exact jx_Aof hh.2.1 hk
  · exact hc.2.2.2.2.2.2.2 q (Nat.le_trans hh.2.2.1 h)
theorem jx_pre (hc : jx_C p s m args c cc nL own D tys aK A) {ce : Nat → va_E} (hh : jx_H D n ad ce A s.heap H locs) {av : List Value} : ∀ U : State, U.heap = H → s.WarmedH U.vm → jx_Pc D tys aK n ad ce H.size av av.toArray U := by
  intro U hU hW
  refine ⟨rfl, by rw [hU], by rw [hU]; exact hh.1, ⟨hh.2.1.1, fun _ _ _ => trivial⟩, va_K.moved hW.alike hc.2.2.2.2.2.1, ?_⟩
  rw [hU]
  exact ((hc.2.2.2.2.2.2.1.kept hh.2.2.2.1).narrow (jx_sub hc hh)).moved hW.alike
theorem jx_callV {ρ : Type} {enc : ρ → Option Value} {post : ρ → js_S → Prop} {y : MethodName} {b : ByteArray} {nL' idx k : Nat} {ret : Option FieldType} {rm : Room} {st : List Value} (As rest : List Value) (hc : jx_C p s m args c cc nL own D tys aK A) (hh : jx_H D n ad (ce u) A s.heap H locs)
    (hM : jx_M l y b nL' ret rm D tys aK n ad ce (.ref (ad 0) :: As) u enc post) (hY : jx_YV own idx y b nL' ret k) {ci N : Nat} {T : u_T} {fs : List Value} (h0 : 0 < n ∧ ce u 0 = .inr (ci, fs) ∧ classes[ci]? = some (y.cls, T, N))
    (hrm : rm.cells = 0 ∧ rm.slots = 0 ∧ rm.frames + 1 ≤ R.frames ∧ 8 + (nL' + 11) + rm.locals ≤ R.locals) (hk : As.length = k) (hls : ls.size = nL) (hst : st = As.reverse ++ .ref (ad 0) :: rest) (hro : (rest.map fun v => v.category).sum ≤ 8) (hcs : cells ≤ R.cells ∧ slots ≤ R.slots) (hdg : decode cc pc = .ok (.invokevirtual idx, 3))
    (kk : ∀ (r : ρ) (u' : js_S) (H1 : Heap) (locs1 : List Loc), post r u' → jx_H D n ad (ce u') A s.heap H1 locs1 → H.size ≤ H1.size → (∀ q : Nat, q < H.size → ¬ jx_A n ad H.size q → H1[q]? = H[q]?) → W p l e R s m args below meth c H1 locs1 cells slots Q (F0 m (pc + 3) ls ((enc r).toList ++ rest))) : W p l e R s m args below meth c H locs cells slots Q (F0 m pc ls st) := by
  subst hst
  obtain ⟨⟨y1, y2, y3, y4, y5, y6⟩, y7, y8⟩ := hY
  have hts := hc.2.2.2.2.1
  have hcell : ∃ cellB : Cell, H[ad 0]? = some cellB ∧ cellB.vm.isStatics = false ∧ s.vm.findClass y.cls = some cellB.cls := by
    obtain ⟨r, h1, cell, q1, q2, q3, q4⟩ := hh.1 0 _ (by rw [jx_at h0.1, h0.2.1])
    obtain ⟨-, hfc, -⟩ := hc.2.2.2.2.2.1.1 ci _ h0.2.2
    exact ⟨cell, q1, by rw [q3]; rfl, by rw [q2]; exact hfc⟩
  refine jx_go (rest := rest) (va_runV (n := k) (C := y.cls) (nL := nL) (Ts := jw_all) (own := own) (As := As) ⟨hc.1, hc.2.1, hc.2.2.1, hc.2.2.2.1, hts⟩ (hM H.size) ⟨callB_of k hts (jx_good y1) rfl hrm.1 hrm.2.1 (hts _ y3) (hts _ y2) ⟨y4, y5, y6⟩ hrm.2.2, hts _ y7, hts _ y8⟩ ⟨jx_blind, hcell, jx_pre hc hh⟩ rfl hk hls rfl (lv_room hro) hdg hcs) hh.2.2 (fun q _ h => jx_sub hc hh q h) (jx_sub hc hh) ?_
  intro r u' H1 locs1 hp hP1 hz hk1 hS1
  exact kk r u' H1 locs1 hp ⟨hP1, jx_Dce hh.2.1, hS1⟩ hz hk1
theorem jx_callS {ρ : Type} {enc : ρ → Option Value} {post : ρ → js_S → Prop} {y : MethodName} {b : ByteArray} {nL' idx k : Nat} {ret : Option FieldType} {rm : Room} {st : List Value} (As rest : List Value) (hc : jx_C p s m args c cc nL own D tys aK A) (hh : jx_H D n ad (ce u) A s.heap H locs)
    (hM : jx_M l y b nL' ret rm D tys aK n ad ce As u enc post) (hY : jx_YS own idx y b nL' ret k)
    (hrm : rm.cells = 0 ∧ rm.slots = 0 ∧ rm.frames + 1 ≤ R.frames ∧ 8 + (nL' + 11) + rm.locals ≤ R.locals) (hk : As.length = k) (hls : ls.size = nL) (hst : st = As.reverse ++ rest) (hro : (rest.map fun v => v.category).sum ≤ 8) (hcs : cells ≤ R.cells ∧ slots ≤ R.slots) (hdg : decode cc pc = .ok (.invokestatic idx, 3))
    (kk : ∀ (r : ρ) (u' : js_S) (H1 : Heap) (locs1 : List Loc), post r u' → jx_H D n ad (ce u') A s.heap H1 locs1 → H.size ≤ H1.size → (∀ q : Nat, q < H.size → ¬ jx_A n ad H.size q → H1[q]? = H[q]?) → W p l e R s m args below meth c H1 locs1 cells slots Q (F0 m (pc + 3) ls ((enc r).toList ++ rest))) : W p l e R s m args below meth c H locs cells slots Q (F0 m pc ls st) := by
  subst hst
  obtain ⟨⟨y1, y2, y3, y4, y5, y6⟩, y7⟩ := hY
  have hts := hc.2.2.2.2.1
  refine jx_go (rest := rest) (va_runS (n := k) (nL := nL) (Ts := jw_all) (own := own) (As := As) ⟨hc.1, hc.2.1, hc.2.2.1, hc.2.2.2.1, hts⟩ (hM H.size) ⟨callB_of k hts (jx_good y1) rfl hrm.1 hrm.2.1 (hts _ y3) (hts _ y2) ⟨y4, y5, y6⟩ hrm.2.2, hts _ y7⟩ ⟨jx_blind, jx_pre hc hh⟩ rfl hk hls rfl (lv_room hro) hdg hcs) hh.2.2 (fun q _ h => jx_sub hc hh q h) (jx_sub hc hh) ?_
  intro r u' H1 locs1 hp hP1 hz hk1 hS1
  exact kk r u' H1 locs1 hp ⟨hP1, jx_Dce hh.2.1, hS1⟩ hz hk1
end JXC
end
section
/-! References by the number of their row, -1 for null; the class's cells. -/
def jv (ad : Nat → Nat) (off : Nat) (x : Int32) : Value := va_rf (if x = -1 then none else some (ad (off + ix x)))
/-- a number of a row, or -1 -/
def jq (n : Nat) (x : Int32) : Prop := x = -1 ∨ ∃ i, i < n ∧ x = nI i
theorem jv_null {ad : Nat → Nat} {off : Nat} : jv ad off (-1) = .null := by simp [jv, va_rf]
theorem jv_ref {ad : Nat → Nat} {off : Nat} {x : Int32} (h : ¬ x = -1) : jv ad off x = .ref (ad (off + ix x)) := by simp [jv, va_rf, h]
theorem nI_m1 {i : Nat} (h : i < 2 ^ 31) : ¬ nI i = -1 := fun e => nI_pos h (by rw [e]; decide)
theorem jv_nI {ad : Nat → Nat} {off i : Nat} (h : i < 2 ^ 31) : jv ad off (nI i) = .ref (ad (off + i)) := by rw [jv_ref (nI_m1 h), ix_nI h]
theorem jv_or (ad : Nat → Nat) (off : Nat) (x : Int32) : jv ad off x = .null ∨ ∃ a, jv ad off x = .ref a := va_rf_or _
theorem jv_cat (ad : Nat → Nat) (off : Nat) (x : Int32) : (jv ad off x).category = 1 := by
  rcases jv_or ad off x with h | ⟨a, h⟩ <;> rw [h] <;> rfl
theorem jq_nI {n i : Nat} (h : i < n) : jq n (nI i) := Or.inr ⟨i, h, rfl⟩
theorem jq_m1 {n : Nat} : jq n (-1) := Or.inl rfl
theorem jq_ne {n : Nat} {x : Int32} (h : jq n x) (hx : ¬ x = -1) : ∃ i, i < n ∧ x = nI i := h.resolve_left hx
theorem jv_inj {ad : Nat → Nat} {off n : Nat} (hn : n < 2 ^ 31) (hi : ∀ i j, i < n → j < n → ad (off + i) = ad (off + j) → i = j) {x y : Int32} (hx : jq n x) (hy : jq n y) : ((if x = -1 then none else some (ad (off + ix x)) : Option Nat) = (if y = -1 then none else some (ad (off + ix y)))) ↔ x = y := by
  rcases hx with rfl | ⟨i, h1, rfl⟩ <;> rcases hy with rfl | ⟨j, h2, rfl⟩
  · simp
  · simp [nI_m1 (show j < 2 ^ 31 by omega), Ne.symm (nI_m1 (show j < 2 ^ 31 by omega))]
  · simp [nI_m1 (show i < 2 ^ 31 by omega)]
  · rw [if_neg (nI_m1 (show i < 2 ^ 31 by omega)), if_neg (nI_m1 (show j < 2 ^ 31 by omega)), ix_nI (show i < 2 ^ 31 by omega), ix_nI (show j < 2 ^ 31 by omega)]
    constructor
    · intro h
      rw [hi i j h1 h2 (Option.some.inj h)]
    · intro h
      rw [(nI_eq (show i < 2 ^ 31 by omega) (show j < 2 ^ 31 by omega)).mp h]
section JV
variable {p : Program} {l : Launch} {e : Env} {R : Room} {s : State} {m : MethodId} {args : Array Value} {below : List Frame} {meth : Method} {c : Code} {H : Heap} {locs : List Loc} {cells slots : Nat} {Q : State → Prop} {cc : ByteArray} {pc : Nat} {ls : Array Slot} {rest : List Value} {ad : Nat → Nat} {off : Nat}
theorem jv_aload_n (hexec : p.tables.exec = Jvm.exec) (hb : c.code = cc) {k : Fin 4} {i : Nat} {x : Int32} (hdg : decode cc pc = .ok (.aload_n k, 1)) (hi : (k : Nat) = i) (hl : ls[i]? = some (.val (jv ad off x)))
    (kk : W p l e R s m args below meth c H locs cells slots Q (F0 m (pc + 1) ls (jv ad off x :: rest))) : W p l e R s m args below meth c H locs cells slots Q (F0 m pc ls rest) := by
  rcases jv_or ad off x with h | ⟨a, h⟩ <;> rw [h] at hl kk
  · exact lv_aload_nN hexec hb hdg hi hl kk
  · exact lv_aload_n hexec hb hdg hi hl kk
theorem jv_aload (hexec : p.tables.exec = Jvm.exec) (hb : c.code = cc) {i : Nat} {x : Int32} (hdg : decode cc pc = .ok (.aload i, 2)) (hl : ls[i]? = some (.val (jv ad off x)))
    (kk : W p l e R s m args below meth c H locs cells slots Q (F0 m (pc + 2) ls (jv ad off x :: rest))) : W p l e R s m args below meth c H locs cells slots Q (F0 m pc ls rest) := by
  rcases jv_or ad off x with h | ⟨a, h⟩ <;> rw [h] at hl kk
  · exact lv_aloadN hexec hb hdg hl kk
  · exact lv_aload hexec hb hdg hl kk
theorem jv_astore_n (hexec : p.tables.exec = Jvm.exec) (hb : c.code = cc) {k : Fin 4} {i nL : Nat} {x : Int32} {lv lv' : List (Nat × Value)} (hdg : decode cc pc = .ok (.astore_n k, 1)) (hi : (k : Nat) = i) (h : lv_has ls nL lv) (hn : i < nL) (hl : (i, jv ad off x) :: lv.filter (fun q => !(q.1 == i) && !(q.1 + 1 == i && q.2.category == 2)) = lv')
    (kk : ∀ ls' : Array Slot, lv_has ls' nL lv' → W p l e R s m args below meth c H locs cells slots Q (F0 m (pc + 1) ls' rest)) : W p l e R s m args below meth c H locs cells slots Q (F0 m pc ls (jv ad off x :: rest)) := by
  rcases jv_or ad off x with h9 | ⟨a, h9⟩ <;> rw [h9] at hl ⊢
  · exact lv_astore_nN hexec hb hdg hi h hn hl kk
  · exact lv_astore_n hexec hb hdg hi h hn hl kk
theorem jv_astore (hexec : p.tables.exec = Jvm.exec) (hb : c.code = cc) {i nL : Nat} {x : Int32} {lv lv' : List (Nat × Value)} (hdg : decode cc pc = .ok (.astore i, 2)) (h : lv_has ls nL lv) (hn : i < nL) (hl : (i, jv ad off x) :: lv.filter (fun q => !(q.1 == i) && !(q.1 + 1 == i && q.2.category == 2)) = lv')
    (kk : ∀ ls' : Array Slot, lv_has ls' nL lv' → W p l e R s m args below meth c H locs cells slots Q (F0 m (pc + 2) ls' rest)) : W p l e R s m args below meth c H locs cells slots Q (F0 m pc ls (jv ad off x :: rest)) := by
  rcases jv_or ad off x with h9 | ⟨a, h9⟩ <;> rw [h9] at hl ⊢
  · exact lv_astoreN hexec hb hdg h hn hl kk
  · exact lv_astore hexec hb hdg h hn hl kk
theorem jv_ifnull (hexec : p.tables.exec = Jvm.exec) (hb : c.code = cc) {x : Int32} {o : Int} {tgt : Nat} (hdg : decode cc pc = .ok (.ifnull o, 3)) (ht : (pc : Int) + o = (tgt : Int))
    (kt : x = -1 → W p l e R s m args below meth c H locs cells slots Q (F0 m tgt ls rest)) (kf : ¬ x = -1 → W p l e R s m args below meth c H locs cells slots Q (F0 m (pc + 3) ls rest)) : W p l e R s m args below meth c H locs cells slots Q (F0 m pc ls (jv ad off x :: rest)) := by
  by_cases h : x = -1
  · have k := kt h
    subst h
    rw [jv_null]
    exact lv_ifnullN hexec hb hdg ht k
  · rw [jv_ref h]
    exact lv_ifnull hexec hb hdg (kf h)
theorem jv_ifnonnull (hexec : p.tables.exec = Jvm.exec) (hb : c.code = cc) {x : Int32} {o : Int} {tgt : Nat} (hdg : decode cc pc = .ok (.ifnonnull o, 3)) (ht : (pc : Int) + o = (tgt : Int))
    (kt : ¬ x = -1 → W p l e R s m args below meth c H locs cells slots Q (F0 m tgt ls rest)) (kf : x = -1 → W p l e R s m args below meth c H locs cells slots Q (F0 m (pc + 3) ls rest)) : W p l e R s m args below meth c H locs cells slots Q (F0 m pc ls (jv ad off x :: rest)) := by
  by_cases h : x = -1
  · have k := kf h
    subst h
    rw [jv_null]
    exact lv_ifnonnullN hexec hb hdg k
  · rw [jv_ref h]
    exact lv_ifnonnull hexec hb hdg ht (kt h)
theorem jv_acmp_ne (hexec : p.tables.exec = Jvm.exec) (hb : c.code = cc) {x y : Int32} {o : Int} {tgt n : Nat} (hn : n < 2 ^ 31) (hi : ∀ i j, i < n → j < n → ad (off + i) = ad (off + j) → i = j) (hx : jq n x) (hy : jq n y) (hdg : decode cc pc = .ok (.if_acmp .ne o, 3)) (ht : (pc : Int) + o = (tgt : Int))
    (kt : ¬ x = y → W p l e R s m args below meth c H locs cells slots Q (F0 m tgt ls rest)) (kf : x = y → W p l e R s m args below meth c H locs cells slots Q (F0 m (pc + 3) ls rest)) : W p l e R s m args below meth c H locs cells slots Q (F0 m pc ls (jv ad off y :: jv ad off x :: rest)) :=
  lv_acmp_ne hexec hb hdg ht (fun h => kt (fun e => h ((jv_inj hn hi hx hy).mpr e))) (fun h => kf ((jv_inj hn hi hx hy).mp h))
theorem jv_acmp_eq (hexec : p.tables.exec = Jvm.exec) (hb : c.code = cc) {x y : Int32} {o : Int} {tgt n : Nat} (hn : n < 2 ^ 31) (hi : ∀ i j, i < n → j < n → ad (off + i) = ad (off + j) → i = j) (hx : jq n x) (hy : jq n y) (hdg : decode cc pc = .ok (.if_acmp .eq o, 3)) (ht : (pc : Int) + o = (tgt : Int))
    (kt : x = y → W p l e R s m args below meth c H locs cells slots Q (F0 m tgt ls rest)) (kf : ¬ x = y → W p l e R s m args below meth c H locs cells slots Q (F0 m (pc + 3) ls rest)) : W p l e R s m args below meth c H locs cells slots Q (F0 m pc ls (jv ad off y :: jv ad off x :: rest)) :=
  lv_acmp_eq hexec hb hdg ht (fun h => kt ((jv_inj hn hi hx hy).mp h)) (fun h => kf (fun e => h ((jv_inj hn hi hx hy).mpr e)))
/-- null on the stack, as a reference by number -/
theorem jv_const (hexec : p.tables.exec = Jvm.exec) (hb : c.code = cc) (hdg : decode cc pc = .ok (.aconst_null, 1)) (k : W p l e R s m args below meth c H locs cells slots Q (F0 m (pc + 1) ls (jv ad off (-1) :: rest))) : W p l e R s m args below meth c H locs cells slots Q (F0 m pc ls rest) := by
  rw [jv_null] at k
  exact lv_null hexec hb hdg k
end JV
end
section
/-! Each call: the words of its link. -/
set_option maxRecDepth 20000 in
theorem wy_J_47 : jx_YV "JointHistory" 47 y_J_load b_J_load 8 (some (.object "JointHistory$Document")) 3 := ⟨⟨jw_tb (i := 122) rfl rfl, jw_tb (i := 119) rfl rfl, jw_tb (i := 1) rfl rfl, by decide +kernel, by decide +kernel, by decide +kernel⟩, jw_tb (i := 121) rfl rfl, jw_pv (i := 0) (q := (y_J_load, 9)) rfl⟩
set_option maxRecDepth 20000 in
theorem wy_J_222 : jx_YV "JointHistory" 222 y_J_freeDocument b_J_freeDocument 4 (some (.object "JointHistory$Document")) 1 := ⟨⟨jw_tb (i := 126) rfl rfl, jw_tb (i := 123) rfl rfl, jw_tb (i := 1) rfl rfl, by decide +kernel, by decide +kernel, by decide +kernel⟩, jw_tb (i := 125) rfl rfl, jw_pv (i := 1) (q := (y_J_freeDocument, 9)) rfl⟩
set_option maxRecDepth 20000 in
theorem wy_J_226 : jx_YV "JointHistory" 226 y_J_giveOpaqueOrigin b_J_giveOpaqueOrigin 2 (some .int) 0 := ⟨⟨jw_tb (i := 130) rfl rfl, jw_tb (i := 127) rfl rfl, jw_tb (i := 1) rfl rfl, by decide +kernel, by decide +kernel, by decide +kernel⟩, jw_tb (i := 129) rfl rfl, jw_pv (i := 2) (q := (y_J_giveOpaqueOrigin, 9)) rfl⟩
set_option maxRecDepth 20000 in
theorem wy_J_202 : jx_YS "JointHistory" 202 y_J_pageOf b_J_pageOf 1 (some .int) 1 := ⟨⟨jw_tb (i := 133) rfl rfl, jw_tb (i := 131) rfl rfl, jw_tb (i := 1) rfl rfl, by decide +kernel, by decide +kernel, by decide +kernel⟩, jw_tb (i := 132) rfl rfl⟩
set_option maxRecDepth 20000 in
theorem wy_J_205 : jx_YS "JointHistory" 205 y_J_hostOf b_J_hostOf 1 (some .int) 1 := ⟨⟨jw_tb (i := 137) rfl rfl, jw_tb (i := 135) rfl rfl, jw_tb (i := 1) rfl rfl, by decide +kernel, by decide +kernel, by decide +kernel⟩, jw_tb (i := 136) rfl rfl⟩
set_option maxRecDepth 20000 in
theorem wy_J_229 : jx_YV "JointHistory" 229 y_J_makeFrames b_J_makeFrames 6 none 3 := ⟨⟨jw_tb (i := 141) rfl rfl, jw_tb (i := 138) rfl rfl, jw_tb (i := 1) rfl rfl, by decide +kernel, by decide +kernel, by decide +kernel⟩, jw_tb (i := 140) rfl rfl, jw_pv (i := 3) (q := (y_J_makeFrames, 9)) rfl⟩
set_option maxRecDepth 20000 in
theorem wy_J_236 : jx_YV "JointHistory" 236 y_J_makeFrame b_J_makeFrame 6 (some (.object "JointHistory$Navigable")) 3 := ⟨⟨jw_tb (i := 145) rfl rfl, jw_tb (i := 142) rfl rfl, jw_tb (i := 1) rfl rfl, by decide +kernel, by decide +kernel, by decide +kernel⟩, jw_tb (i := 144) rfl rfl, jw_pv (i := 4) (q := (y_J_makeFrame, 9)) rfl⟩
set_option maxRecDepth 20000 in
theorem wy_J_240 : jx_YV "JointHistory" 240 y_J_freeNavigable b_J_freeNavigable 2 (some (.object "JointHistory$Navigable")) 0 := ⟨⟨jw_tb (i := 149) rfl rfl, jw_tb (i := 146) rfl rfl, jw_tb (i := 1) rfl rfl, by decide +kernel, by decide +kernel, by decide +kernel⟩, jw_tb (i := 148) rfl rfl, jw_pv (i := 5) (q := (y_J_freeNavigable, 9)) rfl⟩
set_option maxRecDepth 20000 in
theorem wy_J_131 : jx_YV "JointHistory" 131 y_J_followDetours b_J_followDetours 5 (some .int) 1 := ⟨⟨jw_tb (i := 153) rfl rfl, jw_tb (i := 150) rfl rfl, jw_tb (i := 1) rfl rfl, by decide +kernel, by decide +kernel, by decide +kernel⟩, jw_tb (i := 152) rfl rfl, jw_pv (i := 6) (q := (y_J_followDetours, 9)) rfl⟩
set_option maxRecDepth 20000 in
theorem wy_J_216 : jx_YV "JointHistory" 216 y_J_isDetour b_J_isDetour 2 (some .boolean) 1 := ⟨⟨jw_tb (i := 157) rfl rfl, jw_tb (i := 154) rfl rfl, jw_tb (i := 1) rfl rfl, by decide +kernel, by decide +kernel, by decide +kernel⟩, jw_tb (i := 156) rfl rfl, jw_pv (i := 7) (q := (y_J_isDetour, 9)) rfl⟩
set_option maxRecDepth 20000 in
theorem wy_J_199 : jx_YS "JointHistory" 199 y_J_fragmentOf b_J_fragmentOf 1 (some .int) 1 := ⟨⟨jw_tb (i := 162) rfl rfl, jw_tb (i := 160) rfl rfl, jw_tb (i := 1) rfl rfl, by decide +kernel, by decide +kernel, by decide +kernel⟩, jw_tb (i := 161) rfl rfl⟩
set_option maxRecDepth 20000 in
theorem wy_J_51 : jx_YV "JointHistory" 51 y_J_addEntry b_J_addEntry 8 none 5 := ⟨⟨jw_tb (i := 166) rfl rfl, jw_tb (i := 163) rfl rfl, jw_tb (i := 1) rfl rfl, by decide +kernel, by decide +kernel, by decide +kernel⟩, jw_tb (i := 165) rfl rfl, jw_pv (i := 8) (q := (y_J_addEntry, 9)) rfl⟩
set_option maxRecDepth 20000 in
theorem wy_L_13 : jx_YV "JointHistoryLaw" 13 y_J_content b_J_content 6 (some .boolean) 4 := ⟨⟨jw_tb (i := 198) rfl rfl, jw_tb (i := 195) rfl rfl, jw_tb (i := 1) rfl rfl, by decide +kernel, by decide +kernel, by decide +kernel⟩, jw_tb (i := 196) rfl rfl, jw_tb (i := 197) rfl rfl⟩
set_option maxRecDepth 20000 in
theorem wy_J_55 : jx_YS "JointHistory" 55 y_J_isPage b_J_isPage 1 (some .boolean) 1 := ⟨⟨jw_tb (i := 201) rfl rfl, jw_tb (i := 199) rfl rfl, jw_tb (i := 1) rfl rfl, by decide +kernel, by decide +kernel, by decide +kernel⟩, jw_tb (i := 200) rfl rfl⟩
set_option maxRecDepth 20000 in
theorem wy_J_59 : jx_YS "JointHistory" 59 y_J_isFrameChoice b_J_isFrameChoice 1 (some .boolean) 1 := ⟨⟨jw_tb (i := 204) rfl rfl, jw_tb (i := 202) rfl rfl, jw_tb (i := 1) rfl rfl, by decide +kernel, by decide +kernel, by decide +kernel⟩, jw_tb (i := 203) rfl rfl⟩
set_option maxRecDepth 20000 in
theorem wy_J_93 : jx_YS "JointHistory" 93 y_J_isUrlOrBlank b_J_isUrlOrBlank 1 (some .boolean) 1 := ⟨⟨jw_tb (i := 207) rfl rfl, jw_tb (i := 205) rfl rfl, jw_tb (i := 1) rfl rfl, by decide +kernel, by decide +kernel, by decide +kernel⟩, jw_tb (i := 206) rfl rfl⟩
set_option maxRecDepth 20000 in
theorem wy_J_81 : jx_YS "JointHistory" 81 y_J_isUrl b_J_isUrl 1 (some .boolean) 1 := ⟨⟨jw_tb (i := 210) rfl rfl, jw_tb (i := 208) rfl rfl, jw_tb (i := 1) rfl rfl, by decide +kernel, by decide +kernel, by decide +kernel⟩, jw_tb (i := 209) rfl rfl⟩
set_option maxRecDepth 20000 in
theorem wy_L_18 : jx_YV "JointHistoryLaw" 18 y_J_detour b_J_detour 3 (some .boolean) 2 := ⟨⟨jw_tb (i := 214) rfl rfl, jw_tb (i := 211) rfl rfl, jw_tb (i := 1) rfl rfl, by decide +kernel, by decide +kernel, by decide +kernel⟩, jw_tb (i := 212) rfl rfl, jw_tb (i := 213) rfl rfl⟩
set_option maxRecDepth 20000 in
theorem wy_L_23 : jx_YV "JointHistoryLaw" 23 y_J_fault b_J_fault 2 (some .boolean) 1 := ⟨⟨jw_tb (i := 218) rfl rfl, jw_tb (i := 215) rfl rfl, jw_tb (i := 1) rfl rfl, by decide +kernel, by decide +kernel, by decide +kernel⟩, jw_tb (i := 216) rfl rfl, jw_tb (i := 217) rfl rfl⟩
set_option maxRecDepth 20000 in
theorem wy_L_28 : jx_YV "JointHistoryLaw" 28 y_J_navigate b_J_navigate 8 (some .int) 3 := ⟨⟨jw_tb (i := 224) rfl rfl, jw_tb (i := 221) rfl rfl, jw_tb (i := 1) rfl rfl, by decide +kernel, by decide +kernel, by decide +kernel⟩, jw_tb (i := 222) rfl rfl, jw_tb (i := 223) rfl rfl⟩
set_option maxRecDepth 20000 in
theorem wy_J_99 : jx_YV "JointHistory" 99 y_J_shownEntry b_J_shownEntry 6 (some (.object "JointHistory$Entry")) 2 := ⟨⟨jw_tb (i := 228) rfl rfl, jw_tb (i := 225) rfl rfl, jw_tb (i := 1) rfl rfl, by decide +kernel, by decide +kernel, by decide +kernel⟩, jw_tb (i := 227) rfl rfl, jw_pv (i := 9) (q := (y_J_shownEntry, 9)) rfl⟩
set_option maxRecDepth 20000 in
theorem wy_J_212 : jx_YV "JointHistory" 212 y_J_entryAt b_J_entryAt 8 (some (.object "JointHistory$Entry")) 2 := ⟨⟨jw_tb (i := 232) rfl rfl, jw_tb (i := 229) rfl rfl, jw_tb (i := 1) rfl rfl, by decide +kernel, by decide +kernel, by decide +kernel⟩, jw_tb (i := 231) rfl rfl, jw_pv (i := 10) (q := (y_J_entryAt, 9)) rfl⟩
set_option maxRecDepth 20000 in
theorem wy_J_106 : jx_YV "JointHistory" 106 y_J_isFull b_J_isFull 2 (some .boolean) 1 := ⟨⟨jw_tb (i := 236) rfl rfl, jw_tb (i := 233) rfl rfl, jw_tb (i := 1) rfl rfl, by decide +kernel, by decide +kernel, by decide +kernel⟩, jw_tb (i := 235) rfl rfl, jw_pv (i := 11) (q := (y_J_isFull, 9)) rfl⟩
set_option maxRecDepth 20000 in
theorem wy_J_187 : jx_YV "JointHistory" 187 y_J_entriesUpTo b_J_entriesUpTo 7 (some .int) 1 := ⟨⟨jw_tb (i := 241) rfl rfl, jw_tb (i := 238) rfl rfl, jw_tb (i := 1) rfl rfl, by decide +kernel, by decide +kernel, by decide +kernel⟩, jw_tb (i := 240) rfl rfl, jw_pv (i := 12) (q := (y_J_entriesUpTo, 9)) rfl⟩
set_option maxRecDepth 20000 in
theorem wy_J_110 : jx_YV "JointHistory" 110 y_J_dropLaterEntries b_J_dropLaterEntries 5 none 0 := ⟨⟨jw_tb (i := 245) rfl rfl, jw_tb (i := 242) rfl rfl, jw_tb (i := 1) rfl rfl, by decide +kernel, by decide +kernel, by decide +kernel⟩, jw_tb (i := 244) rfl rfl, jw_pv (i := 13) (q := (y_J_dropLaterEntries, 9)) rfl⟩
set_option maxRecDepth 20000 in
theorem wy_J_157 : jx_YV "JointHistory" 157 y_J_dropWhatIsGone b_J_dropWhatIsGone 2 none 0 := ⟨⟨jw_tb (i := 249) rfl rfl, jw_tb (i := 246) rfl rfl, jw_tb (i := 1) rfl rfl, by decide +kernel, by decide +kernel, by decide +kernel⟩, jw_tb (i := 248) rfl rfl, jw_pv (i := 14) (q := (y_J_dropWhatIsGone, 9)) rfl⟩
set_option maxRecDepth 20000 in
theorem wy_J_245 : jx_YV "JointHistory" 245 y_J_keepOnlyHeldDocuments b_J_keepOnlyHeldDocuments 5 none 0 := ⟨⟨jw_tb (i := 253) rfl rfl, jw_tb (i := 250) rfl rfl, jw_tb (i := 1) rfl rfl, by decide +kernel, by decide +kernel, by decide +kernel⟩, jw_tb (i := 252) rfl rfl, jw_pv (i := 15) (q := (y_J_keepOnlyHeldDocuments, 9)) rfl⟩
set_option maxRecDepth 20000 in
theorem wy_J_248 : jx_YV "JointHistory" 248 y_J_dropFramesOfGoneDocuments b_J_dropFramesOfGoneDocuments 5 none 0 := ⟨⟨jw_tb (i := 257) rfl rfl, jw_tb (i := 254) rfl rfl, jw_tb (i := 1) rfl rfl, by decide +kernel, by decide +kernel, by decide +kernel⟩, jw_tb (i := 256) rfl rfl, jw_pv (i := 16) (q := (y_J_dropFramesOfGoneDocuments, 9)) rfl⟩
set_option maxRecDepth 20000 in
theorem wy_J_251 : jx_YV "JointHistory" 251 y_J_dropEntriesOfGoneNavigables b_J_dropEntriesOfGoneNavigables 5 none 0 := ⟨⟨jw_tb (i := 261) rfl rfl, jw_tb (i := 258) rfl rfl, jw_tb (i := 1) rfl rfl, by decide +kernel, by decide +kernel, by decide +kernel⟩, jw_tb (i := 260) rfl rfl, jw_pv (i := 17) (q := (y_J_dropEntriesOfGoneNavigables, 9)) rfl⟩
set_option maxRecDepth 20000 in
theorem wy_J_113 : jx_YS "JointHistory" 113 y_J_isFragmentMove b_J_isFragmentMove 2 (some .boolean) 2 := ⟨⟨jw_tb (i := 264) rfl rfl, jw_tb (i := 262) rfl rfl, jw_tb (i := 1) rfl rfl, by decide +kernel, by decide +kernel, by decide +kernel⟩, jw_tb (i := 263) rfl rfl⟩
set_option maxRecDepth 20000 in
theorem wy_J_124 : jx_YV "JointHistory" 124 y_J_putEntry b_J_putEntry 6 none 5 := ⟨⟨jw_tb (i := 268) rfl rfl, jw_tb (i := 265) rfl rfl, jw_tb (i := 1) rfl rfl, by decide +kernel, by decide +kernel, by decide +kernel⟩, jw_tb (i := 267) rfl rfl, jw_pv (i := 18) (q := (y_J_putEntry, 9)) rfl⟩
set_option maxRecDepth 20000 in
theorem wy_J_160 : jx_YV "JointHistory" 160 y_J_settlePresentStep b_J_settlePresentStep 6 none 0 := ⟨⟨jw_tb (i := 272) rfl rfl, jw_tb (i := 269) rfl rfl, jw_tb (i := 1) rfl rfl, by decide +kernel, by decide +kernel, by decide +kernel⟩, jw_tb (i := 271) rfl rfl, jw_pv (i := 19) (q := (y_J_settlePresentStep, 9)) rfl⟩
set_option maxRecDepth 20000 in
theorem wy_L_33 : jx_YV "JointHistoryLaw" 33 y_J_rewrite b_J_rewrite 6 (some .int) 4 := ⟨⟨jw_tb (i := 276) rfl rfl, jw_tb (i := 273) rfl rfl, jw_tb (i := 1) rfl rfl, by decide +kernel, by decide +kernel, by decide +kernel⟩, jw_tb (i := 274) rfl rfl, jw_tb (i := 275) rfl rfl⟩
set_option maxRecDepth 20000 in
theorem wy_J_139 : jx_YS "JointHistory" 139 y_J_mayRewrite b_J_mayRewrite 2 (some .boolean) 2 := ⟨⟨jw_tb (i := 279) rfl rfl, jw_tb (i := 277) rfl rfl, jw_tb (i := 1) rfl rfl, by decide +kernel, by decide +kernel, by decide +kernel⟩, jw_tb (i := 278) rfl rfl⟩
set_option maxRecDepth 20000 in
theorem wy_L_38 : jx_YV "JointHistoryLaw" 38 y_J_go b_J_go 7 (some .int) 1 := ⟨⟨jw_tb (i := 283) rfl rfl, jw_tb (i := 280) rfl rfl, jw_tb (i := 1) rfl rfl, by decide +kernel, by decide +kernel, by decide +kernel⟩, jw_tb (i := 281) rfl rfl, jw_tb (i := 282) rfl rfl⟩
set_option maxRecDepth 20000 in
theorem wy_J_142 : jx_YV "JointHistory" 142 y_J_collectUsedSteps b_J_collectUsedSteps 6 (some .int) 0 := ⟨⟨jw_tb (i := 287) rfl rfl, jw_tb (i := 284) rfl rfl, jw_tb (i := 1) rfl rfl, by decide +kernel, by decide +kernel, by decide +kernel⟩, jw_tb (i := 286) rfl rfl, jw_pv (i := 20) (q := (y_J_collectUsedSteps, 9)) rfl⟩
set_option maxRecDepth 20000 in
theorem wy_J_254 : jx_YV "JointHistory" 254 y_J_insertStep b_J_insertStep 5 (some .int) 2 := ⟨⟨jw_tb (i := 291) rfl rfl, jw_tb (i := 288) rfl rfl, jw_tb (i := 1) rfl rfl, by decide +kernel, by decide +kernel, by decide +kernel⟩, jw_tb (i := 290) rfl rfl, jw_pv (i := 21) (q := (y_J_insertStep, 9)) rfl⟩
set_option maxRecDepth 20000 in
theorem wy_J_146 : jx_YV "JointHistory" 146 y_J_placeOfPresent b_J_placeOfPresent 3 (some .int) 1 := ⟨⟨jw_tb (i := 295) rfl rfl, jw_tb (i := 292) rfl rfl, jw_tb (i := 1) rfl rfl, by decide +kernel, by decide +kernel, by decide +kernel⟩, jw_tb (i := 294) rfl rfl, jw_pv (i := 22) (q := (y_J_placeOfPresent, 9)) rfl⟩
set_option maxRecDepth 20000 in
theorem wy_J_149 : jx_YV "JointHistory" 149 y_J_countMove b_J_countMove 3 none 2 := ⟨⟨jw_tb (i := 299) rfl rfl, jw_tb (i := 296) rfl rfl, jw_tb (i := 1) rfl rfl, by decide +kernel, by decide +kernel, by decide +kernel⟩, jw_tb (i := 298) rfl rfl, jw_pv (i := 23) (q := (y_J_countMove, 9)) rfl⟩
set_option maxRecDepth 20000 in
theorem wy_L_43 : jx_YV "JointHistoryLaw" 43 y_J_detach b_J_detach 3 (some .int) 1 := ⟨⟨jw_tb (i := 303) rfl rfl, jw_tb (i := 300) rfl rfl, jw_tb (i := 1) rfl rfl, by decide +kernel, by decide +kernel, by decide +kernel⟩, jw_tb (i := 301) rfl rfl, jw_tb (i := 302) rfl rfl⟩
set_option maxRecDepth 20000 in
theorem wy_J_153 : jx_YV "JointHistory" 153 y_J_takeOut b_J_takeOut 3 none 1 := ⟨⟨jw_tb (i := 307) rfl rfl, jw_tb (i := 304) rfl rfl, jw_tb (i := 1) rfl rfl, by decide +kernel, by decide +kernel, by decide +kernel⟩, jw_tb (i := 306) rfl rfl, jw_pv (i := 24) (q := (y_J_takeOut, 9)) rfl⟩
set_option maxRecDepth 20000 in
theorem wy_L_47 : jx_YV "JointHistoryLaw" 47 y_J_url b_J_url 3 (some .int) 1 := ⟨⟨jw_tb (i := 311) rfl rfl, jw_tb (i := 308) rfl rfl, jw_tb (i := 1) rfl rfl, by decide +kernel, by decide +kernel, by decide +kernel⟩, jw_tb (i := 309) rfl rfl, jw_tb (i := 310) rfl rfl⟩
set_option maxRecDepth 20000 in
theorem wy_L_51 : jx_YV "JointHistoryLaw" 51 y_J_state b_J_state 3 (some .long) 1 := ⟨⟨jw_tb (i := 315) rfl rfl, jw_tb (i := 312) rfl rfl, jw_tb (i := 1) rfl rfl, by decide +kernel, by decide +kernel, by decide +kernel⟩, jw_tb (i := 313) rfl rfl, jw_tb (i := 314) rfl rfl⟩
set_option maxRecDepth 20000 in
theorem wy_L_56 : jx_YV "JointHistoryLaw" 56 y_J_step b_J_step 3 (some .int) 1 := ⟨⟨jw_tb (i := 320) rfl rfl, jw_tb (i := 317) rfl rfl, jw_tb (i := 1) rfl rfl, by decide +kernel, by decide +kernel, by decide +kernel⟩, jw_tb (i := 318) rfl rfl, jw_tb (i := 319) rfl rfl⟩
set_option maxRecDepth 20000 in
theorem wy_L_60 : jx_YV "JointHistoryLaw" 60 y_J_origin b_J_origin 3 (some .int) 1 := ⟨⟨jw_tb (i := 324) rfl rfl, jw_tb (i := 321) rfl rfl, jw_tb (i := 1) rfl rfl, by decide +kernel, by decide +kernel, by decide +kernel⟩, jw_tb (i := 322) rfl rfl, jw_tb (i := 323) rfl rfl⟩
set_option maxRecDepth 20000 in
theorem wy_L_64 : jx_YV "JointHistoryLaw" 64 y_J_frame b_J_frame 4 (some .int) 2 := ⟨⟨jw_tb (i := 328) rfl rfl, jw_tb (i := 325) rfl rfl, jw_tb (i := 1) rfl rfl, by decide +kernel, by decide +kernel, by decide +kernel⟩, jw_tb (i := 326) rfl rfl, jw_tb (i := 327) rfl rfl⟩
set_option maxRecDepth 20000 in
theorem wy_J_173 : jx_YS "JointHistory" 173 y_J_numberOf b_J_numberOf 1 (some .int) 1 := ⟨⟨jw_tb (i := 331) rfl rfl, jw_tb (i := 329) rfl rfl, jw_tb (i := 1) rfl rfl, by decide +kernel, by decide +kernel, by decide +kernel⟩, jw_tb (i := 330) rfl rfl⟩
set_option maxRecDepth 20000 in
theorem wy_L_69 : jx_YV "JointHistoryLaw" 69 y_J_entries b_J_entries 8 (some .int) 1 := ⟨⟨jw_tb (i := 335) rfl rfl, jw_tb (i := 332) rfl rfl, jw_tb (i := 1) rfl rfl, by decide +kernel, by decide +kernel, by decide +kernel⟩, jw_tb (i := 333) rfl rfl, jw_tb (i := 334) rfl rfl⟩
set_option maxRecDepth 20000 in
theorem wy_L_73 : jx_YV "JointHistoryLaw" 73 y_J_present b_J_present 1 (some .int) 0 := ⟨⟨jw_tb (i := 339) rfl rfl, jw_tb (i := 336) rfl rfl, jw_tb (i := 1) rfl rfl, by decide +kernel, by decide +kernel, by decide +kernel⟩, jw_tb (i := 337) rfl rfl, jw_tb (i := 338) rfl rfl⟩
set_option maxRecDepth 20000 in
theorem wy_L_78 : jx_YV "JointHistoryLaw" 78 y_J_length b_J_length 1 (some .int) 0 := ⟨⟨jw_tb (i := 343) rfl rfl, jw_tb (i := 340) rfl rfl, jw_tb (i := 1) rfl rfl, by decide +kernel, by decide +kernel, by decide +kernel⟩, jw_tb (i := 341) rfl rfl, jw_tb (i := 342) rfl rfl⟩
set_option maxRecDepth 20000 in
theorem wy_L_82 : jx_YV "JointHistoryLaw" 82 y_J_count b_J_count 2 (some .int) 1 := ⟨⟨jw_tb (i := 347) rfl rfl, jw_tb (i := 344) rfl rfl, jw_tb (i := 1) rfl rfl, by decide +kernel, by decide +kernel, by decide +kernel⟩, jw_tb (i := 345) rfl rfl, jw_tb (i := 346) rfl rfl⟩
set_option maxRecDepth 20000 in
theorem wy_J_180 : jx_YV "JointHistory" 180 y_J_shownNavigables b_J_shownNavigables 3 (some .int) 0 := ⟨⟨jw_tb (i := 351) rfl rfl, jw_tb (i := 348) rfl rfl, jw_tb (i := 1) rfl rfl, by decide +kernel, by decide +kernel, by decide +kernel⟩, jw_tb (i := 350) rfl rfl, jw_pv (i := 25) (q := (y_J_shownNavigables, 9)) rfl⟩
set_option maxRecDepth 20000 in
theorem wy_J_183 : jx_YV "JointHistory" 183 y_J_allNavigables b_J_allNavigables 6 (some .int) 0 := ⟨⟨jw_tb (i := 355) rfl rfl, jw_tb (i := 352) rfl rfl, jw_tb (i := 1) rfl rfl, by decide +kernel, by decide +kernel, by decide +kernel⟩, jw_tb (i := 354) rfl rfl, jw_pv (i := 26) (q := (y_J_allNavigables, 9)) rfl⟩
set_option maxRecDepth 20000 in
theorem wy_M_74 : jx_YV "JointHistoryModel" 74 y_M_make b_M_make 8 (some .int) 2 := ⟨⟨jw_tb (i := 365) rfl rfl, jw_tb (i := 362) rfl rfl, jw_tb (i := 8) rfl rfl, by decide +kernel, by decide +kernel, by decide +kernel⟩, jw_tb (i := 364) rfl rfl, jw_pv (i := 27) (q := (y_M_make, 26)) rfl⟩
set_option maxRecDepth 20000 in
theorem wy_M_96 : jx_YV "JointHistoryModel" 96 y_M_freshOrigin b_M_freshOrigin 1 (some .int) 0 := ⟨⟨jw_tb (i := 369) rfl rfl, jw_tb (i := 366) rfl rfl, jw_tb (i := 8) rfl rfl, by decide +kernel, by decide +kernel, by decide +kernel⟩, jw_tb (i := 368) rfl rfl, jw_pv (i := 28) (q := (y_M_freshOrigin, 26)) rfl⟩
set_option maxRecDepth 20000 in
theorem wy_M_78 : jx_YV "JointHistoryModel" 78 y_M_write b_M_write 6 (some .int) 4 := ⟨⟨jw_tb (i := 373) rfl rfl, jw_tb (i := 370) rfl rfl, jw_tb (i := 8) rfl rfl, by decide +kernel, by decide +kernel, by decide +kernel⟩, jw_tb (i := 372) rfl rfl, jw_pv (i := 29) (q := (y_M_write, 26)) rfl⟩
set_option maxRecDepth 20000 in
theorem wy_M_82 : jx_YV "JointHistoryModel" 82 y_M_mark b_M_mark 3 none 0 := ⟨⟨jw_tb (i := 377) rfl rfl, jw_tb (i := 374) rfl rfl, jw_tb (i := 8) rfl rfl, by decide +kernel, by decide +kernel, by decide +kernel⟩, jw_tb (i := 376) rfl rfl, jw_pv (i := 30) (q := (y_M_mark, 26)) rfl⟩
set_option maxRecDepth 20000 in
theorem wy_M_120 : jx_YV "JointHistoryModel" 120 y_M_keep b_M_keep 2 none 1 := ⟨⟨jw_tb (i := 381) rfl rfl, jw_tb (i := 378) rfl rfl, jw_tb (i := 8) rfl rfl, by decide +kernel, by decide +kernel, by decide +kernel⟩, jw_tb (i := 380) rfl rfl, jw_pv (i := 31) (q := (y_M_keep, 26)) rfl⟩
set_option maxRecDepth 20000 in
theorem wy_M_124 : jx_YV "JointHistoryModel" 124 y_M_presentOf b_M_presentOf 5 (some .int) 1 := ⟨⟨jw_tb (i := 385) rfl rfl, jw_tb (i := 382) rfl rfl, jw_tb (i := 8) rfl rfl, by decide +kernel, by decide +kernel, by decide +kernel⟩, jw_tb (i := 384) rfl rfl, jw_pv (i := 32) (q := (y_M_presentOf, 26)) rfl⟩
set_option maxRecDepth 20000 in
theorem wy_M_127 : jx_YV "JointHistoryModel" 127 y_M_show b_M_show 2 none 1 := ⟨⟨jw_tb (i := 389) rfl rfl, jw_tb (i := 386) rfl rfl, jw_tb (i := 8) rfl rfl, by decide +kernel, by decide +kernel, by decide +kernel⟩, jw_tb (i := 388) rfl rfl, jw_pv (i := 33) (q := (y_M_show, 26)) rfl⟩
set_option maxRecDepth 20000 in
theorem wy_L_17 : jx_YV "JointHistoryLaw" 17 y_M_content b_M_content 5 (some .boolean) 4 := ⟨⟨jw_tb (i := 473) rfl rfl, jw_tb (i := 470) rfl rfl, jw_tb (i := 8) rfl rfl, by decide +kernel, by decide +kernel, by decide +kernel⟩, jw_tb (i := 471) rfl rfl, jw_tb (i := 472) rfl rfl⟩
set_option maxRecDepth 20000 in
theorem wy_M_85 : jx_YS "JointHistoryModel" 85 y_M_between b_M_between 3 (some .boolean) 3 := ⟨⟨jw_tb (i := 476) rfl rfl, jw_tb (i := 474) rfl rfl, jw_tb (i := 8) rfl rfl, by decide +kernel, by decide +kernel, by decide +kernel⟩, jw_tb (i := 475) rfl rfl⟩
set_option maxRecDepth 20000 in
theorem wy_L_22 : jx_YV "JointHistoryLaw" 22 y_M_detour b_M_detour 3 (some .boolean) 2 := ⟨⟨jw_tb (i := 480) rfl rfl, jw_tb (i := 477) rfl rfl, jw_tb (i := 8) rfl rfl, by decide +kernel, by decide +kernel, by decide +kernel⟩, jw_tb (i := 478) rfl rfl, jw_tb (i := 479) rfl rfl⟩
set_option maxRecDepth 20000 in
theorem wy_L_27 : jx_YV "JointHistoryLaw" 27 y_M_fault b_M_fault 2 (some .boolean) 1 := ⟨⟨jw_tb (i := 484) rfl rfl, jw_tb (i := 481) rfl rfl, jw_tb (i := 8) rfl rfl, by decide +kernel, by decide +kernel, by decide +kernel⟩, jw_tb (i := 482) rfl rfl, jw_tb (i := 483) rfl rfl⟩
set_option maxRecDepth 20000 in
theorem wy_L_32 : jx_YV "JointHistoryLaw" 32 y_M_navigate b_M_navigate 8 (some .int) 3 := ⟨⟨jw_tb (i := 488) rfl rfl, jw_tb (i := 485) rfl rfl, jw_tb (i := 8) rfl rfl, by decide +kernel, by decide +kernel, by decide +kernel⟩, jw_tb (i := 486) rfl rfl, jw_tb (i := 487) rfl rfl⟩
set_option maxRecDepth 20000 in
theorem wy_M_146 : jx_YV "JointHistoryModel" 146 y_M_isShown b_M_isShown 2 (some .boolean) 1 := ⟨⟨jw_tb (i := 492) rfl rfl, jw_tb (i := 489) rfl rfl, jw_tb (i := 8) rfl rfl, by decide +kernel, by decide +kernel, by decide +kernel⟩, jw_tb (i := 491) rfl rfl, jw_pv (i := 34) (q := (y_M_isShown, 26)) rfl⟩
set_option maxRecDepth 20000 in
theorem wy_M_149 : jx_YV "JointHistoryModel" 149 y_M_full b_M_full 4 (some .boolean) 1 := ⟨⟨jw_tb (i := 496) rfl rfl, jw_tb (i := 493) rfl rfl, jw_tb (i := 8) rfl rfl, by decide +kernel, by decide +kernel, by decide +kernel⟩, jw_tb (i := 495) rfl rfl, jw_pv (i := 35) (q := (y_M_full, 26)) rfl⟩
set_option maxRecDepth 20000 in
theorem wy_M_153 : jx_YS "JointHistoryModel" 153 y_M_fragment b_M_fragment 1 (some .int) 1 := ⟨⟨jw_tb (i := 499) rfl rfl, jw_tb (i := 497) rfl rfl, jw_tb (i := 8) rfl rfl, by decide +kernel, by decide +kernel, by decide +kernel⟩, jw_tb (i := 498) rfl rfl⟩
set_option maxRecDepth 20000 in
theorem wy_M_159 : jx_YV "JointHistoryModel" 159 y_M_enter b_M_enter 9 none 5 := ⟨⟨jw_tb (i := 503) rfl rfl, jw_tb (i := 500) rfl rfl, jw_tb (i := 8) rfl rfl, by decide +kernel, by decide +kernel, by decide +kernel⟩, jw_tb (i := 502) rfl rfl, jw_pv (i := 36) (q := (y_M_enter, 26)) rfl⟩
set_option maxRecDepth 20000 in
theorem wy_M_137 : jx_YV "JointHistoryModel" 137 y_M_cutOff b_M_cutOff 2 none 0 := ⟨⟨jw_tb (i := 507) rfl rfl, jw_tb (i := 504) rfl rfl, jw_tb (i := 8) rfl rfl, by decide +kernel, by decide +kernel, by decide +kernel⟩, jw_tb (i := 506) rfl rfl, jw_pv (i := 37) (q := (y_M_cutOff, 26)) rfl⟩
set_option maxRecDepth 20000 in
theorem wy_M_140 : jx_YV "JointHistoryModel" 140 y_M_load b_M_load 5 (some .int) 3 := ⟨⟨jw_tb (i := 511) rfl rfl, jw_tb (i := 508) rfl rfl, jw_tb (i := 8) rfl rfl, by decide +kernel, by decide +kernel, by decide +kernel⟩, jw_tb (i := 510) rfl rfl, jw_pv (i := 38) (q := (y_M_load, 26)) rfl⟩
set_option maxRecDepth 20000 in
theorem wy_M_111 : jx_YV "JointHistoryModel" 111 y_M_deep b_M_deep 3 (some .int) 1 := ⟨⟨jw_tb (i := 515) rfl rfl, jw_tb (i := 512) rfl rfl, jw_tb (i := 8) rfl rfl, by decide +kernel, by decide +kernel, by decide +kernel⟩, jw_tb (i := 514) rfl rfl, jw_pv (i := 39) (q := (y_M_deep, 26)) rfl⟩
set_option maxRecDepth 20000 in
theorem wy_M_114 : jx_YV "JointHistoryModel" 114 y_M_loadWindow b_M_loadWindow 10 (some .int) 2 := ⟨⟨jw_tb (i := 519) rfl rfl, jw_tb (i := 516) rfl rfl, jw_tb (i := 8) rfl rfl, by decide +kernel, by decide +kernel, by decide +kernel⟩, jw_tb (i := 518) rfl rfl, jw_pv (i := 40) (q := (y_M_loadWindow, 26)) rfl⟩
set_option maxRecDepth 20000 in
theorem wy_M_100 : jx_YV "JointHistoryModel" 100 y_M_wanted b_M_wanted 6 (some .int) 3 := ⟨⟨jw_tb (i := 523) rfl rfl, jw_tb (i := 520) rfl rfl, jw_tb (i := 8) rfl rfl, by decide +kernel, by decide +kernel, by decide +kernel⟩, jw_tb (i := 522) rfl rfl, jw_pv (i := 41) (q := (y_M_wanted, 26)) rfl⟩
set_option maxRecDepth 20000 in
theorem wy_M_104 : jx_YV "JointHistoryModel" 104 y_M_frameFor b_M_frameFor 7 (some .int) 3 := ⟨⟨jw_tb (i := 527) rfl rfl, jw_tb (i := 524) rfl rfl, jw_tb (i := 8) rfl rfl, by decide +kernel, by decide +kernel, by decide +kernel⟩, jw_tb (i := 526) rfl rfl, jw_pv (i := 42) (q := (y_M_frameFor, 26)) rfl⟩
set_option maxRecDepth 20000 in
theorem wy_M_107 : jx_YV "JointHistoryModel" 107 y_M_paperOf b_M_paperOf 3 (some .int) 1 := ⟨⟨jw_tb (i := 531) rfl rfl, jw_tb (i := 528) rfl rfl, jw_tb (i := 8) rfl rfl, by decide +kernel, by decide +kernel, by decide +kernel⟩, jw_tb (i := 530) rfl rfl, jw_pv (i := 43) (q := (y_M_paperOf, 26)) rfl⟩
set_option maxRecDepth 20000 in
theorem wy_M_117 : jx_YV "JointHistoryModel" 117 y_M_loadMiddle b_M_loadMiddle 8 (some .int) 3 := ⟨⟨jw_tb (i := 535) rfl rfl, jw_tb (i := 532) rfl rfl, jw_tb (i := 8) rfl rfl, by decide +kernel, by decide +kernel, by decide +kernel⟩, jw_tb (i := 534) rfl rfl, jw_pv (i := 44) (q := (y_M_loadMiddle, 26)) rfl⟩
set_option maxRecDepth 20000 in
theorem wy_M_143 : jx_YV "JointHistoryModel" 143 y_M_settle b_M_settle 1 none 0 := ⟨⟨jw_tb (i := 539) rfl rfl, jw_tb (i := 536) rfl rfl, jw_tb (i := 8) rfl rfl, by decide +kernel, by decide +kernel, by decide +kernel⟩, jw_tb (i := 538) rfl rfl, jw_pv (i := 45) (q := (y_M_settle, 26)) rfl⟩
set_option maxRecDepth 20000 in
theorem wy_M_133 : jx_YV "JointHistoryModel" 133 y_M_used b_M_used 3 (some .boolean) 1 := ⟨⟨jw_tb (i := 543) rfl rfl, jw_tb (i := 540) rfl rfl, jw_tb (i := 8) rfl rfl, by decide +kernel, by decide +kernel, by decide +kernel⟩, jw_tb (i := 542) rfl rfl, jw_pv (i := 46) (q := (y_M_used, 26)) rfl⟩
set_option maxRecDepth 20000 in
theorem wy_L_37 : jx_YV "JointHistoryLaw" 37 y_M_rewrite b_M_rewrite 7 (some .int) 4 := ⟨⟨jw_tb (i := 547) rfl rfl, jw_tb (i := 544) rfl rfl, jw_tb (i := 8) rfl rfl, by decide +kernel, by decide +kernel, by decide +kernel⟩, jw_tb (i := 545) rfl rfl, jw_tb (i := 546) rfl rfl⟩
set_option maxRecDepth 20000 in
theorem wy_L_42 : jx_YV "JointHistoryLaw" 42 y_M_go b_M_go 7 (some .int) 1 := ⟨⟨jw_tb (i := 551) rfl rfl, jw_tb (i := 548) rfl rfl, jw_tb (i := 8) rfl rfl, by decide +kernel, by decide +kernel, by decide +kernel⟩, jw_tb (i := 549) rfl rfl, jw_tb (i := 550) rfl rfl⟩
set_option maxRecDepth 20000 in
theorem wy_M_163 : jx_YV "JointHistoryModel" 163 y_M_stepAt b_M_stepAt 6 (some .int) 1 := ⟨⟨jw_tb (i := 555) rfl rfl, jw_tb (i := 552) rfl rfl, jw_tb (i := 8) rfl rfl, by decide +kernel, by decide +kernel, by decide +kernel⟩, jw_tb (i := 554) rfl rfl, jw_pv (i := 47) (q := (y_M_stepAt, 26)) rfl⟩
set_option maxRecDepth 20000 in
theorem wy_L_46 : jx_YV "JointHistoryLaw" 46 y_M_detach b_M_detach 3 (some .int) 1 := ⟨⟨jw_tb (i := 559) rfl rfl, jw_tb (i := 556) rfl rfl, jw_tb (i := 8) rfl rfl, by decide +kernel, by decide +kernel, by decide +kernel⟩, jw_tb (i := 557) rfl rfl, jw_tb (i := 558) rfl rfl⟩
set_option maxRecDepth 20000 in
theorem wy_L_50 : jx_YV "JointHistoryLaw" 50 y_M_url b_M_url 2 (some .int) 1 := ⟨⟨jw_tb (i := 563) rfl rfl, jw_tb (i := 560) rfl rfl, jw_tb (i := 8) rfl rfl, by decide +kernel, by decide +kernel, by decide +kernel⟩, jw_tb (i := 561) rfl rfl, jw_tb (i := 562) rfl rfl⟩
set_option maxRecDepth 20000 in
theorem wy_L_55 : jx_YV "JointHistoryLaw" 55 y_M_state b_M_state 2 (some .long) 1 := ⟨⟨jw_tb (i := 567) rfl rfl, jw_tb (i := 564) rfl rfl, jw_tb (i := 8) rfl rfl, by decide +kernel, by decide +kernel, by decide +kernel⟩, jw_tb (i := 565) rfl rfl, jw_tb (i := 566) rfl rfl⟩
set_option maxRecDepth 20000 in
theorem wy_L_59 : jx_YV "JointHistoryLaw" 59 y_M_step b_M_step 2 (some .int) 1 := ⟨⟨jw_tb (i := 572) rfl rfl, jw_tb (i := 569) rfl rfl, jw_tb (i := 8) rfl rfl, by decide +kernel, by decide +kernel, by decide +kernel⟩, jw_tb (i := 570) rfl rfl, jw_tb (i := 571) rfl rfl⟩
set_option maxRecDepth 20000 in
theorem wy_L_63 : jx_YV "JointHistoryLaw" 63 y_M_origin b_M_origin 2 (some .int) 1 := ⟨⟨jw_tb (i := 576) rfl rfl, jw_tb (i := 573) rfl rfl, jw_tb (i := 8) rfl rfl, by decide +kernel, by decide +kernel, by decide +kernel⟩, jw_tb (i := 574) rfl rfl, jw_tb (i := 575) rfl rfl⟩
set_option maxRecDepth 20000 in
theorem wy_L_68 : jx_YV "JointHistoryLaw" 68 y_M_frame b_M_frame 5 (some .int) 2 := ⟨⟨jw_tb (i := 580) rfl rfl, jw_tb (i := 577) rfl rfl, jw_tb (i := 8) rfl rfl, by decide +kernel, by decide +kernel, by decide +kernel⟩, jw_tb (i := 578) rfl rfl, jw_tb (i := 579) rfl rfl⟩
set_option maxRecDepth 20000 in
theorem wy_L_72 : jx_YV "JointHistoryLaw" 72 y_M_entries b_M_entries 4 (some .int) 1 := ⟨⟨jw_tb (i := 584) rfl rfl, jw_tb (i := 581) rfl rfl, jw_tb (i := 8) rfl rfl, by decide +kernel, by decide +kernel, by decide +kernel⟩, jw_tb (i := 582) rfl rfl, jw_tb (i := 583) rfl rfl⟩
set_option maxRecDepth 20000 in
theorem wy_L_77 : jx_YV "JointHistoryLaw" 77 y_M_present b_M_present 1 (some .int) 0 := ⟨⟨jw_tb (i := 588) rfl rfl, jw_tb (i := 585) rfl rfl, jw_tb (i := 8) rfl rfl, by decide +kernel, by decide +kernel, by decide +kernel⟩, jw_tb (i := 586) rfl rfl, jw_tb (i := 587) rfl rfl⟩
set_option maxRecDepth 20000 in
theorem wy_L_81 : jx_YV "JointHistoryLaw" 81 y_M_length b_M_length 3 (some .int) 0 := ⟨⟨jw_tb (i := 592) rfl rfl, jw_tb (i := 589) rfl rfl, jw_tb (i := 8) rfl rfl, by decide +kernel, by decide +kernel, by decide +kernel⟩, jw_tb (i := 590) rfl rfl, jw_tb (i := 591) rfl rfl⟩
set_option maxRecDepth 20000 in
theorem wy_L_85 : jx_YV "JointHistoryLaw" 85 y_M_count b_M_count 6 (some .int) 1 := ⟨⟨jw_tb (i := 596) rfl rfl, jw_tb (i := 593) rfl rfl, jw_tb (i := 8) rfl rfl, by decide +kernel, by decide +kernel, by decide +kernel⟩, jw_tb (i := 594) rfl rfl, jw_tb (i := 595) rfl rfl⟩
end
section
/-! The cells of the class: 0 the object, 1 .. 5 its arrays, 6 .. 37 answers, 38 .. 77 navigables, 78 .. 117 documents, 118 .. 157 entries. -/
def jc_fJ (ad : Nat → Nat) (s : js_S) : List Value := [.ref (ad 1), .ref (ad 2), .ref (ad 3), .ref (ad 4), .ref (ad 5), .int (s 21 0), .int (s 22 0), .int (s 23 0), .int (s 24 0)]
def jc_fA (aK : Nat → Nat) (s : js_S) (i : Nat) : List Value := [jv aK 0 (s 0 i), .int (s 1 i), .int (s 2 i), .int (s 3 i), .int (s 4 i)]
def jc_fN (ad : Nat → Nat) (s : js_S) (i : Nat) : List Value := [.int (nI i), .int (s 5 i), .int (s 6 i), jv ad 78 (s 7 i)]
def jc_fD (ad : Nat → Nat) (s : js_S) (i : Nat) : List Value := [.int (s 8 i), jv ad 38 (s 9 i), .int (s 10 i), .int (s 11 i), jv ad 38 (s 12 i), jv ad 38 (s 13 i)]
def jc_fE (ad : Nat → Nat) (s : js_S) (i : Nat) : List Value := [.int (s 14 i), jv ad 38 (s 15 i), .int (s 16 i), .int (s 17 i), .int (s 18 i), jv ad 78 (s 19 i)]
def jc_cell (ad aK : Nat → Nat) (cA : Nat → ClassId) (s : js_S) (k : Nat) : va_E :=
  if k = 0 then .inr (0, jc_fJ ad s)
  else if k = 1 then .inl (cA 0, 32, .inr (.inr (.inr (.inr (fun i => some (ad (6 + i)))))))
  else if k = 2 then .inl (cA 1, 40, .inr (.inr (.inr (.inr (fun i => some (ad (38 + i)))))))
  else if k = 3 then .inl (cA 2, 40, .inr (.inr (.inr (.inr (fun i => some (ad (78 + i)))))))
  else if k = 4 then .inl (cA 3, 40, .inr (.inr (.inr (.inr (fun i => some (ad (118 + i)))))))
  else if k = 5 then .inl (cA 4, 40, .inl (fun i => s 20 i))
  else if k < 38 then .inr (1, jc_fA aK s (k - 6))
  else if k < 78 then .inr (2, jc_fN ad s (k - 38))
  else if k < 118 then .inr (3, jc_fD ad s (k - 78))
  else .inr (4, jc_fE ad s (k - 118))
def jc_tys (cA : Nat → ClassId) : List (ClassId × FieldType) := [(cA 0, .object "JointHistory$Answer"), (cA 1, .object "JointHistory$Navigable"), (cA 2, .object "JointHistory$Document"), (cA 3, .object "JointHistory$Entry"), (cA 4, .int), (cA 5, .boolean)]
theorem jc_cJ {ad aK : Nat → Nat} {cA : Nat → ClassId} {s : js_S} : jc_cell ad aK cA s 0 = .inr (0, jc_fJ ad s) := rfl
theorem jc_c1 {ad aK : Nat → Nat} {cA : Nat → ClassId} {s : js_S} : jc_cell ad aK cA s 1 = .inl (cA 0, 32, .inr (.inr (.inr (.inr (fun i => some (ad (6 + i))))))) := by simp [jc_cell]
theorem jc_c2 {ad aK : Nat → Nat} {cA : Nat → ClassId} {s : js_S} : jc_cell ad aK cA s 2 = .inl (cA 1, 40, .inr (.inr (.inr (.inr (fun i => some (ad (38 + i))))))) := by simp [jc_cell]
theorem jc_c3 {ad aK : Nat → Nat} {cA : Nat → ClassId} {s : js_S} : jc_cell ad aK cA s 3 = .inl (cA 2, 40, .inr (.inr (.inr (.inr (fun i => some (ad (78 + i))))))) := by simp [jc_cell]
theorem jc_c4 {ad aK : Nat → Nat} {cA : Nat → ClassId} {s : js_S} : jc_cell ad aK cA s 4 = .inl (cA 3, 40, .inr (.inr (.inr (.inr (fun i => some (ad (118 + i))))))) := by simp [jc_cell]
theorem jc_c5 {ad aK : Nat → Nat} {cA : Nat → ClassId} {s : js_S} : jc_cell ad aK cA s 5 = .inl (cA 4, 40, .inl (fun i => s 20 i)) := by simp [jc_cell]
theorem jc_cA {ad aK : Nat → Nat} {cA : Nat → ClassId} {s : js_S} {i : Nat} (h : i < 32) : jc_cell ad aK cA s (6 + i) = .inr (1, jc_fA aK s i) := by
  unfold jc_cell
  rw [if_neg (by omega), if_neg (by omega), if_neg (by omega), if_neg (by omega), if_neg (by omega), if_neg (by omega), if_pos (by omega), show 6 + i - 6 = i by omega]
theorem jc_cN {ad aK : Nat → Nat} {cA : Nat → ClassId} {s : js_S} {i : Nat} (h : i < 40) : jc_cell ad aK cA s (38 + i) = .inr (2, jc_fN ad s i) := by
  unfold jc_cell
  rw [if_neg (by omega), if_neg (by omega), if_neg (by omega), if_neg (by omega), if_neg (by omega), if_neg (by omega), if_neg (by omega), if_pos (by omega), show 38 + i - 38 = i by omega]
theorem jc_cD {ad aK : Nat → Nat} {cA : Nat → ClassId} {s : js_S} {i : Nat} (h : i < 40) : jc_cell ad aK cA s (78 + i) = .inr (3, jc_fD ad s i) := by
  unfold jc_cell
  rw [if_neg (by omega), if_neg (by omega), if_neg (by omega), if_neg (by omega), if_neg (by omega), if_neg (by omega), if_neg (by omega), if_neg (by omega), if_pos (by omega), show 78 + i - 78 = i by omega]
theorem jc_cE {ad aK : Nat → Nat} {cA : Nat → ClassId} {s : js_S} {i : Nat} (h : i < 40) : jc_cell ad aK cA s (118 + i) = .inr (4, jc_fE ad s i) := by
  unfold jc_cell
  rw [if_neg (by omega), if_neg (by omega), if_neg (by omega), if_neg (by omega), if_neg (by omega), if_neg (by omega), if_neg (by omega), if_neg (by omega), if_neg (by omega), show 118 + i - 118 = i by omega]
/-- two stores that give the same cells -/
theorem jc_cell_eq {ad aK : Nat → Nat} {cA : Nat → ClassId} {s s' : js_S} {k : Nat} (hk : k < 158) (hJ : k = 0 → jc_fJ ad s' = jc_fJ ad s) (hU : k = 5 → ∀ i, s' 20 i = s 20 i) (hA : ∀ i, i < 32 → k = 6 + i → jc_fA aK s' i = jc_fA aK s i) (hN : ∀ i, i < 40 → k = 38 + i → jc_fN ad s' i = jc_fN ad s i) (hD : ∀ i, i < 40 → k = 78 + i → jc_fD ad s' i = jc_fD ad s i) (hE : ∀ i, i < 40 → k = 118 + i → jc_fE ad s' i = jc_fE ad s i) : jc_cell ad aK cA s' k = jc_cell ad aK cA s k := by
  by_cases h0 : k = 0
  · subst h0
    rw [jc_cJ, jc_cJ, hJ rfl]
  by_cases h1 : k = 1
  · subst h1; rw [jc_c1, jc_c1]
  by_cases h2 : k = 2
  · subst h2; rw [jc_c2, jc_c2]
  by_cases h3 : k = 3
  · subst h3; rw [jc_c3, jc_c3]
  by_cases h4 : k = 4
  · subst h4; rw [jc_c4, jc_c4]
  by_cases h5 : k = 5
  · subst h5
    have e : (fun i => s' 20 i) = (fun i => s 20 i) := funext (hU rfl)
    rw [jc_c5, jc_c5, e]
  by_cases h6 : k < 38
  · obtain ⟨i, rfl⟩ : ∃ i, k = 6 + i := ⟨k - 6, by omega⟩
    rw [jc_cA (by omega), jc_cA (by omega), hA i (by omega) rfl]
  by_cases h7 : k < 78
  · obtain ⟨i, rfl⟩ : ∃ i, k = 38 + i := ⟨k - 38, by omega⟩
    rw [jc_cN (by omega), jc_cN (by omega), hN i (by omega) rfl]
  by_cases h8 : k < 118
  · obtain ⟨i, rfl⟩ : ∃ i, k = 78 + i := ⟨k - 78, by omega⟩
    rw [jc_cD (by omega), jc_cD (by omega), hD i (by omega) rfl]
  · obtain ⟨i, rfl⟩ : ∃ i, k = 118 + i := ⟨k - 118, by omega⟩
    rw [jc_cE (by omega), jc_cE (by omega), hE i (by omega) rfl]
end
section
/-! Reading and writing the class's fields and arrays, by the store. -/
theorem jv_nar {ad : Nat → Nat} {off : Nat} {x : Int32} {C : String} : narrow (.object C) (jv ad off x) = jv ad off x := by
  rcases jv_or ad off x with h | ⟨a, h⟩ <;> rw [h] <;> rfl
theorem jv_fit {ad : Nat → Nat} {off : Nat} {x : Int32} {C : String} : fits (.object C) (jv ad off x) = true := by
  rcases jv_or ad off x with h | ⟨a, h⟩ <;> rw [h] <;> rfl
theorem js_nz {v : Int32} (h : v = 0 ∨ v = 1) : narrow .boolean (.int v) = .int v := by
  rcases h with rfl | rfl <;> rfl
section JACC
variable {p : Program} {l : Launch} {e : Env} {R : Room} {s : State} {m : MethodId} {args : Array Value} {below : List Frame} {meth : Method} {c : Code} {H : Heap} {locs : List Loc} {cells slots : Nat} {Q : State → Prop} {cc : ByteArray} {pc nL : Nat} {ls : Array Slot} {rest : List Value} {own : String} {D : va_G} {aK : Nat → Nat} {ad : Nat → Nat} {cA : Nat → ClassId} {A : Nat → Prop} {u : js_S}
theorem jg_J (hc : jx_C p s m args c cc nL own D (jc_tys cA) aK A) (hh : jx_H D 158 ad (jc_cell ad aK cA u) A s.heap H locs) (k : Nat) (hk : k < 9) {v : Value} {idx : Nat} (hv : (jc_fJ ad u)[k]? = some v) (hlink : Cond.fieldLink own idx (F_J k).1 (F_J k).2.1 (F_J k).2.2.1 ∈ jw_all) (hdg : decode cc pc = .ok (.getfield idx, 3))
    (kk : W p l e R s m args below meth c H locs cells slots Q (F0 m (pc + 3) ls (v :: rest))) : W p l e R s m args below meth c H locs cells slots Q (F0 m pc ls (.ref (ad 0) :: rest)) :=
  va_get (ci := 0) (C := R_J) (T := F_J) (N := 9) hc.1 hc.2.1 hc.2.2.2.2.1 jn_J hc.2.2.2.1 hc.2.2.2.2.2.1 hh.1 0 (by rw [jx_at (by omega), jc_cJ]) rfl k hk (hc.2.2.2.2.1 _ hlink) (fun _ h => h) hv hdg kk
theorem jp_J (hc : jx_C p s m args c cc nL own D (jc_tys cA) aK A) (hh : jx_H D 158 ad (jc_cell ad aK cA u) A s.heap H locs) (k : Nat) (hk : k < 9) {v : Value} {u' : js_S} {idx : Nat} {ty : FieldType} (hlink : Cond.fieldLink own idx (F_J k).1 (F_J k).2.1 (F_J k).2.2.1 ∈ jw_all) (hfin : (F_J k).2.2.2 = false) (hd : parseFieldDescriptor (F_J k).2.2.1 = some ty) (hn : narrow ty v = v) (hfit : fits ty v = true) (hset : (jc_fJ ad u).set k v = jc_fJ ad u') (hoth : ∀ j, j < 158 → j ≠ 0 → jc_cell ad aK cA u' j = jc_cell ad aK cA u j) (hdg : decode cc pc = .ok (.putfield idx, 3))
    (kk : ∀ (H1 : Heap) (locs1 : List Loc), jx_H D 158 ad (jc_cell ad aK cA u') A s.heap H1 locs1 → W p l e R s m args below meth c H1 locs1 cells slots Q (F0 m (pc + 3) ls rest)) : W p l e R s m args below meth c H locs cells slots Q (F0 m pc ls (v :: .ref (ad 0) :: rest)) := by
  refine va_put (fs := jc_fJ ad u) (ci := 0) (C := R_J) (T := F_J) (N := 9) hc.1 hc.2.1 hc.2.2.2.2.1 jn_J t_J t_J_ok n_J hc.2.2.2.1 hc.2.2.2.2.2.1 hh.1 hh.2.1 hh.2.2 0 (by rw [jx_at (by omega), jc_cJ]) rfl k hk (hc.2.2.2.2.1 _ hlink) (fun _ h => h) hfin hd hn hfit (show k < 9 from hk) hdg (fun H1 locs1 h1 h2 h3 => kk H1 locs1 ?_)
  have e : (jx_W 158 ad (jc_cell ad aK cA u)).set 0 (ad 0, .inr (0, (jc_fJ ad u).set k v)) = jx_W 158 ad (jc_cell ad aK cA u') := by
    rw [hset, ← jc_cJ (aK := aK) (cA := cA)]
    exact jx_set (by omega) hoth
  rw [e] at h1 h2
  exact ⟨h1, h2, h3⟩
theorem jg_A (hc : jx_C p s m args c cc nL own D (jc_tys cA) aK A) (hh : jx_H D 158 ad (jc_cell ad aK cA u) A s.heap H locs) {i : Nat} (hi : i < 32) (k : Nat) (hk : k < 5) {v : Value} {idx : Nat} (hv : (jc_fA aK u i)[k]? = some v) (hlink : Cond.fieldLink own idx (F_A k).1 (F_A k).2.1 (F_A k).2.2.1 ∈ jw_all) (hdg : decode cc pc = .ok (.getfield idx, 3))
    (kk : W p l e R s m args below meth c H locs cells slots Q (F0 m (pc + 3) ls (v :: rest))) : W p l e R s m args below meth c H locs cells slots Q (F0 m pc ls (jv ad 6 (nI i) :: rest)) := by
  rw [jv_nI (by omega)]
  exact va_get (ci := 1) (C := R_A) (T := F_A) (N := 5) hc.1 hc.2.1 hc.2.2.2.2.1 jn_A hc.2.2.2.1 hc.2.2.2.2.2.1 hh.1 (6 + i) (by rw [jx_at (by omega), jc_cA hi]) rfl k hk (hc.2.2.2.2.1 _ hlink) (fun _ h => h) hv hdg kk
theorem jgx_A (hc : jx_C p s m args c cc nL own D (jc_tys cA) aK A) (hh : jx_H D 158 ad (jc_cell ad aK cA u) A s.heap H locs) {x : Int32} (hx : ∃ i, i < 32 ∧ x = nI i) (k : Nat) (hk : k < 5) {v : Value} {idx : Nat} (hv : (jc_fA aK u (ix x))[k]? = some v) (hlink : Cond.fieldLink own idx (F_A k).1 (F_A k).2.1 (F_A k).2.2.1 ∈ jw_all) (hdg : decode cc pc = .ok (.getfield idx, 3))
    (kk : W p l e R s m args below meth c H locs cells slots Q (F0 m (pc + 3) ls (v :: rest))) : W p l e R s m args below meth c H locs cells slots Q (F0 m pc ls (jv ad 6 x :: rest)) := by
  obtain ⟨i, hi, rfl⟩ := hx
  rw [ix_nI (by omega)] at hv
  exact jg_A hc hh hi k hk hv hlink hdg kk
theorem jpx_A (hc : jx_C p s m args c cc nL own D (jc_tys cA) aK A) (hh : jx_H D 158 ad (jc_cell ad aK cA u) A s.heap H locs) {i : Nat} (hi : i < 32) (k : Nat) (hk : k < 5) {v : Value} {u' : js_S} {idx : Nat} {ty : FieldType} (hlink : Cond.fieldLink own idx (F_A k).1 (F_A k).2.1 (F_A k).2.2.1 ∈ jw_all) (hfin : (F_A k).2.2.2 = false) (hd : parseFieldDescriptor (F_A k).2.2.1 = some ty) (hn : narrow ty v = v) (hfit : fits ty v = true) (hset : (jc_fA aK u i).set k v = jc_fA aK u' i) (hoth : ∀ j, j < 158 → j ≠ 6 + i → jc_cell ad aK cA u' j = jc_cell ad aK cA u j) (hdg : decode cc pc = .ok (.putfield idx, 3))
    (kk : ∀ (H1 : Heap) (locs1 : List Loc), jx_H D 158 ad (jc_cell ad aK cA u') A s.heap H1 locs1 → W p l e R s m args below meth c H1 locs1 cells slots Q (F0 m (pc + 3) ls rest)) : W p l e R s m args below meth c H locs cells slots Q (F0 m pc ls (v :: jv ad 6 (nI i) :: rest)) := by
  rw [jv_nI (by omega)]
  refine va_put (fs := jc_fA aK u i) (ci := 1) (C := R_A) (T := F_A) (N := 5) hc.1 hc.2.1 hc.2.2.2.2.1 jn_A t_A t_A_ok n_A hc.2.2.2.1 hc.2.2.2.2.2.1 hh.1 hh.2.1 hh.2.2 (6 + i) (by rw [jx_at (by omega), jc_cA hi]) rfl k hk (hc.2.2.2.2.1 _ hlink) (fun _ h => h) hfin hd hn hfit (show k < 5 from hk) hdg (fun H1 locs1 h1 h2 h3 => kk H1 locs1 ?_)
  have e : (jx_W 158 ad (jc_cell ad aK cA u)).set (6 + i) (ad (6 + i), .inr (1, (jc_fA aK u i).set k v)) = jx_W 158 ad (jc_cell ad aK cA u') := by
    rw [hset, ← jc_cA (ad := ad) (aK := aK) (cA := cA) hi]
    exact jx_set (by omega) hoth
  rw [e] at h1 h2
  exact ⟨h1, h2, h3⟩
theorem jg_N (hc : jx_C p s m args c cc nL own D (jc_tys cA) aK A) (hh : jx_H D 158 ad (jc_cell ad aK cA u) A s.heap H locs) {i : Nat} (hi : i < 40) (k : Nat) (hk : k < 4) {v : Value} {idx : Nat} (hv : (jc_fN ad u i)[k]? = some v) (hlink : Cond.fieldLink own idx (F_N k).1 (F_N k).2.1 (F_N k).2.2.1 ∈ jw_all) (hdg : decode cc pc = .ok (.getfield idx, 3))
    (kk : W p l e R s m args below meth c H locs cells slots Q (F0 m (pc + 3) ls (v :: rest))) : W p l e R s m args below meth c H locs cells slots Q (F0 m pc ls (jv ad 38 (nI i) :: rest)) := by
  rw [jv_nI (by omega)]
  exact va_get (ci := 2) (C := R_N) (T := F_N) (N := 4) hc.1 hc.2.1 hc.2.2.2.2.1 jn_N hc.2.2.2.1 hc.2.2.2.2.2.1 hh.1 (38 + i) (by rw [jx_at (by omega), jc_cN hi]) rfl k hk (hc.2.2.2.2.1 _ hlink) (fun _ h => h) hv hdg kk
theorem jgx_N (hc : jx_C p s m args c cc nL own D (jc_tys cA) aK A) (hh : jx_H D 158 ad (jc_cell ad aK cA u) A s.heap H locs) {x : Int32} (hx : ∃ i, i < 40 ∧ x = nI i) (k : Nat) (hk : k < 4) {v : Value} {idx : Nat} (hv : (jc_fN ad u (ix x))[k]? = some v) (hlink : Cond.fieldLink own idx (F_N k).1 (F_N k).2.1 (F_N k).2.2.1 ∈ jw_all) (hdg : decode cc pc = .ok (.getfield idx, 3))
    (kk : W p l e R s m args below meth c H locs cells slots Q (F0 m (pc + 3) ls (v :: rest))) : W p l e R s m args below meth c H locs cells slots Q (F0 m pc ls (jv ad 38 x :: rest)) := by
  obtain ⟨i, hi, rfl⟩ := hx
  rw [ix_nI (by omega)] at hv
  exact jg_N hc hh hi k hk hv hlink hdg kk
theorem jpx_N (hc : jx_C p s m args c cc nL own D (jc_tys cA) aK A) (hh : jx_H D 158 ad (jc_cell ad aK cA u) A s.heap H locs) {i : Nat} (hi : i < 40) (k : Nat) (hk : k < 4) {v : Value} {u' : js_S} {idx : Nat} {ty : FieldType} (hlink : Cond.fieldLink own idx (F_N k).1 (F_N k).2.1 (F_N k).2.2.1 ∈ jw_all) (hfin : (F_N k).2.2.2 = false) (hd : parseFieldDescriptor (F_N k).2.2.1 = some ty) (hn : narrow ty v = v) (hfit : fits ty v = true) (hset : (jc_fN ad u i).set k v = jc_fN ad u' i) (hoth : ∀ j, j < 158 → j ≠ 38 + i → jc_cell ad aK cA u' j = jc_cell ad aK cA u j) (hdg : decode cc pc = .ok (.putfield idx, 3))
    (kk : ∀ (H1 : Heap) (locs1 : List Loc), jx_H D 158 ad (jc_cell ad aK cA u') A s.heap H1 locs1 → W p l e R s m args below meth c H1 locs1 cells slots Q (F0 m (pc + 3) ls rest)) : W p l e R s m args below meth c H locs cells slots Q (F0 m pc ls (v :: jv ad 38 (nI i) :: rest)) := by
  rw [jv_nI (by omega)]
  refine va_put (fs := jc_fN ad u i) (ci := 2) (C := R_N) (T := F_N) (N := 4) hc.1 hc.2.1 hc.2.2.2.2.1 jn_N t_N t_N_ok n_N hc.2.2.2.1 hc.2.2.2.2.2.1 hh.1 hh.2.1 hh.2.2 (38 + i) (by rw [jx_at (by omega), jc_cN hi]) rfl k hk (hc.2.2.2.2.1 _ hlink) (fun _ h => h) hfin hd hn hfit (show k < 4 from hk) hdg (fun H1 locs1 h1 h2 h3 => kk H1 locs1 ?_)
  have e : (jx_W 158 ad (jc_cell ad aK cA u)).set (38 + i) (ad (38 + i), .inr (2, (jc_fN ad u i).set k v)) = jx_W 158 ad (jc_cell ad aK cA u') := by
    rw [hset, ← jc_cN (ad := ad) (aK := aK) (cA := cA) hi]
    exact jx_set (by omega) hoth
  rw [e] at h1 h2
  exact ⟨h1, h2, h3⟩
theorem jg_D (hc : jx_C p s m args c cc nL own D (jc_tys cA) aK A) (hh : jx_H D 158 ad (jc_cell ad aK cA u) A s.heap H locs) {i : Nat} (hi : i < 40) (k : Nat) (hk : k < 6) {v : Value} {idx : Nat} (hv : (jc_fD ad u i)[k]? = some v) (hlink : Cond.fieldLink own idx (F_D k).1 (F_D k).2.1 (F_D k).2.2.1 ∈ jw_all) (hdg : decode cc pc = .ok (.getfield idx, 3))
    (kk : W p l e R s m args below meth c H locs cells slots Q (F0 m (pc + 3) ls (v :: rest))) : W p l e R s m args below meth c H locs cells slots Q (F0 m pc ls (jv ad 78 (nI i) :: rest)) := by
  rw [jv_nI (by omega)]
  exact va_get (ci := 3) (C := R_D) (T := F_D) (N := 6) hc.1 hc.2.1 hc.2.2.2.2.1 jn_D hc.2.2.2.1 hc.2.2.2.2.2.1 hh.1 (78 + i) (by rw [jx_at (by omega), jc_cD hi]) rfl k hk (hc.2.2.2.2.1 _ hlink) (fun _ h => h) hv hdg kk
theorem jgx_D (hc : jx_C p s m args c cc nL own D (jc_tys cA) aK A) (hh : jx_H D 158 ad (jc_cell ad aK cA u) A s.heap H locs) {x : Int32} (hx : ∃ i, i < 40 ∧ x = nI i) (k : Nat) (hk : k < 6) {v : Value} {idx : Nat} (hv : (jc_fD ad u (ix x))[k]? = some v) (hlink : Cond.fieldLink own idx (F_D k).1 (F_D k).2.1 (F_D k).2.2.1 ∈ jw_all) (hdg : decode cc pc = .ok (.getfield idx, 3))
    (kk : W p l e R s m args below meth c H locs cells slots Q (F0 m (pc + 3) ls (v :: rest))) : W p l e R s m args below meth c H locs cells slots Q (F0 m pc ls (jv ad 78 x :: rest)) := by
  obtain ⟨i, hi, rfl⟩ := hx
  rw [ix_nI (by omega)] at hv
  exact jg_D hc hh hi k hk hv hlink hdg kk
theorem jpx_D (hc : jx_C p s m args c cc nL own D (jc_tys cA) aK A) (hh : jx_H D 158 ad (jc_cell ad aK cA u) A s.heap H locs) {i : Nat} (hi : i < 40) (k : Nat) (hk : k < 6) {v : Value} {u' : js_S} {idx : Nat} {ty : FieldType} (hlink : Cond.fieldLink own idx (F_D k).1 (F_D k).2.1 (F_D k).2.2.1 ∈ jw_all) (hfin : (F_D k).2.2.2 = false) (hd : parseFieldDescriptor (F_D k).2.2.1 = some ty) (hn : narrow ty v = v) (hfit : fits ty v = true) (hset : (jc_fD ad u i).set k v = jc_fD ad u' i) (hoth : ∀ j, j < 158 → j ≠ 78 + i → jc_cell ad aK cA u' j = jc_cell ad aK cA u j) (hdg : decode cc pc = .ok (.putfield idx, 3))
    (kk : ∀ (H1 : Heap) (locs1 : List Loc), jx_H D 158 ad (jc_cell ad aK cA u') A s.heap H1 locs1 → W p l e R s m args below meth c H1 locs1 cells slots Q (F0 m (pc + 3) ls rest)) : W p l e R s m args below meth c H locs cells slots Q (F0 m pc ls (v :: jv ad 78 (nI i) :: rest)) := by
  rw [jv_nI (by omega)]
  refine va_put (fs := jc_fD ad u i) (ci := 3) (C := R_D) (T := F_D) (N := 6) hc.1 hc.2.1 hc.2.2.2.2.1 jn_D t_D t_D_ok n_D hc.2.2.2.1 hc.2.2.2.2.2.1 hh.1 hh.2.1 hh.2.2 (78 + i) (by rw [jx_at (by omega), jc_cD hi]) rfl k hk (hc.2.2.2.2.1 _ hlink) (fun _ h => h) hfin hd hn hfit (show k < 6 from hk) hdg (fun H1 locs1 h1 h2 h3 => kk H1 locs1 ?_)
  have e : (jx_W 158 ad (jc_cell ad aK cA u)).set (78 + i) (ad (78 + i), .inr (3, (jc_fD ad u i).set k v)) = jx_W 158 ad (jc_cell ad aK cA u') := by
    rw [hset, ← jc_cD (ad := ad) (aK := aK) (cA := cA) hi]
    exact jx_set (by omega) hoth
  rw [e] at h1 h2
  exact ⟨h1, h2, h3⟩
theorem jg_E (hc : jx_C p s m args c cc nL own D (jc_tys cA) aK A) (hh : jx_H D 158 ad (jc_cell ad aK cA u) A s.heap H locs) {i : Nat} (hi : i < 40) (k : Nat) (hk : k < 6) {v : Value} {idx : Nat} (hv : (jc_fE ad u i)[k]? = some v) (hlink : Cond.fieldLink own idx (F_E k).1 (F_E k).2.1 (F_E k).2.2.1 ∈ jw_all) (hdg : decode cc pc = .ok (.getfield idx, 3))
    (kk : W p l e R s m args below meth c H locs cells slots Q (F0 m (pc + 3) ls (v :: rest))) : W p l e R s m args below meth c H locs cells slots Q (F0 m pc ls (jv ad 118 (nI i) :: rest)) := by
  rw [jv_nI (by omega)]
  exact va_get (ci := 4) (C := R_E) (T := F_E) (N := 6) hc.1 hc.2.1 hc.2.2.2.2.1 jn_E hc.2.2.2.1 hc.2.2.2.2.2.1 hh.1 (118 + i) (by rw [jx_at (by omega), jc_cE hi]) rfl k hk (hc.2.2.2.2.1 _ hlink) (fun _ h => h) hv hdg kk
theorem jgx_E (hc : jx_C p s m args c cc nL own D (jc_tys cA) aK A) (hh : jx_H D 158 ad (jc_cell ad aK cA u) A s.heap H locs) {x : Int32} (hx : ∃ i, i < 40 ∧ x = nI i) (k : Nat) (hk : k < 6) {v : Value} {idx : Nat} (hv : (jc_fE ad u (ix x))[k]? = some v) (hlink : Cond.fieldLink own idx (F_E k).1 (F_E k).2.1 (F_E k).2.2.1 ∈ jw_all) (hdg : decode cc pc = .ok (.getfield idx, 3))
    (kk : W p l e R s m args below meth c H locs cells slots Q (F0 m (pc + 3) ls (v :: rest))) : W p l e R s m args below meth c H locs cells slots Q (F0 m pc ls (jv ad 118 x :: rest)) := by
  obtain ⟨i, hi, rfl⟩ := hx
  rw [ix_nI (by omega)] at hv
  exact jg_E hc hh hi k hk hv hlink hdg kk
theorem jpx_E (hc : jx_C p s m args c cc nL own D (jc_tys cA) aK A) (hh : jx_H D 158 ad (jc_cell ad aK cA u) A s.heap H locs) {i : Nat} (hi : i < 40) (k : Nat) (hk : k < 6) {v : Value} {u' : js_S} {idx : Nat} {ty : FieldType} (hlink : Cond.fieldLink own idx (F_E k).1 (F_E k).2.1 (F_E k).2.2.1 ∈ jw_all) (hfin : (F_E k).2.2.2 = false) (hd : parseFieldDescriptor (F_E k).2.2.1 = some ty) (hn : narrow ty v = v) (hfit : fits ty v = true) (hset : (jc_fE ad u i).set k v = jc_fE ad u' i) (hoth : ∀ j, j < 158 → j ≠ 118 + i → jc_cell ad aK cA u' j = jc_cell ad aK cA u j) (hdg : decode cc pc = .ok (.putfield idx, 3))
    (kk : ∀ (H1 : Heap) (locs1 : List Loc), jx_H D 158 ad (jc_cell ad aK cA u') A s.heap H1 locs1 → W p l e R s m args below meth c H1 locs1 cells slots Q (F0 m (pc + 3) ls rest)) : W p l e R s m args below meth c H locs cells slots Q (F0 m pc ls (v :: jv ad 118 (nI i) :: rest)) := by
  rw [jv_nI (by omega)]
  refine va_put (fs := jc_fE ad u i) (ci := 4) (C := R_E) (T := F_E) (N := 6) hc.1 hc.2.1 hc.2.2.2.2.1 jn_E t_E t_E_ok n_E hc.2.2.2.1 hc.2.2.2.2.2.1 hh.1 hh.2.1 hh.2.2 (118 + i) (by rw [jx_at (by omega), jc_cE hi]) rfl k hk (hc.2.2.2.2.1 _ hlink) (fun _ h => h) hfin hd hn hfit (show k < 6 from hk) hdg (fun H1 locs1 h1 h2 h3 => kk H1 locs1 ?_)
  have e : (jx_W 158 ad (jc_cell ad aK cA u)).set (118 + i) (ad (118 + i), .inr (4, (jc_fE ad u i).set k v)) = jx_W 158 ad (jc_cell ad aK cA u') := by
    rw [hset, ← jc_cE (ad := ad) (aK := aK) (cA := cA) hi]
    exact jx_set (by omega) hoth
  rw [e] at h1 h2
  exact ⟨h1, h2, h3⟩
theorem jo_21 {v : Int32} : ∀ j, j < 158 → j ≠ 0 → jc_cell ad aK cA (js_up u 21 0 v) j = jc_cell ad aK cA u j := by
  intro j hj hne
  exact jc_cell_eq hj (fun e9 => absurd e9 hne) (fun _ i9 => by simp [js_up]) (fun i9 _ _ => by simp [jc_fA, js_up]) (fun i9 _ _ => by simp [jc_fN, js_up]) (fun i9 _ _ => by simp [jc_fD, js_up]) (fun i9 _ _ => by simp [jc_fE, js_up])
theorem jo_22 {v : Int32} : ∀ j, j < 158 → j ≠ 0 → jc_cell ad aK cA (js_up u 22 0 v) j = jc_cell ad aK cA u j := by
  intro j hj hne
  exact jc_cell_eq hj (fun e9 => absurd e9 hne) (fun _ i9 => by simp [js_up]) (fun i9 _ _ => by simp [jc_fA, js_up]) (fun i9 _ _ => by simp [jc_fN, js_up]) (fun i9 _ _ => by simp [jc_fD, js_up]) (fun i9 _ _ => by simp [jc_fE, js_up])
theorem jo_23 {v : Int32} : ∀ j, j < 158 → j ≠ 0 → jc_cell ad aK cA (js_up u 23 0 v) j = jc_cell ad aK cA u j := by
  intro j hj hne
  exact jc_cell_eq hj (fun e9 => absurd e9 hne) (fun _ i9 => by simp [js_up]) (fun i9 _ _ => by simp [jc_fA, js_up]) (fun i9 _ _ => by simp [jc_fN, js_up]) (fun i9 _ _ => by simp [jc_fD, js_up]) (fun i9 _ _ => by simp [jc_fE, js_up])
theorem jo_24 {v : Int32} : ∀ j, j < 158 → j ≠ 0 → jc_cell ad aK cA (js_up u 24 0 v) j = jc_cell ad aK cA u j := by
  intro j hj hne
  exact jc_cell_eq hj (fun e9 => absurd e9 hne) (fun _ i9 => by simp [js_up]) (fun i9 _ _ => by simp [jc_fA, js_up]) (fun i9 _ _ => by simp [jc_fN, js_up]) (fun i9 _ _ => by simp [jc_fD, js_up]) (fun i9 _ _ => by simp [jc_fE, js_up])
theorem jo_0 {v : Int32} {i : Nat} : ∀ j, j < 158 → j ≠ 6 + i → jc_cell ad aK cA (js_up u 0 i v) j = jc_cell ad aK cA u j := by
  intro j hj hne
  exact jc_cell_eq hj (fun _ => by simp [jc_fJ, js_up]) (fun _ i9 => by simp [js_up]) (fun i9 _ e9 => by have n9 : ¬ i9 = i := (fun q => hne (by omega)); simp [jc_fA, js_up, n9]) (fun i9 _ _ => by simp [jc_fN, js_up]) (fun i9 _ _ => by simp [jc_fD, js_up]) (fun i9 _ _ => by simp [jc_fE, js_up])
theorem jo_1 {v : Int32} {i : Nat} : ∀ j, j < 158 → j ≠ 6 + i → jc_cell ad aK cA (js_up u 1 i v) j = jc_cell ad aK cA u j := by
  intro j hj hne
  exact jc_cell_eq hj (fun _ => by simp [jc_fJ, js_up]) (fun _ i9 => by simp [js_up]) (fun i9 _ e9 => by have n9 : ¬ i9 = i := (fun q => hne (by omega)); simp [jc_fA, js_up, n9]) (fun i9 _ _ => by simp [jc_fN, js_up]) (fun i9 _ _ => by simp [jc_fD, js_up]) (fun i9 _ _ => by simp [jc_fE, js_up])
theorem jo_2 {v : Int32} {i : Nat} : ∀ j, j < 158 → j ≠ 6 + i → jc_cell ad aK cA (js_up u 2 i v) j = jc_cell ad aK cA u j := by
  intro j hj hne
  exact jc_cell_eq hj (fun _ => by simp [jc_fJ, js_up]) (fun _ i9 => by simp [js_up]) (fun i9 _ e9 => by have n9 : ¬ i9 = i := (fun q => hne (by omega)); simp [jc_fA, js_up, n9]) (fun i9 _ _ => by simp [jc_fN, js_up]) (fun i9 _ _ => by simp [jc_fD, js_up]) (fun i9 _ _ => by simp [jc_fE, js_up])
theorem jo_3 {v : Int32} {i : Nat} : ∀ j, j < 158 → j ≠ 6 + i → jc_cell ad aK cA (js_up u 3 i v) j = jc_cell ad aK cA u j := by
  intro j hj hne
  exact jc_cell_eq hj (fun _ => by simp [jc_fJ, js_up]) (fun _ i9 => by simp [js_up]) (fun i9 _ e9 => by have n9 : ¬ i9 = i := (fun q => hne (by omega)); simp [jc_fA, js_up, n9]) (fun i9 _ _ => by simp [jc_fN, js_up]) (fun i9 _ _ => by simp [jc_fD, js_up]) (fun i9 _ _ => by simp [jc_fE, js_up])
theorem jo_4 {v : Int32} {i : Nat} : ∀ j, j < 158 → j ≠ 6 + i → jc_cell ad aK cA (js_up u 4 i v) j = jc_cell ad aK cA u j := by
  intro j hj hne
  exact jc_cell_eq hj (fun _ => by simp [jc_fJ, js_up]) (fun _ i9 => by simp [js_up]) (fun i9 _ e9 => by have n9 : ¬ i9 = i := (fun q => hne (by omega)); simp [jc_fA, js_up, n9]) (fun i9 _ _ => by simp [jc_fN, js_up]) (fun i9 _ _ => by simp [jc_fD, js_up]) (fun i9 _ _ => by simp [jc_fE, js_up])
theorem jo_5 {v : Int32} {i : Nat} : ∀ j, j < 158 → j ≠ 38 + i → jc_cell ad aK cA (js_up u 5 i v) j = jc_cell ad aK cA u j := by
  intro j hj hne
  exact jc_cell_eq hj (fun _ => by simp [jc_fJ, js_up]) (fun _ i9 => by simp [js_up]) (fun i9 _ _ => by simp [jc_fA, js_up]) (fun i9 _ e9 => by have n9 : ¬ i9 = i := (fun q => hne (by omega)); simp [jc_fN, js_up, n9]) (fun i9 _ _ => by simp [jc_fD, js_up]) (fun i9 _ _ => by simp [jc_fE, js_up])
theorem jo_6 {v : Int32} {i : Nat} : ∀ j, j < 158 → j ≠ 38 + i → jc_cell ad aK cA (js_up u 6 i v) j = jc_cell ad aK cA u j := by
  intro j hj hne
  exact jc_cell_eq hj (fun _ => by simp [jc_fJ, js_up]) (fun _ i9 => by simp [js_up]) (fun i9 _ _ => by simp [jc_fA, js_up]) (fun i9 _ e9 => by have n9 : ¬ i9 = i := (fun q => hne (by omega)); simp [jc_fN, js_up, n9]) (fun i9 _ _ => by simp [jc_fD, js_up]) (fun i9 _ _ => by simp [jc_fE, js_up])
theorem jo_7 {v : Int32} {i : Nat} : ∀ j, j < 158 → j ≠ 38 + i → jc_cell ad aK cA (js_up u 7 i v) j = jc_cell ad aK cA u j := by
  intro j hj hne
  exact jc_cell_eq hj (fun _ => by simp [jc_fJ, js_up]) (fun _ i9 => by simp [js_up]) (fun i9 _ _ => by simp [jc_fA, js_up]) (fun i9 _ e9 => by have n9 : ¬ i9 = i := (fun q => hne (by omega)); simp [jc_fN, js_up, n9]) (fun i9 _ _ => by simp [jc_fD, js_up]) (fun i9 _ _ => by simp [jc_fE, js_up])
theorem jo_8 {v : Int32} {i : Nat} : ∀ j, j < 158 → j ≠ 78 + i → jc_cell ad aK cA (js_up u 8 i v) j = jc_cell ad aK cA u j := by
  intro j hj hne
  exact jc_cell_eq hj (fun _ => by simp [jc_fJ, js_up]) (fun _ i9 => by simp [js_up]) (fun i9 _ _ => by simp [jc_fA, js_up]) (fun i9 _ _ => by simp [jc_fN, js_up]) (fun i9 _ e9 => by have n9 : ¬ i9 = i := (fun q => hne (by omega)); simp [jc_fD, js_up, n9]) (fun i9 _ _ => by simp [jc_fE, js_up])
theorem jo_9 {v : Int32} {i : Nat} : ∀ j, j < 158 → j ≠ 78 + i → jc_cell ad aK cA (js_up u 9 i v) j = jc_cell ad aK cA u j := by
  intro j hj hne
  exact jc_cell_eq hj (fun _ => by simp [jc_fJ, js_up]) (fun _ i9 => by simp [js_up]) (fun i9 _ _ => by simp [jc_fA, js_up]) (fun i9 _ _ => by simp [jc_fN, js_up]) (fun i9 _ e9 => by have n9 : ¬ i9 = i := (fun q => hne (by omega)); simp [jc_fD, js_up, n9]) (fun i9 _ _ => by simp [jc_fE, js_up])
theorem jo_10 {v : Int32} {i : Nat} : ∀ j, j < 158 → j ≠ 78 + i → jc_cell ad aK cA (js_up u 10 i v) j = jc_cell ad aK cA u j := by
  intro j hj hne
  exact jc_cell_eq hj (fun _ => by simp [jc_fJ, js_up]) (fun _ i9 => by simp [js_up]) (fun i9 _ _ => by simp [jc_fA, js_up]) (fun i9 _ _ => by simp [jc_fN, js_up]) (fun i9 _ e9 => by have n9 : ¬ i9 = i := (fun q => hne (by omega)); simp [jc_fD, js_up, n9]) (fun i9 _ _ => by simp [jc_fE, js_up])
theorem jo_11 {v : Int32} {i : Nat} : ∀ j, j < 158 → j ≠ 78 + i → jc_cell ad aK cA (js_up u 11 i v) j = jc_cell ad aK cA u j := by
  intro j hj hne
  exact jc_cell_eq hj (fun _ => by simp [jc_fJ, js_up]) (fun _ i9 => by simp [js_up]) (fun i9 _ _ => by simp [jc_fA, js_up]) (fun i9 _ _ => by simp [jc_fN, js_up]) (fun i9 _ e9 => by have n9 : ¬ i9 = i := (fun q => hne (by omega)); simp [jc_fD, js_up, n9]) (fun i9 _ _ => by simp [jc_fE, js_up])
theorem jo_12 {v : Int32} {i : Nat} : ∀ j, j < 158 → j ≠ 78 + i → jc_cell ad aK cA (js_up u 12 i v) j = jc_cell ad aK cA u j := by
  intro j hj hne
  exact jc_cell_eq hj (fun _ => by simp [jc_fJ, js_up]) (fun _ i9 => by simp [js_up]) (fun i9 _ _ => by simp [jc_fA, js_up]) (fun i9 _ _ => by simp [jc_fN, js_up]) (fun i9 _ e9 => by have n9 : ¬ i9 = i := (fun q => hne (by omega)); simp [jc_fD, js_up, n9]) (fun i9 _ _ => by simp [jc_fE, js_up])
theorem jo_13 {v : Int32} {i : Nat} : ∀ j, j < 158 → j ≠ 78 + i → jc_cell ad aK cA (js_up u 13 i v) j = jc_cell ad aK cA u j := by
  intro j hj hne
  exact jc_cell_eq hj (fun _ => by simp [jc_fJ, js_up]) (fun _ i9 => by simp [js_up]) (fun i9 _ _ => by simp [jc_fA, js_up]) (fun i9 _ _ => by simp [jc_fN, js_up]) (fun i9 _ e9 => by have n9 : ¬ i9 = i := (fun q => hne (by omega)); simp [jc_fD, js_up, n9]) (fun i9 _ _ => by simp [jc_fE, js_up])
theorem jo_14 {v : Int32} {i : Nat} : ∀ j, j < 158 → j ≠ 118 + i → jc_cell ad aK cA (js_up u 14 i v) j = jc_cell ad aK cA u j := by
  intro j hj hne
  exact jc_cell_eq hj (fun _ => by simp [jc_fJ, js_up]) (fun _ i9 => by simp [js_up]) (fun i9 _ _ => by simp [jc_fA, js_up]) (fun i9 _ _ => by simp [jc_fN, js_up]) (fun i9 _ _ => by simp [jc_fD, js_up]) (fun i9 _ e9 => by have n9 : ¬ i9 = i := (fun q => hne (by omega)); simp [jc_fE, js_up, n9])
theorem jo_15 {v : Int32} {i : Nat} : ∀ j, j < 158 → j ≠ 118 + i → jc_cell ad aK cA (js_up u 15 i v) j = jc_cell ad aK cA u j := by
  intro j hj hne
  exact jc_cell_eq hj (fun _ => by simp [jc_fJ, js_up]) (fun _ i9 => by simp [js_up]) (fun i9 _ _ => by simp [jc_fA, js_up]) (fun i9 _ _ => by simp [jc_fN, js_up]) (fun i9 _ _ => by simp [jc_fD, js_up]) (fun i9 _ e9 => by have n9 : ¬ i9 = i := (fun q => hne (by omega)); simp [jc_fE, js_up, n9])
theorem jo_16 {v : Int32} {i : Nat} : ∀ j, j < 158 → j ≠ 118 + i → jc_cell ad aK cA (js_up u 16 i v) j = jc_cell ad aK cA u j := by
  intro j hj hne
  exact jc_cell_eq hj (fun _ => by simp [jc_fJ, js_up]) (fun _ i9 => by simp [js_up]) (fun i9 _ _ => by simp [jc_fA, js_up]) (fun i9 _ _ => by simp [jc_fN, js_up]) (fun i9 _ _ => by simp [jc_fD, js_up]) (fun i9 _ e9 => by have n9 : ¬ i9 = i := (fun q => hne (by omega)); simp [jc_fE, js_up, n9])
theorem jo_17 {v : Int32} {i : Nat} : ∀ j, j < 158 → j ≠ 118 + i → jc_cell ad aK cA (js_up u 17 i v) j = jc_cell ad aK cA u j := by
  intro j hj hne
  exact jc_cell_eq hj (fun _ => by simp [jc_fJ, js_up]) (fun _ i9 => by simp [js_up]) (fun i9 _ _ => by simp [jc_fA, js_up]) (fun i9 _ _ => by simp [jc_fN, js_up]) (fun i9 _ _ => by simp [jc_fD, js_up]) (fun i9 _ e9 => by have n9 : ¬ i9 = i := (fun q => hne (by omega)); simp [jc_fE, js_up, n9])
theorem jo_18 {v : Int32} {i : Nat} : ∀ j, j < 158 → j ≠ 118 + i → jc_cell ad aK cA (js_up u 18 i v) j = jc_cell ad aK cA u j := by
  intro j hj hne
  exact jc_cell_eq hj (fun _ => by simp [jc_fJ, js_up]) (fun _ i9 => by simp [js_up]) (fun i9 _ _ => by simp [jc_fA, js_up]) (fun i9 _ _ => by simp [jc_fN, js_up]) (fun i9 _ _ => by simp [jc_fD, js_up]) (fun i9 _ e9 => by have n9 : ¬ i9 = i := (fun q => hne (by omega)); simp [jc_fE, js_up, n9])
theorem jo_19 {v : Int32} {i : Nat} : ∀ j, j < 158 → j ≠ 118 + i → jc_cell ad aK cA (js_up u 19 i v) j = jc_cell ad aK cA u j := by
  intro j hj hne
  exact jc_cell_eq hj (fun _ => by simp [jc_fJ, js_up]) (fun _ i9 => by simp [js_up]) (fun i9 _ _ => by simp [jc_fA, js_up]) (fun i9 _ _ => by simp [jc_fN, js_up]) (fun i9 _ _ => by simp [jc_fD, js_up]) (fun i9 _ e9 => by have n9 : ¬ i9 = i := (fun q => hne (by omega)); simp [jc_fE, js_up, n9])
theorem jp_21 (hc : jx_C p s m args c cc nL own D (jc_tys cA) aK A) (hh : jx_H D 158 ad (jc_cell ad aK cA u) A s.heap H locs) {v : Int32} {idx : Nat} (hlink : Cond.fieldLink own idx (F_J 5).1 (F_J 5).2.1 (F_J 5).2.2.1 ∈ jw_all) (hdg : decode cc pc = .ok (.putfield idx, 3))
    (kk : ∀ (H1 : Heap) (locs1 : List Loc), jx_H D 158 ad (jc_cell ad aK cA (js_up u 21 0 v)) A s.heap H1 locs1 → W p l e R s m args below meth c H1 locs1 cells slots Q (F0 m (pc + 3) ls rest)) : W p l e R s m args below meth c H locs cells slots Q (F0 m pc ls (.int v :: .ref (ad 0) :: rest)) :=
  jp_J hc hh 5 (by omega) (ty := .int) hlink rfl (by decide +kernel) rfl rfl (by simp [jc_fJ, js_up]) jo_21 hdg kk
theorem jp_22 (hc : jx_C p s m args c cc nL own D (jc_tys cA) aK A) (hh : jx_H D 158 ad (jc_cell ad aK cA u) A s.heap H locs) {v : Int32} {idx : Nat} (hlink : Cond.fieldLink own idx (F_J 6).1 (F_J 6).2.1 (F_J 6).2.2.1 ∈ jw_all) (hdg : decode cc pc = .ok (.putfield idx, 3))
    (kk : ∀ (H1 : Heap) (locs1 : List Loc), jx_H D 158 ad (jc_cell ad aK cA (js_up u 22 0 v)) A s.heap H1 locs1 → W p l e R s m args below meth c H1 locs1 cells slots Q (F0 m (pc + 3) ls rest)) : W p l e R s m args below meth c H locs cells slots Q (F0 m pc ls (.int v :: .ref (ad 0) :: rest)) :=
  jp_J hc hh 6 (by omega) (ty := .int) hlink rfl (by decide +kernel) rfl rfl (by simp [jc_fJ, js_up]) jo_22 hdg kk
theorem jp_23 (hc : jx_C p s m args c cc nL own D (jc_tys cA) aK A) (hh : jx_H D 158 ad (jc_cell ad aK cA u) A s.heap H locs) {v : Int32} {idx : Nat} (hlink : Cond.fieldLink own idx (F_J 7).1 (F_J 7).2.1 (F_J 7).2.2.1 ∈ jw_all) (hdg : decode cc pc = .ok (.putfield idx, 3))
    (kk : ∀ (H1 : Heap) (locs1 : List Loc), jx_H D 158 ad (jc_cell ad aK cA (js_up u 23 0 v)) A s.heap H1 locs1 → W p l e R s m args below meth c H1 locs1 cells slots Q (F0 m (pc + 3) ls rest)) : W p l e R s m args below meth c H locs cells slots Q (F0 m pc ls (.int v :: .ref (ad 0) :: rest)) :=
  jp_J hc hh 7 (by omega) (ty := .int) hlink rfl (by decide +kernel) rfl rfl (by simp [jc_fJ, js_up]) jo_23 hdg kk
theorem jp_24 (hc : jx_C p s m args c cc nL own D (jc_tys cA) aK A) (hh : jx_H D 158 ad (jc_cell ad aK cA u) A s.heap H locs) {v : Int32} {idx : Nat} (hlink : Cond.fieldLink own idx (F_J 8).1 (F_J 8).2.1 (F_J 8).2.2.1 ∈ jw_all) (hdg : decode cc pc = .ok (.putfield idx, 3))
    (kk : ∀ (H1 : Heap) (locs1 : List Loc), jx_H D 158 ad (jc_cell ad aK cA (js_up u 24 0 v)) A s.heap H1 locs1 → W p l e R s m args below meth c H1 locs1 cells slots Q (F0 m (pc + 3) ls rest)) : W p l e R s m args below meth c H locs cells slots Q (F0 m pc ls (.int v :: .ref (ad 0) :: rest)) :=
  jp_J hc hh 8 (by omega) (ty := .int) hlink rfl (by decide +kernel) rfl rfl (by simp [jc_fJ, js_up]) jo_24 hdg kk
theorem jp_0 (hc : jx_C p s m args c cc nL own D (jc_tys cA) aK A) (hh : jx_H D 158 ad (jc_cell ad aK cA u) A s.heap H locs) {i : Nat} (hi : i < 32) {v : Int32} {idx : Nat} (hlink : Cond.fieldLink own idx (F_A 0).1 (F_A 0).2.1 (F_A 0).2.2.1 ∈ jw_all) (hdg : decode cc pc = .ok (.putfield idx, 3))
    (kk : ∀ (H1 : Heap) (locs1 : List Loc), jx_H D 158 ad (jc_cell ad aK cA (js_up u 0 i v)) A s.heap H1 locs1 → W p l e R s m args below meth c H1 locs1 cells slots Q (F0 m (pc + 3) ls rest)) : W p l e R s m args below meth c H locs cells slots Q (F0 m pc ls (jv aK 0 v :: jv ad 6 (nI i) :: rest)) :=
  jpx_A hc hh hi 0 (by omega) (ty := .object "JointHistory$Kind") hlink rfl (by decide +kernel) jv_nar jv_fit (by simp [jc_fA, js_up]) jo_0 hdg kk
theorem jpy_0 (hc : jx_C p s m args c cc nL own D (jc_tys cA) aK A) (hh : jx_H D 158 ad (jc_cell ad aK cA u) A s.heap H locs) {x : Int32} (hx : ∃ i, i < 32 ∧ x = nI i) {v : Int32} {idx : Nat} (hlink : Cond.fieldLink own idx (F_A 0).1 (F_A 0).2.1 (F_A 0).2.2.1 ∈ jw_all) (hdg : decode cc pc = .ok (.putfield idx, 3))
    (kk : ∀ (H1 : Heap) (locs1 : List Loc), jx_H D 158 ad (jc_cell ad aK cA (js_up u 0 (ix x) v)) A s.heap H1 locs1 → W p l e R s m args below meth c H1 locs1 cells slots Q (F0 m (pc + 3) ls rest)) : W p l e R s m args below meth c H locs cells slots Q (F0 m pc ls (jv aK 0 v :: jv ad 6 x :: rest)) := by
  obtain ⟨i, hi, rfl⟩ := hx
  rw [ix_nI (by omega)] at kk
  exact jp_0 hc hh hi hlink hdg kk
theorem jp_1 (hc : jx_C p s m args c cc nL own D (jc_tys cA) aK A) (hh : jx_H D 158 ad (jc_cell ad aK cA u) A s.heap H locs) {i : Nat} (hi : i < 32) {v : Int32} {idx : Nat} (hlink : Cond.fieldLink own idx (F_A 1).1 (F_A 1).2.1 (F_A 1).2.2.1 ∈ jw_all) (hdg : decode cc pc = .ok (.putfield idx, 3))
    (kk : ∀ (H1 : Heap) (locs1 : List Loc), jx_H D 158 ad (jc_cell ad aK cA (js_up u 1 i v)) A s.heap H1 locs1 → W p l e R s m args below meth c H1 locs1 cells slots Q (F0 m (pc + 3) ls rest)) : W p l e R s m args below meth c H locs cells slots Q (F0 m pc ls (.int v :: jv ad 6 (nI i) :: rest)) :=
  jpx_A hc hh hi 1 (by omega) (ty := .int) hlink rfl (by decide +kernel) rfl rfl (by simp [jc_fA, js_up]) jo_1 hdg kk
theorem jpy_1 (hc : jx_C p s m args c cc nL own D (jc_tys cA) aK A) (hh : jx_H D 158 ad (jc_cell ad aK cA u) A s.heap H locs) {x : Int32} (hx : ∃ i, i < 32 ∧ x = nI i) {v : Int32} {idx : Nat} (hlink : Cond.fieldLink own idx (F_A 1).1 (F_A 1).2.1 (F_A 1).2.2.1 ∈ jw_all) (hdg : decode cc pc = .ok (.putfield idx, 3))
    (kk : ∀ (H1 : Heap) (locs1 : List Loc), jx_H D 158 ad (jc_cell ad aK cA (js_up u 1 (ix x) v)) A s.heap H1 locs1 → W p l e R s m args below meth c H1 locs1 cells slots Q (F0 m (pc + 3) ls rest)) : W p l e R s m args below meth c H locs cells slots Q (F0 m pc ls (.int v :: jv ad 6 x :: rest)) := by
  obtain ⟨i, hi, rfl⟩ := hx
  rw [ix_nI (by omega)] at kk
  exact jp_1 hc hh hi hlink hdg kk
theorem jp_2 (hc : jx_C p s m args c cc nL own D (jc_tys cA) aK A) (hh : jx_H D 158 ad (jc_cell ad aK cA u) A s.heap H locs) {i : Nat} (hi : i < 32) {v : Int32} {idx : Nat} (hlink : Cond.fieldLink own idx (F_A 2).1 (F_A 2).2.1 (F_A 2).2.2.1 ∈ jw_all) (hdg : decode cc pc = .ok (.putfield idx, 3))
    (kk : ∀ (H1 : Heap) (locs1 : List Loc), jx_H D 158 ad (jc_cell ad aK cA (js_up u 2 i v)) A s.heap H1 locs1 → W p l e R s m args below meth c H1 locs1 cells slots Q (F0 m (pc + 3) ls rest)) : W p l e R s m args below meth c H locs cells slots Q (F0 m pc ls (.int v :: jv ad 6 (nI i) :: rest)) :=
  jpx_A hc hh hi 2 (by omega) (ty := .int) hlink rfl (by decide +kernel) rfl rfl (by simp [jc_fA, js_up]) jo_2 hdg kk
theorem jpy_2 (hc : jx_C p s m args c cc nL own D (jc_tys cA) aK A) (hh : jx_H D 158 ad (jc_cell ad aK cA u) A s.heap H locs) {x : Int32} (hx : ∃ i, i < 32 ∧ x = nI i) {v : Int32} {idx : Nat} (hlink : Cond.fieldLink own idx (F_A 2).1 (F_A 2).2.1 (F_A 2).2.2.1 ∈ jw_all) (hdg : decode cc pc = .ok (.putfield idx, 3))
    (kk : ∀ (H1 : Heap) (locs1 : List Loc), jx_H D 158 ad (jc_cell ad aK cA (js_up u 2 (ix x) v)) A s.heap H1 locs1 → W p l e R s m args below meth c H1 locs1 cells slots Q (F0 m (pc + 3) ls rest)) : W p l e R s m args below meth c H locs cells slots Q (F0 m pc ls (.int v :: jv ad 6 x :: rest)) := by
  obtain ⟨i, hi, rfl⟩ := hx
  rw [ix_nI (by omega)] at kk
  exact jp_2 hc hh hi hlink hdg kk
theorem jp_3 (hc : jx_C p s m args c cc nL own D (jc_tys cA) aK A) (hh : jx_H D 158 ad (jc_cell ad aK cA u) A s.heap H locs) {i : Nat} (hi : i < 32) {v : Int32} (hz : v = 0 ∨ v = 1) {idx : Nat} (hlink : Cond.fieldLink own idx (F_A 3).1 (F_A 3).2.1 (F_A 3).2.2.1 ∈ jw_all) (hdg : decode cc pc = .ok (.putfield idx, 3))
    (kk : ∀ (H1 : Heap) (locs1 : List Loc), jx_H D 158 ad (jc_cell ad aK cA (js_up u 3 i v)) A s.heap H1 locs1 → W p l e R s m args below meth c H1 locs1 cells slots Q (F0 m (pc + 3) ls rest)) : W p l e R s m args below meth c H locs cells slots Q (F0 m pc ls (.int v :: jv ad 6 (nI i) :: rest)) :=
  jpx_A hc hh hi 3 (by omega) (ty := .boolean) hlink rfl (by decide +kernel) (js_nz hz) (by rcases hz with rfl | rfl <;> rfl) (by simp [jc_fA, js_up]) jo_3 hdg kk
theorem jpy_3 (hc : jx_C p s m args c cc nL own D (jc_tys cA) aK A) (hh : jx_H D 158 ad (jc_cell ad aK cA u) A s.heap H locs) {x : Int32} (hx : ∃ i, i < 32 ∧ x = nI i) {v : Int32} (hz : v = 0 ∨ v = 1) {idx : Nat} (hlink : Cond.fieldLink own idx (F_A 3).1 (F_A 3).2.1 (F_A 3).2.2.1 ∈ jw_all) (hdg : decode cc pc = .ok (.putfield idx, 3))
    (kk : ∀ (H1 : Heap) (locs1 : List Loc), jx_H D 158 ad (jc_cell ad aK cA (js_up u 3 (ix x) v)) A s.heap H1 locs1 → W p l e R s m args below meth c H1 locs1 cells slots Q (F0 m (pc + 3) ls rest)) : W p l e R s m args below meth c H locs cells slots Q (F0 m pc ls (.int v :: jv ad 6 x :: rest)) := by
  obtain ⟨i, hi, rfl⟩ := hx
  rw [ix_nI (by omega)] at kk
  exact jp_3 hc hh hi hz hlink hdg kk
theorem jp_4 (hc : jx_C p s m args c cc nL own D (jc_tys cA) aK A) (hh : jx_H D 158 ad (jc_cell ad aK cA u) A s.heap H locs) {i : Nat} (hi : i < 32) {v : Int32} {idx : Nat} (hlink : Cond.fieldLink own idx (F_A 4).1 (F_A 4).2.1 (F_A 4).2.2.1 ∈ jw_all) (hdg : decode cc pc = .ok (.putfield idx, 3))
    (kk : ∀ (H1 : Heap) (locs1 : List Loc), jx_H D 158 ad (jc_cell ad aK cA (js_up u 4 i v)) A s.heap H1 locs1 → W p l e R s m args below meth c H1 locs1 cells slots Q (F0 m (pc + 3) ls rest)) : W p l e R s m args below meth c H locs cells slots Q (F0 m pc ls (.int v :: jv ad 6 (nI i) :: rest)) :=
  jpx_A hc hh hi 4 (by omega) (ty := .int) hlink rfl (by decide +kernel) rfl rfl (by simp [jc_fA, js_up]) jo_4 hdg kk
theorem jpy_4 (hc : jx_C p s m args c cc nL own D (jc_tys cA) aK A) (hh : jx_H D 158 ad (jc_cell ad aK cA u) A s.heap H locs) {x : Int32} (hx : ∃ i, i < 32 ∧ x = nI i) {v : Int32} {idx : Nat} (hlink : Cond.fieldLink own idx (F_A 4).1 (F_A 4).2.1 (F_A 4).2.2.1 ∈ jw_all) (hdg : decode cc pc = .ok (.putfield idx, 3))
    (kk : ∀ (H1 : Heap) (locs1 : List Loc), jx_H D 158 ad (jc_cell ad aK cA (js_up u 4 (ix x) v)) A s.heap H1 locs1 → W p l e R s m args below meth c H1 locs1 cells slots Q (F0 m (pc + 3) ls rest)) : W p l e R s m args below meth c H locs cells slots Q (F0 m pc ls (.int v :: jv ad 6 x :: rest)) := by
  obtain ⟨i, hi, rfl⟩ := hx
  rw [ix_nI (by omega)] at kk
  exact jp_4 hc hh hi hlink hdg kk
theorem jp_5 (hc : jx_C p s m args c cc nL own D (jc_tys cA) aK A) (hh : jx_H D 158 ad (jc_cell ad aK cA u) A s.heap H locs) {i : Nat} (hi : i < 40) {v : Int32} (hz : v = 0 ∨ v = 1) {idx : Nat} (hlink : Cond.fieldLink own idx (F_N 1).1 (F_N 1).2.1 (F_N 1).2.2.1 ∈ jw_all) (hdg : decode cc pc = .ok (.putfield idx, 3))
    (kk : ∀ (H1 : Heap) (locs1 : List Loc), jx_H D 158 ad (jc_cell ad aK cA (js_up u 5 i v)) A s.heap H1 locs1 → W p l e R s m args below meth c H1 locs1 cells slots Q (F0 m (pc + 3) ls rest)) : W p l e R s m args below meth c H locs cells slots Q (F0 m pc ls (.int v :: jv ad 38 (nI i) :: rest)) :=
  jpx_N hc hh hi 1 (by omega) (ty := .boolean) hlink rfl (by decide +kernel) (js_nz hz) (by rcases hz with rfl | rfl <;> rfl) (by simp [jc_fN, js_up]) jo_5 hdg kk
theorem jpy_5 (hc : jx_C p s m args c cc nL own D (jc_tys cA) aK A) (hh : jx_H D 158 ad (jc_cell ad aK cA u) A s.heap H locs) {x : Int32} (hx : ∃ i, i < 40 ∧ x = nI i) {v : Int32} (hz : v = 0 ∨ v = 1) {idx : Nat} (hlink : Cond.fieldLink own idx (F_N 1).1 (F_N 1).2.1 (F_N 1).2.2.1 ∈ jw_all) (hdg : decode cc pc = .ok (.putfield idx, 3))
    (kk : ∀ (H1 : Heap) (locs1 : List Loc), jx_H D 158 ad (jc_cell ad aK cA (js_up u 5 (ix x) v)) A s.heap H1 locs1 → W p l e R s m args below meth c H1 locs1 cells slots Q (F0 m (pc + 3) ls rest)) : W p l e R s m args below meth c H locs cells slots Q (F0 m pc ls (.int v :: jv ad 38 x :: rest)) := by
  obtain ⟨i, hi, rfl⟩ := hx
  rw [ix_nI (by omega)] at kk
  exact jp_5 hc hh hi hz hlink hdg kk
theorem jp_6 (hc : jx_C p s m args c cc nL own D (jc_tys cA) aK A) (hh : jx_H D 158 ad (jc_cell ad aK cA u) A s.heap H locs) {i : Nat} (hi : i < 40) {v : Int32} {idx : Nat} (hlink : Cond.fieldLink own idx (F_N 2).1 (F_N 2).2.1 (F_N 2).2.2.1 ∈ jw_all) (hdg : decode cc pc = .ok (.putfield idx, 3))
    (kk : ∀ (H1 : Heap) (locs1 : List Loc), jx_H D 158 ad (jc_cell ad aK cA (js_up u 6 i v)) A s.heap H1 locs1 → W p l e R s m args below meth c H1 locs1 cells slots Q (F0 m (pc + 3) ls rest)) : W p l e R s m args below meth c H locs cells slots Q (F0 m pc ls (.int v :: jv ad 38 (nI i) :: rest)) :=
  jpx_N hc hh hi 2 (by omega) (ty := .int) hlink rfl (by decide +kernel) rfl rfl (by simp [jc_fN, js_up]) jo_6 hdg kk
theorem jpy_6 (hc : jx_C p s m args c cc nL own D (jc_tys cA) aK A) (hh : jx_H D 158 ad (jc_cell ad aK cA u) A s.heap H locs) {x : Int32} (hx : ∃ i, i < 40 ∧ x = nI i) {v : Int32} {idx : Nat} (hlink : Cond.fieldLink own idx (F_N 2).1 (F_N 2).2.1 (F_N 2).2.2.1 ∈ jw_all) (hdg : decode cc pc = .ok (.putfield idx, 3))
    (kk : ∀ (H1 : Heap) (locs1 : List Loc), jx_H D 158 ad (jc_cell ad aK cA (js_up u 6 (ix x) v)) A s.heap H1 locs1 → W p l e R s m args below meth c H1 locs1 cells slots Q (F0 m (pc + 3) ls rest)) : W p l e R s m args below meth c H locs cells slots Q (F0 m pc ls (.int v :: jv ad 38 x :: rest)) := by
  obtain ⟨i, hi, rfl⟩ := hx
  rw [ix_nI (by omega)] at kk
  exact jp_6 hc hh hi hlink hdg kk
theorem jp_7 (hc : jx_C p s m args c cc nL own D (jc_tys cA) aK A) (hh : jx_H D 158 ad (jc_cell ad aK cA u) A s.heap H locs) {i : Nat} (hi : i < 40) {v : Int32} {idx : Nat} (hlink : Cond.fieldLink own idx (F_N 3).1 (F_N 3).2.1 (F_N 3).2.2.1 ∈ jw_all) (hdg : decode cc pc = .ok (.putfield idx, 3))
    (kk : ∀ (H1 : Heap) (locs1 : List Loc), jx_H D 158 ad (jc_cell ad aK cA (js_up u 7 i v)) A s.heap H1 locs1 → W p l e R s m args below meth c H1 locs1 cells slots Q (F0 m (pc + 3) ls rest)) : W p l e R s m args below meth c H locs cells slots Q (F0 m pc ls (jv ad 78 v :: jv ad 38 (nI i) :: rest)) :=
  jpx_N hc hh hi 3 (by omega) (ty := .object "JointHistory$Document") hlink rfl (by decide +kernel) jv_nar jv_fit (by simp [jc_fN, js_up]) jo_7 hdg kk
theorem jpy_7 (hc : jx_C p s m args c cc nL own D (jc_tys cA) aK A) (hh : jx_H D 158 ad (jc_cell ad aK cA u) A s.heap H locs) {x : Int32} (hx : ∃ i, i < 40 ∧ x = nI i) {v : Int32} {idx : Nat} (hlink : Cond.fieldLink own idx (F_N 3).1 (F_N 3).2.1 (F_N 3).2.2.1 ∈ jw_all) (hdg : decode cc pc = .ok (.putfield idx, 3))
    (kk : ∀ (H1 : Heap) (locs1 : List Loc), jx_H D 158 ad (jc_cell ad aK cA (js_up u 7 (ix x) v)) A s.heap H1 locs1 → W p l e R s m args below meth c H1 locs1 cells slots Q (F0 m (pc + 3) ls rest)) : W p l e R s m args below meth c H locs cells slots Q (F0 m pc ls (jv ad 78 v :: jv ad 38 x :: rest)) := by
  obtain ⟨i, hi, rfl⟩ := hx
  rw [ix_nI (by omega)] at kk
  exact jp_7 hc hh hi hlink hdg kk
theorem jp_8 (hc : jx_C p s m args c cc nL own D (jc_tys cA) aK A) (hh : jx_H D 158 ad (jc_cell ad aK cA u) A s.heap H locs) {i : Nat} (hi : i < 40) {v : Int32} (hz : v = 0 ∨ v = 1) {idx : Nat} (hlink : Cond.fieldLink own idx (F_D 0).1 (F_D 0).2.1 (F_D 0).2.2.1 ∈ jw_all) (hdg : decode cc pc = .ok (.putfield idx, 3))
    (kk : ∀ (H1 : Heap) (locs1 : List Loc), jx_H D 158 ad (jc_cell ad aK cA (js_up u 8 i v)) A s.heap H1 locs1 → W p l e R s m args below meth c H1 locs1 cells slots Q (F0 m (pc + 3) ls rest)) : W p l e R s m args below meth c H locs cells slots Q (F0 m pc ls (.int v :: jv ad 78 (nI i) :: rest)) :=
  jpx_D hc hh hi 0 (by omega) (ty := .boolean) hlink rfl (by decide +kernel) (js_nz hz) (by rcases hz with rfl | rfl <;> rfl) (by simp [jc_fD, js_up]) jo_8 hdg kk
theorem jpy_8 (hc : jx_C p s m args c cc nL own D (jc_tys cA) aK A) (hh : jx_H D 158 ad (jc_cell ad aK cA u) A s.heap H locs) {x : Int32} (hx : ∃ i, i < 40 ∧ x = nI i) {v : Int32} (hz : v = 0 ∨ v = 1) {idx : Nat} (hlink : Cond.fieldLink own idx (F_D 0).1 (F_D 0).2.1 (F_D 0).2.2.1 ∈ jw_all) (hdg : decode cc pc = .ok (.putfield idx, 3))
    (kk : ∀ (H1 : Heap) (locs1 : List Loc), jx_H D 158 ad (jc_cell ad aK cA (js_up u 8 (ix x) v)) A s.heap H1 locs1 → W p l e R s m args below meth c H1 locs1 cells slots Q (F0 m (pc + 3) ls rest)) : W p l e R s m args below meth c H locs cells slots Q (F0 m pc ls (.int v :: jv ad 78 x :: rest)) := by
  obtain ⟨i, hi, rfl⟩ := hx
  rw [ix_nI (by omega)] at kk
  exact jp_8 hc hh hi hz hlink hdg kk
theorem jp_9 (hc : jx_C p s m args c cc nL own D (jc_tys cA) aK A) (hh : jx_H D 158 ad (jc_cell ad aK cA u) A s.heap H locs) {i : Nat} (hi : i < 40) {v : Int32} {idx : Nat} (hlink : Cond.fieldLink own idx (F_D 1).1 (F_D 1).2.1 (F_D 1).2.2.1 ∈ jw_all) (hdg : decode cc pc = .ok (.putfield idx, 3))
    (kk : ∀ (H1 : Heap) (locs1 : List Loc), jx_H D 158 ad (jc_cell ad aK cA (js_up u 9 i v)) A s.heap H1 locs1 → W p l e R s m args below meth c H1 locs1 cells slots Q (F0 m (pc + 3) ls rest)) : W p l e R s m args below meth c H locs cells slots Q (F0 m pc ls (jv ad 38 v :: jv ad 78 (nI i) :: rest)) :=
  jpx_D hc hh hi 1 (by omega) (ty := .object "JointHistory$Navigable") hlink rfl (by decide +kernel) jv_nar jv_fit (by simp [jc_fD, js_up]) jo_9 hdg kk
theorem jpy_9 (hc : jx_C p s m args c cc nL own D (jc_tys cA) aK A) (hh : jx_H D 158 ad (jc_cell ad aK cA u) A s.heap H locs) {x : Int32} (hx : ∃ i, i < 40 ∧ x = nI i) {v : Int32} {idx : Nat} (hlink : Cond.fieldLink own idx (F_D 1).1 (F_D 1).2.1 (F_D 1).2.2.1 ∈ jw_all) (hdg : decode cc pc = .ok (.putfield idx, 3))
    (kk : ∀ (H1 : Heap) (locs1 : List Loc), jx_H D 158 ad (jc_cell ad aK cA (js_up u 9 (ix x) v)) A s.heap H1 locs1 → W p l e R s m args below meth c H1 locs1 cells slots Q (F0 m (pc + 3) ls rest)) : W p l e R s m args below meth c H locs cells slots Q (F0 m pc ls (jv ad 38 v :: jv ad 78 x :: rest)) := by
  obtain ⟨i, hi, rfl⟩ := hx
  rw [ix_nI (by omega)] at kk
  exact jp_9 hc hh hi hlink hdg kk
theorem jp_10 (hc : jx_C p s m args c cc nL own D (jc_tys cA) aK A) (hh : jx_H D 158 ad (jc_cell ad aK cA u) A s.heap H locs) {i : Nat} (hi : i < 40) {v : Int32} {idx : Nat} (hlink : Cond.fieldLink own idx (F_D 2).1 (F_D 2).2.1 (F_D 2).2.2.1 ∈ jw_all) (hdg : decode cc pc = .ok (.putfield idx, 3))
    (kk : ∀ (H1 : Heap) (locs1 : List Loc), jx_H D 158 ad (jc_cell ad aK cA (js_up u 10 i v)) A s.heap H1 locs1 → W p l e R s m args below meth c H1 locs1 cells slots Q (F0 m (pc + 3) ls rest)) : W p l e R s m args below meth c H locs cells slots Q (F0 m pc ls (.int v :: jv ad 78 (nI i) :: rest)) :=
  jpx_D hc hh hi 2 (by omega) (ty := .int) hlink rfl (by decide +kernel) rfl rfl (by simp [jc_fD, js_up]) jo_10 hdg kk
theorem jpy_10 (hc : jx_C p s m args c cc nL own D (jc_tys cA) aK A) (hh : jx_H D 158 ad (jc_cell ad aK cA u) A s.heap H locs) {x : Int32} (hx : ∃ i, i < 40 ∧ x = nI i) {v : Int32} {idx : Nat} (hlink : Cond.fieldLink own idx (F_D 2).1 (F_D 2).2.1 (F_D 2).2.2.1 ∈ jw_all) (hdg : decode cc pc = .ok (.putfield idx, 3))
    (kk : ∀ (H1 : Heap) (locs1 : List Loc), jx_H D 158 ad (jc_cell ad aK cA (js_up u 10 (ix x) v)) A s.heap H1 locs1 → W p l e R s m args below meth c H1 locs1 cells slots Q (F0 m (pc + 3) ls rest)) : W p l e R s m args below meth c H locs cells slots Q (F0 m pc ls (.int v :: jv ad 78 x :: rest)) := by
  obtain ⟨i, hi, rfl⟩ := hx
  rw [ix_nI (by omega)] at kk
  exact jp_10 hc hh hi hlink hdg kk
theorem jp_11 (hc : jx_C p s m args c cc nL own D (jc_tys cA) aK A) (hh : jx_H D 158 ad (jc_cell ad aK cA u) A s.heap H locs) {i : Nat} (hi : i < 40) {v : Int32} (hz : v = 0 ∨ v = 1) {idx : Nat} (hlink : Cond.fieldLink own idx (F_D 3).1 (F_D 3).2.1 (F_D 3).2.2.1 ∈ jw_all) (hdg : decode cc pc = .ok (.putfield idx, 3))
    (kk : ∀ (H1 : Heap) (locs1 : List Loc), jx_H D 158 ad (jc_cell ad aK cA (js_up u 11 i v)) A s.heap H1 locs1 → W p l e R s m args below meth c H1 locs1 cells slots Q (F0 m (pc + 3) ls rest)) : W p l e R s m args below meth c H locs cells slots Q (F0 m pc ls (.int v :: jv ad 78 (nI i) :: rest)) :=
  jpx_D hc hh hi 3 (by omega) (ty := .boolean) hlink rfl (by decide +kernel) (js_nz hz) (by rcases hz with rfl | rfl <;> rfl) (by simp [jc_fD, js_up]) jo_11 hdg kk
theorem jpy_11 (hc : jx_C p s m args c cc nL own D (jc_tys cA) aK A) (hh : jx_H D 158 ad (jc_cell ad aK cA u) A s.heap H locs) {x : Int32} (hx : ∃ i, i < 40 ∧ x = nI i) {v : Int32} (hz : v = 0 ∨ v = 1) {idx : Nat} (hlink : Cond.fieldLink own idx (F_D 3).1 (F_D 3).2.1 (F_D 3).2.2.1 ∈ jw_all) (hdg : decode cc pc = .ok (.putfield idx, 3))
    (kk : ∀ (H1 : Heap) (locs1 : List Loc), jx_H D 158 ad (jc_cell ad aK cA (js_up u 11 (ix x) v)) A s.heap H1 locs1 → W p l e R s m args below meth c H1 locs1 cells slots Q (F0 m (pc + 3) ls rest)) : W p l e R s m args below meth c H locs cells slots Q (F0 m pc ls (.int v :: jv ad 78 x :: rest)) := by
  obtain ⟨i, hi, rfl⟩ := hx
  rw [ix_nI (by omega)] at kk
  exact jp_11 hc hh hi hz hlink hdg kk
theorem jp_12 (hc : jx_C p s m args c cc nL own D (jc_tys cA) aK A) (hh : jx_H D 158 ad (jc_cell ad aK cA u) A s.heap H locs) {i : Nat} (hi : i < 40) {v : Int32} {idx : Nat} (hlink : Cond.fieldLink own idx (F_D 4).1 (F_D 4).2.1 (F_D 4).2.2.1 ∈ jw_all) (hdg : decode cc pc = .ok (.putfield idx, 3))
    (kk : ∀ (H1 : Heap) (locs1 : List Loc), jx_H D 158 ad (jc_cell ad aK cA (js_up u 12 i v)) A s.heap H1 locs1 → W p l e R s m args below meth c H1 locs1 cells slots Q (F0 m (pc + 3) ls rest)) : W p l e R s m args below meth c H locs cells slots Q (F0 m pc ls (jv ad 38 v :: jv ad 78 (nI i) :: rest)) :=
  jpx_D hc hh hi 4 (by omega) (ty := .object "JointHistory$Navigable") hlink rfl (by decide +kernel) jv_nar jv_fit (by simp [jc_fD, js_up]) jo_12 hdg kk
theorem jpy_12 (hc : jx_C p s m args c cc nL own D (jc_tys cA) aK A) (hh : jx_H D 158 ad (jc_cell ad aK cA u) A s.heap H locs) {x : Int32} (hx : ∃ i, i < 40 ∧ x = nI i) {v : Int32} {idx : Nat} (hlink : Cond.fieldLink own idx (F_D 4).1 (F_D 4).2.1 (F_D 4).2.2.1 ∈ jw_all) (hdg : decode cc pc = .ok (.putfield idx, 3))
    (kk : ∀ (H1 : Heap) (locs1 : List Loc), jx_H D 158 ad (jc_cell ad aK cA (js_up u 12 (ix x) v)) A s.heap H1 locs1 → W p l e R s m args below meth c H1 locs1 cells slots Q (F0 m (pc + 3) ls rest)) : W p l e R s m args below meth c H locs cells slots Q (F0 m pc ls (jv ad 38 v :: jv ad 78 x :: rest)) := by
  obtain ⟨i, hi, rfl⟩ := hx
  rw [ix_nI (by omega)] at kk
  exact jp_12 hc hh hi hlink hdg kk
theorem jp_13 (hc : jx_C p s m args c cc nL own D (jc_tys cA) aK A) (hh : jx_H D 158 ad (jc_cell ad aK cA u) A s.heap H locs) {i : Nat} (hi : i < 40) {v : Int32} {idx : Nat} (hlink : Cond.fieldLink own idx (F_D 5).1 (F_D 5).2.1 (F_D 5).2.2.1 ∈ jw_all) (hdg : decode cc pc = .ok (.putfield idx, 3))
    (kk : ∀ (H1 : Heap) (locs1 : List Loc), jx_H D 158 ad (jc_cell ad aK cA (js_up u 13 i v)) A s.heap H1 locs1 → W p l e R s m args below meth c H1 locs1 cells slots Q (F0 m (pc + 3) ls rest)) : W p l e R s m args below meth c H locs cells slots Q (F0 m pc ls (jv ad 38 v :: jv ad 78 (nI i) :: rest)) :=
  jpx_D hc hh hi 5 (by omega) (ty := .object "JointHistory$Navigable") hlink rfl (by decide +kernel) jv_nar jv_fit (by simp [jc_fD, js_up]) jo_13 hdg kk
theorem jpy_13 (hc : jx_C p s m args c cc nL own D (jc_tys cA) aK A) (hh : jx_H D 158 ad (jc_cell ad aK cA u) A s.heap H locs) {x : Int32} (hx : ∃ i, i < 40 ∧ x = nI i) {v : Int32} {idx : Nat} (hlink : Cond.fieldLink own idx (F_D 5).1 (F_D 5).2.1 (F_D 5).2.2.1 ∈ jw_all) (hdg : decode cc pc = .ok (.putfield idx, 3))
    (kk : ∀ (H1 : Heap) (locs1 : List Loc), jx_H D 158 ad (jc_cell ad aK cA (js_up u 13 (ix x) v)) A s.heap H1 locs1 → W p l e R s m args below meth c H1 locs1 cells slots Q (F0 m (pc + 3) ls rest)) : W p l e R s m args below meth c H locs cells slots Q (F0 m pc ls (jv ad 38 v :: jv ad 78 x :: rest)) := by
  obtain ⟨i, hi, rfl⟩ := hx
  rw [ix_nI (by omega)] at kk
  exact jp_13 hc hh hi hlink hdg kk
theorem jp_14 (hc : jx_C p s m args c cc nL own D (jc_tys cA) aK A) (hh : jx_H D 158 ad (jc_cell ad aK cA u) A s.heap H locs) {i : Nat} (hi : i < 40) {v : Int32} (hz : v = 0 ∨ v = 1) {idx : Nat} (hlink : Cond.fieldLink own idx (F_E 0).1 (F_E 0).2.1 (F_E 0).2.2.1 ∈ jw_all) (hdg : decode cc pc = .ok (.putfield idx, 3))
    (kk : ∀ (H1 : Heap) (locs1 : List Loc), jx_H D 158 ad (jc_cell ad aK cA (js_up u 14 i v)) A s.heap H1 locs1 → W p l e R s m args below meth c H1 locs1 cells slots Q (F0 m (pc + 3) ls rest)) : W p l e R s m args below meth c H locs cells slots Q (F0 m pc ls (.int v :: jv ad 118 (nI i) :: rest)) :=
  jpx_E hc hh hi 0 (by omega) (ty := .boolean) hlink rfl (by decide +kernel) (js_nz hz) (by rcases hz with rfl | rfl <;> rfl) (by simp [jc_fE, js_up]) jo_14 hdg kk
theorem jpy_14 (hc : jx_C p s m args c cc nL own D (jc_tys cA) aK A) (hh : jx_H D 158 ad (jc_cell ad aK cA u) A s.heap H locs) {x : Int32} (hx : ∃ i, i < 40 ∧ x = nI i) {v : Int32} (hz : v = 0 ∨ v = 1) {idx : Nat} (hlink : Cond.fieldLink own idx (F_E 0).1 (F_E 0).2.1 (F_E 0).2.2.1 ∈ jw_all) (hdg : decode cc pc = .ok (.putfield idx, 3))
    (kk : ∀ (H1 : Heap) (locs1 : List Loc), jx_H D 158 ad (jc_cell ad aK cA (js_up u 14 (ix x) v)) A s.heap H1 locs1 → W p l e R s m args below meth c H1 locs1 cells slots Q (F0 m (pc + 3) ls rest)) : W p l e R s m args below meth c H locs cells slots Q (F0 m pc ls (.int v :: jv ad 118 x :: rest)) := by
  obtain ⟨i, hi, rfl⟩ := hx
  rw [ix_nI (by omega)] at kk
  exact jp_14 hc hh hi hz hlink hdg kk
theorem jp_15 (hc : jx_C p s m args c cc nL own D (jc_tys cA) aK A) (hh : jx_H D 158 ad (jc_cell ad aK cA u) A s.heap H locs) {i : Nat} (hi : i < 40) {v : Int32} {idx : Nat} (hlink : Cond.fieldLink own idx (F_E 1).1 (F_E 1).2.1 (F_E 1).2.2.1 ∈ jw_all) (hdg : decode cc pc = .ok (.putfield idx, 3))
    (kk : ∀ (H1 : Heap) (locs1 : List Loc), jx_H D 158 ad (jc_cell ad aK cA (js_up u 15 i v)) A s.heap H1 locs1 → W p l e R s m args below meth c H1 locs1 cells slots Q (F0 m (pc + 3) ls rest)) : W p l e R s m args below meth c H locs cells slots Q (F0 m pc ls (jv ad 38 v :: jv ad 118 (nI i) :: rest)) :=
  jpx_E hc hh hi 1 (by omega) (ty := .object "JointHistory$Navigable") hlink rfl (by decide +kernel) jv_nar jv_fit (by simp [jc_fE, js_up]) jo_15 hdg kk
theorem jpy_15 (hc : jx_C p s m args c cc nL own D (jc_tys cA) aK A) (hh : jx_H D 158 ad (jc_cell ad aK cA u) A s.heap H locs) {x : Int32} (hx : ∃ i, i < 40 ∧ x = nI i) {v : Int32} {idx : Nat} (hlink : Cond.fieldLink own idx (F_E 1).1 (F_E 1).2.1 (F_E 1).2.2.1 ∈ jw_all) (hdg : decode cc pc = .ok (.putfield idx, 3))
    (kk : ∀ (H1 : Heap) (locs1 : List Loc), jx_H D 158 ad (jc_cell ad aK cA (js_up u 15 (ix x) v)) A s.heap H1 locs1 → W p l e R s m args below meth c H1 locs1 cells slots Q (F0 m (pc + 3) ls rest)) : W p l e R s m args below meth c H locs cells slots Q (F0 m pc ls (jv ad 38 v :: jv ad 118 x :: rest)) := by
  obtain ⟨i, hi, rfl⟩ := hx
  rw [ix_nI (by omega)] at kk
  exact jp_15 hc hh hi hlink hdg kk
theorem jp_16 (hc : jx_C p s m args c cc nL own D (jc_tys cA) aK A) (hh : jx_H D 158 ad (jc_cell ad aK cA u) A s.heap H locs) {i : Nat} (hi : i < 40) {v : Int32} {idx : Nat} (hlink : Cond.fieldLink own idx (F_E 2).1 (F_E 2).2.1 (F_E 2).2.2.1 ∈ jw_all) (hdg : decode cc pc = .ok (.putfield idx, 3))
    (kk : ∀ (H1 : Heap) (locs1 : List Loc), jx_H D 158 ad (jc_cell ad aK cA (js_up u 16 i v)) A s.heap H1 locs1 → W p l e R s m args below meth c H1 locs1 cells slots Q (F0 m (pc + 3) ls rest)) : W p l e R s m args below meth c H locs cells slots Q (F0 m pc ls (.int v :: jv ad 118 (nI i) :: rest)) :=
  jpx_E hc hh hi 2 (by omega) (ty := .int) hlink rfl (by decide +kernel) rfl rfl (by simp [jc_fE, js_up]) jo_16 hdg kk
theorem jpy_16 (hc : jx_C p s m args c cc nL own D (jc_tys cA) aK A) (hh : jx_H D 158 ad (jc_cell ad aK cA u) A s.heap H locs) {x : Int32} (hx : ∃ i, i < 40 ∧ x = nI i) {v : Int32} {idx : Nat} (hlink : Cond.fieldLink own idx (F_E 2).1 (F_E 2).2.1 (F_E 2).2.2.1 ∈ jw_all) (hdg : decode cc pc = .ok (.putfield idx, 3))
    (kk : ∀ (H1 : Heap) (locs1 : List Loc), jx_H D 158 ad (jc_cell ad aK cA (js_up u 16 (ix x) v)) A s.heap H1 locs1 → W p l e R s m args below meth c H1 locs1 cells slots Q (F0 m (pc + 3) ls rest)) : W p l e R s m args below meth c H locs cells slots Q (F0 m pc ls (.int v :: jv ad 118 x :: rest)) := by
  obtain ⟨i, hi, rfl⟩ := hx
  rw [ix_nI (by omega)] at kk
  exact jp_16 hc hh hi hlink hdg kk
theorem jp_17 (hc : jx_C p s m args c cc nL own D (jc_tys cA) aK A) (hh : jx_H D 158 ad (jc_cell ad aK cA u) A s.heap H locs) {i : Nat} (hi : i < 40) {v : Int32} {idx : Nat} (hlink : Cond.fieldLink own idx (F_E 3).1 (F_E 3).2.1 (F_E 3).2.2.1 ∈ jw_all) (hdg : decode cc pc = .ok (.putfield idx, 3))
    (kk : ∀ (H1 : Heap) (locs1 : List Loc), jx_H D 158 ad (jc_cell ad aK cA (js_up u 17 i v)) A s.heap H1 locs1 → W p l e R s m args below meth c H1 locs1 cells slots Q (F0 m (pc + 3) ls rest)) : W p l e R s m args below meth c H locs cells slots Q (F0 m pc ls (.int v :: jv ad 118 (nI i) :: rest)) :=
  jpx_E hc hh hi 3 (by omega) (ty := .int) hlink rfl (by decide +kernel) rfl rfl (by simp [jc_fE, js_up]) jo_17 hdg kk
theorem jpy_17 (hc : jx_C p s m args c cc nL own D (jc_tys cA) aK A) (hh : jx_H D 158 ad (jc_cell ad aK cA u) A s.heap H locs) {x : Int32} (hx : ∃ i, i < 40 ∧ x = nI i) {v : Int32} {idx : Nat} (hlink : Cond.fieldLink own idx (F_E 3).1 (F_E 3).2.1 (F_E 3).2.2.1 ∈ jw_all) (hdg : decode cc pc = .ok (.putfield idx, 3))
    (kk : ∀ (H1 : Heap) (locs1 : List Loc), jx_H D 158 ad (jc_cell ad aK cA (js_up u 17 (ix x) v)) A s.heap H1 locs1 → W p l e R s m args below meth c H1 locs1 cells slots Q (F0 m (pc + 3) ls rest)) : W p l e R s m args below meth c H locs cells slots Q (F0 m pc ls (.int v :: jv ad 118 x :: rest)) := by
  obtain ⟨i, hi, rfl⟩ := hx
  rw [ix_nI (by omega)] at kk
  exact jp_17 hc hh hi hlink hdg kk
theorem jp_18 (hc : jx_C p s m args c cc nL own D (jc_tys cA) aK A) (hh : jx_H D 158 ad (jc_cell ad aK cA u) A s.heap H locs) {i : Nat} (hi : i < 40) {v : Int32} {idx : Nat} (hlink : Cond.fieldLink own idx (F_E 4).1 (F_E 4).2.1 (F_E 4).2.2.1 ∈ jw_all) (hdg : decode cc pc = .ok (.putfield idx, 3))
    (kk : ∀ (H1 : Heap) (locs1 : List Loc), jx_H D 158 ad (jc_cell ad aK cA (js_up u 18 i v)) A s.heap H1 locs1 → W p l e R s m args below meth c H1 locs1 cells slots Q (F0 m (pc + 3) ls rest)) : W p l e R s m args below meth c H locs cells slots Q (F0 m pc ls (.int v :: jv ad 118 (nI i) :: rest)) :=
  jpx_E hc hh hi 4 (by omega) (ty := .int) hlink rfl (by decide +kernel) rfl rfl (by simp [jc_fE, js_up]) jo_18 hdg kk
theorem jpy_18 (hc : jx_C p s m args c cc nL own D (jc_tys cA) aK A) (hh : jx_H D 158 ad (jc_cell ad aK cA u) A s.heap H locs) {x : Int32} (hx : ∃ i, i < 40 ∧ x = nI i) {v : Int32} {idx : Nat} (hlink : Cond.fieldLink own idx (F_E 4).1 (F_E 4).2.1 (F_E 4).2.2.1 ∈ jw_all) (hdg : decode cc pc = .ok (.putfield idx, 3))
    (kk : ∀ (H1 : Heap) (locs1 : List Loc), jx_H D 158 ad (jc_cell ad aK cA (js_up u 18 (ix x) v)) A s.heap H1 locs1 → W p l e R s m args below meth c H1 locs1 cells slots Q (F0 m (pc + 3) ls rest)) : W p l e R s m args below meth c H locs cells slots Q (F0 m pc ls (.int v :: jv ad 118 x :: rest)) := by
  obtain ⟨i, hi, rfl⟩ := hx
  rw [ix_nI (by omega)] at kk
  exact jp_18 hc hh hi hlink hdg kk
theorem jp_19 (hc : jx_C p s m args c cc nL own D (jc_tys cA) aK A) (hh : jx_H D 158 ad (jc_cell ad aK cA u) A s.heap H locs) {i : Nat} (hi : i < 40) {v : Int32} {idx : Nat} (hlink : Cond.fieldLink own idx (F_E 5).1 (F_E 5).2.1 (F_E 5).2.2.1 ∈ jw_all) (hdg : decode cc pc = .ok (.putfield idx, 3))
    (kk : ∀ (H1 : Heap) (locs1 : List Loc), jx_H D 158 ad (jc_cell ad aK cA (js_up u 19 i v)) A s.heap H1 locs1 → W p l e R s m args below meth c H1 locs1 cells slots Q (F0 m (pc + 3) ls rest)) : W p l e R s m args below meth c H locs cells slots Q (F0 m pc ls (jv ad 78 v :: jv ad 118 (nI i) :: rest)) :=
  jpx_E hc hh hi 5 (by omega) (ty := .object "JointHistory$Document") hlink rfl (by decide +kernel) jv_nar jv_fit (by simp [jc_fE, js_up]) jo_19 hdg kk
theorem jpy_19 (hc : jx_C p s m args c cc nL own D (jc_tys cA) aK A) (hh : jx_H D 158 ad (jc_cell ad aK cA u) A s.heap H locs) {x : Int32} (hx : ∃ i, i < 40 ∧ x = nI i) {v : Int32} {idx : Nat} (hlink : Cond.fieldLink own idx (F_E 5).1 (F_E 5).2.1 (F_E 5).2.2.1 ∈ jw_all) (hdg : decode cc pc = .ok (.putfield idx, 3))
    (kk : ∀ (H1 : Heap) (locs1 : List Loc), jx_H D 158 ad (jc_cell ad aK cA (js_up u 19 (ix x) v)) A s.heap H1 locs1 → W p l e R s m args below meth c H1 locs1 cells slots Q (F0 m (pc + 3) ls rest)) : W p l e R s m args below meth c H locs cells slots Q (F0 m pc ls (jv ad 78 v :: jv ad 118 x :: rest)) := by
  obtain ⟨i, hi, rfl⟩ := hx
  rw [ix_nI (by omega)] at kk
  exact jp_19 hc hh hi hlink hdg kk
theorem ja_A (hc : jx_C p s m args c cc nL own D (jc_tys cA) aK A) (hh : jx_H D 158 ad (jc_cell ad aK cA u) A s.heap H locs) {i : Nat} (hi : i < 32) (hdg : decode cc pc = .ok (.aaload, 1))
    (kk : W p l e R s m args below meth c H locs cells slots Q (F0 m (pc + 1) ls (jv ad 6 (nI i) :: rest))) : W p l e R s m args below meth c H locs cells slots Q (F0 m pc ls (.int (nI i) :: .ref (ad 1) :: rest)) := by
  refine va_aldq (C := "JointHistory$Answer") (cA := cA 0) (n := 32) (f := fun i => some (ad (6 + i))) hc.1 hc.2.1 hc.2.2.2.2.2.1 hh.1 1 0 (by rw [jx_at (by omega), jc_c1]) rfl (vp_in_nI hi (by omega)) hdg ?_
  rw [jv_nI (by omega)] at kk
  rw [show (nI i).toNatClampNeg = i from ix_nI (by omega)]
  exact kk
theorem jax_A (hc : jx_C p s m args c cc nL own D (jc_tys cA) aK A) (hh : jx_H D 158 ad (jc_cell ad aK cA u) A s.heap H locs) {x : Int32} (hx : ∃ i, i < 32 ∧ x = nI i) (hdg : decode cc pc = .ok (.aaload, 1))
    (kk : W p l e R s m args below meth c H locs cells slots Q (F0 m (pc + 1) ls (jv ad 6 x :: rest))) : W p l e R s m args below meth c H locs cells slots Q (F0 m pc ls (.int x :: .ref (ad 1) :: rest)) := by
  obtain ⟨i, hi, rfl⟩ := hx
  exact ja_A hc hh hi hdg kk
theorem jl_A (hc : jx_C p s m args c cc nL own D (jc_tys cA) aK A) (hh : jx_H D 158 ad (jc_cell ad aK cA u) A s.heap H locs) (hdg : decode cc pc = .ok (.arraylength, 1))
    (kk : W p l e R s m args below meth c H locs cells slots Q (F0 m (pc + 1) ls (.int (nI 32) :: rest))) : W p l e R s m args below meth c H locs cells slots Q (F0 m pc ls (.ref (ad 1) :: rest)) :=
  va_alen (cA := cA 0) (x := (32, .inr (.inr (.inr (.inr (fun i => some (ad (6 + i)))))))) (ty := .object "JointHistory$Answer") hc.1 hc.2.1 hc.2.2.2.2.2.1 hh.1 1 0 (by rw [jx_at (by omega), jc_c1]) rfl rfl hdg kk
theorem ja_N (hc : jx_C p s m args c cc nL own D (jc_tys cA) aK A) (hh : jx_H D 158 ad (jc_cell ad aK cA u) A s.heap H locs) {i : Nat} (hi : i < 40) (hdg : decode cc pc = .ok (.aaload, 1))
    (kk : W p l e R s m args below meth c H locs cells slots Q (F0 m (pc + 1) ls (jv ad 38 (nI i) :: rest))) : W p l e R s m args below meth c H locs cells slots Q (F0 m pc ls (.int (nI i) :: .ref (ad 2) :: rest)) := by
  refine va_aldq (C := "JointHistory$Navigable") (cA := cA 1) (n := 40) (f := fun i => some (ad (38 + i))) hc.1 hc.2.1 hc.2.2.2.2.2.1 hh.1 2 1 (by rw [jx_at (by omega), jc_c2]) rfl (vp_in_nI hi (by omega)) hdg ?_
  rw [jv_nI (by omega)] at kk
  rw [show (nI i).toNatClampNeg = i from ix_nI (by omega)]
  exact kk
theorem jax_N (hc : jx_C p s m args c cc nL own D (jc_tys cA) aK A) (hh : jx_H D 158 ad (jc_cell ad aK cA u) A s.heap H locs) {x : Int32} (hx : ∃ i, i < 40 ∧ x = nI i) (hdg : decode cc pc = .ok (.aaload, 1))
    (kk : W p l e R s m args below meth c H locs cells slots Q (F0 m (pc + 1) ls (jv ad 38 x :: rest))) : W p l e R s m args below meth c H locs cells slots Q (F0 m pc ls (.int x :: .ref (ad 2) :: rest)) := by
  obtain ⟨i, hi, rfl⟩ := hx
  exact ja_N hc hh hi hdg kk
theorem jl_N (hc : jx_C p s m args c cc nL own D (jc_tys cA) aK A) (hh : jx_H D 158 ad (jc_cell ad aK cA u) A s.heap H locs) (hdg : decode cc pc = .ok (.arraylength, 1))
    (kk : W p l e R s m args below meth c H locs cells slots Q (F0 m (pc + 1) ls (.int (nI 40) :: rest))) : W p l e R s m args below meth c H locs cells slots Q (F0 m pc ls (.ref (ad 2) :: rest)) :=
  va_alen (cA := cA 1) (x := (40, .inr (.inr (.inr (.inr (fun i => some (ad (38 + i)))))))) (ty := .object "JointHistory$Navigable") hc.1 hc.2.1 hc.2.2.2.2.2.1 hh.1 2 1 (by rw [jx_at (by omega), jc_c2]) rfl rfl hdg kk
theorem ja_D (hc : jx_C p s m args c cc nL own D (jc_tys cA) aK A) (hh : jx_H D 158 ad (jc_cell ad aK cA u) A s.heap H locs) {i : Nat} (hi : i < 40) (hdg : decode cc pc = .ok (.aaload, 1))
    (kk : W p l e R s m args below meth c H locs cells slots Q (F0 m (pc + 1) ls (jv ad 78 (nI i) :: rest))) : W p l e R s m args below meth c H locs cells slots Q (F0 m pc ls (.int (nI i) :: .ref (ad 3) :: rest)) := by
  refine va_aldq (C := "JointHistory$Document") (cA := cA 2) (n := 40) (f := fun i => some (ad (78 + i))) hc.1 hc.2.1 hc.2.2.2.2.2.1 hh.1 3 2 (by rw [jx_at (by omega), jc_c3]) rfl (vp_in_nI hi (by omega)) hdg ?_
  rw [jv_nI (by omega)] at kk
  rw [show (nI i).toNatClampNeg = i from ix_nI (by omega)]
  exact kk
theorem jax_D (hc : jx_C p s m args c cc nL own D (jc_tys cA) aK A) (hh : jx_H D 158 ad (jc_cell ad aK cA u) A s.heap H locs) {x : Int32} (hx : ∃ i, i < 40 ∧ x = nI i) (hdg : decode cc pc = .ok (.aaload, 1))
    (kk : W p l e R s m args below meth c H locs cells slots Q (F0 m (pc + 1) ls (jv ad 78 x :: rest))) : W p l e R s m args below meth c H locs cells slots Q (F0 m pc ls (.int x :: .ref (ad 3) :: rest)) := by
  obtain ⟨i, hi, rfl⟩ := hx
  exact ja_D hc hh hi hdg kk
theorem jl_D (hc : jx_C p s m args c cc nL own D (jc_tys cA) aK A) (hh : jx_H D 158 ad (jc_cell ad aK cA u) A s.heap H locs) (hdg : decode cc pc = .ok (.arraylength, 1))
    (kk : W p l e R s m args below meth c H locs cells slots Q (F0 m (pc + 1) ls (.int (nI 40) :: rest))) : W p l e R s m args below meth c H locs cells slots Q (F0 m pc ls (.ref (ad 3) :: rest)) :=
  va_alen (cA := cA 2) (x := (40, .inr (.inr (.inr (.inr (fun i => some (ad (78 + i)))))))) (ty := .object "JointHistory$Document") hc.1 hc.2.1 hc.2.2.2.2.2.1 hh.1 3 2 (by rw [jx_at (by omega), jc_c3]) rfl rfl hdg kk
theorem ja_E (hc : jx_C p s m args c cc nL own D (jc_tys cA) aK A) (hh : jx_H D 158 ad (jc_cell ad aK cA u) A s.heap H locs) {i : Nat} (hi : i < 40) (hdg : decode cc pc = .ok (.aaload, 1))
    (kk : W p l e R s m args below meth c H locs cells slots Q (F0 m (pc + 1) ls (jv ad 118 (nI i) :: rest))) : W p l e R s m args below meth c H locs cells slots Q (F0 m pc ls (.int (nI i) :: .ref (ad 4) :: rest)) := by
  refine va_aldq (C := "JointHistory$Entry") (cA := cA 3) (n := 40) (f := fun i => some (ad (118 + i))) hc.1 hc.2.1 hc.2.2.2.2.2.1 hh.1 4 3 (by rw [jx_at (by omega), jc_c4]) rfl (vp_in_nI hi (by omega)) hdg ?_
  rw [jv_nI (by omega)] at kk
  rw [show (nI i).toNatClampNeg = i from ix_nI (by omega)]
  exact kk
theorem jax_E (hc : jx_C p s m args c cc nL own D (jc_tys cA) aK A) (hh : jx_H D 158 ad (jc_cell ad aK cA u) A s.heap H locs) {x : Int32} (hx : ∃ i, i < 40 ∧ x = nI i) (hdg : decode cc pc = .ok (.aaload, 1))
    (kk : W p l e R s m args below meth c H locs cells slots Q (F0 m (pc + 1) ls (jv ad 118 x :: rest))) : W p l e R s m args below meth c H locs cells slots Q (F0 m pc ls (.int x :: .ref (ad 4) :: rest)) := by
  obtain ⟨i, hi, rfl⟩ := hx
  exact ja_E hc hh hi hdg kk
theorem jl_E (hc : jx_C p s m args c cc nL own D (jc_tys cA) aK A) (hh : jx_H D 158 ad (jc_cell ad aK cA u) A s.heap H locs) (hdg : decode cc pc = .ok (.arraylength, 1))
    (kk : W p l e R s m args below meth c H locs cells slots Q (F0 m (pc + 1) ls (.int (nI 40) :: rest))) : W p l e R s m args below meth c H locs cells slots Q (F0 m pc ls (.ref (ad 4) :: rest)) :=
  va_alen (cA := cA 3) (x := (40, .inr (.inr (.inr (.inr (fun i => some (ad (118 + i)))))))) (ty := .object "JointHistory$Entry") hc.1 hc.2.1 hc.2.2.2.2.2.1 hh.1 4 3 (by rw [jx_at (by omega), jc_c4]) rfl rfl hdg kk
theorem ja_U (hc : jx_C p s m args c cc nL own D (jc_tys cA) aK A) (hh : jx_H D 158 ad (jc_cell ad aK cA u) A s.heap H locs) {i : Nat} (hi : i < 40) (hdg : decode cc pc = .ok (.iaload, 1))
    (kk : W p l e R s m args below meth c H locs cells slots Q (F0 m (pc + 1) ls (.int (u 20 i) :: rest))) : W p l e R s m args below meth c H locs cells slots Q (F0 m pc ls (.int (nI i) :: .ref (ad 5) :: rest)) := by
  refine va_iald (cA := cA 4) (n := 40) (f := fun i => u 20 i) hc.1 hc.2.1 hc.2.2.2.2.2.1 hh.1 5 4 (by rw [jx_at (by omega), jc_c5]) rfl (vp_in_nI hi (by omega)) hdg ?_
  rw [show (nI i).toNatClampNeg = i from ix_nI (by omega)]
  exact kk
theorem jo_U {v : Int32} {i : Nat} : ∀ j, j < 158 → j ≠ 5 → jc_cell ad aK cA (js_up u 20 i v) j = jc_cell ad aK cA u j := by
  intro j hj hne
  exact jc_cell_eq hj (fun _ => by simp [jc_fJ, js_up]) (fun e9 => absurd e9 hne) (fun i9 _ _ => by simp [jc_fA, js_up]) (fun i9 _ _ => by simp [jc_fN, js_up]) (fun i9 _ _ => by simp [jc_fD, js_up]) (fun i9 _ _ => by simp [jc_fE, js_up])
theorem jp_U (hc : jx_C p s m args c cc nL own D (jc_tys cA) aK A) (hh : jx_H D 158 ad (jc_cell ad aK cA u) A s.heap H locs) {i : Nat} (hi : i < 40) {v : Int32} (hdg : decode cc pc = .ok (.iastore, 1))
    (kk : ∀ (H1 : Heap) (locs1 : List Loc), jx_H D 158 ad (jc_cell ad aK cA (js_up u 20 i v)) A s.heap H1 locs1 → W p l e R s m args below meth c H1 locs1 cells slots Q (F0 m (pc + 1) ls rest)) : W p l e R s m args below meth c H locs cells slots Q (F0 m pc ls (.int v :: .int (nI i) :: .ref (ad 5) :: rest)) := by
  refine va_iast (cA := cA 4) (n := 40) (f := fun i => u 20 i) hc.1 hc.2.1 hc.2.2.2.2.2.1 hh.1 hh.2.1 hh.2.2 5 4 (by rw [jx_at (by omega), jc_c5]) rfl (vp_in_nI hi (by omega)) hdg (fun H1 locs1 h1 h2 h3 => kk H1 locs1 ?_)
  have e : (jx_W 158 ad (jc_cell ad aK cA u)).set 5 (ad 5, .inl (cA 4, 40, .inl (upd (fun i => u 20 i) (nI i).toNatClampNeg v))) = jx_W 158 ad (jc_cell ad aK cA (js_up u 20 i v)) := by
    have e2 : upd (fun i => u 20 i) (nI i).toNatClampNeg v = fun j => js_up u 20 i v 20 j := by
      funext j
      rw [show (nI i).toNatClampNeg = i from ix_nI (by omega)]
      simp [upd, js_up]
    rw [e2, ← jc_c5 (ad := ad) (aK := aK) (cA := cA) (s := js_up u 20 i v)]
    exact jx_set (by omega) jo_U
  rw [e] at h1 h2
  exact ⟨h1, h2, h3⟩
/-- a constant of Kind -/
theorem jk_get (hc : jx_C p s m args c cc nL own D (jc_tys cA) aK A) (hh : jx_H D 158 ad (jc_cell ad aK cA u) A s.heap H locs) {j : Nat} (hj : j < 3) {idx : Nat} (hlink : Cond.fieldLink own idx "JointHistory$Kind" (["CONTENT", "DETOUR", "FAULT"].getD j "") "LJointHistory$Kind;" ∈ jw_all) (hdg : decode cc pc = .ok (.getstatic idx, 3))
    (kk : W p l e R s m args below meth c H locs cells slots Q (F0 m (pc + 3) ls (jv aK 0 (nI j) :: rest))) : W p l e R s m args below meth c H locs cells slots Q (F0 m pc ls rest) := by
  rw [jv_nI (by omega), show 0 + j = j by omega] at kk
  exact va_gets hc.1 hc.2.1 (hc.2.2.2.2.2.2.1.1 j hj).1 hh.2.2 hc.2.2.2.1 (hc.2.2.2.2.1 _ hlink) (fun _ h => h) hdg kk
theorem jk_inj (hc : jx_C p s m args c cc nL own D (jc_tys cA) aK A) : ∀ i j, i < 3 → j < 3 → aK (0 + i) = aK (0 + j) → i = j := by
  intro i j hi hj h
  rw [show 0 + i = i by omega, show 0 + j = j by omega] at h
  exact hc.2.2.2.2.2.2.1.2 i j hi hj h
theorem jd_inj {n off k : Nat} {ce : Nat → va_E} {H0 : Heap} (hh : jx_H D n ad ce A H0 H locs) (h : off + k ≤ n) : ∀ i j, i < k → j < k → ad (off + i) = ad (off + j) → i = j := by
  intro i j hi hj e
  have := jx_inj hh.2.1 (show off + i < n by omega) (show off + j < n by omega) e
  omega
end JACC
end
section
/-! What the references and numbers of the class's store always are: so no call meets null where it must not, and no place is out of its array. -/
def jc_Sh (u : js_S) : Prop :=
  (∀ i, i < 32 → (∃ j, j < 3 ∧ u 0 i = nI j) ∧ (∃ j, j < 256 ∧ u 4 i = nI j) ∧ (u 1 i = -2 ∨ jq 256 (u 1 i)) ∧ (u 2 i = -2 ∨ jq 256 (u 2 i))) ∧
  (∀ i, i < 40 → jq 40 (u 7 i) ∧ jq 40 (u 9 i) ∧ jq 40 (u 12 i) ∧ jq 40 (u 13 i) ∧ jq 40 (u 15 i) ∧ jq 40 (u 19 i)) ∧
  (∀ i, i < 40 → u 14 i ≠ 0 → u 15 i ≠ -1 ∧ u 19 i ≠ -1) ∧
  (∀ i, i < 40 → u 7 i ≠ -1 → u 9 (ix (u 7 i)) ≠ -1)
theorem jc_S7 {u : js_S} (h : jc_Sh u) {i : Nat} (hi : i < 40) : jq 40 (u 7 i) := (h.2.1 i hi).1
theorem jc_S7x {u : js_S} (h : jc_Sh u) {x : Int32} (hx : ∃ i, i < 40 ∧ x = nI i) : jq 40 (u 7 (ix x)) := by
  obtain ⟨i, hi, rfl⟩ := hx
  rw [ix_nI (by omega)]
  exact jc_S7 h hi
theorem jc_S9 {u : js_S} (h : jc_Sh u) {i : Nat} (hi : i < 40) : jq 40 (u 9 i) := (h.2.1 i hi).2.1
theorem jc_S9x {u : js_S} (h : jc_Sh u) {x : Int32} (hx : ∃ i, i < 40 ∧ x = nI i) : jq 40 (u 9 (ix x)) := by
  obtain ⟨i, hi, rfl⟩ := hx
  rw [ix_nI (by omega)]
  exact jc_S9 h hi
theorem jc_S12 {u : js_S} (h : jc_Sh u) {i : Nat} (hi : i < 40) : jq 40 (u 12 i) := (h.2.1 i hi).2.2.1
theorem jc_S12x {u : js_S} (h : jc_Sh u) {x : Int32} (hx : ∃ i, i < 40 ∧ x = nI i) : jq 40 (u 12 (ix x)) := by
  obtain ⟨i, hi, rfl⟩ := hx
  rw [ix_nI (by omega)]
  exact jc_S12 h hi
theorem jc_S13 {u : js_S} (h : jc_Sh u) {i : Nat} (hi : i < 40) : jq 40 (u 13 i) := (h.2.1 i hi).2.2.2.1
theorem jc_S13x {u : js_S} (h : jc_Sh u) {x : Int32} (hx : ∃ i, i < 40 ∧ x = nI i) : jq 40 (u 13 (ix x)) := by
  obtain ⟨i, hi, rfl⟩ := hx
  rw [ix_nI (by omega)]
  exact jc_S13 h hi
theorem jc_S15 {u : js_S} (h : jc_Sh u) {i : Nat} (hi : i < 40) : jq 40 (u 15 i) := (h.2.1 i hi).2.2.2.2.1
theorem jc_S15x {u : js_S} (h : jc_Sh u) {x : Int32} (hx : ∃ i, i < 40 ∧ x = nI i) : jq 40 (u 15 (ix x)) := by
  obtain ⟨i, hi, rfl⟩ := hx
  rw [ix_nI (by omega)]
  exact jc_S15 h hi
theorem jc_S19 {u : js_S} (h : jc_Sh u) {i : Nat} (hi : i < 40) : jq 40 (u 19 i) := (h.2.1 i hi).2.2.2.2.2
theorem jc_S19x {u : js_S} (h : jc_Sh u) {x : Int32} (hx : ∃ i, i < 40 ∧ x = nI i) : jq 40 (u 19 (ix x)) := by
  obtain ⟨i, hi, rfl⟩ := hx
  rw [ix_nI (by omega)]
  exact jc_S19 h hi
theorem jc_Sk {u : js_S} (h : jc_Sh u) {i : Nat} (hi : i < 32) : jq 3 (u 0 i) := Or.inr (h.1 i hi).1
theorem jc_So {u : js_S} (h : jc_Sh u) {i : Nat} (hi : i < 40) (ht : ¬ u 14 i = 0) : ∃ j, j < 40 ∧ u 15 i = nI j := jq_ne (jc_S15 h hi) (h.2.2.1 i hi ht).1
theorem jc_Sd {u : js_S} (h : jc_Sh u) {i : Nat} (hi : i < 40) (ht : ¬ u 14 i = 0) : ∃ j, j < 40 ∧ u 19 i = nI j := jq_ne (jc_S19 h hi) (h.2.2.1 i hi ht).2
theorem jc_Sa {u : js_S} (h : jc_Sh u) {i : Nat} (hi : i < 40) (ht : ¬ u 7 i = -1) : ∃ j, j < 40 ∧ u 9 (ix (u 7 i)) = nI j := jq_ne (jc_S9x h (jq_ne (jc_S7 h hi) ht)) (h.2.2.2 i hi ht)
/-- entryAt answers a row that is there, or none -/
theorem jc_eA_ok {u : js_S} {nav st : Int32} (k : Nat) (hk : k ≤ 40) : jc_eA u nav st k = -1 ∨ ∃ i, i < 40 ∧ jc_eA u nav st k = nI i ∧ ¬ u 14 i = 0 ∧ u 15 i = nav := by
  induction k with
  | zero => exact Or.inl rfl
  | succ k ih =>
    unfold jc_eA
    split
    · rename_i h
      exact Or.inr ⟨k, by omega, rfl, h.1, h.2.1⟩
    · exact ih (by omega)
theorem jc_eA_jq {u : js_S} {nav st : Int32} (k : Nat) (hk : k ≤ 40) : jq 40 (jc_eA u nav st k) := by
  rcases jc_eA_ok (u := u) (nav := nav) (st := st) k hk with h | ⟨i, hi, h, -⟩
  · exact Or.inl h
  · exact Or.inr ⟨i, hi, h⟩
end
section
/-! The shape stays. -/
theorem jc_Sh_eq {u v : js_S} (h : jc_Sh u) (e0 : ∀ i, v 0 i = u 0 i) (e4 : ∀ i, v 4 i = u 4 i) (e1 : ∀ i, v 1 i = u 1 i) (e2 : ∀ i, v 2 i = u 2 i) (e7 : ∀ i, v 7 i = u 7 i) (e9 : ∀ i, v 9 i = u 9 i) (e12 : ∀ i, v 12 i = u 12 i) (e13 : ∀ i, v 13 i = u 13 i) (e15 : ∀ i, v 15 i = u 15 i) (e19 : ∀ i, v 19 i = u 19 i) (e14 : ∀ i, v 14 i = u 14 i) : jc_Sh v := by
  obtain ⟨h1, h2, h3, h4⟩ := h
  refine ⟨fun i hi => ?_, fun i hi => ?_, fun i hi => ?_, fun i hi => ?_⟩
  · rw [e0, e4, e1, e2]; exact h1 i hi
  · rw [e7, e9, e12, e13, e15, e19]; exact h2 i hi
  · rw [e14, e15, e19]; exact h3 i hi
  · rw [e7, e9]; exact h4 i hi
theorem jc_Sh_3 {u : js_S} (h : jc_Sh u) {i : Nat} {v : Int32} : jc_Sh (js_up u 3 i v) := jc_Sh_eq h (fun _ => js_up_f (by decide)) (fun _ => js_up_f (by decide)) (fun _ => js_up_f (by decide)) (fun _ => js_up_f (by decide)) (fun _ => js_up_f (by decide)) (fun _ => js_up_f (by decide)) (fun _ => js_up_f (by decide)) (fun _ => js_up_f (by decide)) (fun _ => js_up_f (by decide)) (fun _ => js_up_f (by decide)) (fun _ => js_up_f (by decide))
theorem jc_Sh_5 {u : js_S} (h : jc_Sh u) {i : Nat} {v : Int32} : jc_Sh (js_up u 5 i v) := jc_Sh_eq h (fun _ => js_up_f (by decide)) (fun _ => js_up_f (by decide)) (fun _ => js_up_f (by decide)) (fun _ => js_up_f (by decide)) (fun _ => js_up_f (by decide)) (fun _ => js_up_f (by decide)) (fun _ => js_up_f (by decide)) (fun _ => js_up_f (by decide)) (fun _ => js_up_f (by decide)) (fun _ => js_up_f (by decide)) (fun _ => js_up_f (by decide))
theorem jc_Sh_6 {u : js_S} (h : jc_Sh u) {i : Nat} {v : Int32} : jc_Sh (js_up u 6 i v) := jc_Sh_eq h (fun _ => js_up_f (by decide)) (fun _ => js_up_f (by decide)) (fun _ => js_up_f (by decide)) (fun _ => js_up_f (by decide)) (fun _ => js_up_f (by decide)) (fun _ => js_up_f (by decide)) (fun _ => js_up_f (by decide)) (fun _ => js_up_f (by decide)) (fun _ => js_up_f (by decide)) (fun _ => js_up_f (by decide)) (fun _ => js_up_f (by decide))
theorem jc_Sh_8 {u : js_S} (h : jc_Sh u) {i : Nat} {v : Int32} : jc_Sh (js_up u 8 i v) := jc_Sh_eq h (fun _ => js_up_f (by decide)) (fun _ => js_up_f (by decide)) (fun _ => js_up_f (by decide)) (fun _ => js_up_f (by decide)) (fun _ => js_up_f (by decide)) (fun _ => js_up_f (by decide)) (fun _ => js_up_f (by decide)) (fun _ => js_up_f (by decide)) (fun _ => js_up_f (by decide)) (fun _ => js_up_f (by decide)) (fun _ => js_up_f (by decide))
theorem jc_Sh_10 {u : js_S} (h : jc_Sh u) {i : Nat} {v : Int32} : jc_Sh (js_up u 10 i v) := jc_Sh_eq h (fun _ => js_up_f (by decide)) (fun _ => js_up_f (by decide)) (fun _ => js_up_f (by decide)) (fun _ => js_up_f (by decide)) (fun _ => js_up_f (by decide)) (fun _ => js_up_f (by decide)) (fun _ => js_up_f (by decide)) (fun _ => js_up_f (by decide)) (fun _ => js_up_f (by decide)) (fun _ => js_up_f (by decide)) (fun _ => js_up_f (by decide))
theorem jc_Sh_11 {u : js_S} (h : jc_Sh u) {i : Nat} {v : Int32} : jc_Sh (js_up u 11 i v) := jc_Sh_eq h (fun _ => js_up_f (by decide)) (fun _ => js_up_f (by decide)) (fun _ => js_up_f (by decide)) (fun _ => js_up_f (by decide)) (fun _ => js_up_f (by decide)) (fun _ => js_up_f (by decide)) (fun _ => js_up_f (by decide)) (fun _ => js_up_f (by decide)) (fun _ => js_up_f (by decide)) (fun _ => js_up_f (by decide)) (fun _ => js_up_f (by decide))
theorem jc_Sh_16 {u : js_S} (h : jc_Sh u) {i : Nat} {v : Int32} : jc_Sh (js_up u 16 i v) := jc_Sh_eq h (fun _ => js_up_f (by decide)) (fun _ => js_up_f (by decide)) (fun _ => js_up_f (by decide)) (fun _ => js_up_f (by decide)) (fun _ => js_up_f (by decide)) (fun _ => js_up_f (by decide)) (fun _ => js_up_f (by decide)) (fun _ => js_up_f (by decide)) (fun _ => js_up_f (by decide)) (fun _ => js_up_f (by decide)) (fun _ => js_up_f (by decide))
theorem jc_Sh_17 {u : js_S} (h : jc_Sh u) {i : Nat} {v : Int32} : jc_Sh (js_up u 17 i v) := jc_Sh_eq h (fun _ => js_up_f (by decide)) (fun _ => js_up_f (by decide)) (fun _ => js_up_f (by decide)) (fun _ => js_up_f (by decide)) (fun _ => js_up_f (by decide)) (fun _ => js_up_f (by decide)) (fun _ => js_up_f (by decide)) (fun _ => js_up_f (by decide)) (fun _ => js_up_f (by decide)) (fun _ => js_up_f (by decide)) (fun _ => js_up_f (by decide))
theorem jc_Sh_18 {u : js_S} (h : jc_Sh u) {i : Nat} {v : Int32} : jc_Sh (js_up u 18 i v) := jc_Sh_eq h (fun _ => js_up_f (by decide)) (fun _ => js_up_f (by decide)) (fun _ => js_up_f (by decide)) (fun _ => js_up_f (by decide)) (fun _ => js_up_f (by decide)) (fun _ => js_up_f (by decide)) (fun _ => js_up_f (by decide)) (fun _ => js_up_f (by decide)) (fun _ => js_up_f (by decide)) (fun _ => js_up_f (by decide)) (fun _ => js_up_f (by decide))
theorem jc_Sh_20 {u : js_S} (h : jc_Sh u) {i : Nat} {v : Int32} : jc_Sh (js_up u 20 i v) := jc_Sh_eq h (fun _ => js_up_f (by decide)) (fun _ => js_up_f (by decide)) (fun _ => js_up_f (by decide)) (fun _ => js_up_f (by decide)) (fun _ => js_up_f (by decide)) (fun _ => js_up_f (by decide)) (fun _ => js_up_f (by decide)) (fun _ => js_up_f (by decide)) (fun _ => js_up_f (by decide)) (fun _ => js_up_f (by decide)) (fun _ => js_up_f (by decide))
theorem jc_Sh_21 {u : js_S} (h : jc_Sh u) {i : Nat} {v : Int32} : jc_Sh (js_up u 21 i v) := jc_Sh_eq h (fun _ => js_up_f (by decide)) (fun _ => js_up_f (by decide)) (fun _ => js_up_f (by decide)) (fun _ => js_up_f (by decide)) (fun _ => js_up_f (by decide)) (fun _ => js_up_f (by decide)) (fun _ => js_up_f (by decide)) (fun _ => js_up_f (by decide)) (fun _ => js_up_f (by decide)) (fun _ => js_up_f (by decide)) (fun _ => js_up_f (by decide))
theorem jc_Sh_22 {u : js_S} (h : jc_Sh u) {i : Nat} {v : Int32} : jc_Sh (js_up u 22 i v) := jc_Sh_eq h (fun _ => js_up_f (by decide)) (fun _ => js_up_f (by decide)) (fun _ => js_up_f (by decide)) (fun _ => js_up_f (by decide)) (fun _ => js_up_f (by decide)) (fun _ => js_up_f (by decide)) (fun _ => js_up_f (by decide)) (fun _ => js_up_f (by decide)) (fun _ => js_up_f (by decide)) (fun _ => js_up_f (by decide)) (fun _ => js_up_f (by decide))
theorem jc_Sh_23 {u : js_S} (h : jc_Sh u) {i : Nat} {v : Int32} : jc_Sh (js_up u 23 i v) := jc_Sh_eq h (fun _ => js_up_f (by decide)) (fun _ => js_up_f (by decide)) (fun _ => js_up_f (by decide)) (fun _ => js_up_f (by decide)) (fun _ => js_up_f (by decide)) (fun _ => js_up_f (by decide)) (fun _ => js_up_f (by decide)) (fun _ => js_up_f (by decide)) (fun _ => js_up_f (by decide)) (fun _ => js_up_f (by decide)) (fun _ => js_up_f (by decide))
theorem jc_Sh_24 {u : js_S} (h : jc_Sh u) {i : Nat} {v : Int32} : jc_Sh (js_up u 24 i v) := jc_Sh_eq h (fun _ => js_up_f (by decide)) (fun _ => js_up_f (by decide)) (fun _ => js_up_f (by decide)) (fun _ => js_up_f (by decide)) (fun _ => js_up_f (by decide)) (fun _ => js_up_f (by decide)) (fun _ => js_up_f (by decide)) (fun _ => js_up_f (by decide)) (fun _ => js_up_f (by decide)) (fun _ => js_up_f (by decide)) (fun _ => js_up_f (by decide))
theorem jc_Sh_0 {u : js_S} (h : jc_Sh u) {i j : Nat} (hj : j < 3) : jc_Sh (js_up u 0 i (nI j)) := by
  obtain ⟨h1, h2, h3, h4⟩ := h
  refine ⟨fun k hk => ⟨?_, ?_⟩, h2, h3, h4⟩
  · by_cases e : k = i
    · subst e; rw [js_up_s]; exact ⟨j, hj, rfl⟩
    · rw [js_up_i e]; exact (h1 k hk).1
  · rw [js_up_f (by decide), js_up_f (by decide), js_up_f (by decide)]; exact (h1 k hk).2
theorem jc_Sh_1 {u : js_S} (h : jc_Sh u) {i : Nat} {v : Int32} (hv : v = -2 ∨ jq 256 v) : jc_Sh (js_up u 1 i v) := by
  obtain ⟨h1, h2, h3, h4⟩ := h
  refine ⟨fun k hk => ⟨(h1 k hk).1, (h1 k hk).2.1, ?_, (h1 k hk).2.2.2⟩, h2, h3, h4⟩
  by_cases e : k = i
  · subst e; rw [js_up_s]; exact hv
  · rw [js_up_i e]; exact (h1 k hk).2.2.1
theorem jc_Sh_2 {u : js_S} (h : jc_Sh u) {i : Nat} {v : Int32} (hv : v = -2 ∨ jq 256 v) : jc_Sh (js_up u 2 i v) := by
  obtain ⟨h1, h2, h3, h4⟩ := h
  refine ⟨fun k hk => ⟨(h1 k hk).1, (h1 k hk).2.1, (h1 k hk).2.2.1, ?_⟩, h2, h3, h4⟩
  by_cases e : k = i
  · subst e; rw [js_up_s]; exact hv
  · rw [js_up_i e]; exact (h1 k hk).2.2.2
theorem jc_Sh_4 {u : js_S} (h : jc_Sh u) {i j : Nat} (hj : j < 256) : jc_Sh (js_up u 4 i (nI j)) := by
  obtain ⟨h1, h2, h3, h4⟩ := h
  refine ⟨fun k hk => ⟨(h1 k hk).1, ?_, (h1 k hk).2.2⟩, h2, h3, h4⟩
  by_cases e : k = i
  · subst e; rw [js_up_s]; exact ⟨j, hj, rfl⟩
  · rw [js_up_i e]; exact (h1 k hk).2.1
theorem jc_Sh_7 {u : js_S} (h : jc_Sh u) {i d : Nat} (hd : d < 40) (ho : ¬ u 9 d = -1) : jc_Sh (js_up u 7 i (nI d)) := by
  obtain ⟨h1, h2, h3, h4⟩ := h
  refine ⟨h1, fun k hk => ⟨?_, (h2 k hk).2⟩, h3, fun k hk => ?_⟩
  · by_cases e : k = i
    · subst e; rw [js_up_s]; exact jq_nI hd
    · rw [js_up_i e]; exact (h2 k hk).1
  · rw [js_up_f (show ¬ 9 = 7 by decide)]
    by_cases e : k = i
    · subst e; rw [js_up_s, ix_nI (by omega)]; exact fun _ => ho
    · rw [js_up_i e]; exact h4 k hk
theorem jc_Sh_9 {u : js_S} (h : jc_Sh u) {i o : Nat} (ho : o < 40) : jc_Sh (js_up u 9 i (nI o)) := by
  obtain ⟨h1, h2, h3, h4⟩ := h
  refine ⟨h1, fun k hk => ⟨(h2 k hk).1, ?_, (h2 k hk).2.2⟩, h3, fun k hk => ?_⟩
  · by_cases e : k = i
    · subst e; rw [js_up_s]; exact jq_nI ho
    · rw [js_up_i e]; exact (h2 k hk).2.1
  · rw [js_up_f (show ¬ 7 = 9 by decide)]
    intro hn
    by_cases e : ix (u 7 k) = i
    · rw [e, js_up_s]; exact nI_m1 (by omega)
    · rw [js_up_i e]; exact h4 k hk hn
theorem jc_Sh_12 {u : js_S} (h : jc_Sh u) {i : Nat} {v : Int32} (hv : jq 40 v) : jc_Sh (js_up u 12 i v) := by
  obtain ⟨h1, h2, h3, h4⟩ := h
  refine ⟨h1, fun k hk => ⟨(h2 k hk).1, (h2 k hk).2.1, ?_, (h2 k hk).2.2.2⟩, h3, h4⟩
  by_cases e : k = i
  · subst e; rw [js_up_s]; exact hv
  · rw [js_up_i e]; exact (h2 k hk).2.2.1
theorem jc_Sh_13 {u : js_S} (h : jc_Sh u) {i : Nat} {v : Int32} (hv : jq 40 v) : jc_Sh (js_up u 13 i v) := by
  obtain ⟨h1, h2, h3, h4⟩ := h
  refine ⟨h1, fun k hk => ⟨(h2 k hk).1, (h2 k hk).2.1, (h2 k hk).2.2.1, ?_, (h2 k hk).2.2.2.2⟩, h3, h4⟩
  by_cases e : k = i
  · subst e; rw [js_up_s]; exact hv
  · rw [js_up_i e]; exact (h2 k hk).2.2.2.1
theorem jc_Sh_14 {u : js_S} (h : jc_Sh u) {i : Nat} : jc_Sh (js_up u 14 i 0) := by
  obtain ⟨h1, h2, h3, h4⟩ := h
  refine ⟨h1, h2, fun k hk => ?_, h4⟩
  rw [js_up_f (show ¬ 15 = 14 by decide), js_up_f (show ¬ 19 = 14 by decide)]
  by_cases e : k = i
  · subst e; rw [js_up_s]; exact fun q => absurd rfl q
  · rw [js_up_i e]; exact h3 k hk
theorem jc_Sh_19 {u : js_S} (h : jc_Sh u) {i d : Nat} (hd : d < 40) : jc_Sh (js_up u 19 i (nI d)) := by
  obtain ⟨h1, h2, h3, h4⟩ := h
  refine ⟨h1, fun k hk => ⟨(h2 k hk).1, (h2 k hk).2.1, (h2 k hk).2.2.1, (h2 k hk).2.2.2.1, (h2 k hk).2.2.2.2.1, ?_⟩, fun k hk => ?_, h4⟩
  · by_cases e : k = i
    · subst e; rw [js_up_s]; exact jq_nI hd
    · rw [js_up_i e]; exact (h2 k hk).2.2.2.2.2
  · rw [js_up_f (show ¬ 14 = 19 by decide), js_up_f (show ¬ 15 = 19 by decide)]
    by_cases e : k = i
    · subst e; rw [js_up_s]; exact fun q => ⟨(h3 k hk q).1, nI_m1 (by omega)⟩
    · rw [js_up_i e]; exact h3 k hk
theorem js_free_le {u : js_S} {f : Nat} : ∀ (k i : Nat), i ≤ js_free u f k i ∧ js_free u f k i ≤ i + k
  | 0, i => ⟨Nat.le_refl _, Nat.le_refl _⟩
  | k + 1, i => by
    unfold js_free
    split
    · exact ⟨Nat.le_refl _, by omega⟩
    · have := js_free_le (u := u) (f := f) k (i + 1)
      omega
theorem js_f39 {u : js_S} {f : Nat} : js_free u f 39 0 < 40 := by have := js_free_le (u := u) (f := f) 39 0; omega
theorem js_f38 {u : js_S} {f : Nat} : js_free u f 38 1 < 40 := by have := js_free_le (u := u) (f := f) 38 1; omega
theorem jc_Sh_add {u : js_S} (h : jc_Sh u) {o d : Nat} (ho : o < 40) (hd : d < 40) {st url state : Int32} : jc_Sh (jc_addEntry u (nI o) st url state (nI d)) := by
  unfold jc_addEntry
  generalize js_free u 14 39 0 = i
  have h5 : jc_Sh (js_up (js_up (js_up u 16 i st) 17 i url) 18 i state) := jc_Sh_18 (jc_Sh_17 (jc_Sh_16 h))
  obtain ⟨h1, h2, h3, h4⟩ := h5
  refine ⟨fun k hk => ?_, fun k hk => ?_, fun k hk => ?_, fun k hk => ?_⟩
  · have := h1 k hk
    simp only [js_up] at this ⊢
    simpa using this
  · have := h2 k hk
    simp only [js_up] at this ⊢
    by_cases e : k = i
    · subst e
      simp at this ⊢
      exact ⟨this.1, this.2.1, this.2.2.1, this.2.2.2.1, jq_nI ho, jq_nI hd⟩
    · simpa [e] using this
  · have := h3 k hk
    simp only [js_up] at this ⊢
    by_cases e : k = i
    · subst e
      simp
      exact ⟨nI_m1 (by omega), nI_m1 (by omega)⟩
    · simpa [e] using this
  · have := h4 k hk
    simp only [js_up] at this ⊢
    simpa using this
theorem jc_Sh_fd {u : js_S} (h : jc_Sh u) {o : Nat} (ho : o < 40) : jc_Sh (jc_freeDoc u (nI o)) := jc_Sh_13 (jc_Sh_12 (jc_Sh_9 (jc_Sh_8 h) ho) jq_m1) jq_m1
theorem jc_Sh_opq {u : js_S} (h : jc_Sh u) {i : Nat} : jc_Sh (jc_opq u i) := jc_Sh_10 (jc_Sh_24 h)
theorem jc_Sh_kd1 {u : js_S} (h : jc_Sh u) : ∀ k, jc_Sh (jc_kd1 u k)
  | 0 => h
  | k + 1 => jc_Sh_8 (jc_Sh_kd1 h k)
theorem jc_Sh_kd2 {u : js_S} (h : jc_Sh u) : ∀ k, jc_Sh (jc_kd2 u k)
  | 0 => h
  | k + 1 => by
    unfold jc_kd2
    split
    · exact jc_Sh_8 (jc_Sh_kd2 h k)
    · exact jc_Sh_kd2 h k
theorem jc_Sh_df {u : js_S} (h : jc_Sh u) : ∀ k, jc_Sh (jc_df u k)
  | 0 => h
  | k + 1 => by
    unfold jc_df
    split
    · exact jc_Sh_5 (jc_Sh_df h k)
    · exact jc_Sh_df h k
theorem jc_Sh_de {u : js_S} (h : jc_Sh u) : ∀ k, jc_Sh (jc_de u k)
  | 0 => h
  | k + 1 => by
    unfold jc_de
    split
    · exact jc_Sh_14 (jc_Sh_de h k)
    · exact jc_Sh_de h k
theorem jc_Sh_keep {u : js_S} (h : jc_Sh u) : jc_Sh (jc_keepDocs u) := jc_Sh_kd2 (jc_Sh_kd1 h 40) 40
theorem jc_Sh_round {u : js_S} (h : jc_Sh u) : jc_Sh (jc_round u) := jc_Sh_de (jc_Sh_df (jc_Sh_keep h) 40) 40
theorem jc_Sh_gone {u : js_S} (h : jc_Sh u) : jc_Sh (jc_gone u) := jc_Sh_round (jc_Sh_round (jc_Sh_round h))
theorem jc_Sh_dl {u : js_S} (h : jc_Sh u) : ∀ k, jc_Sh (jc_dl u k)
  | 0 => h
  | k + 1 => by
    unfold jc_dl
    split
    · exact jc_Sh_14 (jc_Sh_dl h k)
    · exact jc_Sh_dl h k
theorem jc_Sh_later {u : js_S} (h : jc_Sh u) : jc_Sh (jc_dropLater u) := jc_Sh_gone (jc_Sh_dl h 40)
theorem jc_Sh_settle {u : js_S} (h : jc_Sh u) : jc_Sh (jc_settle u) := jc_Sh_21 h
end
section
/-! The cells of the reference: 0 the object, 1 + f the array of field f (f < 21). -/
def jm_fM (ad : Nat → Nat) (s : js_S) : List Value := [.ref (ad 1), .ref (ad 2), .ref (ad 3), .ref (ad 4), .ref (ad 5), .ref (ad 6), .ref (ad 7), .ref (ad 8), .ref (ad 9), .ref (ad 10), .ref (ad 11), .ref (ad 12), .ref (ad 13), .ref (ad 14), .ref (ad 15), .ref (ad 16), .ref (ad 17), .ref (ad 18), .ref (ad 19), .ref (ad 20), .ref (ad 21), .int (s 21 0), .int (s 22 0), .int (s 23 0), .int (s 24 0), .int (s 25 0)]
def jm_ty (f : Nat) : Nat := if f = 3 ∨ f = 9 ∨ f = 10 ∨ f = 12 ∨ f = 15 ∨ f = 17 ∨ f = 19 ∨ f = 20 then 5 else 4
def jm_len (f : Nat) : Nat := if f < 4 then 32 else 48
def jm_cell (ad : Nat → Nat) (cA : Nat → ClassId) (s : js_S) (k : Nat) : va_E :=
  if k = 0 then .inr (5, jm_fM ad s) else .inl (cA (jm_ty (k - 1)), jm_len (k - 1), .inl (fun i => s (k - 1) i))
theorem jm_c0 {ad : Nat → Nat} {cA : Nat → ClassId} {s : js_S} : jm_cell ad cA s 0 = .inr (5, jm_fM ad s) := rfl
theorem jm_cf {ad : Nat → Nat} {cA : Nat → ClassId} {s : js_S} {f : Nat} : jm_cell ad cA s (1 + f) = .inl (cA (jm_ty f), jm_len f, .inl (fun i => s f i)) := by
  unfold jm_cell
  rw [if_neg (by omega), show 1 + f - 1 = f by omega]
theorem jm_len31 (f : Nat) : jm_len f < 2 ^ 31 := by
  unfold jm_len
  split <;> decide
theorem js_narz {v : Int32} (h : v = 0 ∨ v = 1) : vp_nar .boolean v = v := by
  rcases h with rfl | rfl <;> rfl
section JMA
variable {p : Program} {l : Launch} {e : Env} {R : Room} {s : State} {m : MethodId} {args : Array Value} {below : List Frame} {meth : Method} {c : Code} {H : Heap} {locs : List Loc} {cells slots : Nat} {Q : State → Prop} {cc : ByteArray} {pc nL : Nat} {ls : Array Slot} {rest : List Value} {own : String} {D : va_G} {aK : Nat → Nat} {ad : Nat → Nat} {cA : Nat → ClassId} {A : Nat → Prop} {u : js_S}
theorem jg_M (hc : jx_C p s m args c cc nL own D (jc_tys cA) aK A) (hh : jx_H D 22 ad (jm_cell ad cA u) A s.heap H locs) (k : Nat) (hk : k < 26) {v : Value} {idx : Nat} (hv : (jm_fM ad u)[k]? = some v) (hlink : Cond.fieldLink own idx (F_M k).1 (F_M k).2.1 (F_M k).2.2.1 ∈ jw_all) (hdg : decode cc pc = .ok (.getfield idx, 3))
    (kk : W p l e R s m args below meth c H locs cells slots Q (F0 m (pc + 3) ls (v :: rest))) : W p l e R s m args below meth c H locs cells slots Q (F0 m pc ls (.ref (ad 0) :: rest)) :=
  va_get (ci := 5) (C := R_M) (T := F_M) (N := 26) hc.1 hc.2.1 hc.2.2.2.2.1 jn_M hc.2.2.2.1 hc.2.2.2.2.2.1 hh.1 0 (by rw [jx_at (by omega), jm_c0]) rfl k hk (hc.2.2.2.2.1 _ hlink) (fun _ h => h) hv hdg kk
theorem jp_M (hc : jx_C p s m args c cc nL own D (jc_tys cA) aK A) (hh : jx_H D 22 ad (jm_cell ad cA u) A s.heap H locs) (k : Nat) (hk : k < 26) {v : Int32} {u' : js_S} {idx : Nat} (hlink : Cond.fieldLink own idx (F_M k).1 (F_M k).2.1 (F_M k).2.2.1 ∈ jw_all) (hfin : (F_M k).2.2.2 = false) (hd : parseFieldDescriptor (F_M k).2.2.1 = some .int) (hset : (jm_fM ad u).set k (.int v) = jm_fM ad u') (hoth : ∀ j, j < 22 → j ≠ 0 → jm_cell ad cA u' j = jm_cell ad cA u j) (hdg : decode cc pc = .ok (.putfield idx, 3))
    (kk : ∀ (H1 : Heap) (locs1 : List Loc), jx_H D 22 ad (jm_cell ad cA u') A s.heap H1 locs1 → W p l e R s m args below meth c H1 locs1 cells slots Q (F0 m (pc + 3) ls rest)) : W p l e R s m args below meth c H locs cells slots Q (F0 m pc ls (.int v :: .ref (ad 0) :: rest)) := by
  refine va_put (fs := jm_fM ad u) (ci := 5) (C := R_M) (T := F_M) (N := 26) hc.1 hc.2.1 hc.2.2.2.2.1 jn_M t_M t_M_ok n_M hc.2.2.2.1 hc.2.2.2.2.2.1 hh.1 hh.2.1 hh.2.2 0 (by rw [jx_at (by omega), jm_c0]) rfl k hk (hc.2.2.2.2.1 _ hlink) (fun _ h => h) hfin hd rfl rfl (show k < 26 from hk) hdg (fun H1 locs1 h1 h2 h3 => kk H1 locs1 ?_)
  have e : (jx_W 22 ad (jm_cell ad cA u)).set 0 (ad 0, .inr (5, (jm_fM ad u).set k (.int v))) = jx_W 22 ad (jm_cell ad cA u') := by
    rw [hset, ← jm_c0 (cA := cA)]
    exact jx_set (by omega) hoth
  rw [e] at h1 h2
  exact ⟨h1, h2, h3⟩
theorem jpm_21 (hc : jx_C p s m args c cc nL own D (jc_tys cA) aK A) (hh : jx_H D 22 ad (jm_cell ad cA u) A s.heap H locs) {v : Int32} {idx : Nat} (hlink : Cond.fieldLink own idx (F_M 21).1 (F_M 21).2.1 (F_M 21).2.2.1 ∈ jw_all) (hdg : decode cc pc = .ok (.putfield idx, 3))
    (kk : ∀ (H1 : Heap) (locs1 : List Loc), jx_H D 22 ad (jm_cell ad cA (js_up u 21 0 v)) A s.heap H1 locs1 → W p l e R s m args below meth c H1 locs1 cells slots Q (F0 m (pc + 3) ls rest)) : W p l e R s m args below meth c H locs cells slots Q (F0 m pc ls (.int v :: .ref (ad 0) :: rest)) :=
  jp_M hc hh 21 (by omega) hlink rfl (by decide +kernel) (by simp [jm_fM, js_up]) (fun j hj hne => by
    obtain ⟨f9, rfl⟩ : ∃ f9, j = 1 + f9 := ⟨j - 1, by omega⟩
    rw [jm_cf, jm_cf]
    have e9 : (fun i => js_up u 21 0 v f9 i) = (fun i => u f9 i) := by
      funext i
      exact js_up_f (by omega)
    rw [e9]) hdg kk
theorem jpm_22 (hc : jx_C p s m args c cc nL own D (jc_tys cA) aK A) (hh : jx_H D 22 ad (jm_cell ad cA u) A s.heap H locs) {v : Int32} {idx : Nat} (hlink : Cond.fieldLink own idx (F_M 22).1 (F_M 22).2.1 (F_M 22).2.2.1 ∈ jw_all) (hdg : decode cc pc = .ok (.putfield idx, 3))
    (kk : ∀ (H1 : Heap) (locs1 : List Loc), jx_H D 22 ad (jm_cell ad cA (js_up u 22 0 v)) A s.heap H1 locs1 → W p l e R s m args below meth c H1 locs1 cells slots Q (F0 m (pc + 3) ls rest)) : W p l e R s m args below meth c H locs cells slots Q (F0 m pc ls (.int v :: .ref (ad 0) :: rest)) :=
  jp_M hc hh 22 (by omega) hlink rfl (by decide +kernel) (by simp [jm_fM, js_up]) (fun j hj hne => by
    obtain ⟨f9, rfl⟩ : ∃ f9, j = 1 + f9 := ⟨j - 1, by omega⟩
    rw [jm_cf, jm_cf]
    have e9 : (fun i => js_up u 22 0 v f9 i) = (fun i => u f9 i) := by
      funext i
      exact js_up_f (by omega)
    rw [e9]) hdg kk
theorem jpm_23 (hc : jx_C p s m args c cc nL own D (jc_tys cA) aK A) (hh : jx_H D 22 ad (jm_cell ad cA u) A s.heap H locs) {v : Int32} {idx : Nat} (hlink : Cond.fieldLink own idx (F_M 23).1 (F_M 23).2.1 (F_M 23).2.2.1 ∈ jw_all) (hdg : decode cc pc = .ok (.putfield idx, 3))
    (kk : ∀ (H1 : Heap) (locs1 : List Loc), jx_H D 22 ad (jm_cell ad cA (js_up u 23 0 v)) A s.heap H1 locs1 → W p l e R s m args below meth c H1 locs1 cells slots Q (F0 m (pc + 3) ls rest)) : W p l e R s m args below meth c H locs cells slots Q (F0 m pc ls (.int v :: .ref (ad 0) :: rest)) :=
  jp_M hc hh 23 (by omega) hlink rfl (by decide +kernel) (by simp [jm_fM, js_up]) (fun j hj hne => by
    obtain ⟨f9, rfl⟩ : ∃ f9, j = 1 + f9 := ⟨j - 1, by omega⟩
    rw [jm_cf, jm_cf]
    have e9 : (fun i => js_up u 23 0 v f9 i) = (fun i => u f9 i) := by
      funext i
      exact js_up_f (by omega)
    rw [e9]) hdg kk
theorem jpm_24 (hc : jx_C p s m args c cc nL own D (jc_tys cA) aK A) (hh : jx_H D 22 ad (jm_cell ad cA u) A s.heap H locs) {v : Int32} {idx : Nat} (hlink : Cond.fieldLink own idx (F_M 24).1 (F_M 24).2.1 (F_M 24).2.2.1 ∈ jw_all) (hdg : decode cc pc = .ok (.putfield idx, 3))
    (kk : ∀ (H1 : Heap) (locs1 : List Loc), jx_H D 22 ad (jm_cell ad cA (js_up u 24 0 v)) A s.heap H1 locs1 → W p l e R s m args below meth c H1 locs1 cells slots Q (F0 m (pc + 3) ls rest)) : W p l e R s m args below meth c H locs cells slots Q (F0 m pc ls (.int v :: .ref (ad 0) :: rest)) :=
  jp_M hc hh 24 (by omega) hlink rfl (by decide +kernel) (by simp [jm_fM, js_up]) (fun j hj hne => by
    obtain ⟨f9, rfl⟩ : ∃ f9, j = 1 + f9 := ⟨j - 1, by omega⟩
    rw [jm_cf, jm_cf]
    have e9 : (fun i => js_up u 24 0 v f9 i) = (fun i => u f9 i) := by
      funext i
      exact js_up_f (by omega)
    rw [e9]) hdg kk
theorem jpm_25 (hc : jx_C p s m args c cc nL own D (jc_tys cA) aK A) (hh : jx_H D 22 ad (jm_cell ad cA u) A s.heap H locs) {v : Int32} {idx : Nat} (hlink : Cond.fieldLink own idx (F_M 25).1 (F_M 25).2.1 (F_M 25).2.2.1 ∈ jw_all) (hdg : decode cc pc = .ok (.putfield idx, 3))
    (kk : ∀ (H1 : Heap) (locs1 : List Loc), jx_H D 22 ad (jm_cell ad cA (js_up u 25 0 v)) A s.heap H1 locs1 → W p l e R s m args below meth c H1 locs1 cells slots Q (F0 m (pc + 3) ls rest)) : W p l e R s m args below meth c H locs cells slots Q (F0 m pc ls (.int v :: .ref (ad 0) :: rest)) :=
  jp_M hc hh 25 (by omega) hlink rfl (by decide +kernel) (by simp [jm_fM, js_up]) (fun j hj hne => by
    obtain ⟨f9, rfl⟩ : ∃ f9, j = 1 + f9 := ⟨j - 1, by omega⟩
    rw [jm_cf, jm_cf]
    have e9 : (fun i => js_up u 25 0 v f9 i) = (fun i => u f9 i) := by
      funext i
      exact js_up_f (by omega)
    rw [e9]) hdg kk
theorem jm_ild (hc : jx_C p s m args c cc nL own D (jc_tys cA) aK A) (hh : jx_H D 22 ad (jm_cell ad cA u) A s.heap H locs) (f : Nat) (hf : f < 21) (ht : jm_ty f = 4) {x : Int32} (hx : ∃ i, i < jm_len f ∧ x = nI i) (hdg : decode cc pc = .ok (.iaload, 1))
    (kk : W p l e R s m args below meth c H locs cells slots Q (F0 m (pc + 1) ls (.int (u f (ix x)) :: rest))) : W p l e R s m args below meth c H locs cells slots Q (F0 m pc ls (.int x :: .ref (ad (1 + f)) :: rest)) := by
  obtain ⟨i, hi, rfl⟩ := hx
  exact va_iald (cA := cA 4) (n := jm_len f) (f := fun i => u f i) hc.1 hc.2.1 hc.2.2.2.2.2.1 hh.1 (1 + f) 4 (by rw [jx_at (by omega), jm_cf, ht]) rfl (vp_in_nI hi (jm_len31 f)) hdg kk
theorem jm_zld (hc : jx_C p s m args c cc nL own D (jc_tys cA) aK A) (hh : jx_H D 22 ad (jm_cell ad cA u) A s.heap H locs) (f : Nat) (hf : f < 21) (ht : jm_ty f = 5) {x : Int32} (hx : ∃ i, i < jm_len f ∧ x = nI i) (hdg : decode cc pc = .ok (.baload, 1))
    (kk : W p l e R s m args below meth c H locs cells slots Q (F0 m (pc + 1) ls (.int (u f (ix x)) :: rest))) : W p l e R s m args below meth c H locs cells slots Q (F0 m pc ls (.int x :: .ref (ad (1 + f)) :: rest)) := by
  obtain ⟨i, hi, rfl⟩ := hx
  exact va_zald (cA := cA 5) (n := jm_len f) (f := fun i => u f i) hc.1 hc.2.1 hc.2.2.2.2.2.1 hh.1 (1 + f) 5 (by rw [jx_at (by omega), jm_cf, ht]) rfl (vp_in_nI hi (jm_len31 f)) hdg kk
theorem jm_oth {f i : Nat} {v : Int32} (hf : f < 21) : ∀ j, j < 22 → j ≠ 1 + f → jm_cell ad cA (js_up u f i v) j = jm_cell ad cA u j := by
  intro j hj hne
  by_cases h0 : j = 0
  · subst h0
    rw [jm_c0, jm_c0]
    simp only [jm_fM]
    rw [js_up_f (show ¬ 21 = f by omega), js_up_f (show ¬ 22 = f by omega), js_up_f (show ¬ 23 = f by omega), js_up_f (show ¬ 24 = f by omega), js_up_f (show ¬ 25 = f by omega)]
  · obtain ⟨f9, rfl⟩ : ∃ f9, j = 1 + f9 := ⟨j - 1, by omega⟩
    rw [jm_cf, jm_cf]
    have e9 : (fun i9 => js_up u f i v f9 i9) = (fun i9 => u f9 i9) := by
      funext i9
      exact js_up_f (by omega)
    rw [e9]
theorem jm_upd {f i : Nat} {v : Int32} : upd (fun j => u f j) i v = fun j => js_up u f i v f j := by
  funext j
  simp [upd, js_up]
theorem jm_ist (hc : jx_C p s m args c cc nL own D (jc_tys cA) aK A) (hh : jx_H D 22 ad (jm_cell ad cA u) A s.heap H locs) (f : Nat) (hf : f < 21) (ht : jm_ty f = 4) {x v : Int32} (hx : ∃ i, i < jm_len f ∧ x = nI i) (hdg : decode cc pc = .ok (.iastore, 1))
    (kk : ∀ (H1 : Heap) (locs1 : List Loc), jx_H D 22 ad (jm_cell ad cA (js_up u f (ix x) v)) A s.heap H1 locs1 → W p l e R s m args below meth c H1 locs1 cells slots Q (F0 m (pc + 1) ls rest)) : W p l e R s m args below meth c H locs cells slots Q (F0 m pc ls (.int v :: .int x :: .ref (ad (1 + f)) :: rest)) := by
  obtain ⟨i, hi, rfl⟩ := hx
  refine va_iast (cA := cA 4) (n := jm_len f) (f := fun i => u f i) hc.1 hc.2.1 hc.2.2.2.2.2.1 hh.1 hh.2.1 hh.2.2 (1 + f) 4 (by rw [jx_at (by omega), jm_cf, ht]) rfl (vp_in_nI hi (jm_len31 f)) hdg (fun H1 locs1 h1 h2 h3 => kk H1 locs1 ?_)
  have e : (jx_W 22 ad (jm_cell ad cA u)).set (1 + f) (ad (1 + f), .inl (cA 4, jm_len f, .inl (upd (fun j => u f j) (nI i).toNatClampNeg v))) = jx_W 22 ad (jm_cell ad cA (js_up u f (ix (nI i)) v)) := by
    rw [jm_upd, ← jx_set (ce' := jm_cell ad cA (js_up u f (ix (nI i)) v)) (show 1 + f < 22 by omega) (jm_oth hf), jm_cf, ht]
  rw [e] at h1 h2
  exact ⟨h1, h2, h3⟩
theorem jm_zst (hc : jx_C p s m args c cc nL own D (jc_tys cA) aK A) (hh : jx_H D 22 ad (jm_cell ad cA u) A s.heap H locs) (f : Nat) (hf : f < 21) (ht : jm_ty f = 5) {x v : Int32} (hx : ∃ i, i < jm_len f ∧ x = nI i) (hz : v = 0 ∨ v = 1) (hdg : decode cc pc = .ok (.bastore, 1))
    (kk : ∀ (H1 : Heap) (locs1 : List Loc), jx_H D 22 ad (jm_cell ad cA (js_up u f (ix x) v)) A s.heap H1 locs1 → W p l e R s m args below meth c H1 locs1 cells slots Q (F0 m (pc + 1) ls rest)) : W p l e R s m args below meth c H locs cells slots Q (F0 m pc ls (.int v :: .int x :: .ref (ad (1 + f)) :: rest)) := by
  obtain ⟨i, hi, rfl⟩ := hx
  refine va_zast (cA := cA 5) (n := jm_len f) (f := fun i => u f i) hc.1 hc.2.1 hc.2.2.2.2.2.1 hh.1 hh.2.1 hh.2.2 (1 + f) 5 (by rw [jx_at (by omega), jm_cf, ht]) rfl (vp_in_nI hi (jm_len31 f)) hdg (fun H1 locs1 h1 h2 h3 => kk H1 locs1 ?_)
  rw [js_narz hz] at h1 h2
  have e : (jx_W 22 ad (jm_cell ad cA u)).set (1 + f) (ad (1 + f), .inl (cA 5, jm_len f, .inl (upd (fun j => u f j) (nI i).toNatClampNeg v))) = jx_W 22 ad (jm_cell ad cA (js_up u f (ix (nI i)) v)) := by
    rw [jm_upd, ← jx_set (ce' := jm_cell ad cA (js_up u f (ix (nI i)) v)) (show 1 + f < 22 by omega) (jm_oth hf), jm_cf, ht]
  rw [e] at h1 h2
  exact ⟨h1, h2, h3⟩
end JMA
end
