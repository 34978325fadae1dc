section
-- ===== PART A: goes FIRST, ahead of the names: the tables' words, and 'selects' of the private methods out of them =====
/-- a private method of a class that the tables say can be made, by its rows of tables_1 -/
def lw_okq (q : MethodName × Nat) : Prop := (q.1.cls ≠ "java/lang/invoke/MethodHandle" ∧ q.1.cls ≠ "java/lang/invoke/VarHandle") ∧ Cond.instantiable q.1.cls q.2 ∈ tables_1 ∧ Cond.privateMethod q.1 ∈ tables_1 ∧ Cond.instanceMethod q.1 ∈ tables_1
theorem lw_p0 : lw_okq (⟨"InterleavedArchive$State", "fileCount", "()I"⟩, 12) := ⟨⟨by decide +kernel, by decide +kernel⟩, List.mem_of_getElem? (i := 28) (by decide +kernel), List.mem_of_getElem? (i := 174) (by decide +kernel), List.mem_of_getElem? (i := 175) (by decide +kernel)⟩
theorem lw_p1 : lw_okq (⟨"InterleavedArchive$State", "hasFile", "(I)Z"⟩, 12) := ⟨⟨by decide +kernel, by decide +kernel⟩, List.mem_of_getElem? (i := 28) (by decide +kernel), List.mem_of_getElem? (i := 178) (by decide +kernel), List.mem_of_getElem? (i := 179) (by decide +kernel)⟩
theorem lw_p2 : lw_okq (⟨"InterleavedArchive$State", "reset", "()V"⟩, 12) := ⟨⟨by decide +kernel, by decide +kernel⟩, List.mem_of_getElem? (i := 28) (by decide +kernel), List.mem_of_getElem? (i := 182) (by decide +kernel), List.mem_of_getElem? (i := 183) (by decide +kernel)⟩
theorem lw_p3 : lw_okq (⟨"InterleavedArchive$State", "drop", "(I)V"⟩, 12) := ⟨⟨by decide +kernel, by decide +kernel⟩, List.mem_of_getElem? (i := 28) (by decide +kernel), List.mem_of_getElem? (i := 186) (by decide +kernel), List.mem_of_getElem? (i := 187) (by decide +kernel)⟩
theorem lw_p4 : lw_okq (⟨"InterleavedArchive", "forgetChanges", "()V"⟩, 13) := ⟨⟨by decide +kernel, by decide +kernel⟩, List.mem_of_getElem? (i := 20) (by decide +kernel), List.mem_of_getElem? (i := 190) (by decide +kernel), List.mem_of_getElem? (i := 191) (by decide +kernel)⟩
theorem lw_p5 : lw_okq (⟨"InterleavedArchive$State", "greatestFreeArea", "()I"⟩, 12) := ⟨⟨by decide +kernel, by decide +kernel⟩, List.mem_of_getElem? (i := 28) (by decide +kernel), List.mem_of_getElem? (i := 203) (by decide +kernel), List.mem_of_getElem? (i := 204) (by decide +kernel)⟩
theorem lw_p6 : lw_okq (⟨"InterleavedArchive$State", "fileAt", "(I)I"⟩, 12) := ⟨⟨by decide +kernel, by decide +kernel⟩, List.mem_of_getElem? (i := 28) (by decide +kernel), List.mem_of_getElem? (i := 207) (by decide +kernel), List.mem_of_getElem? (i := 208) (by decide +kernel)⟩
theorem lw_p7 : lw_okq (⟨"InterleavedArchive$State", "areaStart", "(I)I"⟩, 12) := ⟨⟨by decide +kernel, by decide +kernel⟩, List.mem_of_getElem? (i := 28) (by decide +kernel), List.mem_of_getElem? (i := 211) (by decide +kernel), List.mem_of_getElem? (i := 212) (by decide +kernel)⟩
theorem lw_p8 : lw_okq (⟨"InterleavedArchive$State", "areaEnd", "(I)I"⟩, 12) := ⟨⟨by decide +kernel, by decide +kernel⟩, List.mem_of_getElem? (i := 28) (by decide +kernel), List.mem_of_getElem? (i := 215) (by decide +kernel), List.mem_of_getElem? (i := 216) (by decide +kernel)⟩
theorem lw_p9 : lw_okq (⟨"InterleavedArchive$State", "areaSize", "(I)I"⟩, 12) := ⟨⟨by decide +kernel, by decide +kernel⟩, List.mem_of_getElem? (i := 28) (by decide +kernel), List.mem_of_getElem? (i := 219) (by decide +kernel), List.mem_of_getElem? (i := 220) (by decide +kernel)⟩
theorem lw_p10 : lw_okq (⟨"InterleavedArchive$State", "blockSize", "(I)I"⟩, 12) := ⟨⟨by decide +kernel, by decide +kernel⟩, List.mem_of_getElem? (i := 28) (by decide +kernel), List.mem_of_getElem? (i := 223) (by decide +kernel), List.mem_of_getElem? (i := 224) (by decide +kernel)⟩
theorem lw_p11 : lw_okq (⟨"InterleavedArchive$State", "isDue", "(II)Z"⟩, 12) := ⟨⟨by decide +kernel, by decide +kernel⟩, List.mem_of_getElem? (i := 28) (by decide +kernel), List.mem_of_getElem? (i := 238) (by decide +kernel), List.mem_of_getElem? (i := 239) (by decide +kernel)⟩
theorem lw_p12 : lw_okq (⟨"InterleavedArchive$Decoder", "decode", "(LInterleavedArchive$State;II)Z"⟩, 9) := ⟨⟨by decide +kernel, by decide +kernel⟩, List.mem_of_getElem? (i := 88) (by decide +kernel), List.mem_of_getElem? (i := 242) (by decide +kernel), List.mem_of_getElem? (i := 243) (by decide +kernel)⟩
theorem lw_p13 : lw_okq (⟨"InterleavedArchive$Decoder", "load", "(LInterleavedArchive$State;II)V"⟩, 9) := ⟨⟨by decide +kernel, by decide +kernel⟩, List.mem_of_getElem? (i := 88) (by decide +kernel), List.mem_of_getElem? (i := 246) (by decide +kernel), List.mem_of_getElem? (i := 247) (by decide +kernel)⟩
theorem lw_p14 : lw_okq (⟨"InterleavedArchive$Decoder", "clearBlock", "(I)V"⟩, 9) := ⟨⟨by decide +kernel, by decide +kernel⟩, List.mem_of_getElem? (i := 88) (by decide +kernel), List.mem_of_getElem? (i := 250) (by decide +kernel), List.mem_of_getElem? (i := 251) (by decide +kernel)⟩
theorem lw_p15 : lw_okq (⟨"InterleavedArchive$State", "cellAt", "(III)I"⟩, 12) := ⟨⟨by decide +kernel, by decide +kernel⟩, List.mem_of_getElem? (i := 28) (by decide +kernel), List.mem_of_getElem? (i := 258) (by decide +kernel), List.mem_of_getElem? (i := 259) (by decide +kernel)⟩
def lw_privs_1 : List (MethodName × Nat) := [(⟨"InterleavedArchive$State", "fileCount", "()I"⟩, 12), (⟨"InterleavedArchive$State", "hasFile", "(I)Z"⟩, 12), (⟨"InterleavedArchive$State", "reset", "()V"⟩, 12), (⟨"InterleavedArchive$State", "drop", "(I)V"⟩, 12), (⟨"InterleavedArchive", "forgetChanges", "()V"⟩, 13), (⟨"InterleavedArchive$State", "greatestFreeArea", "()I"⟩, 12), (⟨"InterleavedArchive$State", "fileAt", "(I)I"⟩, 12), (⟨"InterleavedArchive$State", "areaStart", "(I)I"⟩, 12), (⟨"InterleavedArchive$State", "areaEnd", "(I)I"⟩, 12), (⟨"InterleavedArchive$State", "areaSize", "(I)I"⟩, 12), (⟨"InterleavedArchive$State", "blockSize", "(I)I"⟩, 12), (⟨"InterleavedArchive$State", "isDue", "(II)Z"⟩, 12), (⟨"InterleavedArchive$Decoder", "decode", "(LInterleavedArchive$State;II)Z"⟩, 9), (⟨"InterleavedArchive$Decoder", "load", "(LInterleavedArchive$State;II)V"⟩, 9), (⟨"InterleavedArchive$Decoder", "clearBlock", "(I)V"⟩, 9), (⟨"InterleavedArchive$State", "cellAt", "(III)I"⟩, 12)]
theorem lw_r1 : ∀ q ∈ lw_privs_1, lw_okq q := List.forall_mem_cons.mpr ⟨lw_p0, List.forall_mem_cons.mpr ⟨lw_p1, List.forall_mem_cons.mpr ⟨lw_p2, List.forall_mem_cons.mpr ⟨lw_p3, List.forall_mem_cons.mpr ⟨lw_p4, List.forall_mem_cons.mpr ⟨lw_p5, List.forall_mem_cons.mpr ⟨lw_p6, List.forall_mem_cons.mpr ⟨lw_p7, List.forall_mem_cons.mpr ⟨lw_p8, List.forall_mem_cons.mpr ⟨lw_p9, List.forall_mem_cons.mpr ⟨lw_p10, List.forall_mem_cons.mpr ⟨lw_p11, List.forall_mem_cons.mpr ⟨lw_p12, List.forall_mem_cons.mpr ⟨lw_p13, List.forall_mem_cons.mpr ⟨lw_p14, List.forall_mem_cons.mpr ⟨lw_p15, fun _ h => absurd h List.not_mem_nil⟩⟩⟩⟩⟩⟩⟩⟩⟩⟩⟩⟩⟩⟩⟩⟩
theorem lw_p16 : lw_okq (⟨"InterleavedArchive$State", "groupSize", "(II)I"⟩, 12) := ⟨⟨by decide +kernel, by decide +kernel⟩, List.mem_of_getElem? (i := 28) (by decide +kernel), List.mem_of_getElem? (i := 262) (by decide +kernel), List.mem_of_getElem? (i := 263) (by decide +kernel)⟩
theorem lw_p17 : lw_okq (⟨"InterleavedArchive$Decoder", "addSums", "()V"⟩, 9) := ⟨⟨by decide +kernel, by decide +kernel⟩, List.mem_of_getElem? (i := 88) (by decide +kernel), List.mem_of_getElem? (i := 267) (by decide +kernel), List.mem_of_getElem? (i := 268) (by decide +kernel)⟩
theorem lw_p18 : lw_okq (⟨"InterleavedArchive$Decoder", "cancelErasures", "()V"⟩, 9) := ⟨⟨by decide +kernel, by decide +kernel⟩, List.mem_of_getElem? (i := 88) (by decide +kernel), List.mem_of_getElem? (i := 285) (by decide +kernel), List.mem_of_getElem? (i := 286) (by decide +kernel)⟩
theorem lw_p19 : lw_okq (⟨"InterleavedArchive$Decoder", "solve", "(I)V"⟩, 9) := ⟨⟨by decide +kernel, by decide +kernel⟩, List.mem_of_getElem? (i := 88) (by decide +kernel), List.mem_of_getElem? (i := 301) (by decide +kernel), List.mem_of_getElem? (i := 302) (by decide +kernel)⟩
theorem lw_p20 : lw_okq (⟨"InterleavedArchive$Decoder", "difference", "(II)I"⟩, 9) := ⟨⟨by decide +kernel, by decide +kernel⟩, List.mem_of_getElem? (i := 88) (by decide +kernel), List.mem_of_getElem? (i := 305) (by decide +kernel), List.mem_of_getElem? (i := 306) (by decide +kernel)⟩
theorem lw_p21 : lw_okq (⟨"InterleavedArchive$Decoder", "damageCount", "()I"⟩, 9) := ⟨⟨by decide +kernel, by decide +kernel⟩, List.mem_of_getElem? (i := 88) (by decide +kernel), List.mem_of_getElem? (i := 312) (by decide +kernel), List.mem_of_getElem? (i := 313) (by decide +kernel)⟩
theorem lw_p22 : lw_okq (⟨"InterleavedArchive$State", "takeOver", "(LInterleavedArchive$State;)V"⟩, 12) := ⟨⟨by decide +kernel, by decide +kernel⟩, List.mem_of_getElem? (i := 28) (by decide +kernel), List.mem_of_getElem? (i := 324) (by decide +kernel), List.mem_of_getElem? (i := 325) (by decide +kernel)⟩
theorem lw_p23 : lw_okq (⟨"java/lang/Throwable", "fillInStackTrace", "(I)Ljava/lang/Throwable;"⟩, 6) := ⟨⟨by decide +kernel, by decide +kernel⟩, List.mem_of_getElem? (i := 380) (by decide +kernel), List.mem_of_getElem? (i := 378) (by decide +kernel), List.mem_of_getElem? (i := 379) (by decide +kernel)⟩
theorem lw_p24 : lw_okq (⟨"InterleavedArchive$State", "freeFile", "()I"⟩, 12) := ⟨⟨by decide +kernel, by decide +kernel⟩, List.mem_of_getElem? (i := 28) (by decide +kernel), List.mem_of_getElem? (i := 443) (by decide +kernel), List.mem_of_getElem? (i := 444) (by decide +kernel)⟩
theorem lw_p25 : lw_okq (⟨"InterleavedArchive$State", "freeArea", "(I)I"⟩, 12) := ⟨⟨by decide +kernel, by decide +kernel⟩, List.mem_of_getElem? (i := 28) (by decide +kernel), List.mem_of_getElem? (i := 450) (by decide +kernel), List.mem_of_getElem? (i := 451) (by decide +kernel)⟩
theorem lw_p26 : lw_okq (⟨"InterleavedArchive", "remember", "()V"⟩, 13) := ⟨⟨by decide +kernel, by decide +kernel⟩, List.mem_of_getElem? (i := 20) (by decide +kernel), List.mem_of_getElem? (i := 455) (by decide +kernel), List.mem_of_getElem? (i := 456) (by decide +kernel)⟩
theorem lw_p27 : lw_okq (⟨"InterleavedArchive$State", "enter", "(IIIII)V"⟩, 12) := ⟨⟨by decide +kernel, by decide +kernel⟩, List.mem_of_getElem? (i := 28) (by decide +kernel), List.mem_of_getElem? (i := 459) (by decide +kernel), List.mem_of_getElem? (i := 460) (by decide +kernel)⟩
theorem lw_p28 : lw_okq (⟨"InterleavedArchive", "writeFile", "(I)V"⟩, 13) := ⟨⟨by decide +kernel, by decide +kernel⟩, List.mem_of_getElem? (i := 20) (by decide +kernel), List.mem_of_getElem? (i := 464) (by decide +kernel), List.mem_of_getElem? (i := 465) (by decide +kernel)⟩
theorem lw_p29 : lw_okq (⟨"InterleavedArchive", "dataIn", "(II)I"⟩, 13) := ⟨⟨by decide +kernel, by decide +kernel⟩, List.mem_of_getElem? (i := 20) (by decide +kernel), List.mem_of_getElem? (i := 470) (by decide +kernel), List.mem_of_getElem? (i := 471) (by decide +kernel)⟩
theorem lw_p30 : lw_okq (⟨"InterleavedArchive$Decoder", "encode", "()V"⟩, 9) := ⟨⟨by decide +kernel, by decide +kernel⟩, List.mem_of_getElem? (i := 88) (by decide +kernel), List.mem_of_getElem? (i := 476) (by decide +kernel), List.mem_of_getElem? (i := 477) (by decide +kernel)⟩
theorem lw_p31 : lw_okq (⟨"InterleavedArchive", "sealBehind", "(III)I"⟩, 13) := ⟨⟨by decide +kernel, by decide +kernel⟩, List.mem_of_getElem? (i := 20) (by decide +kernel), List.mem_of_getElem? (i := 480) (by decide +kernel), List.mem_of_getElem? (i := 481) (by decide +kernel)⟩
def lw_privs_2 : List (MethodName × Nat) := [(⟨"InterleavedArchive$State", "groupSize", "(II)I"⟩, 12), (⟨"InterleavedArchive$Decoder", "addSums", "()V"⟩, 9), (⟨"InterleavedArchive$Decoder", "cancelErasures", "()V"⟩, 9), (⟨"InterleavedArchive$Decoder", "solve", "(I)V"⟩, 9), (⟨"InterleavedArchive$Decoder", "difference", "(II)I"⟩, 9), (⟨"InterleavedArchive$Decoder", "damageCount", "()I"⟩, 9), (⟨"InterleavedArchive$State", "takeOver", "(LInterleavedArchive$State;)V"⟩, 12), (⟨"java/lang/Throwable", "fillInStackTrace", "(I)Ljava/lang/Throwable;"⟩, 6), (⟨"InterleavedArchive$State", "freeFile", "()I"⟩, 12), (⟨"InterleavedArchive$State", "freeArea", "(I)I"⟩, 12), (⟨"InterleavedArchive", "remember", "()V"⟩, 13), (⟨"InterleavedArchive$State", "enter", "(IIIII)V"⟩, 12), (⟨"InterleavedArchive", "writeFile", "(I)V"⟩, 13), (⟨"InterleavedArchive", "dataIn", "(II)I"⟩, 13), (⟨"InterleavedArchive$Decoder", "encode", "()V"⟩, 9), (⟨"InterleavedArchive", "sealBehind", "(III)I"⟩, 13)]
theorem lw_r2 : ∀ q ∈ lw_privs_2, lw_okq q := List.forall_mem_cons.mpr ⟨lw_p16, List.forall_mem_cons.mpr ⟨lw_p17, List.forall_mem_cons.mpr ⟨lw_p18, List.forall_mem_cons.mpr ⟨lw_p19, List.forall_mem_cons.mpr ⟨lw_p20, List.forall_mem_cons.mpr ⟨lw_p21, List.forall_mem_cons.mpr ⟨lw_p22, List.forall_mem_cons.mpr ⟨lw_p23, List.forall_mem_cons.mpr ⟨lw_p24, List.forall_mem_cons.mpr ⟨lw_p25, List.forall_mem_cons.mpr ⟨lw_p26, List.forall_mem_cons.mpr ⟨lw_p27, List.forall_mem_cons.mpr ⟨lw_p28, List.forall_mem_cons.mpr ⟨lw_p29, List.forall_mem_cons.mpr ⟨lw_p30, List.forall_mem_cons.mpr ⟨lw_p31, fun _ h => absurd h List.not_mem_nil⟩⟩⟩⟩⟩⟩⟩⟩⟩⟩⟩⟩⟩⟩⟩⟩
theorem lw_p32 : lw_okq (⟨"InterleavedArchive", "writeFound", "(III)V"⟩, 13) := ⟨⟨by decide +kernel, by decide +kernel⟩, List.mem_of_getElem? (i := 20) (by decide +kernel), List.mem_of_getElem? (i := 484) (by decide +kernel), List.mem_of_getElem? (i := 485) (by decide +kernel)⟩
theorem lw_p33 : lw_okq (⟨"InterleavedArchive$State", "write", "(II)V"⟩, 12) := ⟨⟨by decide +kernel, by decide +kernel⟩, List.mem_of_getElem? (i := 28) (by decide +kernel), List.mem_of_getElem? (i := 489) (by decide +kernel), List.mem_of_getElem? (i := 490) (by decide +kernel)⟩
theorem lw_p34 : lw_okq (⟨"InterleavedArchive$State", "hasPosition", "(III)Z"⟩, 12) := ⟨⟨by decide +kernel, by decide +kernel⟩, List.mem_of_getElem? (i := 28) (by decide +kernel), List.mem_of_getElem? (i := 579) (by decide +kernel), List.mem_of_getElem? (i := 580) (by decide +kernel)⟩
theorem lw_p35 : lw_okq (⟨"InterleavedArchive$State", "hasBlock", "(II)Z"⟩, 12) := ⟨⟨by decide +kernel, by decide +kernel⟩, List.mem_of_getElem? (i := 28) (by decide +kernel), List.mem_of_getElem? (i := 583) (by decide +kernel), List.mem_of_getElem? (i := 584) (by decide +kernel)⟩
theorem lw_p36 : lw_okq (⟨"InterleavedArchive$State", "placeInFile", "(II)I"⟩, 12) := ⟨⟨by decide +kernel, by decide +kernel⟩, List.mem_of_getElem? (i := 28) (by decide +kernel), List.mem_of_getElem? (i := 608) (by decide +kernel), List.mem_of_getElem? (i := 609) (by decide +kernel)⟩
theorem lw_p37 : lw_okq (⟨"InterleavedArchive$State", "damage", "(II)V"⟩, 12) := ⟨⟨by decide +kernel, by decide +kernel⟩, List.mem_of_getElem? (i := 28) (by decide +kernel), List.mem_of_getElem? (i := 634) (by decide +kernel), List.mem_of_getElem? (i := 635) (by decide +kernel)⟩
theorem lw_p38 : lw_okq (⟨"InterleavedArchive", "lostBlocks", "(I)I"⟩, 13) := ⟨⟨by decide +kernel, by decide +kernel⟩, List.mem_of_getElem? (i := 20) (by decide +kernel), List.mem_of_getElem? (i := 718) (by decide +kernel), List.mem_of_getElem? (i := 719) (by decide +kernel)⟩
theorem lw_p39 : lw_okq (⟨"InterleavedArchive", "standingFrom", "(III)I"⟩, 13) := ⟨⟨by decide +kernel, by decide +kernel⟩, List.mem_of_getElem? (i := 20) (by decide +kernel), List.mem_of_getElem? (i := 736) (by decide +kernel), List.mem_of_getElem? (i := 737) (by decide +kernel)⟩
theorem lw_p40 : lw_okq (⟨"InterleavedArchive$State", "blockToCheck", "()I"⟩, 12) := ⟨⟨by decide +kernel, by decide +kernel⟩, List.mem_of_getElem? (i := 28) (by decide +kernel), List.mem_of_getElem? (i := 757) (by decide +kernel), List.mem_of_getElem? (i := 758) (by decide +kernel)⟩
theorem lw_p41 : lw_okq (⟨"InterleavedArchive", "scrubBlock", "(III)I"⟩, 13) := ⟨⟨by decide +kernel, by decide +kernel⟩, List.mem_of_getElem? (i := 20) (by decide +kernel), List.mem_of_getElem? (i := 761) (by decide +kernel), List.mem_of_getElem? (i := 762) (by decide +kernel)⟩
theorem lw_p42 : lw_okq (⟨"InterleavedArchive", "addLine", "(IIII)V"⟩, 13) := ⟨⟨by decide +kernel, by decide +kernel⟩, List.mem_of_getElem? (i := 20) (by decide +kernel), List.mem_of_getElem? (i := 765) (by decide +kernel), List.mem_of_getElem? (i := 766) (by decide +kernel)⟩
theorem lw_p43 : lw_okq (⟨"InterleavedArchive", "headCharacter", "(II)I"⟩, 13) := ⟨⟨by decide +kernel, by decide +kernel⟩, List.mem_of_getElem? (i := 20) (by decide +kernel), List.mem_of_getElem? (i := 857) (by decide +kernel), List.mem_of_getElem? (i := 858) (by decide +kernel)⟩
theorem lw_p44 : lw_okq (⟨"InterleavedArchive", "dataCharacter", "(II)I"⟩, 13) := ⟨⟨by decide +kernel, by decide +kernel⟩, List.mem_of_getElem? (i := 20) (by decide +kernel), List.mem_of_getElem? (i := 861) (by decide +kernel), List.mem_of_getElem? (i := 862) (by decide +kernel)⟩
theorem lw_p45 : lw_okq (⟨"InterleavedArchiveModel", "many", "()I"⟩, 31) := ⟨⟨by decide +kernel, by decide +kernel⟩, List.mem_of_getElem? (i := 881) (by decide +kernel), List.mem_of_getElem? (i := 992) (by decide +kernel), List.mem_of_getElem? (i := 993) (by decide +kernel)⟩
theorem lw_p46 : lw_okq (⟨"InterleavedArchiveModel", "isFile", "(I)Z"⟩, 31) := ⟨⟨by decide +kernel, by decide +kernel⟩, List.mem_of_getElem? (i := 881) (by decide +kernel), List.mem_of_getElem? (i := 996) (by decide +kernel), List.mem_of_getElem? (i := 997) (by decide +kernel)⟩
theorem lw_p47 : lw_okq (⟨"InterleavedArchiveModel", "of", "(II)I"⟩, 31) := ⟨⟨by decide +kernel, by decide +kernel⟩, List.mem_of_getElem? (i := 881) (by decide +kernel), List.mem_of_getElem? (i := 1003) (by decide +kernel), List.mem_of_getElem? (i := 1004) (by decide +kernel)⟩
def lw_privs_3 : List (MethodName × Nat) := [(⟨"InterleavedArchive", "writeFound", "(III)V"⟩, 13), (⟨"InterleavedArchive$State", "write", "(II)V"⟩, 12), (⟨"InterleavedArchive$State", "hasPosition", "(III)Z"⟩, 12), (⟨"InterleavedArchive$State", "hasBlock", "(II)Z"⟩, 12), (⟨"InterleavedArchive$State", "placeInFile", "(II)I"⟩, 12), (⟨"InterleavedArchive$State", "damage", "(II)V"⟩, 12), (⟨"InterleavedArchive", "lostBlocks", "(I)I"⟩, 13), (⟨"InterleavedArchive", "standingFrom", "(III)I"⟩, 13), (⟨"InterleavedArchive$State", "blockToCheck", "()I"⟩, 12), (⟨"InterleavedArchive", "scrubBlock", "(III)I"⟩, 13), (⟨"InterleavedArchive", "addLine", "(IIII)V"⟩, 13), (⟨"InterleavedArchive", "headCharacter", "(II)I"⟩, 13), (⟨"InterleavedArchive", "dataCharacter", "(II)I"⟩, 13), (⟨"InterleavedArchiveModel", "many", "()I"⟩, 31), (⟨"InterleavedArchiveModel", "isFile", "(I)Z"⟩, 31), (⟨"InterleavedArchiveModel", "of", "(II)I"⟩, 31)]
theorem lw_r3 : ∀ q ∈ lw_privs_3, lw_okq q := List.forall_mem_cons.mpr ⟨lw_p32, List.forall_mem_cons.mpr ⟨lw_p33, List.forall_mem_cons.mpr ⟨lw_p34, List.forall_mem_cons.mpr ⟨lw_p35, List.forall_mem_cons.mpr ⟨lw_p36, List.forall_mem_cons.mpr ⟨lw_p37, List.forall_mem_cons.mpr ⟨lw_p38, List.forall_mem_cons.mpr ⟨lw_p39, List.forall_mem_cons.mpr ⟨lw_p40, List.forall_mem_cons.mpr ⟨lw_p41, List.forall_mem_cons.mpr ⟨lw_p42, List.forall_mem_cons.mpr ⟨lw_p43, List.forall_mem_cons.mpr ⟨lw_p44, List.forall_mem_cons.mpr ⟨lw_p45, List.forall_mem_cons.mpr ⟨lw_p46, List.forall_mem_cons.mpr ⟨lw_p47, fun _ h => absurd h List.not_mem_nil⟩⟩⟩⟩⟩⟩⟩⟩⟩⟩⟩⟩⟩⟩⟩⟩
theorem lw_p48 : lw_okq (⟨"InterleavedArchiveModel", "digit", "(I)I"⟩, 31) := ⟨⟨by decide +kernel, by decide +kernel⟩, List.mem_of_getElem? (i := 881) (by decide +kernel), List.mem_of_getElem? (i := 1015) (by decide +kernel), List.mem_of_getElem? (i := 1016) (by decide +kernel)⟩
theorem lw_p49 : lw_okq (⟨"InterleavedArchiveModel", "here", "()I"⟩, 31) := ⟨⟨by decide +kernel, by decide +kernel⟩, List.mem_of_getElem? (i := 881) (by decide +kernel), List.mem_of_getElem? (i := 1019) (by decide +kernel), List.mem_of_getElem? (i := 1020) (by decide +kernel)⟩
theorem lw_p50 : lw_okq (⟨"InterleavedArchiveModel", "takes", "(I)V"⟩, 31) := ⟨⟨by decide +kernel, by decide +kernel⟩, List.mem_of_getElem? (i := 881) (by decide +kernel), List.mem_of_getElem? (i := 1023) (by decide +kernel), List.mem_of_getElem? (i := 1024) (by decide +kernel)⟩
theorem lw_p51 : lw_okq (⟨"InterleavedArchiveModel", "no", "(I)I"⟩, 31) := ⟨⟨by decide +kernel, by decide +kernel⟩, List.mem_of_getElem? (i := 881) (by decide +kernel), List.mem_of_getElem? (i := 1030) (by decide +kernel), List.mem_of_getElem? (i := 1031) (by decide +kernel)⟩
theorem lw_p52 : lw_okq (⟨"InterleavedArchiveModel", "area", "(I)I"⟩, 31) := ⟨⟨by decide +kernel, by decide +kernel⟩, List.mem_of_getElem? (i := 881) (by decide +kernel), List.mem_of_getElem? (i := 1034) (by decide +kernel), List.mem_of_getElem? (i := 1035) (by decide +kernel)⟩
theorem lw_p53 : lw_okq (⟨"InterleavedArchiveModel", "ownerOf", "(I)I"⟩, 31) := ⟨⟨by decide +kernel, by decide +kernel⟩, List.mem_of_getElem? (i := 881) (by decide +kernel), List.mem_of_getElem? (i := 1038) (by decide +kernel), List.mem_of_getElem? (i := 1039) (by decide +kernel)⟩
theorem lw_p54 : lw_okq (⟨"InterleavedArchiveModel", "cells", "(I)I"⟩, 31) := ⟨⟨by decide +kernel, by decide +kernel⟩, List.mem_of_getElem? (i := 881) (by decide +kernel), List.mem_of_getElem? (i := 1042) (by decide +kernel), List.mem_of_getElem? (i := 1043) (by decide +kernel)⟩
theorem lw_p55 : lw_okq (⟨"InterleavedArchiveModel", "blocks", "(I)I"⟩, 31) := ⟨⟨by decide +kernel, by decide +kernel⟩, List.mem_of_getElem? (i := 881) (by decide +kernel), List.mem_of_getElem? (i := 1046) (by decide +kernel), List.mem_of_getElem? (i := 1047) (by decide +kernel)⟩
theorem lw_p56 : lw_okq (⟨"InterleavedArchiveModel", "size", "(I)I"⟩, 31) := ⟨⟨by decide +kernel, by decide +kernel⟩, List.mem_of_getElem? (i := 881) (by decide +kernel), List.mem_of_getElem? (i := 1050) (by decide +kernel), List.mem_of_getElem? (i := 1051) (by decide +kernel)⟩
theorem lw_p57 : lw_okq (⟨"InterleavedArchiveModel", "keeps", "()V"⟩, 31) := ⟨⟨by decide +kernel, by decide +kernel⟩, List.mem_of_getElem? (i := 881) (by decide +kernel), List.mem_of_getElem? (i := 1054) (by decide +kernel), List.mem_of_getElem? (i := 1055) (by decide +kernel)⟩
theorem lw_p58 : lw_okq (⟨"InterleavedArchiveModel", "isDecoded", "()Z"⟩, 31) := ⟨⟨by decide +kernel, by decide +kernel⟩, List.mem_of_getElem? (i := 881) (by decide +kernel), List.mem_of_getElem? (i := 1058) (by decide +kernel), List.mem_of_getElem? (i := 1059) (by decide +kernel)⟩
theorem lw_p59 : lw_okq (⟨"InterleavedArchiveModel", "sumOf", "(I)I"⟩, 31) := ⟨⟨by decide +kernel, by decide +kernel⟩, List.mem_of_getElem? (i := 881) (by decide +kernel), List.mem_of_getElem? (i := 1065) (by decide +kernel), List.mem_of_getElem? (i := 1066) (by decide +kernel)⟩
theorem lw_p60 : lw_okq (⟨"InterleavedArchiveModel", "power", "(I)I"⟩, 31) := ⟨⟨by decide +kernel, by decide +kernel⟩, List.mem_of_getElem? (i := 881) (by decide +kernel), List.mem_of_getElem? (i := 1069) (by decide +kernel), List.mem_of_getElem? (i := 1070) (by decide +kernel)⟩
theorem lw_p61 : lw_okq (⟨"InterleavedArchiveModel", "times", "(II)I"⟩, 31) := ⟨⟨by decide +kernel, by decide +kernel⟩, List.mem_of_getElem? (i := 881) (by decide +kernel), List.mem_of_getElem? (i := 1073) (by decide +kernel), List.mem_of_getElem? (i := 1074) (by decide +kernel)⟩
theorem lw_p62 : lw_okq (⟨"InterleavedArchiveModel", "isSolved", "(I)Z"⟩, 31) := ⟨⟨by decide +kernel, by decide +kernel⟩, List.mem_of_getElem? (i := 881) (by decide +kernel), List.mem_of_getElem? (i := 1077) (by decide +kernel), List.mem_of_getElem? (i := 1078) (by decide +kernel)⟩
theorem lw_p63 : lw_okq (⟨"InterleavedArchiveModel", "cell", "(III)I"⟩, 31) := ⟨⟨by decide +kernel, by decide +kernel⟩, List.mem_of_getElem? (i := 881) (by decide +kernel), List.mem_of_getElem? (i := 1084) (by decide +kernel), List.mem_of_getElem? (i := 1085) (by decide +kernel)⟩
def lw_privs_4 : List (MethodName × Nat) := [(⟨"InterleavedArchiveModel", "digit", "(I)I"⟩, 31), (⟨"InterleavedArchiveModel", "here", "()I"⟩, 31), (⟨"InterleavedArchiveModel", "takes", "(I)V"⟩, 31), (⟨"InterleavedArchiveModel", "no", "(I)I"⟩, 31), (⟨"InterleavedArchiveModel", "area", "(I)I"⟩, 31), (⟨"InterleavedArchiveModel", "ownerOf", "(I)I"⟩, 31), (⟨"InterleavedArchiveModel", "cells", "(I)I"⟩, 31), (⟨"InterleavedArchiveModel", "blocks", "(I)I"⟩, 31), (⟨"InterleavedArchiveModel", "size", "(I)I"⟩, 31), (⟨"InterleavedArchiveModel", "keeps", "()V"⟩, 31), (⟨"InterleavedArchiveModel", "isDecoded", "()Z"⟩, 31), (⟨"InterleavedArchiveModel", "sumOf", "(I)I"⟩, 31), (⟨"InterleavedArchiveModel", "power", "(I)I"⟩, 31), (⟨"InterleavedArchiveModel", "times", "(II)I"⟩, 31), (⟨"InterleavedArchiveModel", "isSolved", "(I)Z"⟩, 31), (⟨"InterleavedArchiveModel", "cell", "(III)I"⟩, 31)]
theorem lw_r4 : ∀ q ∈ lw_privs_4, lw_okq q := List.forall_mem_cons.mpr ⟨lw_p48, List.forall_mem_cons.mpr ⟨lw_p49, List.forall_mem_cons.mpr ⟨lw_p50, List.forall_mem_cons.mpr ⟨lw_p51, List.forall_mem_cons.mpr ⟨lw_p52, List.forall_mem_cons.mpr ⟨lw_p53, List.forall_mem_cons.mpr ⟨lw_p54, List.forall_mem_cons.mpr ⟨lw_p55, List.forall_mem_cons.mpr ⟨lw_p56, List.forall_mem_cons.mpr ⟨lw_p57, List.forall_mem_cons.mpr ⟨lw_p58, List.forall_mem_cons.mpr ⟨lw_p59, List.forall_mem_cons.mpr ⟨lw_p60, List.forall_mem_cons.mpr ⟨lw_p61, List.forall_mem_cons.mpr ⟨lw_p62, List.forall_mem_cons.mpr ⟨lw_p63, fun _ h => absurd h List.not_mem_nil⟩⟩⟩⟩⟩⟩⟩⟩⟩⟩⟩⟩⟩⟩⟩⟩
theorem lw_p64 : lw_okq (⟨"InterleavedArchiveModel", "writes", "(II)V"⟩, 31) := ⟨⟨by decide +kernel, by decide +kernel⟩, List.mem_of_getElem? (i := 881) (by decide +kernel), List.mem_of_getElem? (i := 1088) (by decide +kernel), List.mem_of_getElem? (i := 1089) (by decide +kernel)⟩
theorem lw_p65 : lw_okq (⟨"InterleavedArchiveModel", "isPlace", "(III)Z"⟩, 31) := ⟨⟨by decide +kernel, by decide +kernel⟩, List.mem_of_getElem? (i := 881) (by decide +kernel), List.mem_of_getElem? (i := 1112) (by decide +kernel), List.mem_of_getElem? (i := 1113) (by decide +kernel)⟩
theorem lw_p66 : lw_okq (⟨"InterleavedArchiveModel", "isBlock", "(II)Z"⟩, 31) := ⟨⟨by decide +kernel, by decide +kernel⟩, List.mem_of_getElem? (i := 881) (by decide +kernel), List.mem_of_getElem? (i := 1116) (by decide +kernel), List.mem_of_getElem? (i := 1117) (by decide +kernel)⟩
theorem lw_p67 : lw_okq (⟨"InterleavedArchiveModel", "isCell", "(I)Z"⟩, 31) := ⟨⟨by decide +kernel, by decide +kernel⟩, List.mem_of_getElem? (i := 881) (by decide +kernel), List.mem_of_getElem? (i := 1124) (by decide +kernel), List.mem_of_getElem? (i := 1125) (by decide +kernel)⟩
theorem lw_p68 : lw_okq (⟨"InterleavedArchiveModel", "isFileOrAll", "(I)Z"⟩, 31) := ⟨⟨by decide +kernel, by decide +kernel⟩, List.mem_of_getElem? (i := 881) (by decide +kernel), List.mem_of_getElem? (i := 1160) (by decide +kernel), List.mem_of_getElem? (i := 1161) (by decide +kernel)⟩
theorem lw_p69 : lw_okq (⟨"InterleavedArchiveModel", "isWrong", "(I)Z"⟩, 31) := ⟨⟨by decide +kernel, by decide +kernel⟩, List.mem_of_getElem? (i := 881) (by decide +kernel), List.mem_of_getElem? (i := 1164) (by decide +kernel), List.mem_of_getElem? (i := 1165) (by decide +kernel)⟩
theorem lw_p70 : lw_okq (⟨"InterleavedArchiveModel", "looks", "(II)V"⟩, 31) := ⟨⟨by decide +kernel, by decide +kernel⟩, List.mem_of_getElem? (i := 881) (by decide +kernel), List.mem_of_getElem? (i := 1176) (by decide +kernel), List.mem_of_getElem? (i := 1177) (by decide +kernel)⟩
theorem lw_p71 : lw_okq (⟨"InterleavedArchiveModel", "isThere", "(II)Z"⟩, 31) := ⟨⟨by decide +kernel, by decide +kernel⟩, List.mem_of_getElem? (i := 881) (by decide +kernel), List.mem_of_getElem? (i := 1184) (by decide +kernel), List.mem_of_getElem? (i := 1185) (by decide +kernel)⟩
theorem lw_p72 : lw_okq (⟨"InterleavedArchiveModel", "isDecoded", "(II)Z"⟩, 31) := ⟨⟨by decide +kernel, by decide +kernel⟩, List.mem_of_getElem? (i := 881) (by decide +kernel), List.mem_of_getElem? (i := 1188) (by decide +kernel), List.mem_of_getElem? (i := 1189) (by decide +kernel)⟩
theorem lw_p73 : lw_okq (⟨"InterleavedArchiveModel", "isWhole", "(I)Z"⟩, 31) := ⟨⟨by decide +kernel, by decide +kernel⟩, List.mem_of_getElem? (i := 881) (by decide +kernel), List.mem_of_getElem? (i := 1204) (by decide +kernel), List.mem_of_getElem? (i := 1205) (by decide +kernel)⟩
theorem lw_p74 : lw_okq (⟨"InterleavedArchiveModel", "isClean", "()Z"⟩, 31) := ⟨⟨by decide +kernel, by decide +kernel⟩, List.mem_of_getElem? (i := 881) (by decide +kernel), List.mem_of_getElem? (i := 1208) (by decide +kernel), List.mem_of_getElem? (i := 1209) (by decide +kernel)⟩
theorem lw_p75 : lw_okq (⟨"InterleavedArchiveModel", "isStood", "(III)Z"⟩, 31) := ⟨⟨by decide +kernel, by decide +kernel⟩, List.mem_of_getElem? (i := 881) (by decide +kernel), List.mem_of_getElem? (i := 1224) (by decide +kernel), List.mem_of_getElem? (i := 1225) (by decide +kernel)⟩
theorem lw_p76 : lw_okq (⟨"InterleavedArchiveModel", "next", "()I"⟩, 31) := ⟨⟨by decide +kernel, by decide +kernel⟩, List.mem_of_getElem? (i := 881) (by decide +kernel), List.mem_of_getElem? (i := 1236) (by decide +kernel), List.mem_of_getElem? (i := 1237) (by decide +kernel)⟩
theorem lw_p77 : lw_okq (⟨"InterleavedArchiveModel", "tells", "(IIII)V"⟩, 31) := ⟨⟨by decide +kernel, by decide +kernel⟩, List.mem_of_getElem? (i := 881) (by decide +kernel), List.mem_of_getElem? (i := 1240) (by decide +kernel), List.mem_of_getElem? (i := 1241) (by decide +kernel)⟩
theorem lw_p78 : lw_okq (⟨"InterleavedArchiveModel", "mends", "(II)I"⟩, 31) := ⟨⟨by decide +kernel, by decide +kernel⟩, List.mem_of_getElem? (i := 881) (by decide +kernel), List.mem_of_getElem? (i := 1244) (by decide +kernel), List.mem_of_getElem? (i := 1245) (by decide +kernel)⟩
def lw_privs_5 : List (MethodName × Nat) := [(⟨"InterleavedArchiveModel", "writes", "(II)V"⟩, 31), (⟨"InterleavedArchiveModel", "isPlace", "(III)Z"⟩, 31), (⟨"InterleavedArchiveModel", "isBlock", "(II)Z"⟩, 31), (⟨"InterleavedArchiveModel", "isCell", "(I)Z"⟩, 31), (⟨"InterleavedArchiveModel", "isFileOrAll", "(I)Z"⟩, 31), (⟨"InterleavedArchiveModel", "isWrong", "(I)Z"⟩, 31), (⟨"InterleavedArchiveModel", "looks", "(II)V"⟩, 31), (⟨"InterleavedArchiveModel", "isThere", "(II)Z"⟩, 31), (⟨"InterleavedArchiveModel", "isDecoded", "(II)Z"⟩, 31), (⟨"InterleavedArchiveModel", "isWhole", "(I)Z"⟩, 31), (⟨"InterleavedArchiveModel", "isClean", "()Z"⟩, 31), (⟨"InterleavedArchiveModel", "isStood", "(III)Z"⟩, 31), (⟨"InterleavedArchiveModel", "next", "()I"⟩, 31), (⟨"InterleavedArchiveModel", "tells", "(IIII)V"⟩, 31), (⟨"InterleavedArchiveModel", "mends", "(II)I"⟩, 31)]
theorem lw_r5 : ∀ q ∈ lw_privs_5, lw_okq q := List.forall_mem_cons.mpr ⟨lw_p64, List.forall_mem_cons.mpr ⟨lw_p65, List.forall_mem_cons.mpr ⟨lw_p66, List.forall_mem_cons.mpr ⟨lw_p67, List.forall_mem_cons.mpr ⟨lw_p68, List.forall_mem_cons.mpr ⟨lw_p69, List.forall_mem_cons.mpr ⟨lw_p70, List.forall_mem_cons.mpr ⟨lw_p71, List.forall_mem_cons.mpr ⟨lw_p72, List.forall_mem_cons.mpr ⟨lw_p73, List.forall_mem_cons.mpr ⟨lw_p74, List.forall_mem_cons.mpr ⟨lw_p75, List.forall_mem_cons.mpr ⟨lw_p76, List.forall_mem_cons.mpr ⟨lw_p77, List.forall_mem_cons.mpr ⟨lw_p78, fun _ h => absurd h List.not_mem_nil⟩⟩⟩⟩⟩⟩⟩⟩⟩⟩⟩⟩⟩⟩⟩
def lw_privs : List (MethodName × Nat) := lw_privs_1 ++ (lw_privs_2 ++ (lw_privs_3 ++ (lw_privs_4 ++ (lw_privs_5))))
def lw_tbl : List Cond := k2_sels lw_privs ++ tables_1
theorem lw_privs_ok : ∀ q ∈ lw_privs, lw_okq q := by
  show ∀ q ∈ lw_privs_1 ++ (lw_privs_2 ++ (lw_privs_3 ++ (lw_privs_4 ++ (lw_privs_5)))), lw_okq q
  exact List.forall_mem_append.mpr ⟨lw_r1, List.forall_mem_append.mpr ⟨lw_r2, List.forall_mem_append.mpr ⟨lw_r3, List.forall_mem_append.mpr ⟨lw_r4, lw_r5⟩⟩⟩⟩
/-- the streams that the claim lets the run draw from -/
abbrev lw_cs : List Choice := [Jvm.Choice.named "NaN.bits"]
theorem lw_bits : nanBits ∈ lw_cs := by first | decide | exact List.mem_cons_self | simp [lw_cs, nanBits]
-- ===== end of PART A; then your names; then what follows =====
end
section
/-! an array whose components are arrays: what the tables say of it (the printed row va_mna needs this word) -/
def va_AOA (ty : FieldType) (U : State) : Prop := (Cond.arrayOver (.array ty)).before #[] U = true
theorem va_AOA.of {ty : FieldType} {A : Array Value} {U : State} (h : (Cond.arrayOver (.array ty)).before A U = true) : va_AOA ty U := h
theorem va_AOA.use {ty : FieldType} {A : Array Value} {U : State} (h : va_AOA ty U) : (Cond.arrayOver (.array ty)).before A U = true := h
/-! ===== BEGIN words of one list among another's, by their places ===== -/
theorem goodIn_r {big : List Cond} (ws : List Cond) (ps : List Nat) (hp : ws = ps.filterMap (fun i => big[i]?)) (h : ws.all goodWord = true) : GoodIn big ws := by
  intro w hw
  have h1 := List.all_eq_true.mp h w hw
  rw [hp] at hw
  obtain ⟨i, -, hi⟩ := List.mem_filterMap.mp hw
  have hm : w ∈ big := by first | exact List.mem_of_getElem? hi | exact List.getElem?_mem hi
  exact ⟨hm, good_of_word h1⟩
theorem goodIn_app {big a b : List Cond} (ha : GoodIn big a) (hb : GoodIn big b) : GoodIn big (a ++ b) := fun w h => (List.mem_append.mp h).elim (ha w) (hb w)
theorem goodIn_ca {big a b : List Cond} {c : Cond} (ha : GoodIn big (c :: a)) (hb : GoodIn big b) : GoodIn big (c :: (a ++ b)) := fun w h => (List.mem_cons.mp h).elim (fun e => ha w (List.mem_cons.mpr (Or.inl e))) (fun h => (List.mem_append.mp h).elim (fun h => ha w (List.mem_cons.mpr (Or.inr h))) (hb w))
theorem goodIn_sub {big ws : List Cond} (hm : ∀ w ∈ ws, w ∈ big) (h : ws.all goodWord = true) : GoodIn big ws := fun w hw => ⟨hm w hw, good_of_word (List.all_eq_true.mp h w hw)⟩
/-! ===== END ===== -/

/-! ===== BEGIN new T[n][m]: the outer array a place, the inner ones among the pooled ===== -/
/-- f, but v at every address of l -/
def vr_up {α : Type} (f : Nat → α) (l : List Nat) (v : α) : Nat → α := fun a => if a ∈ l then v else f a
theorem vr_up_in {α : Type} {f : Nat → α} {l : List Nat} {v : α} {a : Nat} (h : a ∈ l) : vr_up f l v a = v := if_pos h
theorem vr_up_ne {α : Type} {f : Nat → α} {l : List Nat} {v : α} {a : Nat} (h : a ∉ l) : vr_up f l v a = f a := if_neg h
theorem vr_rows {L l : List Nat} {f : Nat → va_E} {e : va_E} (h : ∀ a, a ∈ l → a ∉ L) : va_pl L f ++ l.map (fun a => (a, e)) = va_pl (L ++ l) (vr_up f l e) := by
  unfold va_pl
  rw [List.map_append]
  congr 1
  · apply List.map_congr_left
    intro a ha
    rw [vr_up_ne (fun q => h a q ha)]
  · apply List.map_congr_left
    intro a ha
    rw [vr_up_in ha]
theorem vr_lay {X rows : va_W} {x : Nat × va_E} {pl : va_W} {D : va_G} {cl : List vw_C} {H : Heap} (hP : va_P D cl (((X ++ pl) ++ [x]) ++ rows) H) : va_P D cl ((X ++ [x]) ++ (pl ++ rows)) H := by
  rw [List.append_assoc (X ++ pl)] at hP
  have h := va_P.swap hP
  rw [← List.append_assoc X] at h
  have h2 := va_P.swap h
  rw [List.append_assoc (X ++ [x])] at h2
  exact h2
theorem vr_layD {X rows : va_W} {x : Nat × va_E} {pl : va_W} {A : Nat → Prop} (hD : va_D A (((X ++ pl) ++ [x]) ++ rows)) : va_D A ((X ++ [x]) ++ (pl ++ rows)) := by
  rw [List.append_assoc (X ++ pl)] at hD
  have h := va_D.swap hD
  rw [← List.append_assoc X] at h
  have h2 := va_D.swap h
  rw [List.append_assoc (X ++ [x])] at h2
  exact h2
theorem vr_outer (c : ClassId) (N h0 : Nat) : ∀ i : Nat, Jvm.Free.Multi.outerC c N h0 i = arrV c N (fun j => va_rf (if j < i then some (h0 + 1 + j) else none))
  | 0 => by
    show ({ cls := c, slots := Array.replicate N .null, vm := .none } : Cell) = _
    rw [arrV_new]
    refine congrArg (arrV c N) (funext fun j => ?_)
    simp [va_rf]
  | i + 1 => by
    show (Jvm.Free.Multi.outerC c N h0 i).setSlot i (.ref (h0 + 1 + i)) = _
    rw [vr_outer c N h0 i, arrV_store]
    refine congrArg (arrV c N) (funext fun j => ?_)
    by_cases e : j = i
    · subst e
      simp [updV, va_rf]
    · by_cases h : j < i
      · simp [updV, e, h, Nat.lt_succ_of_lt h]
      · simp [updV, e, h, show ¬ j < i + 1 by omega]
section VGM
variable {p : Program} {l : Launch} {e : Env} {R : Room} {s : State} {m : MethodId} {args : Array Value} {below : List Frame} {meth : Method} {c : Code} {H : Heap} {locs : List Loc} {cells slots : Nat} {Q : State → Prop}
variable {cc : ByteArray} {pc : Nat} {ls : Array Slot} {rest : List Value} {D : va_G} {cl : List vw_C} {A : Nat → Prop} {a : Nat} {tys : List (ClassId × FieldType)} {ws : va_W} {H0 : Heap}
theorem va_mna {X : va_W} {L : List Nat} {f : Nat → va_E} {cc : ByteArray} (hexec : p.tables.exec = Jvm.exec) (hb : c.code = cc) {own : String} {index : Nat} {ty : FieldType} {cy : ClassId} (hown : s.vm.findClass own = some m.cls) (hclink : (Cond.classLink own index ("[" ++ (FieldType.array ty).toString)).before args s = true) (hover : va_AOA ty s) (harr : (Cond.arrayClass ty).before args s = true) (hcy : s.vm.findClass (FieldType.array ty).toString = some cy)
    (hK : va_K D cl tys s) (hP : va_P D cl (X ++ va_pl L f) H) (hD : va_D A (X ++ va_pl L f)) (hS : va_S A H0 H locs) (hA : ∀ q, H0.size ≤ q → A q) {n k : Int32} {N' K' : Nat} {z : vp_A} (hn : ¬ n < 0) (hk : ¬ k < 0) (hN : n.toNatClampNeg = N') (hM : k.toNatClampNeg = K')
    (hb1 : N' * 4 ≤ 536870912) (hb2 : K' * componentBytes ty ≤ 536870912) (hb3 : K' ≤ 536870912) (hdf : fits ty (defaultValue ty) = true) (hdd : (defaultValue ty).isDefault = true) (hcells : cells + (1 + N') ≤ R.cells) (hslots : slots + (N' + N' * K') ≤ R.slots) (hz : ∀ c : ClassId, Jvm.Free.Multi.innerC c K' (defaultValue ty) = vp_cell c z) (hdg : decode cc pc = .ok (.multianewarray index 2, 4))
    (kk : ∀ (q : Nat) (r : Nat → Nat) (cA : ClassId) (H1 : Heap), (∀ i j : Nat, i < N' → j < N' → r i = r j → i = j) → (∀ i : Nat, i < N' → r i ∉ L) → va_K D cl (tys ++ [(cA, .array ty)]) s →
      va_P D cl ((X ++ [(q, .inl (cA, N', .inr (.inr (.inr (.inr (fun i => if i < N' then some (r i) else none))))))]) ++ va_pl (L ++ (List.range N').map r) (vr_up f ((List.range N').map r) (.inl (cy, z)))) H1 → va_D A ((X ++ [(q, .inl (cA, N', .inr (.inr (.inr (.inr (fun i => if i < N' then some (r i) else none))))))]) ++ va_pl (L ++ (List.range N').map r) (vr_up f ((List.range N').map r) (.inl (cy, z)))) → va_S A H0 H1 locs →
      W p l e R s m args below meth c H1 locs (cells + 1 + N') (slots + N' + N' * K') Q (F0 m (pc + 4) ls (.ref q :: rest))) : W p l e R s m args below meth c H locs cells slots Q (F0 m pc ls (.int k :: .int n :: rest)) := by
  subst hN
  subst hM
  intro T hT Xs
  obtain ⟨vm₁, cA, comp, -, fA, fC, hO, -, X', step⟩ := Xs.multianewarray2F hexec hown hclink (va_AOA.use hover) harr (g := F0 m pc ls (.int k :: .int n :: rest)) rfl (by rw [hb]; exact hdg) rfl hn hk hb1 hb2 hb3 hdf hdd hcells hslots
  have ec : some cy = some comp := hcy.symm.trans fC
  cases ec
  generalize hF : Jvm.Free.Multi.fill (T.setVm vm₁) cA cy n.toNatClampNeg k.toNatClampNeg (defaultValue ty) n.toNatClampNeg = F at X' step
  have hTh : (T.setVm vm₁).heap = H := hT
  obtain ⟨f1, f2, -, -⟩ := Jvm.Free.Multi.fill_facts (T.setVm vm₁) cA cy n.toNatClampNeg k.toNatClampNeg (defaultValue ty) n.toNatClampNeg
  rw [hF, hTh] at f1 f2
  have hold : ∀ x : Nat, x < H.size → F.heap[x]? = H[x]? := fun x hx => by
    have := Jvm.Free.Multi.fill_old (T.setVm vm₁) cA cy n.toNatClampNeg k.toNatClampNeg (defaultValue ty) (a := x) (by rw [hTh]; exact hx) n.toNatClampNeg
    rw [hF, hTh] at this
    exact this
  have hrow : ∀ j : Nat, j < n.toNatClampNeg → F.heap[H.size + 1 + j]? = some (vp_cell cy z) := fun j hj => by
    have := Jvm.Free.Multi.fill_inner (T.setVm vm₁) cA cy n.toNatClampNeg k.toNatClampNeg (defaultValue ty) n.toNatClampNeg j hj
    rw [hF, hTh, hz] at this
    exact this
  have hout : Jvm.Free.Multi.outerC cA n.toNatClampNeg H.size n.toNatClampNeg = vp_cell cA (n.toNatClampNeg, .inr (.inr (.inr (.inr (fun i => if i < n.toNatClampNeg then some (H.size + 1 + i) else none))))) := by
    rw [vp_cell_q]
    exact vr_outer cA n.toNatClampNeg H.size n.toNatClampNeg
  rw [hout] at f2
  have hlt : ∀ a, a ∈ L → a < H.size := fun a ha => by
    obtain ⟨k9, hk9⟩ := va_pl_get (X := X) (f := f) ha
    exact (hP k9 _ hk9).lt
  have hnl : ∀ i : Nat, i < n.toNatClampNeg → H.size + 1 + i ∉ L := fun i _ h => by
    have := hlt _ h
    omega
  have hnm : ∀ a, a ∈ (List.range n.toNatClampNeg).map (fun i => H.size + 1 + i) → a ∉ L := fun a ha h => by
    obtain ⟨i, -, rfl⟩ := List.mem_map.mp ha
    have := hlt _ h
    omega
  have hP0 : va_P D cl (X ++ va_pl L f) F.heap := hP.kept (fun k9 x hx => hold x.1 ((hP k9 x hx).lt))
  have hP1 : va_P D cl ((X ++ va_pl L f) ++ [(H.size, .inl (cA, n.toNatClampNeg, .inr (.inr (.inr (.inr (fun i => if i < n.toNatClampNeg then some (H.size + 1 + i) else none))))))]) F.heap := hP0.app (fun k9 x hx => by
    have h0 : k9 < 1 := (List.getElem?_eq_some_iff.mp hx).1
    rw [show k9 = 0 by omega] at hx
    cases hx
    exact f2)
  have hP2 : va_P D cl (((X ++ va_pl L f) ++ [(H.size, .inl (cA, n.toNatClampNeg, .inr (.inr (.inr (.inr (fun i => if i < n.toNatClampNeg then some (H.size + 1 + i) else none))))))]) ++ ((List.range n.toNatClampNeg).map (fun i => H.size + 1 + i)).map (fun a => (a, .inl (cy, z)))) F.heap := hP1.app (fun k9 x hx => by
    obtain ⟨a, ha, rfl⟩ := List.mem_map.mp (List.mem_of_getElem? hx)
    obtain ⟨i, hi, rfl⟩ := List.mem_map.mp ha
    exact hrow i (List.mem_range.mp hi))
  have hD2 : va_D A (((X ++ va_pl L f) ++ [(H.size, .inl (cA, n.toNatClampNeg, .inr (.inr (.inr (.inr (fun i => if i < n.toNatClampNeg then some (H.size + 1 + i) else none))))))]) ++ ((List.range n.toNatClampNeg).map (fun i => H.size + 1 + i)).map (fun a => (a, .inl (cy, z)))) := by
    have hD1 := hD.push (e := .inl (cA, n.toNatClampNeg, .inr (.inr (.inr (.inr (fun i => if i < n.toNatClampNeg then some (H.size + 1 + i) else none)))))) hP rfl (hA _ hS.1)
    generalize hW1 : (X ++ va_pl L f) ++ [(H.size, .inl (cA, n.toNatClampNeg, .inr (.inr (.inr (.inr (fun i => if i < n.toNatClampNeg then some (H.size + 1 + i) else none))))))] = W1 at hD1 hP1 ⊢
    have hle : ∀ (k9 : Nat) (x : Nat × va_E), W1[k9]? = some x → x.1 ≤ H.size := fun k9 x hx => by
      rw [← hW1] at hx
      by_cases hl : k9 < (X ++ va_pl L f).length
      · rw [List.getElem?_append_left hl] at hx
        exact Nat.le_of_lt ((hP k9 x hx).lt)
      · rw [List.getElem?_append_right (by omega)] at hx
        have h0 : k9 - (X ++ va_pl L f).length < 1 := (List.getElem?_eq_some_iff.mp hx).1
        rw [show k9 - (X ++ va_pl L f).length = 0 by omega] at hx
        cases hx
        exact Nat.le_refl _
    have hr : ∀ (k9 : Nat) (x : Nat × va_E), (((List.range n.toNatClampNeg).map (fun i => H.size + 1 + i)).map (fun a => ((a, .inl (cy, z)) : Nat × va_E)))[k9]? = some x → x.1 = H.size + 1 + k9 := fun k9 x hx => by
      rw [List.getElem?_map, List.getElem?_map] at hx
      by_cases h9 : k9 < n.toNatClampNeg
      · rw [List.getElem?_range h9] at hx
        cases hx
        rfl
      · have hn0 : (List.range n.toNatClampNeg)[k9]? = none := List.getElem?_eq_none (by rw [List.length_range]; omega)
        rw [hn0] at hx
        cases hx
    refine ⟨fun i j x y hi hj hxy => ?_, fun k9 x hx => ?_⟩
    · by_cases h1 : i < W1.length <;> by_cases h2 : j < W1.length
      · rw [List.getElem?_append_left h1] at hi
        rw [List.getElem?_append_left h2] at hj
        exact hD1.1 i j x y hi hj hxy
      · rw [List.getElem?_append_left h1] at hi
        rw [List.getElem?_append_right (by omega)] at hj
        have := hle _ _ hi
        have := hr _ _ hj
        omega
      · rw [List.getElem?_append_right (by omega)] at hi
        rw [List.getElem?_append_left h2] at hj
        have := hle _ _ hj
        have := hr _ _ hi
        omega
      · rw [List.getElem?_append_right (by omega)] at hi hj
        have := hr _ _ hi
        have := hr _ _ hj
        omega
    · by_cases h1 : k9 < W1.length
      · rw [List.getElem?_append_left h1] at hx
        exact hD1.2 k9 x hx
      · rw [List.getElem?_append_right (by omega)] at hx
        have := hr _ _ hx
        exact hA _ (by have := hS.1; omega)
  have hAr : ArrOfT s cA (.array ty) := fun N9 z9 => by
    obtain ⟨-, k9, hk9, cm9, hkk9⟩ := (hO 0 0 0).1
    exact ⟨(fun q hq => by cases hq), k9, hk9, cm9, hkk9⟩
  have hK2 : va_K D cl (tys ++ [(cA, .array ty)]) s := ⟨hK.1, fun k9 x hx => by
    by_cases hl : k9 < tys.length
    · rw [List.getElem?_append_left hl] at hx
      exact hK.2 k9 x hx
    · rw [List.getElem?_append_right (by omega)] at hx
      have h0 : k9 - tys.length < 1 := (List.getElem?_eq_some_iff.mp hx).1
      rw [show k9 - tys.length = 0 by omega] at hx
      cases hx
      exact ⟨hAr, fA⟩⟩
  obtain ⟨t, a1, b1⟩ := kk H.size (fun i => H.size + 1 + i) cA F.heap (fun i j _ _ h => by have h9 : H.size + 1 + i = H.size + 1 + j := h; omega) hnl hK2 (by rw [← vr_rows hnm]; exact vr_lay hP2) (by rw [← vr_rows hnm]; exact vr_layD hD2) ⟨by rw [f1]; have := hS.1; omega, fun x h1 h2 => (hold x (Nat.lt_of_lt_of_le h1 hS.1)).trans (hS.2.1 x h1 h2), hS.2.2⟩ F rfl X'
  refine ⟨t, step t ?_, b1⟩
  have e : T.heap.size = H.size := by rw [hT]
  rw [e]
  exact a1
end VGM
/-! ===== END ===== -/

/-! ===== BEGIN exceptions that leave a method, and their catching by the caller (launches without stack traces) ===== -/
section VXA
/-! The laws vx_back, vx_callV, vx_callS, vx_callSW, vx_throw0, vx_throwS follow proofs of the library, with one case more: JvmDerived/Free/Laws.lean (Back.of_free), Shelf42/LK1.lean (callV, callS), Shelf/KitTraced.lean (throwNew0V, throwNewS). -/
/-- where a method has thrown q: the class by its name, the cell, what was written, the world -/
def vx_T (XC : String → State → State → Prop) (st : State) (q : Addr) (t : State) (mc ms : Nat) (free : Addr → Prop) : Prop :=
  ∃ (E : String) (ce : Cell) (L : List Loc), XC E st t ∧ t.heap[q]? = some ce ∧ ce.vm = .none ∧ st.vm.findClass E = some ce.cls ∧ st.WarmedH t.vm ∧ st.sameButNew ({ t with vm := st.vm } : State) L mc ms ∧ ∀ z ∈ L, free z.base
def vx_Q (Qc : Array Value → State → Outcome → State → Prop) (XC : String → State → State → Prop) (mc ms : Nat) (free : Addr → Prop) : Array Value → State → Outcome → State → Prop := fun a st o t =>
  (Qc a st o t ∧ ∃ L, FrameEnd st o t L mc ms ∧ ∀ q ∈ L, free q.base) ∨ ∃ q, o = .threw q ∧ vx_T XC st q t mc ms free
/-- a callee that returns or throws -/
def vx_Met (l : Launch) (y : MethodName) (ws : List Cond) (rm : Room) (Pc : Array Value → State → Prop) (Qc : Array Value → State → Outcome → State → Prop) (XC : String → State → State → Prop) (mc ms : Nat) (free : Addr → Prop) : Prop :=
  MetFree l y (headSpec ws rm) Pc (fun _ _ _ _ _ => True) (vx_Q Qc XC mc ms free)
def vx_Post (XC : String → State → State → Prop) (mc ms : Nat) (free : Addr → Prop) : Pt → Array Value → Addr → Pt → Prop := fun A a q B =>
  ∃ (g : JFrame) (mk : MethodId) (t : State) (L : List Loc) (E : String) (ce : Cell), B.U.heap = t.heap ∧ B.U.vm = t.vm ∧ XC E (A.U.calling g mk a) t ∧ t.heap[q]? = some ce ∧ ce.vm = .none ∧ A.U.vm.findClass E = some ce.cls ∧ B.locs = A.locs ++ L ∧ (∀ z ∈ L, free z.base) ∧ B.cells = A.cells + mc ∧ B.slots = A.slots + ms
def vx_Back (l : Launch) (R : Room) (p : Program) (e : Env) (below : List Frame) (s : State) (sargs : Array Value) (y : MethodName) (len W9 : Nat)
    (Pre : Pt → Array Value → Prop) (Post : Pt → Array Value → Option Value → Pt → Prop) (PostX : Pt → Array Value → Addr → Pt → Prop) : Prop :=
  ∀ (m : MethodId) (meth : Method) (c : Code) (A : Pt) (g : JFrame) (ig : Instr) (mk : MethodId) (a : Array Value),
    Stand p l e R s m sargs below meth c A.U A.locs A.cells A.slots → g.method = m → g.locals.size = c.maxLocals → decode c.code g.pc = .ok (ig, len) →
    2 * g.monitorRoom + (g.stack.map fun v => v.category).sum ≤ W9 → A.U.methodNamed? y = some mk → Pre A a →
    (∃ (v : Option Value) (B : Pt), Stand p l e R s m sargs below meth c B.U B.locs B.cells B.slots ∧ Post A a v B ∧
      Steps p.tables e below (doInvoke e (A.U.setTop g) [] mk a).1 (B.U.setTop { g with pc := g.pc + len, stack := v.toList ++ g.stack })) ∨
    (∃ (q : Addr) (B : Pt), Stand p l e R s m sargs below meth c B.U B.locs B.cells B.slots ∧ PostX A a q B ∧
      Steps p.tables e below (doInvoke e (A.U.setTop g) [] mk a).1 ((B.U.setTop g).pushFrame (.throwing q)))
section Payer
variable {l : Launch} {R : Room} {p : Program} {e : Env} {below : List Frame} {s : State} {sargs : Array Value} {y : MethodName} {len W9 : Nat}
theorem vx_back {ws : List Cond} {rm : Room} {Pc : Array Value → State → Prop} {Qc : Array Value → State → Outcome → State → Prop} {XC : String → State → State → Prop} {mc ms : Nat} {free : Addr → Prop} {bytes : ByteArray} {maxL : Nat} {ret : Option FieldType}
    (hM : vx_Met l y ws rm Pc Qc XC mc ms free) (hblind : FrameBlind Pc) (hrc : rm.cells = mc) (hrs : rm.slots = ms)
    (hframes : rm.frames + 1 ≤ R.frames) (hlocals : W9 + (maxL + 11) + rm.locals ≤ R.locals)
    (hws : ∀ w ∈ ws, ∀ a' U, s.WarmedH U.vm → w.before a' U = true) (hcode : Cond.code y bytes maxL ret ∈ ws) (hinit : ∀ a' U, s.WarmedH U.vm → (Cond.initialized y.cls).before a' U = true) :
    vx_Back l R p e below s sargs y len W9 (PreOf R mc ms Pc) (PostOf Qc mc ms free) (vx_Post XC mc ms free) := by
  intro m meth c A g ig mk a X hg hsize hdg hW hn hp
  have h1 : (headSpec ws rm).pre.before a A.U = true := atoms_intro fun w hw => hws w hw _ _ X.warmed
  have h2 : (Cond.code y bytes maxL ret).before a A.U = true := hws _ hcode _ _ X.warmed
  have h3 : (Cond.initialized y.cls).before a A.U = true := hinit _ _ X.warmed
  have h4 : A.cells + (headSpec ws rm).room.cells ≤ R.cells := by rw [show (headSpec ws rm).room.cells = mc from hrc]; exact hp.1
  have h5 : A.slots + (headSpec ws rm).room.slots ≤ R.slots := by rw [show (headSpec ws rm).room.slots = ms from hrs]; exact hp.2.1
  have hPc : Pc a (A.U.calling g mk a) := hblind _ _ _ _ hp.2.2
  obtain ⟨U, Ls, c0, s0⟩ := A
  dsimp only [Pt.U, Pt.locs, Pt.cells, Pt.slots] at h1 h2 h3 h4 h5 X hn hPc ⊢
  obtain ⟨methY, cY, hmY, hcY, -, hlY, -, -, -, -⟩ := Cond.code_spec hn h2
  obtain ⟨kY, hkY, -⟩ := className_of_methodNamed hn
  have hinitY : kY.init = .initialized := Cond.initialized_spec (findClass_of_methodNamed hn) hkY h3
  have h : At U g.method c below := by rw [hg]; exact X.here
  have hlocals9 : W9 + (maxL + 11) + (headSpec ws rm).room.locals ≤ R.locals := hlocals
  have happ : (headSpec ws rm).appliesLoose y e.platform (U.calling g mk a) = true :=
    Spec.appliesLoose_calling (g := g) h hdg hn hkY hinitY
      (X.room_calling (g := g) (R' := (headSpec ws rm).room) hsize hmY hcY hframes (by rw [hlY]; omega) h4 h5) h1
  obtain ⟨mid, hmid⟩ := h.above
  have hfr : (U.setTop g).frames = (.java g :: mid) ++ below := by rw [State.frames_setTop' g h.top, hmid]; rfl
  obtain ⟨o, s₂, hsteps, -, hend, hq⟩ := Steps.callFree hM p X.admits X.cas X.clock (acts := []) hfr happ hPc trivial
  have hq' : vx_Q Qc XC mc ms free a (U.calling g mk a) o s₂ := hq
  rw [State.frames_setTop' g h.top] at hend
  obtain ⟨g₀, hg0⟩ := Option.isSome_iff_exists.mp h.top
  obtain ⟨r, hr⟩ := State.topJava?_eq_some.mp hg0
  have hr' : (({ U with heap := s₂.heap, slotsUsed := s₂.slotsUsed } : State).setVm s₂.vm).frames = .java g₀ :: r := hr
  rcases hq' with ⟨hqc, L, hfe, hL⟩ | ⟨q, rfl, E, ce, L, hx, hce, hcv, hcl, hW₂, hsm, hL⟩
  · obtain ⟨⟨v, rfl⟩, hW₂, e2, q2, q3, q4, q5, q6⟩ := id hfe
    have e3 : s₂ = ({ (U.calling g mk a).setFrames s₂.frames with heap := s₂.heap, slotsUsed := s₂.slotsUsed } : State).setVm s₂.vm := by
      have : s₂ = ({ s₂ with vm := (U.calling g mk a).vm } : State).setVm s₂.vm := rfl
      rw [e2] at this
      exact this
    obtain ⟨c₂, i₂, len₂, hc₂, hd₂, hf₂⟩ := hend
    have hW' : U.WarmedH s₂.vm := hW₂
    have hcc : c₂ = c := by
      have h1 : s₂.code? g.method = U.code? g.method := by
        rw [State.code?_eq, State.code?_eq, hW'.alike.method?]
      exact Option.some.inj (hc₂.symm.trans (h1.trans h.code))
    subst hcc
    have hlen : len₂ = len := by rw [hdg] at hd₂; cases hd₂; rfl
    subst hlen
    have hs₂ : s₂ = (({ U with heap := s₂.heap, slotsUsed := s₂.slotsUsed } : State).setVm s₂.vm).setTop { g with pc := g.pc + len₂, stack := v.toList ++ g.stack } := by
      refine e3.trans ?_
      rw [hf₂, State.calling_eq h.top, State.setFrames_setFrames, State.setTop_of_frames _ hr', hr]
      rfl
    have hsame : U.sameButNew ({ U with heap := s₂.heap, slotsUsed := s₂.slotsUsed } : State) L mc ms := by
      refine ⟨?_, q2, q3, q4, q5, q6⟩
      obtain ⟨t, ht, -⟩ := State.frames_cons hr
      show ({ U with heap := s₂.heap, slotsUsed := s₂.slotsUsed } : State) = { U.setFrames U.frames with heap := s₂.heap, slotsUsed := s₂.slotsUsed }
      rw [State.setFrames_self ht]
    subst hg
    refine Or.inl ⟨v, ⟨(({ U with heap := s₂.heap, slotsUsed := s₂.slotsUsed } : State).setVm s₂.vm), Ls ++ L, c0 + mc, s0 + ms⟩,
      ⟨X.admits, X.cas, X.clock, X.frames, X.room, X.hears, X.method, X.code, (X.here.setHeapUsed s₂.heap s₂.slotsUsed).setVm hW'.alike, X.tail, State.WarmedH.trans X.warmed hW', X.limits, X.bytes, X.same.trans (hsame.setVm s.vm)⟩,
      ⟨g, mk, s₂, L, rfl, rfl, hqc, rfl, hL, rfl, rfl⟩, ?_⟩
    show Steps p.tables e below _ ((({ U with heap := s₂.heap, slotsUsed := s₂.slotsUsed } : State).setVm s₂.vm).setTop { g with pc := g.pc + len₂, stack := v.toList ++ g.stack })
    rw [← hs₂]
    exact hsteps
  · obtain ⟨e2, q2, q3, q4, q5, q6⟩ := id hsm
    have e3 : s₂ = ({ (U.calling g mk a).setFrames s₂.frames with heap := s₂.heap, slotsUsed := s₂.slotsUsed } : State).setVm s₂.vm := by
      have : s₂ = ({ s₂ with vm := (U.calling g mk a).vm } : State).setVm s₂.vm := rfl
      rw [e2] at this
      exact this
    have hf₂ : s₂.frames = .throwing q :: .java g :: U.frames.tail := hend
    have hW' : U.WarmedH s₂.vm := hW₂
    have hs₂ : s₂ = ((({ U with heap := s₂.heap, slotsUsed := s₂.slotsUsed } : State).setVm s₂.vm).setTop g).pushFrame (.throwing q) := by
      refine e3.trans ?_
      rw [hf₂, State.calling_eq h.top, State.setFrames_setFrames, State.pushFrame, State.frames_setTop _ hr', State.setTop_of_frames _ hr', State.setFrames_setFrames, hr]
      rfl
    have hsame : U.sameButNew ({ U with heap := s₂.heap, slotsUsed := s₂.slotsUsed } : State) L mc ms := by
      refine ⟨?_, q2, q3, q4, q5, q6⟩
      obtain ⟨t, ht, -⟩ := State.frames_cons hr
      show ({ U with heap := s₂.heap, slotsUsed := s₂.slotsUsed } : State) = { U.setFrames U.frames with heap := s₂.heap, slotsUsed := s₂.slotsUsed }
      rw [State.setFrames_self ht]
    subst hg
    refine Or.inr ⟨q, ⟨(({ U with heap := s₂.heap, slotsUsed := s₂.slotsUsed } : State).setVm s₂.vm), Ls ++ L, c0 + mc, s0 + ms⟩,
      ⟨X.admits, X.cas, X.clock, X.frames, X.room, X.hears, X.method, X.code, (X.here.setHeapUsed s₂.heap s₂.slotsUsed).setVm hW'.alike, X.tail, State.WarmedH.trans X.warmed hW', X.limits, X.bytes, X.same.trans (hsame.setVm s.vm)⟩,
      ⟨g, mk, s₂, L, E, ce, rfl, rfl, hx, hce, hcv, hcl, rfl, hL, rfl, rfl⟩, ?_⟩
    show Steps p.tables e below _ (((({ U with heap := s₂.heap, slotsUsed := s₂.slotsUsed } : State).setVm s₂.vm).setTop g).pushFrame (.throwing q))
    rw [← hs₂]
    exact hsteps
end Payer
section Calls
variable {p : Program} {l : Launch} {e : Env} {R : Room} {s : State} {m : MethodId} {args : Array Value} {below : List Frame} {meth : Method} {c : Code} {T : State} {locs : List Loc} {cells slots : Nat}
theorem vx_callV (X : Stand p l e R s m args below meth c T locs cells slots) (hexec : p.tables.exec = Jvm.exec) {own C : String} {index : Nat} {y : MethodName} {bytes : ByteArray} {maxL : Nat} {ret : Option FieldType}
    (hown : s.vm.findClass own = some m.cls) (hlink : (Cond.methodLink own index y).before args s = true) (hinst : (Cond.instanceMethod y).before args s = true) (hsel : (Cond.selects C y y).before args s = true)
    (hcode : (Cond.code y bytes maxL ret).before args s = true) (hy : y.cls ≠ "java/lang/invoke/MethodHandle" ∧ y.cls ≠ "java/lang/invoke/VarHandle")
    {W9 : Nat} {Pre : Pt → Array Value → Prop} {Post : Pt → Array Value → Option Value → Pt → Prop} {PostX : Pt → Array Value → Addr → Pt → Prop} (hK : vx_Back l R p e below s args y 3 W9 Pre Post PostX)
    {b : Addr} {cellB : Cell} (hcell : T.heap[b]? = some cellB) (hobj : cellB.vm.isStatics = false) (hcls : s.vm.findClass C = some cellB.cls)
    {g : JFrame} (hg : g.method = m) (hsize : g.locals.size = c.maxLocals) {argsL rest : List Value} (hlen : ∀ sig, parseMethodDescriptor y.desc = some sig → argsL.length = sig.parameters.length)
    (hstack : g.stack = argsL.reverse ++ .ref b :: rest) (hW : 2 * g.monitorRoom + (rest.map fun v => v.category).sum ≤ W9) (hdg : decode c.code g.pc = .ok (.invokevirtual index, 3))
    (hpre : ∀ vm₁, s.WarmedH vm₁ → Pre ⟨T.setVm vm₁, locs, cells, slots⟩ (Value.ref b :: argsL).toArray) :
    (∃ (v : Option Value) (vm₁ : Vm) (B : Pt), s.WarmedH vm₁ ∧ Stand p l e R s m args below meth c B.U B.locs B.cells B.slots ∧ Post ⟨T.setVm vm₁, locs, cells, slots⟩ (Value.ref b :: argsL).toArray v B ∧
      ∀ target, Steps p.tables e below (B.U.setTop { g with pc := g.pc + 3, stack := v.toList ++ rest }) target → Steps p.tables e below (T.setTop g) target) ∨
    (∃ (q : Addr) (vm₁ : Vm) (B : Pt), s.WarmedH vm₁ ∧ Stand p l e R s m args below meth c B.U B.locs B.cells B.slots ∧ PostX ⟨T.setVm vm₁, locs, cells, slots⟩ (Value.ref b :: argsL).toArray q B ∧
      Steps p.tables e below (T.setTop g) ((B.U.setTop { g with stack := rest }).pushFrame (.throwing q))) := by
  obtain ⟨mk, methM, hnamed, hmethM, hstM, habM⟩ := Cond.instanceMethod_spec hinst
  obtain ⟨methM', cM, hmethM', -, -, -, -, -, -, hsigM⟩ := Cond.code_spec hnamed hcode
  cases hmethM.symm.trans hmethM'
  obtain ⟨c2, r2, m2, q1, q2, q3, q4, kP, hkP, hkPi⟩ := Cond.selects_spec hsel
  cases hcls.symm.trans q1
  cases (State.methodFound?_of_named hnamed hy).symm.trans q2
  cases hnamed.symm.trans q3
  have hselP : selectMethod e.platform s.vm cellB.cls mk = .method mk := by rw [Launch.admits_selectMethod X.admits]; exact q4
  obtain ⟨vm₁, X₁, hstep₁⟩ := X.invokevirtual hexec hown hlink hnamed hmethM hstM hkP hkPi hy (a := b) (cell := cellB) hcell
    (fun z h => by rw [h] at hobj; cases hobj) hselP hmethM habM hkP hkPi (g := g) hg (argsL := argsL) (rest := rest) (hlen _ hsigM) hstack hdg
  rcases hK m meth c ⟨T.setVm vm₁, locs, cells, slots⟩ { g with stack := rest } (.invokevirtual index) mk (Value.ref b :: argsL).toArray X₁ hg hsize hdg hW (X₁.named hnamed) (hpre vm₁ X₁.warmed) with ⟨v, B, X', hpost, hsteps⟩ | ⟨q, B, X', hpost, hsteps⟩
  · exact Or.inl ⟨v, vm₁, B, X₁.warmed, X', hpost, fun target h => hstep₁ _ fun acts => by rw [doInvoke_state]; exact hsteps.trans h⟩
  · exact Or.inr ⟨q, vm₁, B, X₁.warmed, X', hpost, hstep₁ _ fun acts => by rw [doInvoke_state]; exact hsteps⟩
theorem vx_callS (X : Stand p l e R s m args below meth c T locs cells slots) (hexec : p.tables.exec = Jvm.exec) {own : String} {index : Nat} {y : MethodName} {bytes : ByteArray} {maxL : Nat} {ret : Option FieldType}
    (hown : s.vm.findClass own = some m.cls) (hlink : (Cond.methodLink own index y).before args s = true) (hstat : (Cond.static y).before args s = true) (hinit : (Cond.initialized y.cls).before args s = true)
    (hcode : (Cond.code y bytes maxL ret).before args s = true) (hy : y.cls ≠ "java/lang/invoke/MethodHandle" ∧ y.cls ≠ "java/lang/invoke/VarHandle")
    {W9 : Nat} {Pre : Pt → Array Value → Prop} {Post : Pt → Array Value → Option Value → Pt → Prop} {PostX : Pt → Array Value → Addr → Pt → Prop} (hK : vx_Back l R p e below s args y 3 W9 Pre Post PostX)
    {g : JFrame} (hg : g.method = m) (hsize : g.locals.size = c.maxLocals) {argsL rest : List Value} (hlen : ∀ sig, parseMethodDescriptor y.desc = some sig → argsL.length = sig.parameters.length)
    (hstack : g.stack = argsL.reverse ++ rest) (hW : 2 * g.monitorRoom + (rest.map fun v => v.category).sum ≤ W9) (hdg : decode c.code g.pc = .ok (.invokestatic index, 3))
    (hpre : ∀ vm₁, s.WarmedH vm₁ → Pre ⟨T.setVm vm₁, locs, cells, slots⟩ argsL.toArray) :
    (∃ (v : Option Value) (vm₁ : Vm) (B : Pt), s.WarmedH vm₁ ∧ Stand p l e R s m args below meth c B.U B.locs B.cells B.slots ∧ Post ⟨T.setVm vm₁, locs, cells, slots⟩ argsL.toArray v B ∧
      ∀ target, Steps p.tables e below (B.U.setTop { g with pc := g.pc + 3, stack := v.toList ++ rest }) target → Steps p.tables e below (T.setTop g) target) ∨
    (∃ (q : Addr) (vm₁ : Vm) (B : Pt), s.WarmedH vm₁ ∧ Stand p l e R s m args below meth c B.U B.locs B.cells B.slots ∧ PostX ⟨T.setVm vm₁, locs, cells, slots⟩ argsL.toArray q B ∧
      Steps p.tables e below (T.setTop g) ((B.U.setTop { g with stack := rest }).pushFrame (.throwing q))) := by
  obtain ⟨mk, hnamed⟩ := Cond.code_named hcode
  obtain ⟨methM, cM, hmethM, -, -, -, -, -, -, hsigM⟩ := Cond.code_spec hnamed hcode
  have hstatic : methM.isStatic = true := Cond.static_spec hnamed hmethM hstat
  obtain ⟨kP, hkP, -⟩ := className_of_methodNamed hnamed
  have hinitP : kP.init = .initialized := Cond.initialized_spec (findClass_of_methodNamed hnamed) hkP hinit
  obtain ⟨vm₁, X₁, hstep₁⟩ := X.invokestatic hexec hown hlink hnamed hmethM hstatic hkP hinitP hy (g := g) hg (argsL := argsL) (rest := rest) (hlen _ hsigM) hstack hdg
  rcases hK m meth c ⟨T.setVm vm₁, locs, cells, slots⟩ { g with stack := rest } (.invokestatic index) mk argsL.toArray X₁ hg hsize hdg hW (X₁.named hnamed) (hpre vm₁ X₁.warmed) with ⟨v, B, X', hpost, hsteps⟩ | ⟨q, B, X', hpost, hsteps⟩
  · exact Or.inl ⟨v, vm₁, B, X₁.warmed, X', hpost, fun target h => hstep₁ _ fun acts => by rw [doInvoke_state]; exact hsteps.trans h⟩
  · exact Or.inr ⟨q, vm₁, B, X₁.warmed, X', hpost, hstep₁ _ fun acts => by rw [doInvoke_state]; exact hsteps⟩
end Calls
theorem vx_cls {s : State} {T : State} {vm₁ : Vm} {E : String} {k : ClassId} (hW : s.WarmedH vm₁) (h : (T.setVm vm₁).vm.findClass E = some k) : s.vm.findClass E = some k := by
  have h1 : vm₁.findClass E = some k := h
  rw [hW.alike.findClass] at h1
  exact h1
/-- the method's frame g, with q thrown over it -/
def vx_W (p : Program) (l : Launch) (e : Env) (R : Room) (s : State) (m : MethodId) (args : Array Value) (below : List Frame) (meth : Method) (c : Code) (H : Heap) (locs : List Loc) (cells slots : Nat) (Q : State → Prop) (g : JFrame) (q : Addr) : Prop :=
  ∀ T : State, T.heap = H → Stand p l e R s m args below meth c T locs cells slots → ∃ t, Steps p.tables e below ((T.setTop g).pushFrame (.throwing q)) t ∧ Q t
def vx_Run (p : Program) (l : Launch) (e : Env) (R : Room) (s : State) (m : MethodId) (args : Array Value) (below : List Frame) (meth : Method) (c : Code) (H : Heap) (locs : List Loc) (cells slots mc ms : Nat) (g : JFrame) (rest : List Value) (Qa : State → Outcome → State → Prop) (XC : String → State → State → Prop) (free : Addr → Prop) : Prop :=
  ∀ T : State, T.heap = H → Stand p l e R s m args below meth c T locs cells slots →
    (∃ (v : Option Value) (st₀ t T' : State) (L : List Loc), st₀.heap = H ∧ Stand p l e R s m args below meth c T' (locs ++ L) (cells + mc) (slots + ms) ∧ (∀ q ∈ L, free q.base) ∧ T'.heap = t.heap ∧ T'.vm = t.vm ∧ Qa st₀ (.returned v) t ∧
      Goes p e below T g T' { g with pc := g.pc + 3, stack := v.toList ++ rest }) ∨
    (∃ (q : Addr) (st₀ t T' : State) (L : List Loc) (E : String) (ce : Cell), st₀.heap = H ∧ Stand p l e R s m args below meth c T' (locs ++ L) (cells + mc) (slots + ms) ∧ (∀ z ∈ L, free z.base) ∧ T'.heap = t.heap ∧ T'.vm = t.vm ∧ XC E st₀ t ∧ t.heap[q]? = some ce ∧ ce.vm = .none ∧ s.vm.findClass E = some ce.cls ∧
      Steps p.tables e below (T.setTop g) ((T'.setTop { g with stack := rest }).pushFrame (.throwing q)))
def vx_X {S : Type} (px : S → Prop) (B : String → S → State → Prop) (A : Nat → Prop) : String → State → State → Prop := fun E st t => ∃ u : S, px u ∧ B E u t ∧ va_F A st t
section Runs
variable {p : Program} {l : Launch} {e : Env} {R : Room} {s : State} {m : MethodId} {args : Array Value} {below : List Frame} {meth : Method} {c : Code} {H : Heap} {locs : List Loc} {cells slots : Nat}
variable {y : MethodName} {bytes cc : ByteArray} {maxL nL mc ms n index : Nat} {ret : Option FieldType} {ws : List Cond} {rm : Room} {Pc : Array Value → State → Prop} {Qc : Array Value → State → Outcome → State → Prop} {XC : String → State → State → Prop} {free : Addr → Prop} {Ts : List Cond} {own C : String} {b : Addr} {As rest : List Value} {g : JFrame}
theorem vx_callBack (cb : CallB R s args own index y bytes maxL ret ws rm mc ms n) (hM : vx_Met l y ws rm Pc Qc XC mc ms free) (hbl : FrameBlind Pc) : vx_Back l R p e below s args y 3 8 (PreOf R mc ms Pc) (PostOf Qc mc ms free) (vx_Post XC mc ms free) := by
  obtain ⟨hrc, hrs, hfr, hlo, hws, hcw, -, hini, -⟩ := cb
  exact vx_back (bytes := bytes) (maxL := maxL) (ret := ret) hM hbl hrc hrs hfr hlo hws hcw (fun a' U hW => word_at hW (Or.inl (by first | rfl | simp [Cond.onTables, Cond.keeps, Cond.steady])) hini)
theorem vx_runV (S : CallFix p m c cc nL s args Ts own) (hM : vx_Met l y ws rm Pc Qc XC mc ms free) (cw : CallW R s args own C index y bytes maxL ret ws rm mc ms n) (hp : PreV s H C b Pc As)
    (hg : g.method = m) (hn : As.length = n) (hsize : g.locals.size = nL) (hstack : g.stack = As.reverse ++ .ref b :: rest) (hW : 2 * g.monitorRoom + (rest.map fun v => v.category).sum ≤ 8) (hdg : decode cc g.pc = .ok (.invokevirtual index, 3)) (hf : cells + mc ≤ R.cells ∧ slots + ms ≤ R.slots) :
    vx_Run p l e R s m args below meth c H locs cells slots mc ms g rest (Qc (Value.ref b :: As).toArray) XC free := by
  have hK : vx_Back l R p e below s args y 3 8 (PreOf R mc ms Pc) (PostOf Qc mc ms free) (vx_Post XC mc ms free) := vx_callBack cw.1 hM hp.1
  obtain ⟨⟨-, -, -, -, -, -, hcode, -, hy, hlen, hl⟩, hin, hse⟩ := cw
  obtain ⟨hx, hb, hml, ho, -⟩ := S
  obtain ⟨-, ⟨cellB, hcB, hoB, hclB⟩, hPc⟩ := hp
  intro T hT X
  rcases vx_callV X hx (C := C) (bytes := bytes) (maxL := maxL) (ret := ret) ho hl hin hse hcode hy hK (by rw [hT]; exact hcB) hoB hclB hg (hsize.trans hml.symm) (argsL := As) (rest := rest) (fun sig h => hn.trans (hlen sig h)) hstack hW (by rw [hb]; exact hdg)
    (fun vm₁ hW₁ => ⟨hf.1, hf.2, hPc (T.setVm vm₁) hT hW₁⟩) with ⟨v, vm₁, ⟨U', l2, c2, s2⟩, hW₁, X', ⟨g', mk, t, L, e1, e2, hq, h1, hL, h2, h3⟩, st⟩ | ⟨q, vm₁, ⟨U', l2, c2, s2⟩, hW₁, X', ⟨g', mk, t, L, E, ce, e1, e2, hq, hce, hcv, hcl, h1, hL, h2, h3⟩, st⟩
  · dsimp only [Pt.U, Pt.locs, Pt.cells, Pt.slots] at X' e1 e2 h1 h2 h3 st
    subst h1; subst h2; subst h3
    exact Or.inl ⟨v, (T.setVm vm₁).calling g' mk (Value.ref b :: As).toArray, t, U', L, hT, X', hL, e1, e2, hq, st⟩
  · dsimp only [Pt.U, Pt.locs, Pt.cells, Pt.slots] at X' e1 e2 h1 h2 h3 st hcl
    subst h1; subst h2; subst h3
    exact Or.inr ⟨q, (T.setVm vm₁).calling g' mk (Value.ref b :: As).toArray, t, U', L, E, ce, hT, X', hL, e1, e2, hq, hce, hcv, vx_cls hW₁ hcl, st⟩
theorem vx_runS (S : CallFix p m c cc nL s args Ts own) (hM : vx_Met l y ws rm Pc Qc XC mc ms free) (cw : CallB R s args own index y bytes maxL ret ws rm mc ms n ∧ (Cond.static y).before args s = true) (hp : PreS s H Pc As)
    (hg : g.method = m) (hn : As.length = n) (hsize : g.locals.size = nL) (hstack : g.stack = As.reverse ++ rest) (hW : 2 * g.monitorRoom + (rest.map fun v => v.category).sum ≤ 8) (hdg : decode cc g.pc = .ok (.invokestatic index, 3)) (hf : cells + mc ≤ R.cells ∧ slots + ms ≤ R.slots) :
    vx_Run p l e R s m args below meth c H locs cells slots mc ms g rest (Qc As.toArray) XC free := by
  have hK : vx_Back l R p e below s args y 3 8 (PreOf R mc ms Pc) (PostOf Qc mc ms free) (vx_Post XC mc ms free) := vx_callBack cw.1 hM hp.1
  obtain ⟨⟨-, -, -, -, -, -, hcode, hini, hy, hlen, hl⟩, hstt⟩ := cw
  obtain ⟨hx, hb, hml, ho, -⟩ := S
  intro T hT X
  rcases vx_callS X hx (bytes := bytes) (maxL := maxL) (ret := ret) ho hl hstt hini hcode hy hK hg (hsize.trans hml.symm) (argsL := As) (rest := rest) (fun sig h => hn.trans (hlen sig h)) hstack hW (by rw [hb]; exact hdg)
    (fun vm₁ hW₁ => ⟨hf.1, hf.2, hp.2 (T.setVm vm₁) hT hW₁⟩) with ⟨v, vm₁, ⟨U', l2, c2, s2⟩, hW₁, X', ⟨g', mk, t, L, e1, e2, hq, h1, hL, h2, h3⟩, st⟩ | ⟨q, vm₁, ⟨U', l2, c2, s2⟩, hW₁, X', ⟨g', mk, t, L, E, ce, e1, e2, hq, hce, hcv, hcl, h1, hL, h2, h3⟩, st⟩
  · dsimp only [Pt.U, Pt.locs, Pt.cells, Pt.slots] at X' e1 e2 h1 h2 h3 st
    subst h1; subst h2; subst h3
    exact Or.inl ⟨v, (T.setVm vm₁).calling g' mk As.toArray, t, U', L, hT, X', hL, e1, e2, hq, st⟩
  · dsimp only [Pt.U, Pt.locs, Pt.cells, Pt.slots] at X' e1 e2 h1 h2 h3 st hcl
    subst h1; subst h2; subst h3
    exact Or.inr ⟨q, (T.setVm vm₁).calling g' mk As.toArray, t, U', L, E, ce, hT, X', hL, e1, e2, hq, hce, hcv, vx_cls hW₁ hcl, st⟩
end Runs
section Rows
variable {p : Program} {l : Launch} {e : Env} {R : Room} {s : State} {m : MethodId} {args : Array Value} {below : List Frame} {meth : Method} {c : Code} {H : Heap} {locs : List Loc} {cells slots : Nat} {Q : State → Prop}
variable {mc ms : Nat} {free : Addr → Prop} {A0 A1 : Nat → Prop} {H0 : Heap} {a : Array Value} {pc : Nat} {ls : Array Slot} {st0 rest : List Value}
theorem vx_keep {st₀ t T' : State} {L : List Loc} (h0 : st₀.heap = H) (e1 : T'.heap = t.heap) (hS : va_S A0 H0 H locs) (hA : ∀ q, q < H.size → A1 q → A0 q) (hf : ∀ q, free q → A0 q) (hL : ∀ q ∈ L, free q.base) (hF : va_F A1 st₀ t) :
    H.size ≤ T'.heap.size ∧ (∀ q : Nat, q < H.size → ¬ A1 q → T'.heap[q]? = H[q]?) ∧ va_S A0 H0 T'.heap (locs ++ L) := by
  obtain ⟨hz, hk⟩ := hF
  rw [h0] at hz hk
  exact ⟨by rw [e1]; exact hz, fun q h1 h2 => by rw [e1]; exact hk q h1 h2,
    ⟨Nat.le_trans hS.1 (by rw [e1]; exact hz), fun q h1 h2 => by rw [e1, hk q (Nat.lt_of_lt_of_le h1 hS.1) (fun z => h2 (hA q (Nat.lt_of_lt_of_le h1 hS.1) z))]; exact hS.2.1 q h1 h2, fun q hq => by
      rcases List.mem_append.mp hq with h | h
      · exact hS.2.2 q h
      · exact hf _ (hL q h)⟩⟩
theorem vx_calli {S SX : Type} {post : Int32 → S → Prop} {px : SX → Prop} {B : S → State → Prop} {BX : String → SX → State → Prop} {AX : Nat → Prop} (hr : vx_Run p l e R s m args below meth c H locs cells slots mc ms (F0 m pc ls st0) rest (va_Qi post B A1 a) (vx_X px BX AX) free) (hS : va_S A0 H0 H locs) (hA : ∀ q, q < H.size → A1 q → A0 q) (hf : ∀ q, free q → A0 q) (hAX : ∀ q, q < H.size → AX q → A0 q)
    (kx : ∀ (E : String) (ce : Cell) (q9 : Addr) (u : SX) (t : State) (H1 : Heap) (locs1 : List Loc), t.heap = H1 → s.vm.Alike t.vm → px u → BX E u t → H.size ≤ H1.size → (∀ q : Nat, q < H.size → ¬ AX q → H1[q]? = H[q]?) → va_S A0 H0 H1 locs1 → H1[q9]? = some ce → ce.vm = .none → s.vm.findClass E = some ce.cls → vx_W p l e R s m args below meth c H1 locs1 (cells + mc) (slots + ms) Q (F0 m pc ls rest) q9)
    (kk : ∀ (r : Int32) (u : S) (t : State) (H1 : Heap) (locs1 : List Loc), t.heap = H1 → s.vm.Alike t.vm → post r u → B u t → H.size ≤ H1.size → (∀ q : Nat, q < H.size → ¬ A1 q → H1[q]? = H[q]?) → va_S A0 H0 H1 locs1 → W p l e R s m args below meth c H1 locs1 (cells + mc) (slots + ms) Q (F0 m (pc + 3) ls (.int r :: rest))) : W p l e R s m args below meth c H locs cells slots Q (F0 m pc ls st0) := by
  intro T hT X
  rcases hr T hT X with ⟨v, st₀, t, T', L, h0, X', hL, e1, e2, ⟨⟨r, u, hv, hp, hb⟩, hF⟩, st⟩ | ⟨q, st₀, t, T', L, E, ce, h0, X', hL, e1, e2, ⟨u, hp, hb, hF⟩, hce, hcv, hcl, st⟩
  · cases hv
    obtain ⟨k1, k2, k3⟩ := vx_keep h0 e1 hS hA hf hL hF
    obtain ⟨t2, a1, b1⟩ := kk r u t T'.heap (locs ++ L) e1.symm (by rw [← e2]; exact X'.warmed.alike) hp hb k1 k2 k3 T' rfl X'
    exact ⟨t2, st t2 a1, b1⟩
  · obtain ⟨k1, k2, k3⟩ := vx_keep h0 e1 hS hAX hf hL hF
    obtain ⟨t2, a1, b1⟩ := kx E ce q u t T'.heap (locs ++ L) e1.symm (by rw [← e2]; exact X'.warmed.alike) hp hb k1 k2 k3 (by rw [e1]; exact hce) hcv hcl T' rfl X'
    exact ⟨t2, st.trans a1, b1⟩
theorem vx_calll {S SX : Type} {post : Int64 → S → Prop} {px : SX → Prop} {B : S → State → Prop} {BX : String → SX → State → Prop} {AX : Nat → Prop} (hr : vx_Run p l e R s m args below meth c H locs cells slots mc ms (F0 m pc ls st0) rest (va_Ql post B A1 a) (vx_X px BX AX) free) (hS : va_S A0 H0 H locs) (hA : ∀ q, q < H.size → A1 q → A0 q) (hf : ∀ q, free q → A0 q) (hAX : ∀ q, q < H.size → AX q → A0 q)
    (kx : ∀ (E : String) (ce : Cell) (q9 : Addr) (u : SX) (t : State) (H1 : Heap) (locs1 : List Loc), t.heap = H1 → s.vm.Alike t.vm → px u → BX E u t → H.size ≤ H1.size → (∀ q : Nat, q < H.size → ¬ AX q → H1[q]? = H[q]?) → va_S A0 H0 H1 locs1 → H1[q9]? = some ce → ce.vm = .none → s.vm.findClass E = some ce.cls → vx_W p l e R s m args below meth c H1 locs1 (cells + mc) (slots + ms) Q (F0 m pc ls rest) q9)
    (kk : ∀ (r : Int64) (u : S) (t : State) (H1 : Heap) (locs1 : List Loc), t.heap = H1 → s.vm.Alike t.vm → post r u → B u t → H.size ≤ H1.size → (∀ q : Nat, q < H.size → ¬ A1 q → H1[q]? = H[q]?) → va_S A0 H0 H1 locs1 → W p l e R s m args below meth c H1 locs1 (cells + mc) (slots + ms) Q (F0 m (pc + 3) ls (.long r :: rest))) : W p l e R s m args below meth c H locs cells slots Q (F0 m pc ls st0) := by
  intro T hT X
  rcases hr T hT X with ⟨v, st₀, t, T', L, h0, X', hL, e1, e2, ⟨⟨r, u, hv, hp, hb⟩, hF⟩, st⟩ | ⟨q, st₀, t, T', L, E, ce, h0, X', hL, e1, e2, ⟨u, hp, hb, hF⟩, hce, hcv, hcl, st⟩
  · cases hv
    obtain ⟨k1, k2, k3⟩ := vx_keep h0 e1 hS hA hf hL hF
    obtain ⟨t2, a1, b1⟩ := kk r u t T'.heap (locs ++ L) e1.symm (by rw [← e2]; exact X'.warmed.alike) hp hb k1 k2 k3 T' rfl X'
    exact ⟨t2, st t2 a1, b1⟩
  · obtain ⟨k1, k2, k3⟩ := vx_keep h0 e1 hS hAX hf hL hF
    obtain ⟨t2, a1, b1⟩ := kx E ce q u t T'.heap (locs ++ L) e1.symm (by rw [← e2]; exact X'.warmed.alike) hp hb k1 k2 k3 (by rw [e1]; exact hce) hcv hcl T' rfl X'
    exact ⟨t2, st.trans a1, b1⟩
theorem vx_callf {S SX : Type} {post : UInt32 → S → Prop} {px : SX → Prop} {B : S → State → Prop} {BX : String → SX → State → Prop} {AX : Nat → Prop} (hr : vx_Run p l e R s m args below meth c H locs cells slots mc ms (F0 m pc ls st0) rest (va_Qf post B A1 a) (vx_X px BX AX) free) (hS : va_S A0 H0 H locs) (hA : ∀ q, q < H.size → A1 q → A0 q) (hf : ∀ q, free q → A0 q) (hAX : ∀ q, q < H.size → AX q → A0 q)
    (kx : ∀ (E : String) (ce : Cell) (q9 : Addr) (u : SX) (t : State) (H1 : Heap) (locs1 : List Loc), t.heap = H1 → s.vm.Alike t.vm → px u → BX E u t → H.size ≤ H1.size → (∀ q : Nat, q < H.size → ¬ AX q → H1[q]? = H[q]?) → va_S A0 H0 H1 locs1 → H1[q9]? = some ce → ce.vm = .none → s.vm.findClass E = some ce.cls → vx_W p l e R s m args below meth c H1 locs1 (cells + mc) (slots + ms) Q (F0 m pc ls rest) q9)
    (kk : ∀ (r : UInt32) (u : S) (t : State) (H1 : Heap) (locs1 : List Loc), t.heap = H1 → s.vm.Alike t.vm → post r u → B u t → H.size ≤ H1.size → (∀ q : Nat, q < H.size → ¬ A1 q → H1[q]? = H[q]?) → va_S A0 H0 H1 locs1 → W p l e R s m args below meth c H1 locs1 (cells + mc) (slots + ms) Q (F0 m (pc + 3) ls (.float r :: rest))) : W p l e R s m args below meth c H locs cells slots Q (F0 m pc ls st0) := by
  intro T hT X
  rcases hr T hT X with ⟨v, st₀, t, T', L, h0, X', hL, e1, e2, ⟨⟨r, u, hv, hp, hb⟩, hF⟩, st⟩ | ⟨q, st₀, t, T', L, E, ce, h0, X', hL, e1, e2, ⟨u, hp, hb, hF⟩, hce, hcv, hcl, st⟩
  · cases hv
    obtain ⟨k1, k2, k3⟩ := vx_keep h0 e1 hS hA hf hL hF
    obtain ⟨t2, a1, b1⟩ := kk r u t T'.heap (locs ++ L) e1.symm (by rw [← e2]; exact X'.warmed.alike) hp hb k1 k2 k3 T' rfl X'
    exact ⟨t2, st t2 a1, b1⟩
  · obtain ⟨k1, k2, k3⟩ := vx_keep h0 e1 hS hAX hf hL hF
    obtain ⟨t2, a1, b1⟩ := kx E ce q u t T'.heap (locs ++ L) e1.symm (by rw [← e2]; exact X'.warmed.alike) hp hb k1 k2 k3 (by rw [e1]; exact hce) hcv hcl T' rfl X'
    exact ⟨t2, st.trans a1, b1⟩
theorem vx_calld {S SX : Type} {post : UInt64 → S → Prop} {px : SX → Prop} {B : S → State → Prop} {BX : String → SX → State → Prop} {AX : Nat → Prop} (hr : vx_Run p l e R s m args below meth c H locs cells slots mc ms (F0 m pc ls st0) rest (va_Qd post B A1 a) (vx_X px BX AX) free) (hS : va_S A0 H0 H locs) (hA : ∀ q, q < H.size → A1 q → A0 q) (hf : ∀ q, free q → A0 q) (hAX : ∀ q, q < H.size → AX q → A0 q)
    (kx : ∀ (E : String) (ce : Cell) (q9 : Addr) (u : SX) (t : State) (H1 : Heap) (locs1 : List Loc), t.heap = H1 → s.vm.Alike t.vm → px u → BX E u t → H.size ≤ H1.size → (∀ q : Nat, q < H.size → ¬ AX q → H1[q]? = H[q]?) → va_S A0 H0 H1 locs1 → H1[q9]? = some ce → ce.vm = .none → s.vm.findClass E = some ce.cls → vx_W p l e R s m args below meth c H1 locs1 (cells + mc) (slots + ms) Q (F0 m pc ls rest) q9)
    (kk : ∀ (r : UInt64) (u : S) (t : State) (H1 : Heap) (locs1 : List Loc), t.heap = H1 → s.vm.Alike t.vm → post r u → B u t → H.size ≤ H1.size → (∀ q : Nat, q < H.size → ¬ A1 q → H1[q]? = H[q]?) → va_S A0 H0 H1 locs1 → W p l e R s m args below meth c H1 locs1 (cells + mc) (slots + ms) Q (F0 m (pc + 3) ls (.double r :: rest))) : W p l e R s m args below meth c H locs cells slots Q (F0 m pc ls st0) := by
  intro T hT X
  rcases hr T hT X with ⟨v, st₀, t, T', L, h0, X', hL, e1, e2, ⟨⟨r, u, hv, hp, hb⟩, hF⟩, st⟩ | ⟨q, st₀, t, T', L, E, ce, h0, X', hL, e1, e2, ⟨u, hp, hb, hF⟩, hce, hcv, hcl, st⟩
  · cases hv
    obtain ⟨k1, k2, k3⟩ := vx_keep h0 e1 hS hA hf hL hF
    obtain ⟨t2, a1, b1⟩ := kk r u t T'.heap (locs ++ L) e1.symm (by rw [← e2]; exact X'.warmed.alike) hp hb k1 k2 k3 T' rfl X'
    exact ⟨t2, st t2 a1, b1⟩
  · obtain ⟨k1, k2, k3⟩ := vx_keep h0 e1 hS hAX hf hL hF
    obtain ⟨t2, a1, b1⟩ := kx E ce q u t T'.heap (locs ++ L) e1.symm (by rw [← e2]; exact X'.warmed.alike) hp hb k1 k2 k3 (by rw [e1]; exact hce) hcv hcl T' rfl X'
    exact ⟨t2, st.trans a1, b1⟩
theorem vx_callv {S SX : Type} {post : S → Prop} {px : SX → Prop} {B : S → State → Prop} {BX : String → SX → State → Prop} {AX : Nat → Prop} (hr : vx_Run p l e R s m args below meth c H locs cells slots mc ms (F0 m pc ls st0) rest (va_Qv post B A1 a) (vx_X px BX AX) free) (hS : va_S A0 H0 H locs) (hA : ∀ q, q < H.size → A1 q → A0 q) (hf : ∀ q, free q → A0 q) (hAX : ∀ q, q < H.size → AX q → A0 q)
    (kx : ∀ (E : String) (ce : Cell) (q9 : Addr) (u : SX) (t : State) (H1 : Heap) (locs1 : List Loc), t.heap = H1 → s.vm.Alike t.vm → px u → BX E u t → H.size ≤ H1.size → (∀ q : Nat, q < H.size → ¬ AX q → H1[q]? = H[q]?) → va_S A0 H0 H1 locs1 → H1[q9]? = some ce → ce.vm = .none → s.vm.findClass E = some ce.cls → vx_W p l e R s m args below meth c H1 locs1 (cells + mc) (slots + ms) Q (F0 m pc ls rest) q9)
    (kk : ∀ (u : S) (t : State) (H1 : Heap) (locs1 : List Loc), t.heap = H1 → s.vm.Alike t.vm → post u → B u t → H.size ≤ H1.size → (∀ q : Nat, q < H.size → ¬ A1 q → H1[q]? = H[q]?) → va_S A0 H0 H1 locs1 → W p l e R s m args below meth c H1 locs1 (cells + mc) (slots + ms) Q (F0 m (pc + 3) ls (rest))) : W p l e R s m args below meth c H locs cells slots Q (F0 m pc ls st0) := by
  intro T hT X
  rcases hr T hT X with ⟨v, st₀, t, T', L, h0, X', hL, e1, e2, ⟨⟨u, hv, hp, hb⟩, hF⟩, st⟩ | ⟨q, st₀, t, T', L, E, ce, h0, X', hL, e1, e2, ⟨u, hp, hb, hF⟩, hce, hcv, hcl, st⟩
  · cases hv
    obtain ⟨k1, k2, k3⟩ := vx_keep h0 e1 hS hA hf hL hF
    obtain ⟨t2, a1, b1⟩ := kk u t T'.heap (locs ++ L) e1.symm (by rw [← e2]; exact X'.warmed.alike) hp hb k1 k2 k3 T' rfl X'
    exact ⟨t2, st t2 a1, b1⟩
  · obtain ⟨k1, k2, k3⟩ := vx_keep h0 e1 hS hAX hf hL hF
    obtain ⟨t2, a1, b1⟩ := kx E ce q u t T'.heap (locs ++ L) e1.symm (by rw [← e2]; exact X'.warmed.alike) hp hb k1 k2 k3 (by rw [e1]; exact hce) hcv hcl T' rfl X'
    exact ⟨t2, st.trans a1, b1⟩
/-- caught by the row x of this method's table; the rows ahead don't take it -/
theorem vx_catch {own name : String} {E : String} {ce : Cell} {q : Addr} (hown : s.vm.findClass own = some m.cls) (pre : List ExceptionTableEntry) (x : ExceptionTableEntry) (suf : List ExceptionTableEntry) (hsplit : c.exceptionTable.toList = pre ++ x :: suf)
    (hpass : ∀ z ∈ pre, covers z pc = false ∨ (z.catchType ≠ 0 ∧ ∃ nm : String, (Cond.classLink own z.catchType nm).before args s = true ∧ va_Nc E nm s)) (hx : covers x pc = true) (h0 : x.catchType ≠ 0)
    (hlink : (Cond.classLink own x.catchType name).before args s = true) (hcast : (Cond.castable E name).before args s = true) (hcell : H[q]? = some ce) (hv : ce.vm = .none) (hcl : s.vm.findClass E = some ce.cls)
    (kk : W p l e R s m args below meth c H locs cells slots Q (F0 m x.handlerPc ls [.ref q])) : vx_W p l e R s m args below meth c H locs cells slots Q (F0 m pc ls rest) q := by
  intro T hT X
  have hpl : e.platform.magicAccessors = ({} : Platform).magicAccessors := by rw [X.admits.platform]
  obtain ⟨c3, c4, hc3, hc4, hasg⟩ := Cond.castable_spec hcast
  cases Option.some.inj (hc3.symm.trans hcl)
  obtain ⟨c5, hc5, hcl5⟩ := Cond.classLink_spec hown hlink e.platform hpl
  cases Option.some.inj (hc4.symm.trans hc5)
  obtain ⟨vm', X', st⟩ := X.thenCaughtThrough q (g := F0 m pc ls rest) rfl (Steps.refl _) (by rw [hT]; exact hcell) (by rw [hv]; rfl) (by obtain ⟨k9, h9, -⟩ := Vm.findClass_spec hcl; exact ⟨k9, h9⟩) pre x suf hsplit
    (fun z hz => by
      rcases hpass z hz with h | ⟨hz0, nm, hl1, hn1⟩
      · exact Or.inl h
      · obtain ⟨c6, hc6, hcl6⟩ := Cond.classLink_spec hown hl1 e.platform hpl
        obtain ⟨a8, b8, h1, h2, h3⟩ := hn1
        cases Option.some.inj (h1.symm.trans hcl)
        cases Option.some.inj (h2.symm.trans hc6)
        exact Or.inr ⟨hz0, _, hcl6, h3⟩) hx (Or.inr ⟨h0, c4, hcl5, hasg⟩)
  obtain ⟨t, a1, b1⟩ := kk (T.setVm vm') hT X'
  exact ⟨t, st.trans a1, b1⟩
end Rows
section Ends
variable {p : Program} {l : Launch} {e : Env} {R : Room} {s : State} {m : MethodId} {args : Array Value} {below : List Frame} {meth : Method} {c : Code} {H : Heap} {locs : List Loc} {cells slots : Nat} {Q : State → Prop}
variable {mc ms : Nat} {free : Addr → Prop} {A0 A1 : Nat → Prop} {H0 : Heap} {a : Array Value} {ls : Array Slot} {st0 rest : List Value}
variable {Qc : Array Value → State → Outcome → State → Prop} {XC : String → State → State → Prop}
/-- what a body that may throw owes at its end -/
def vx_MQ (below : List Frame) (Qc : Array Value → State → Outcome → State → Prop) (XC : String → State → State → Prop) (a : Array Value) (s : State) (mc ms : Nat) (free : Addr → Prop) : State → Prop := fun t =>
  ∃ o, t.status = .running ∧ Ended t below o ∧ vx_Q Qc XC mc ms free a s o t
theorem vx_ret {g : JFrame} {mc ms : Nat} (k : W p l e R s m args below meth c H locs cells slots (MQ below Qc args s mc ms free) g) : W p l e R s m args below meth c H locs cells slots (vx_MQ below Qc XC args s mc ms free) g := by
  intro T hT X
  obtain ⟨t, a1, o, b1, b2, b3, b4⟩ := k T hT X
  exact ⟨t, a1, o, b1, b2, Or.inl ⟨b3, b4⟩⟩
/-- not caught here: it goes on to the caller -/
theorem vx_widen {g : JFrame} {q : Addr} {k n : Nat} (h1 : cells ≤ k) (h2 : slots ≤ n) (kk : vx_W p l e R s m args below meth c H locs k n Q g q) : vx_W p l e R s m args below meth c H locs cells slots Q g q := fun T hT X => kk T hT (stand_widen X h1 h2)
theorem vx_out {pc : Nat} {E : String} {ce : Cell} {q : Addr} {mc ms : Nat} (hout : ∀ x ∈ c.exceptionTable.toList, covers x pc = false) (hlocks : meth.locks = false) (hcell : H[q]? = some ce) (hv : ce.vm = .none) (hcl : s.vm.findClass E = some ce.cls)
    (hx : ∀ t : State, t.heap = H → s.vm.Alike t.vm → XC E s t) (hf : ∀ z ∈ locs, free z.base) (hc : cells ≤ mc) (hs : slots ≤ ms) :
    vx_W p l e R s m args below meth c H locs cells slots (vx_MQ below Qc XC args s mc ms free) (F0 m pc ls rest) q := by
  intro T hT X
  obtain ⟨st1, hrun, hend, hW, hsm⟩ := X.leaveThrown q (g := F0 m pc ls rest) rfl rfl rfl hout hlocks
  have hcell9 : (T.setFrames (.throwing q :: below)).heap[q]? = some ce := by
    show T.heap[q]? = some ce
    rw [hT]; exact hcell
  exact ⟨_, st1, .threw q, hrun, hend, Or.inr ⟨q, rfl, E, ce, locs, hx _ hT hW.alike, hcell9, hv, hcl, hW, hsm.mono hc hs, hf⟩⟩
theorem vx_frame {U : State} {k n : Nat} (h : s.sameButNew ({ U with vm := s.vm } : State) locs k n) : s.heap.size ≤ U.heap.size ∧ ∀ q : Nat, q < s.heap.size → (∀ z ∈ locs, z.base ≠ q) → U.heap[q]? = s.heap[q]? := by
  obtain ⟨-, h2, -, -, -, h6⟩ := h
  refine ⟨h2, fun q hq hz => ?_⟩
  obtain ⟨c9, e1, e2, e3, e4⟩ := h6 q _ (Array.getElem?_eq_getElem hq)
  have hs : c9.slots = (s.heap[q]).slots := Array.ext_getElem? fun i => e4 i fun hm => hz _ hm rfl
  have h9 : c9 = s.heap[q] := by
    rw [hs] at e2
    exact e2
  have e5 : U.heap[q]? = some c9 := e1
  rw [e5, h9, Array.getElem?_eq_getElem hq]
/-- the words of a throw but the four that speak of the heap -/
def vx_no (w : Cond) : Bool := decide (w ≠ .isRef (.static Bundle.tN "UNASSIGNED_STACK" Bundle.steD)) && decide (w ≠ .isRef (.static Bundle.tN "SUPPRESSED_SENTINEL" Bundle.listD)) && decide (w ≠ .laysStatic Bundle.tN "UNASSIGNED_STACK" Bundle.steD) && decide (w ≠ .laysStatic Bundle.tN "SUPPRESSED_SENTINEL" Bundle.listD)
def vx_at0 (own : String) (ic : Nat) (X : String) (names : List String) : List Cond := (Bundle.ownAtoms0 own ic X names).filter vx_no
def vx_atS (own : String) (ic : Nat) (X : String) (names : List String) : List Cond := (Bundle.ownAtoms own ic X names).filter vx_no
/-- a word that the tables alone decide, or a good one -/
def vx_ot (w : Cond) : Bool := w.onTables || goodWord w
theorem vx_ot_at {args a' : Array Value} {s U : State} {w : Cond} (hW : s.WarmedH U.vm) (hvm : s.vm = U.vm) (hg : vx_ot w = true) (h : w.before args s = true) : w.before a' U = true := by
  simp only [vx_ot, Bool.or_eq_true] at hg
  rcases hg with hg | hg
  · exact va_tabs hg hvm h
  · exact word_at hW (good_of_word hg) h
/-- a list's words: the good ones out of the method's own list, the others by premises of their own -/
theorem vx_hat {args : Array Value} {s : State} {L B : List Cond} (h1 : ∀ w ∈ L.filter goodWord, w.before args s = true) (h2 : ∀ w ∈ L.filter (fun w => !goodWord w), w ∈ B) (h3 : ∀ w ∈ B, w.before args s = true) : ∀ w ∈ L, w.before args s = true := by
  intro w hw
  by_cases g : goodWord w = true
  · exact h1 w (List.mem_filter.mpr ⟨hw, g⟩)
  · refine h3 w (h2 w (List.mem_filter.mpr ⟨hw, ?_⟩))
    show (!goodWord w) = true
    cases hgw : goodWord w
    · rfl
    · exact absurd hgw g
theorem vx_c {args : Array Value} {s : State} {w : Cond} {B : List Cond} (h : w.before args s = true) (t : ∀ w ∈ B, w.before args s = true) : ∀ w' ∈ w :: B, w'.before args s = true := fun w' h' => (List.mem_cons.mp h').elim (fun e => by rw [e]; exact h) (t w')
theorem vx_n {args : Array Value} {s : State} : ∀ w ∈ ([] : List Cond), w.before args s = true := fun _ h => nomatch h
theorem vx_own {args : Array Value} {s : State} {L : List Cond} (h1 : ∀ w ∈ L.filter vx_no, w.before args s = true)
    (hU : (Cond.isRef (.static Bundle.tN "UNASSIGNED_STACK" Bundle.steD)).before args s = true) (hN : (Cond.isRef (.static Bundle.tN "SUPPRESSED_SENTINEL" Bundle.listD)).before args s = true)
    (lU : (Cond.laysStatic Bundle.tN "UNASSIGNED_STACK" Bundle.steD).before args s = true) (lN : (Cond.laysStatic Bundle.tN "SUPPRESSED_SENTINEL" Bundle.listD).before args s = true) : ∀ w ∈ L, w.before args s = true := by
  intro w hw
  by_cases e1 : w = .isRef (.static Bundle.tN "UNASSIGNED_STACK" Bundle.steD)
  · rw [e1]; exact hU
  · by_cases e2 : w = .isRef (.static Bundle.tN "SUPPRESSED_SENTINEL" Bundle.listD)
    · rw [e2]; exact hN
    · by_cases e3 : w = .laysStatic Bundle.tN "UNASSIGNED_STACK" Bundle.steD
      · rw [e3]; exact lU
      · by_cases e4 : w = .laysStatic Bundle.tN "SUPPRESSED_SENTINEL" Bundle.listD
        · rw [e4]; exact lN
        · exact h1 w (List.mem_filter.mpr ⟨hw, by unfold vx_no; rw [decide_eq_true e1, decide_eq_true e2, decide_eq_true e3, decide_eq_true e4]; rfl⟩)
/-- where a static field lies, its class's statics cell in H -/
def vx_L (C n d : String) (A : Nat → Prop) (U : State) (H : Heap) : Prop := ∃ (c : ClassId) (k : Class) (i : Nat) (f : Field) (a : Nat) (cell : Cell), U.vm.findClass C = some c ∧ U.fieldFound? C n d = some (c, k, i, f) ∧ f.isStatic = true ∧ k.statics = some a ∧ H[a]? = some cell ∧ cell.vm.isStatics = true ∧ cell.cls = c ∧ f.slot < cell.slots.size ∧ k.staticTypes[f.slot]? = some f.type ∧ ¬ A a
theorem vx_L.moved {C n d : String} {A : Nat → Prop} {u U : State} {H : Heap} (hvm : u.vm.Alike U.vm) (h : vx_L C n d A u H) : vx_L C n d A U H := by
  obtain ⟨c, k, i, f, a, cell, h1, h2, h3, h4, h5, h6, h7, h8, h9, h10⟩ := h
  obtain ⟨k', hi', he⟩ := State.fieldFound?_setVm hvm h2
  exact ⟨c, k', i, f, a, cell, by rw [hvm.findClass]; exact h1, hi', h3, by rw [he]; exact h4, h5, h6, h7, h8, by rw [he]; exact h9, h10⟩
theorem vx_L.kept {C n d : String} {A : Nat → Prop} {U : State} {H H1 : Heap} (h : vx_L C n d A U H) (hq : ∀ a : Nat, a < H.size → ¬ A a → H1[a]? = H[a]?) : vx_L C n d A U H1 := by
  obtain ⟨c, k, i, f, a, cell, h1, h2, h3, h4, h5, h6, h7, h8, h9, h10⟩ := h
  exact ⟨c, k, i, f, a, cell, h1, h2, h3, h4, by rw [hq a (Array.getElem?_eq_some_iff.mp h5).1 h10]; exact h5, h6, h7, h8, h9, h10⟩
theorem vx_L.narrow {C n d : String} {A B : Nat → Prop} {U : State} {H : Heap} (h : vx_L C n d A U H) (hAB : ∀ q, B q → A q) : vx_L C n d B U H := by
  obtain ⟨c, k, i, f, a, cell, h1, h2, h3, h4, h5, h6, h7, h8, h9, h10⟩ := h
  exact ⟨c, k, i, f, a, cell, h1, h2, h3, h4, h5, h6, h7, h8, h9, fun z => h10 (hAB _ z)⟩
theorem vx_L.word {C n d : String} {A : Nat → Prop} {s : State} {args : Array Value} (h : vx_L C n d A s s.heap) : (Cond.laysStatic C n d).before args s = true := by
  obtain ⟨c, k, i, f, a, cell, h1, h2, h3, h4, h5, h6, h7, h8, h9, -⟩ := h
  show (Cond.laysStatic C n d).holds args s none s [] = true
  exact Cond.laysStatic_of h1 h2 h3 h4 h5 h6 h7 h8 h9
/-- .. and what it holds: null or some reference -/
def vx_Zq (C n d : String) (A : Nat → Prop) (U : State) (H : Heap) : Prop := va_Zq C n d A U H ∧ vx_L C n d A U H
theorem vx_Zq.moved {C n d : String} {A : Nat → Prop} {u U : State} {H : Heap} (hvm : u.vm.Alike U.vm) (h : vx_Zq C n d A u H) : vx_Zq C n d A U H := ⟨va_Zq.moved hvm h.1, vx_L.moved hvm h.2⟩
theorem vx_Zq.kept {C n d : String} {A : Nat → Prop} {U : State} {H H1 : Heap} (h : vx_Zq C n d A U H) (hq : ∀ a : Nat, a < H.size → ¬ A a → H1[a]? = H[a]?) : vx_Zq C n d A U H1 := ⟨va_Zq.kept h.1 hq, vx_L.kept h.2 hq⟩
theorem vx_Zq.narrow {C n d : String} {A B : Nat → Prop} {U : State} {H : Heap} (h : vx_Zq C n d A U H) (hAB : ∀ q, B q → A q) : vx_Zq C n d B U H := ⟨va_Zq.narrow h.1 hAB, vx_L.narrow h.2 hAB⟩
theorem vx_Zqof {args : Array Value} {s : State} {C n d : String} {A : Nat → Prop} (hl : (Cond.laysStatic C n d).before args s = true) (hini : (Cond.initialized C).before args s = true) (h : (Cond.isRef (.static C n d)).before args s = true) (hA : ∀ a : Nat, a < s.heap.size → ¬ A a) : vx_Zq C n d A s s.heap := by
  refine ⟨va_Zqof hl hini h hA, ?_⟩
  obtain ⟨c, k, i, f, a, cell, h1, h2, h3, h4, h5, h6, h7, h8, h9⟩ := Cond.laysStatic_spec hl
  exact ⟨c, k, i, f, a, cell, h1, h2, h3, h4, h5, h6, h7, h8, h9, hA a (Array.getElem?_eq_some_iff.mp h5).1⟩
theorem vx_isRef {C n d : String} {v : Value} {A : Nat → Prop} {s : State} {args : Array Value} (h : va_Z C n d v A s s.heap) (hv : v.isRef = true) : (Cond.isRef (.static C n d)).before args s = true := by
  obtain ⟨cf, kf, fi, f, a, cell, h1, h2, h3, h4, h5, h6, h7, -⟩ := h
  have he : (Term.static C n d).eval args s none [] s = some v := by
    simp [Term.eval, State.fieldNamed?, h1, h2, h4, h5, h6, h7]
  simp only [Cond.before, Cond.holds, Cond.value, he]
  cases v <;> simp_all [Value.isRef]
theorem vx_isRefq {C n d : String} {A : Nat → Prop} {s : State} {args : Array Value} (h : va_Zq C n d A s s.heap) : (Cond.isRef (.static C n d)).before args s = true := by
  rcases h with h | ⟨t, h⟩
  · exact vx_isRef h rfl
  · exact vx_isRef h rfl
/-- the same frame, seen from here: as if the method were called anew in this heap -/
theorem vx_rebase {T : State} (X : Stand p l e R s m args below meth c T locs cells slots) {R' : Room} (hf : R'.frames ≤ R.frames) (hl : R'.locals ≤ R.locals) (hc : cells + R'.cells ≤ R.cells) (hs : slots + R'.slots ≤ R.slots) :
    Stand p l e R' ((T.setVm s.vm).setFrames (.invoking m args :: below)) m args below meth c T [] 0 0 := by
  have htop : (T.setVm s.vm).topJava?.isSome := X.here.top
  have hF : ((T.setVm s.vm).setFrames (.invoking m args :: below)).frames = .invoking m args :: below := State.frames_setFrames _ (State.cur_lt_of_top htop)
  obtain ⟨g₀, hg0⟩ := Option.isSome_iff_exists.mp htop
  obtain ⟨r, hr⟩ := State.topJava?_eq_some.mp hg0
  have hl9 : e.platform.stackLimits (T.setVm s.vm).me = e.platform.stackLimits s.me := X.limits
  have hb9 : (T.setVm s.vm).me.stackBytes = s.me.stackBytes := X.bytes
  refine ⟨X.admits, X.cas, X.clock, hF, ?_, X.hears, X.method, X.code, X.here, X.tail, X.warmed, ?_, ?_, ?_⟩
  · have h := X.room
    have hU : ((T.setVm s.vm).setFrames (.invoking m args :: below)).localsInUse = s.localsInUse := by
      rw [State.localsInUse_invoking hF (meth := meth) (c := c) X.method X.code, State.localsInUse_invoking X.frames X.method X.code]
    simp only [State.hasRoom, Bool.and_eq_true, decide_eq_true_eq] at h ⊢
    obtain ⟨⟨⟨⟨h1, h2, h3, h4, h5, h6⟩, h7⟩, h8⟩, h9⟩ := h
    rw [X.frames, List.length_cons] at h2 h3
    have q1 := X.heapSize
    have q2 := X.used
    simp only [hF, hU, List.length_cons, State.stackLimits_setFrames, State.stackBytes_setFrames, hl9, hb9]
    refine ⟨⟨⟨⟨by omega, by omega, by omega, by omega, by omega, h6⟩, ?_⟩, ?_⟩, X.book⟩
    · show T.heap.size + R'.cells ≤ e.platform.maxCells
      omega
    · show T.slotsUsed + R'.slots ≤ e.platform.maxSlots
      omega
  · rw [State.stackLimits_setFrames]; rfl
  · rw [State.stackBytes_setFrames]; rfl
  · refine ⟨?_, Nat.le_refl _, Nat.le_refl _, ?_, ?_, fun a c9 h9 => ⟨c9, h9, rfl, rfl, fun _ _ => rfl⟩⟩
    · obtain ⟨t, ht, -⟩ := State.frames_cons hr
      show T.setVm s.vm = { ((T.setVm s.vm).setFrames (.invoking m args :: below)).setFrames (T.setVm s.vm).frames with heap := T.heap, slotsUsed := T.slotsUsed }
      rw [State.setFrames_setFrames, State.setFrames_self ht]
      rfl
    · show T.slotsUsed = T.slotsUsed + ((T.heap.toList.drop T.heap.size).map (·.slots.size)).sum
      rw [List.drop_eq_nil_of_le (Nat.le_of_eq Array.length_toList)]
      rfl
    · show ((T.heap.toList.drop T.heap.size).map (·.slots.size)).sum ≤ 0
      rw [List.drop_eq_nil_of_le (Nat.le_of_eq Array.length_toList)]
      exact Nat.le_refl _
/-- 'throw new E()': new; dup; invokespecial; athrow -/
theorem vx_throw0 {cc : ByteArray} {pc : Nat} (hexec : p.tables.exec = Jvm.exec) (hb : c.code = cc) (hl : l.stackTraces = false) {own cls : String} {names : List String} {ik ic mc ms : Nat} {A : Nat → Prop}
    (hown : s.vm.findClass own = some m.cls) (hcls : Bundle.fit cls = true) (hnames : ∀ n ∈ names, Bundle.fit n = true)
    (hk : (Cond.classLink own ik cls).before args s = true) (hini : (Cond.initialized cls).before args s = true) (hat : ∀ w ∈ vx_at0 own ic cls names, w.before args s = true)
    (hgood : ∀ w ∈ Cond.classLink own ik cls :: Cond.initialized cls :: vx_at0 own ic cls names, vx_ot w = true)
    (hU : vx_Zq Bundle.tN "UNASSIGNED_STACK" Bundle.steD A s s.heap) (hN : vx_Zq Bundle.tN "SUPPRESSED_SENTINEL" Bundle.listD A s s.heap) (hS : va_S A s.heap H locs) (hsize : ls.size = c.maxLocals)
    (d0 : decode cc pc = .ok (.new ik, 3)) (d3 : decode cc (pc + 3) = .ok (.dup, 1)) (d4 : decode cc (pc + 4) = .ok (.invokespecial ic, 3)) (d7 : decode cc (pc + 7) = .ok (.athrow, 1))
    (hout : ∀ x ∈ c.exceptionTable.toList, covers x (pc + 7) = false)
    (hRframes : names.length + 3 < R.frames) (hRlocals : (rest.map fun v => v.category).sum + (13 * (names.length + 1) + 42) ≤ R.locals) (hRcells : cells + 1 ≤ R.cells) (hRslots : slots + 6 ≤ R.slots) (hlocks : meth.locks = false)
    (hx : ∀ t : State, s.vm.Alike t.vm → H.size ≤ t.heap.size → (∀ q : Nat, q < H.size → t.heap[q]? = H[q]?) → XC cls s t)
    (hf : ∀ z ∈ locs, free z.base) (hc : cells + 1 ≤ mc) (hs : slots + 6 ≤ ms) :
    W p l e R s m args below meth c H locs cells slots (vx_MQ below Qc XC args s mc ms free) (F0 m pc ls rest) := by
  intro T hT X
  have htr : e.platform.stackTraces = false := (show e.platform.stackTraces = l.stackTraces by rw [X.admits.platform]).trans hl
  have Y := vx_rebase X (R' := { frames := R.frames, locals := R.locals, cells := 1, slots := 6 }) (Nat.le_refl _) (Nat.le_refl _) hRcells hRslots
  obtain ⟨s', hA⟩ : ∃ z, z = (T.setVm s.vm).setFrames (.invoking m args :: below) := ⟨_, rfl⟩
  rw [← hA] at Y
  have hvm : s'.vm = s.vm := by rw [hA]; rfl
  have hhp : s'.heap = H := by rw [hA]; exact hT
  have hW0 : s.WarmedH s'.vm := by rw [hvm]; exact State.WarmedH.refl s
  have hat' : ∀ w ∈ vx_at0 own ic cls names, w.before args s' = true := fun w hw => vx_ot_at hW0 hvm.symm (hgood w (List.mem_cons_of_mem _ (List.mem_cons_of_mem _ hw))) (hat w hw)
  have hk' : (Cond.classLink own ik cls).before args s' = true := vx_ot_at hW0 hvm.symm (hgood _ List.mem_cons_self) hk
  have hini' : (Cond.initialized cls).before args s' = true := vx_ot_at hW0 hvm.symm (hgood _ (List.mem_cons_of_mem _ List.mem_cons_self)) hini
  have hU' : vx_Zq Bundle.tN "UNASSIGNED_STACK" Bundle.steD A s' s'.heap := by rw [hhp]; exact vx_Zq.moved hW0.alike (hU.kept hS.2.1)
  have hN' : vx_Zq Bundle.tN "SUPPRESSED_SENTINEL" Bundle.listD A s' s'.heap := by rw [hhp]; exact vx_Zq.moved hW0.alike (hN.kept hS.2.1)
  have h : ∀ w ∈ Bundle.ownAtoms0 own ic cls names, w.before args s' = true := vx_own hat' (vx_isRefq hU'.1) (vx_isRefq hN'.1) hU'.2.word hN'.2.word
  have hown' : s'.vm.findClass own = some m.cls := by rw [hvm]; exact hown
  have hins : (Cond.instantiable cls 6).before args s' = true := h _ (by simp [Bundle.ownAtoms0])
  obtain ⟨vm₁, cX, kX, hfX, hkX, -, -, X₁, st1⟩ := Y.newCold hexec (own := own) (C := cls) (index := ik) (n := 6) hown' hk' hins hini'
    (g := F0 m pc ls rest) rfl (by rw [hb]; exact d0) (Nat.le_refl _) (Nat.le_refl _)
  generalize hT1 : (T.setVm vm₁).pushCell { cls := cX, slots := kX.instanceTypes.map defaultValue, vm := .none } = T1 at X₁ st1
  have hcat : (Value.ref T.heap.size).category = 1 := rfl
  have hcellA : T1.heap[T.heap.size]? = some (freshCell cX kX) := by rw [← hT1]; exact State.heap_pushCell_size _ _
  have d3' : decode c.code (pc + 3) = .ok (.dup, 1) := by rw [hb]; exact d3
  obtain ⟨U, hsteps, hrun, hend, hW, hsame, ce, hce, hO⟩ := X₁.ctorThrow0 hexec htr (own := own) (cls := cls) (names := names) (ic := ic) hown' hcls hnames h (fun x hx => nomatch hx) hfX hkX hcellA (by rw [hhp, hT]; exact Nat.le_refl _)
    (g := { method := m, pc := pc + 4, locals := ls, stack := .ref T.heap.size :: .ref T.heap.size :: rest, locked := none }) rfl hsize rfl rfl (rest := rest) rfl
    (by rw [hb]; exact d4) (by rw [hb]; exact d7) hout hRframes (by simp only [List.map_cons, List.sum_cons, hcat]; omega) hlocks
  obtain ⟨f1, f2⟩ := vx_frame hsame
  rw [hhp] at f1 f2
  have hWs : s.WarmedH U.vm := State.WarmedH.trans hW0 hW
  have hcl : s.vm.findClass cls = some ce.cls := by
    have h9 := hO.cls
    rw [hvm] at h9
    exact h9
  have hall : s.sameButNew ({ U with vm := s.vm } : State) locs mc ms := by
    subst hA
    obtain ⟨e1, e2⟩ := hsame
    rw [State.setFrames_setFrames] at e1
    have h2 : (T.setVm s.vm).sameButNew ({ U with vm := s.vm } : State) [] (0 + 1) (0 + 6) := ⟨e1, e2⟩
    have h3 := X.same.trans h2
    rw [List.append_nil] at h3
    exact h3.mono hc hs
  refine ⟨U, ?_, .threw T.heap.size, hrun, hend, Or.inr ⟨T.heap.size, rfl, cls, ce, locs, hx U hWs.alike f1 (fun q hq => f2 q hq (fun z hz => nomatch hz)), hce, hO.vm, hcl, hWs, hall, hf⟩⟩
  refine st1 _ ?_
  show Steps p.tables e below (T1.setTop { method := m, pc := pc + 3, locals := ls, stack := .ref T.heap.size :: rest, locked := none }) _
  jvm_step X₁.here [X₁.here.top, hexec, d3', Value.category]
  exact hsteps
/-- 'throw new E("text")': new; dup; ldc; invokespecial; athrow -/
theorem vx_throwS {cc : ByteArray} {pc : Nat} (hexec : p.tables.exec = Jvm.exec) (hb : c.code = cc) (hl : l.stackTraces = false) {own cls text : String} {names : List String} {ik is ic mc ms sa : Nat} {A : Nat → Prop}
    (hown : s.vm.findClass own = some m.cls) (hcls : Bundle.fit cls = true) (hnames : ∀ n ∈ names, Bundle.fit n = true)
    (hk : (Cond.classLink own ik cls).before args s = true) (hini : (Cond.initialized cls).before args s = true) (hstr : vk_R own is text sa s) (hat : ∀ w ∈ vx_atS own ic cls names, w.before args s = true)
    (hgood : ∀ w ∈ Cond.classLink own ik cls :: Cond.initialized cls :: vx_atS own ic cls names, vx_ot w = true)
    (hU : vx_Zq Bundle.tN "UNASSIGNED_STACK" Bundle.steD A s s.heap) (hN : vx_Zq Bundle.tN "SUPPRESSED_SENTINEL" Bundle.listD A s s.heap) (hS : va_S A s.heap H locs) (hsize : ls.size = c.maxLocals)
    (d0 : decode cc pc = .ok (.new ik, 3)) (d3 : decode cc (pc + 3) = .ok (.dup, 1)) (d4 : decode cc (pc + 4) = .ok (.ldc is, 2)) (d6 : decode cc (pc + 6) = .ok (.invokespecial ic, 3)) (d9 : decode cc (pc + 9) = .ok (.athrow, 1))
    (hout : ∀ x ∈ c.exceptionTable.toList, covers x (pc + 9) = false)
    (hRframes : names.length + 3 < R.frames) (hRlocals : (rest.map fun v => v.category).sum + (13 * (names.length + 1) + 43) ≤ R.locals) (hRcells : cells + 1 ≤ R.cells) (hRslots : slots + 6 ≤ R.slots) (hlocks : meth.locks = false)
    (hx : ∀ t : State, s.vm.Alike t.vm → H.size ≤ t.heap.size → (∀ q : Nat, q < H.size → t.heap[q]? = H[q]?) → XC cls s t)
    (hf : ∀ z ∈ locs, free z.base) (hc : cells + 1 ≤ mc) (hs : slots + 6 ≤ ms) :
    W p l e R s m args below meth c H locs cells slots (vx_MQ below Qc XC args s mc ms free) (F0 m pc ls rest) := by
  intro T hT X
  have htr : e.platform.stackTraces = false := (show e.platform.stackTraces = l.stackTraces by rw [X.admits.platform]).trans hl
  have Y := vx_rebase X (R' := { frames := R.frames, locals := R.locals, cells := 1, slots := 6 }) (Nat.le_refl _) (Nat.le_refl _) hRcells hRslots
  obtain ⟨s', hA⟩ : ∃ z, z = (T.setVm s.vm).setFrames (.invoking m args :: below) := ⟨_, rfl⟩
  rw [← hA] at Y
  have hvm : s'.vm = s.vm := by rw [hA]; rfl
  have hhp : s'.heap = H := by rw [hA]; exact hT
  have hW0 : s.WarmedH s'.vm := by rw [hvm]; exact State.WarmedH.refl s
  have hat' : ∀ w ∈ vx_atS own ic cls names, w.before args s' = true := fun w hw => vx_ot_at hW0 hvm.symm (hgood w (List.mem_cons_of_mem _ (List.mem_cons_of_mem _ hw))) (hat w hw)
  have hk' : (Cond.classLink own ik cls).before args s' = true := vx_ot_at hW0 hvm.symm (hgood _ List.mem_cons_self) hk
  have hini' : (Cond.initialized cls).before args s' = true := vx_ot_at hW0 hvm.symm (hgood _ (List.mem_cons_of_mem _ List.mem_cons_self)) hini
  have hU' : vx_Zq Bundle.tN "UNASSIGNED_STACK" Bundle.steD A s' s'.heap := by rw [hhp]; exact vx_Zq.moved hW0.alike (hU.kept hS.2.1)
  have hN' : vx_Zq Bundle.tN "SUPPRESSED_SENTINEL" Bundle.listD A s' s'.heap := by rw [hhp]; exact vx_Zq.moved hW0.alike (hN.kept hS.2.1)
  have h : ∀ w ∈ Bundle.ownAtoms own ic cls names, w.before args s' = true := vx_own hat' (vx_isRefq hU'.1) (vx_isRefq hN'.1) hU'.2.word hN'.2.word
  have hown' : s'.vm.findClass own = some m.cls := by rw [hvm]; exact hown
  have hins : (Cond.instantiable cls 6).before args s' = true := h _ (by simp [Bundle.ownAtoms])
  obtain ⟨vm₁, cX, kX, hfX, hkX, -, -, X₁, st1⟩ := Y.newCold hexec (own := own) (C := cls) (index := ik) (n := 6) hown' hk' hins hini'
    (g := F0 m pc ls rest) rfl (by rw [hb]; exact d0) (Nat.le_refl _) (Nat.le_refl _)
  generalize hT1 : (T.setVm vm₁).pushCell { cls := cX, slots := kX.instanceTypes.map defaultValue, vm := .none } = T1 at X₁ st1
  have hcat : (Value.ref T.heap.size).category = 1 := rfl
  have hcellA : T1.heap[T.heap.size]? = some (freshCell cX kX) := by rw [← hT1]; exact State.heap_pushCell_size _ _
  have d3' : decode c.code (pc + 3) = .ok (.dup, 1) := by rw [hb]; exact d3
  have d4' : decode c.code (pc + 4) = .ok (.ldc is, 2) := by rw [hb]; exact d4
  have hstr' : vk_R own is text sa s' := vk_R.warm hW0 hstr
  obtain ⟨U, hsteps, hrun, hend, hW, hsame, ce, hce, hO⟩ := X₁.ctorThrowS hexec htr (own := own) (cls := cls) (names := names) (ic := ic) hown' hcls hnames h (fun x hx => nomatch hx) hfX hkX hcellA (by rw [hhp, hT]; exact Nat.le_refl _) (msg := .ref sa) rfl
    (g := { method := m, pc := pc + 6, locals := ls, stack := .ref sa :: .ref T.heap.size :: .ref T.heap.size :: rest, locked := none }) rfl hsize rfl rfl (rest := rest) rfl
    (by rw [hb]; exact d6) (by rw [hb]; exact d9) hout hRframes (by simp only [List.map_cons, List.sum_cons, hcat]; omega) hlocks
  obtain ⟨f1, f2⟩ := vx_frame hsame
  rw [hhp] at f1 f2
  have hWs : s.WarmedH U.vm := State.WarmedH.trans hW0 hW
  have hcl : s.vm.findClass cls = some ce.cls := by
    have h9 := hO.cls
    rw [hvm] at h9
    exact h9
  have hall : s.sameButNew ({ U with vm := s.vm } : State) locs mc ms := by
    subst hA
    obtain ⟨e1, e2⟩ := hsame
    rw [State.setFrames_setFrames] at e1
    have h2 : (T.setVm s.vm).sameButNew ({ U with vm := s.vm } : State) [] (0 + 1) (0 + 6) := ⟨e1, e2⟩
    have h3 := X.same.trans h2
    rw [List.append_nil] at h3
    exact h3.mono hc hs
  refine ⟨U, ?_, .threw T.heap.size, hrun, hend, Or.inr ⟨T.heap.size, rfl, cls, ce, locs, hx U hWs.alike f1 (fun q hq => f2 q hq (fun z hz => nomatch hz)), hce, hO.vm, hcl, hWs, hall, hf⟩⟩
  refine st1 _ ?_
  show Steps p.tables e below (T1.setTop { method := m, pc := pc + 3, locals := ls, stack := .ref T.heap.size :: rest, locked := none }) _
  jvm_step X₁.here [X₁.here.top, hexec, d3', Value.category]
  exact X₁.ldcString hexec (own := own) (text := text) (index := is) (a := sa) hown' hstr'.1 hstr'.2
    (g := { method := m, pc := pc + 4, locals := ls, stack := .ref T.heap.size :: .ref T.heap.size :: rest, locked := none }) rfl d4' _ hsteps
/-- 'throw new E("text")', the text by a wide index -/
theorem vx_throwSW {cc : ByteArray} {pc : Nat} (hexec : p.tables.exec = Jvm.exec) (hb : c.code = cc) (hl : l.stackTraces = false) {own cls text : String} {names : List String} {ik is ic mc ms sa : Nat} {A : Nat → Prop}
    (hown : s.vm.findClass own = some m.cls) (hcls : Bundle.fit cls = true) (hnames : ∀ n ∈ names, Bundle.fit n = true)
    (hk : (Cond.classLink own ik cls).before args s = true) (hini : (Cond.initialized cls).before args s = true) (hstr : vk_R own is text sa s) (hat : ∀ w ∈ vx_atS own ic cls names, w.before args s = true)
    (hgood : ∀ w ∈ Cond.classLink own ik cls :: Cond.initialized cls :: vx_atS own ic cls names, vx_ot w = true)
    (hU : vx_Zq Bundle.tN "UNASSIGNED_STACK" Bundle.steD A s s.heap) (hN : vx_Zq Bundle.tN "SUPPRESSED_SENTINEL" Bundle.listD A s s.heap) (hS : va_S A s.heap H locs) (hsize : ls.size = c.maxLocals)
    (d0 : decode cc pc = .ok (.new ik, 3)) (d3 : decode cc (pc + 3) = .ok (.dup, 1)) (d4 : decode cc (pc + 4) = .ok (.ldc_w is, 3)) (d7 : decode cc (pc + 7) = .ok (.invokespecial ic, 3)) (d10 : decode cc (pc + 10) = .ok (.athrow, 1))
    (hout : ∀ x ∈ c.exceptionTable.toList, covers x (pc + 10) = false)
    (hRframes : names.length + 3 < R.frames) (hRlocals : (rest.map fun v => v.category).sum + (13 * (names.length + 1) + 43) ≤ R.locals) (hRcells : cells + 1 ≤ R.cells) (hRslots : slots + 6 ≤ R.slots) (hlocks : meth.locks = false)
    (hx : ∀ t : State, s.vm.Alike t.vm → H.size ≤ t.heap.size → (∀ q : Nat, q < H.size → t.heap[q]? = H[q]?) → XC cls s t)
    (hf : ∀ z ∈ locs, free z.base) (hc : cells + 1 ≤ mc) (hs : slots + 6 ≤ ms) :
    W p l e R s m args below meth c H locs cells slots (vx_MQ below Qc XC args s mc ms free) (F0 m pc ls rest) := by
  intro T hT X
  have htr : e.platform.stackTraces = false := (show e.platform.stackTraces = l.stackTraces by rw [X.admits.platform]).trans hl
  have Y := vx_rebase X (R' := { frames := R.frames, locals := R.locals, cells := 1, slots := 6 }) (Nat.le_refl _) (Nat.le_refl _) hRcells hRslots
  obtain ⟨s', hA⟩ : ∃ z, z = (T.setVm s.vm).setFrames (.invoking m args :: below) := ⟨_, rfl⟩
  rw [← hA] at Y
  have hvm : s'.vm = s.vm := by rw [hA]; rfl
  have hhp : s'.heap = H := by rw [hA]; exact hT
  have hW0 : s.WarmedH s'.vm := by rw [hvm]; exact State.WarmedH.refl s
  have hat' : ∀ w ∈ vx_atS own ic cls names, w.before args s' = true := fun w hw => vx_ot_at hW0 hvm.symm (hgood w (List.mem_cons_of_mem _ (List.mem_cons_of_mem _ hw))) (hat w hw)
  have hk' : (Cond.classLink own ik cls).before args s' = true := vx_ot_at hW0 hvm.symm (hgood _ List.mem_cons_self) hk
  have hini' : (Cond.initialized cls).before args s' = true := vx_ot_at hW0 hvm.symm (hgood _ (List.mem_cons_of_mem _ List.mem_cons_self)) hini
  have hU' : vx_Zq Bundle.tN "UNASSIGNED_STACK" Bundle.steD A s' s'.heap := by rw [hhp]; exact vx_Zq.moved hW0.alike (hU.kept hS.2.1)
  have hN' : vx_Zq Bundle.tN "SUPPRESSED_SENTINEL" Bundle.listD A s' s'.heap := by rw [hhp]; exact vx_Zq.moved hW0.alike (hN.kept hS.2.1)
  have h : ∀ w ∈ Bundle.ownAtoms own ic cls names, w.before args s' = true := vx_own hat' (vx_isRefq hU'.1) (vx_isRefq hN'.1) hU'.2.word hN'.2.word
  have hown' : s'.vm.findClass own = some m.cls := by rw [hvm]; exact hown
  have hins : (Cond.instantiable cls 6).before args s' = true := h _ (by simp [Bundle.ownAtoms])
  obtain ⟨vm₁, cX, kX, hfX, hkX, -, -, X₁, st1⟩ := Y.newCold hexec (own := own) (C := cls) (index := ik) (n := 6) hown' hk' hins hini'
    (g := F0 m pc ls rest) rfl (by rw [hb]; exact d0) (Nat.le_refl _) (Nat.le_refl _)
  generalize hT1 : (T.setVm vm₁).pushCell { cls := cX, slots := kX.instanceTypes.map defaultValue, vm := .none } = T1 at X₁ st1
  have hcat : (Value.ref T.heap.size).category = 1 := rfl
  have hcellA : T1.heap[T.heap.size]? = some (freshCell cX kX) := by rw [← hT1]; exact State.heap_pushCell_size _ _
  have d3' : decode c.code (pc + 3) = .ok (.dup, 1) := by rw [hb]; exact d3
  have d4' : decode c.code (pc + 4) = .ok (.ldc_w is, 3) := by rw [hb]; exact d4
  have hstr' : vk_R own is text sa s' := vk_R.warm hW0 hstr
  obtain ⟨U, hsteps, hrun, hend, hW, hsame, ce, hce, hO⟩ := X₁.ctorThrowS hexec htr (own := own) (cls := cls) (names := names) (ic := ic) hown' hcls hnames h (fun x hx => nomatch hx) hfX hkX hcellA (by rw [hhp, hT]; exact Nat.le_refl _) (msg := .ref sa) rfl
    (g := { method := m, pc := pc + 7, locals := ls, stack := .ref sa :: .ref T.heap.size :: .ref T.heap.size :: rest, locked := none }) rfl hsize rfl rfl (rest := rest) rfl
    (by rw [hb]; exact d7) (by rw [hb]; exact d10) hout hRframes (by simp only [List.map_cons, List.sum_cons, hcat]; omega) hlocks
  obtain ⟨f1, f2⟩ := vx_frame hsame
  rw [hhp] at f1 f2
  have hWs : s.WarmedH U.vm := State.WarmedH.trans hW0 hW
  have hcl : s.vm.findClass cls = some ce.cls := by
    have h9 := hO.cls
    rw [hvm] at h9
    exact h9
  have hall : s.sameButNew ({ U with vm := s.vm } : State) locs mc ms := by
    subst hA
    obtain ⟨e1, e2⟩ := hsame
    rw [State.setFrames_setFrames] at e1
    have h2 : (T.setVm s.vm).sameButNew ({ U with vm := s.vm } : State) [] (0 + 1) (0 + 6) := ⟨e1, e2⟩
    have h3 := X.same.trans h2
    rw [List.append_nil] at h3
    exact h3.mono hc hs
  refine ⟨U, ?_, .threw T.heap.size, hrun, hend, Or.inr ⟨T.heap.size, rfl, cls, ce, locs, hx U hWs.alike f1 (fun q hq => f2 q hq (fun z hz => nomatch hz)), hce, hO.vm, hcl, hWs, hall, hf⟩⟩
  refine st1 _ ?_
  show Steps p.tables e below (T1.setTop { method := m, pc := pc + 3, locals := ls, stack := .ref T.heap.size :: rest, locked := none }) _
  jvm_step X₁.here [X₁.here.top, hexec, d3', Value.category]
  exact X₁.ldcStringW hexec (own := own) (text := text) (index := is) (a := sa) hown' hstr'.1 hstr'.2
    (g := { method := m, pc := pc + 4, locals := ls, stack := .ref T.heap.size :: .ref T.heap.size :: rest, locked := none }) rfl d4' _ hsteps
end Ends
section Bodies
variable {l : Launch}
theorem vx_ofW {y : MethodName} {ws ws' : List Cond} {rm : Room} {Pc : Array Value → State → Prop} {Qc : Array Value → State → Outcome → State → Prop} {XC : String → State → State → Prop} {mc ms : Nat} {free : Addr → Prop} {cc : ByteArray} {maxL : Nat} {ret : Option FieldType}
    (hy : plainName y.cls = true) (hw : ws = Cond.code y cc maxL ret :: ws')
    (body : ∀ p e s m args below meth c s₁, BodyLoose p l y (headSpec ws rm) cc maxL ret e s m args below meth c s₁ → c.maxLocals = maxL → (∀ x ∈ c.exceptionTable.toList, False) → Pc args s →
      W p l e (headSpec ws rm).room s m args below meth c s.heap [] 0 0 (vx_MQ below Qc XC args s mc ms free) (entryFrame m args maxL)) : vx_Met l y ws rm Pc Qc XC mc ms free := by
  refine MetFree.of_bodyS (code := cc) (maxLocals := maxL) (ret := ret) hy ?_ ?_
  · intro args s m h hn
    obtain ⟨meth, c, h1, h2, h3, h4, h5, h6, -, -⟩ := Cond.code_spec hn (atoms_spec (ws := ws) h _ (by rw [hw]; exact List.mem_cons_self))
    exact ⟨meth, c, h1, h2, h3, h4, h5, h6⟩
  · intro p e s m args below meth c s₁ B hml hP _
    have hh0 : s₁.heap = s.heap := by rw [B.state]; rfl
    have ht : ∀ x ∈ c.exceptionTable.toList, False := by
      obtain ⟨meth9, c9, h1, h2, -, -, -, -, h7, -⟩ := Cond.code_spec B.named (atoms_spec (ws := ws) B.pre _ (by rw [hw]; exact List.mem_cons_self))
      cases Option.some.inj (h1.symm.trans B.method)
      cases Option.some.inj (h2.symm.trans (Stand.of_body B).code)
      intro x hx
      rw [Array.isEmpty_iff.mp h7] at hx
      cases hx
    obtain ⟨t, a1, o, b1, b2, b3⟩ := body p e s m args below meth c s₁ B hml ht hP s₁ hh0 (Stand.of_body B)
    exact ⟨t, o, a1, b1, b2, b3⟩
/-- the table of a body with handlers -/
theorem vx_table {p : Program} {x y : MethodName} {S : Spec} {cc bytes : ByteArray} {maxL maxL' : Nat} {ret ret' : Option FieldType} {e : Env} {s s₁ : State} {m : MethodId} {args : Array Value} {below : List Frame} {meth : Method} {c : Code} {hh : List (Nat × Nat × Nat × Nat)}
    (B : BodyLoose p l y S cc maxL ret e s m args below meth c s₁) (h : (Cond.codeWith y bytes maxL' ret' hh).before args s = true) : c.exceptionTable.toList = tableOf hh := by
  obtain ⟨m9, meth9, c9, hn9, h1, h2, -, -, h6, -⟩ := Cond.codeWith_spec h
  cases Option.some.inj (hn9.symm.trans B.named)
  cases Option.some.inj (h1.symm.trans B.method)
  cases Option.some.inj (h2.symm.trans (Stand.of_body B).code)
  rw [← h6, table_eq]
end Bodies
end VXA
/-! ===== END ===== -/
/-! ===== BEGIN a static call of a method with an exception table ===== -/
section VXS
variable {p : Program} {l : Launch} {e : Env} {R : Room} {s : State} {m : MethodId} {args : Array Value} {below : List Frame} {meth : Method} {c : Code} {T : State} {H : Heap} {locs : List Loc} {cells slots : Nat}
abbrev vx_CSW (R : Room) (s : State) (args : Array Value) (own : String) (index : Nat) (y : MethodName) (bytes : ByteArray) (maxL : Nat) (ret : Option FieldType) (hh : List (Nat × Nat × Nat × Nat)) (ws : List Cond) (rm : Room) (mc ms n : Nat) : Prop :=
  (rm.cells = mc ∧ rm.slots = ms ∧ rm.frames + 1 ≤ R.frames ∧ 8 + (maxL + 11) + rm.locals ≤ R.locals ∧ (∀ w ∈ ws, ∀ (a' : Array Value) (U : State), s.WarmedH U.vm → w.before a' U = true) ∧ Cond.codeWith y bytes maxL ret hh ∈ ws) ∧
  (Cond.codeWith y bytes maxL ret hh).before args s = true ∧ (Cond.initialized y.cls).before args s = true ∧ (y.cls ≠ "java/lang/invoke/MethodHandle" ∧ y.cls ≠ "java/lang/invoke/VarHandle") ∧
  (∀ sig, parseMethodDescriptor y.desc = some sig → n = sig.parameters.length) ∧ (Cond.methodLink own index y).before args s = true ∧ (Cond.static y).before args s = true
theorem vx_cwSW {own : String} {index maxL mc ms : Nat} {y : MethodName} {bytes : ByteArray} {ret : Option FieldType} {hh : List (Nat × Nat × Nat × Nat)} {Ts ws ws' : List Cond} {rm : Room} (n : Nat) (ht : ∀ w ∈ Ts, w.before args s = true) (hT : GoodIn Ts (va_wsS own index y ws)) (hw : ws = Cond.codeWith y bytes maxL ret hh :: ws') (hrc : rm.cells = mc) (hrs : rm.slots = ms)
    (hd : y.cls ≠ "java/lang/invoke/MethodHandle" ∧ y.cls ≠ "java/lang/invoke/VarHandle" ∧ (parseMethodDescriptor y.desc).map (fun d => d.parameters.length) = some n) (hR : rm.frames + 1 ≤ R.frames ∧ 8 + (maxL + 11) + rm.locals ≤ R.locals) :
    vx_CSW R s args own index y bytes maxL ret hh ws rm mc ms n := by
  have ok : ∀ w ∈ va_wsS own index y ws, w.before args s = true := fun w h => ht w (hT w h).1
  have hG : GoodIn Ts ws := fun w h => hT w (by unfold va_wsS; exact List.mem_append_right _ h)
  have hc : Cond.codeWith y bytes maxL ret hh ∈ ws := by rw [hw]; exact List.mem_cons_self
  refine ⟨⟨hrc, hrs, hR.1, hR.2, pay_in ht hG, hc⟩, ht _ (hG _ hc).1, ok _ (by simp [va_wsS]), ⟨hd.1, hd.2.1⟩, fun sig h => ?_, ok _ (by simp [va_wsS]), ok _ (by simp [va_wsS])⟩
  have h2 := hd.2.2
  rw [h] at h2
  exact (Option.some.inj h2).symm
theorem vx_callSW (X : Stand p l e R s m args below meth c T locs cells slots) (hexec : p.tables.exec = Jvm.exec) {own : String} {index : Nat} {y : MethodName} {bytes : ByteArray} {maxL : Nat} {ret : Option FieldType} {hh : List (Nat × Nat × Nat × Nat)}
    (hown : s.vm.findClass own = some m.cls) (hlink : (Cond.methodLink own index y).before args s = true) (hstat : (Cond.static y).before args s = true) (hinit : (Cond.initialized y.cls).before args s = true)
    (hcode : (Cond.codeWith y bytes maxL ret hh).before args s = true) (hy : y.cls ≠ "java/lang/invoke/MethodHandle" ∧ y.cls ≠ "java/lang/invoke/VarHandle")
    {W9 : Nat} {Pre : Pt → Array Value → Prop} {Post : Pt → Array Value → Option Value → Pt → Prop} (hK : Back l R p e below s args y 3 W9 Pre Post)
    {g : JFrame} (hg : g.method = m) (hsize : g.locals.size = c.maxLocals) {argsL rest : List Value} (hlen : ∀ sig, parseMethodDescriptor y.desc = some sig → argsL.length = sig.parameters.length)
    (hstack : g.stack = argsL.reverse ++ rest) (hW : 2 * g.monitorRoom + (rest.map fun v => v.category).sum ≤ W9) (hdg : decode c.code g.pc = .ok (.invokestatic index, 3))
    (hpre : ∀ vm₁, s.WarmedH vm₁ → Pre ⟨T.setVm vm₁, locs, cells, slots⟩ argsL.toArray) :
    ∃ (v : Option Value) (vm₁ : Vm) (B : Pt), s.WarmedH vm₁ ∧ Stand p l e R s m args below meth c B.U B.locs B.cells B.slots ∧ Post ⟨T.setVm vm₁, locs, cells, slots⟩ argsL.toArray v B ∧
      ∀ target, Steps p.tables e below (B.U.setTop { g with pc := g.pc + 3, stack := v.toList ++ rest }) target → Steps p.tables e below (T.setTop g) target := by
  obtain ⟨mk, methM, cM, hnamed, hmethM, -, -, -, -, -, -, hsigM⟩ := Cond.codeWith_spec hcode
  have hstatic : methM.isStatic = true := Cond.static_spec hnamed hmethM hstat
  obtain ⟨kP, hkP, -⟩ := className_of_methodNamed hnamed
  have hinitP : kP.init = .initialized := Cond.initialized_spec (findClass_of_methodNamed hnamed) hkP hinit
  obtain ⟨vm₁, X₁, hstep₁⟩ := X.invokestatic hexec hown hlink hnamed hmethM hstatic hkP hinitP hy (g := g) hg (argsL := argsL) (rest := rest) (hlen _ hsigM) hstack hdg
  obtain ⟨v, B, X', hpost, hsteps⟩ := hK m meth c ⟨T.setVm vm₁, locs, cells, slots⟩ { g with stack := rest } (.invokestatic index) mk argsL.toArray X₁ hg hsize hdg hW (X₁.named hnamed) (hpre vm₁ X₁.warmed)
  exact ⟨v, vm₁, B, X₁.warmed, X', hpost, fun target h => hstep₁ _ fun acts => by rw [doInvoke_state]; exact hsteps.trans h⟩
theorem vx_runSW {y : MethodName} {bytes cc : ByteArray} {maxL nL mc ms n index : Nat} {ret : Option FieldType} {hh : List (Nat × Nat × Nat × Nat)} {ws : List Cond} {rm : Room} {Pc : Array Value → State → Prop} {Qc : Array Value → State → Outcome → State → Prop} {free : Addr → Prop} {Ts : List Cond} {own : String} {As rest : List Value} {g : JFrame}
    (S : CallFix p m c cc nL s args Ts own) (hM : Met l y ws rm Pc Qc mc ms free) (cw : vx_CSW R s args own index y bytes maxL ret hh ws rm mc ms n) (hp : PreS s H Pc As)
    (hg : g.method = m) (hn : As.length = n) (hsize : g.locals.size = nL) (hstack : g.stack = As.reverse ++ rest) (hW : 2 * g.monitorRoom + (rest.map fun v => v.category).sum ≤ 8) (hdg : decode cc g.pc = .ok (.invokestatic index, 3)) (hf : cells + mc ≤ R.cells ∧ slots + ms ≤ R.slots) :
    va_Run p l e R s m args below meth c H locs cells slots mc ms g rest (Qc As.toArray) (free) := by
  obtain ⟨⟨hrc, hrs, hfr, hlo, hws, hcw⟩, hcode, hini, hy, hlen, hl, hstt⟩ := cw
  have hK : Back l R p e below s args y 3 8 (PreOf R mc ms Pc) (PostOf Qc mc ms free) := va_backW (hh := hh) (bytes := bytes) (maxL := maxL) (ret := ret) hM hp.1 hrc hrs hfr hlo hws hcw (fun a' U hW => word_at hW (Or.inl (by first | rfl | simp [Cond.onTables, Cond.keeps, Cond.steady])) hini)
  obtain ⟨hx, hb, hml, ho, -⟩ := S
  intro T hT X
  obtain ⟨v, vm₁, ⟨U', l2, c2, s2⟩, hW₁, X', ⟨g', mk, t, L, e1, e2, hq, h1, hL, h2, h3⟩, st⟩ := vx_callSW X hx (hh := hh) (bytes := bytes) (maxL := maxL) (ret := ret) ho hl hstt hini hcode hy hK hg (hsize.trans hml.symm) (argsL := As) (rest := rest) (fun sig h => hn.trans (hlen sig h)) hstack hW (by rw [hb]; exact hdg)
    (fun vm₁ hW₁ => ⟨hf.1, hf.2, hp.2 (T.setVm vm₁) hT hW₁⟩)
  dsimp only [Pt.U, Pt.locs, Pt.cells, Pt.slots] at X' e1 e2 h1 h2 h3 st
  subst h1; subst h2; subst h3
  exact ⟨v, (T.setVm vm₁).calling g' mk As.toArray, t, U', L, hT, X', hL, e1, e2, hq, st⟩
/-- not caught here, past rows that name other classes: it goes on to the caller -/
theorem vx_outP {p : Program} {l : Launch} {e : Env} {R : Room} {s : State} {m : MethodId} {args : Array Value} {below : List Frame} {meth : Method} {c : Code} {H : Heap} {locs : List Loc} {cells slots : Nat} {free : Addr → Prop} {ls : Array Slot} {rest : List Value} {Qc : Array Value → State → Outcome → State → Prop} {XC : String → State → State → Prop}
    {pc : Nat} {own E : String} {ce : Cell} {q : Addr} {mc ms : Nat} (hown : s.vm.findClass own = some m.cls) (hlocks : meth.locks = false)
    (hpass : ∀ z ∈ c.exceptionTable.toList, covers z pc = false ∨ (z.catchType ≠ 0 ∧ ∃ nm : String, (Cond.classLink own z.catchType nm).before args s = true ∧ va_Nc E nm s)) (hcell : H[q]? = some ce) (hv : ce.vm = .none) (hcl : s.vm.findClass E = some ce.cls)
    (hx : ∀ t : State, t.heap = H → s.vm.Alike t.vm → XC E s t) (hf : ∀ z ∈ locs, free z.base) (hc : cells ≤ mc) (hs : slots ≤ ms) :
    vx_W p l e R s m args below meth c H locs cells slots (vx_MQ below Qc XC args s mc ms free) (F0 m pc ls rest) q := by
  intro T hT X
  have hpl : e.platform.magicAccessors = ({} : Platform).magicAccessors := by rw [X.admits.platform]
  obtain ⟨vm', hW', X', st⟩ := X.outThrough hlocks q (g := F0 m pc ls rest) rfl rfl rfl (cell := ce) (by rw [hT]; exact hcell) (by rw [hv]; rfl)
    (by obtain ⟨k9, h9, -⟩ := Vm.findClass_spec hcl; exact ⟨k9, h9⟩) (fun z hz => by
      rcases hpass z hz with h | ⟨hz0, nm, hl1, hn1⟩
      · exact Or.inl h
      · obtain ⟨c6, hc6, hcl6⟩ := Cond.classLink_spec hown hl1 e.platform hpl
        obtain ⟨a8, b8, h1, h2, h3⟩ := hn1
        cases Option.some.inj (h1.symm.trans hcl)
        cases Option.some.inj (h2.symm.trans hc6)
        exact Or.inr ⟨hz0, _, hcl6, h3⟩)
  obtain ⟨g₀, hfr⟩ := X'.frames_eq
  have hcell9 : ((T.setVm vm').setFrames (.throwing q :: below)).heap[q]? = some ce := by
    show T.heap[q]? = some ce
    rw [hT]; exact hcell
  have hend : Ended ((T.setVm vm').setFrames (.throwing q :: below)) below (.threw q) := State.frames_setFrames _ (State.cur_lt_of_frames hfr)
  refine ⟨(T.setVm vm').setFrames (.throwing q :: below), ?_, .threw q, X'.here.running, hend, Or.inr ⟨q, rfl, E, ce, locs, hx _ hT (X'.ends _).1.alike, hcell9, hv, hcl, (X'.ends _).1, (X'.ends _).2.mono hc hs, hf⟩⟩
  rw [X.pushThrowing_eq]
  exact st
/-- a thing of a world lies in the heap -/
theorem vx_lt {D : va_G} {cl : List vw_C} {ws : va_W} {H1 : Heap} (h : va_P D cl ws H1) {k : Nat} {q : Nat × va_E} (hk : ws[k]? = some q) : q.1 < H1.size := (h k q hk).lt
end VXS
/-! ===== END ===== -/
/-! ===== BEGIN methods with a table of their own: called by a name, returning or throwing ===== -/
section VXH
/-! vx_backW, vx_callVX, vx_callSX, vx_callVW, vx_runVW, vx_runVX, vx_runSX, vx_ofWH follow the same proofs as their sisters above (Free/Laws.lean, Shelf42/LK1.lean); vx_outP calls Shelf42/NT130.lean (outThrough). -/
section
variable {l : Launch} {R : Room} {p : Program} {e : Env} {below : List Frame} {s : State} {sargs : Array Value} {y : MethodName} {len W9 : Nat}
theorem vx_backW {ws : List Cond} {rm : Room} {Pc : Array Value → State → Prop} {Qc : Array Value → State → Outcome → State → Prop} {XC : String → State → State → Prop} {mc ms : Nat} {free : Addr → Prop} {bytes : ByteArray} {maxL : Nat} {ret : Option FieldType} {hh : List (Nat × Nat × Nat × Nat)}
    (hM : vx_Met l y ws rm Pc Qc XC mc ms free) (hblind : FrameBlind Pc) (hrc : rm.cells = mc) (hrs : rm.slots = ms)
    (hframes : rm.frames + 1 ≤ R.frames) (hlocals : W9 + (maxL + 11) + rm.locals ≤ R.locals)
    (hws : ∀ w ∈ ws, ∀ a' U, s.WarmedH U.vm → w.before a' U = true) (hcode : Cond.codeWith y bytes maxL ret hh ∈ ws) (hinit : ∀ a' U, s.WarmedH U.vm → (Cond.initialized y.cls).before a' U = true) :
    vx_Back l R p e below s sargs y len W9 (PreOf R mc ms Pc) (PostOf Qc mc ms free) (vx_Post XC mc ms free) := by
  intro m meth c A g ig mk a X hg hsize hdg hW hn hp
  have h1 : (headSpec ws rm).pre.before a A.U = true := atoms_intro fun w hw => hws w hw _ _ X.warmed
  have h2 : (Cond.codeWith y bytes maxL ret hh).before a A.U = true := hws _ hcode _ _ X.warmed
  have h3 : (Cond.initialized y.cls).before a A.U = true := hinit _ _ X.warmed
  have h4 : A.cells + (headSpec ws rm).room.cells ≤ R.cells := by rw [show (headSpec ws rm).room.cells = mc from hrc]; exact hp.1
  have h5 : A.slots + (headSpec ws rm).room.slots ≤ R.slots := by rw [show (headSpec ws rm).room.slots = ms from hrs]; exact hp.2.1
  have hPc : Pc a (A.U.calling g mk a) := hblind _ _ _ _ hp.2.2
  obtain ⟨U, Ls, c0, s0⟩ := A
  dsimp only [Pt.U, Pt.locs, Pt.cells, Pt.slots] at h1 h2 h3 h4 h5 X hn hPc ⊢
  obtain ⟨m9, methY, cY, hn9, hmY, hcY, -, hlY, -⟩ := Cond.codeWith_spec h2
  cases Option.some.inj (hn9.symm.trans hn)
  obtain ⟨kY, hkY, -⟩ := className_of_methodNamed hn
  have hinitY : kY.init = .initialized := Cond.initialized_spec (findClass_of_methodNamed hn) hkY h3
  have h : At U g.method c below := by rw [hg]; exact X.here
  have hlocals9 : W9 + (maxL + 11) + (headSpec ws rm).room.locals ≤ R.locals := hlocals
  have happ : (headSpec ws rm).appliesLoose y e.platform (U.calling g mk a) = true :=
    Spec.appliesLoose_calling (g := g) h hdg hn hkY hinitY
      (X.room_calling (g := g) (R' := (headSpec ws rm).room) hsize hmY hcY hframes (by rw [hlY]; omega) h4 h5) h1
  obtain ⟨mid, hmid⟩ := h.above
  have hfr : (U.setTop g).frames = (.java g :: mid) ++ below := by rw [State.frames_setTop' g h.top, hmid]; rfl
  obtain ⟨o, s₂, hsteps, -, hend, hq⟩ := Steps.callFree hM p X.admits X.cas X.clock (acts := []) hfr happ hPc trivial
  have hq' : vx_Q Qc XC mc ms free a (U.calling g mk a) o s₂ := hq
  rw [State.frames_setTop' g h.top] at hend
  obtain ⟨g₀, hg0⟩ := Option.isSome_iff_exists.mp h.top
  obtain ⟨r, hr⟩ := State.topJava?_eq_some.mp hg0
  have hr' : (({ U with heap := s₂.heap, slotsUsed := s₂.slotsUsed } : State).setVm s₂.vm).frames = .java g₀ :: r := hr
  rcases hq' with ⟨hqc, L, hfe, hL⟩ | ⟨q, rfl, E, ce, L, hx, hce, hcv, hcl, hW₂, hsm, hL⟩
  · obtain ⟨⟨v, rfl⟩, hW₂, e2, q2, q3, q4, q5, q6⟩ := id hfe
    have e3 : s₂ = ({ (U.calling g mk a).setFrames s₂.frames with heap := s₂.heap, slotsUsed := s₂.slotsUsed } : State).setVm s₂.vm := by
      have : s₂ = ({ s₂ with vm := (U.calling g mk a).vm } : State).setVm s₂.vm := rfl
      rw [e2] at this
      exact this
    obtain ⟨c₂, i₂, len₂, hc₂, hd₂, hf₂⟩ := hend
    have hW' : U.WarmedH s₂.vm := hW₂
    have hcc : c₂ = c := by
      have h1 : s₂.code? g.method = U.code? g.method := by
        rw [State.code?_eq, State.code?_eq, hW'.alike.method?]
      exact Option.some.inj (hc₂.symm.trans (h1.trans h.code))
    subst hcc
    have hlen : len₂ = len := by rw [hdg] at hd₂; cases hd₂; rfl
    subst hlen
    have hs₂ : s₂ = (({ U with heap := s₂.heap, slotsUsed := s₂.slotsUsed } : State).setVm s₂.vm).setTop { g with pc := g.pc + len₂, stack := v.toList ++ g.stack } := by
      refine e3.trans ?_
      rw [hf₂, State.calling_eq h.top, State.setFrames_setFrames, State.setTop_of_frames _ hr', hr]
      rfl
    have hsame : U.sameButNew ({ U with heap := s₂.heap, slotsUsed := s₂.slotsUsed } : State) L mc ms := by
      refine ⟨?_, q2, q3, q4, q5, q6⟩
      obtain ⟨t, ht, -⟩ := State.frames_cons hr
      show ({ U with heap := s₂.heap, slotsUsed := s₂.slotsUsed } : State) = { U.setFrames U.frames with heap := s₂.heap, slotsUsed := s₂.slotsUsed }
      rw [State.setFrames_self ht]
    subst hg
    refine Or.inl ⟨v, ⟨(({ U with heap := s₂.heap, slotsUsed := s₂.slotsUsed } : State).setVm s₂.vm), Ls ++ L, c0 + mc, s0 + ms⟩,
      ⟨X.admits, X.cas, X.clock, X.frames, X.room, X.hears, X.method, X.code, (X.here.setHeapUsed s₂.heap s₂.slotsUsed).setVm hW'.alike, X.tail, State.WarmedH.trans X.warmed hW', X.limits, X.bytes, X.same.trans (hsame.setVm s.vm)⟩,
      ⟨g, mk, s₂, L, rfl, rfl, hqc, rfl, hL, rfl, rfl⟩, ?_⟩
    show Steps p.tables e below _ ((({ U with heap := s₂.heap, slotsUsed := s₂.slotsUsed } : State).setVm s₂.vm).setTop { g with pc := g.pc + len₂, stack := v.toList ++ g.stack })
    rw [← hs₂]
    exact hsteps
  · obtain ⟨e2, q2, q3, q4, q5, q6⟩ := id hsm
    have e3 : s₂ = ({ (U.calling g mk a).setFrames s₂.frames with heap := s₂.heap, slotsUsed := s₂.slotsUsed } : State).setVm s₂.vm := by
      have : s₂ = ({ s₂ with vm := (U.calling g mk a).vm } : State).setVm s₂.vm := rfl
      rw [e2] at this
      exact this
    have hf₂ : s₂.frames = .throwing q :: .java g :: U.frames.tail := hend
    have hW' : U.WarmedH s₂.vm := hW₂
    have hs₂ : s₂ = ((({ U with heap := s₂.heap, slotsUsed := s₂.slotsUsed } : State).setVm s₂.vm).setTop g).pushFrame (.throwing q) := by
      refine e3.trans ?_
      rw [hf₂, State.calling_eq h.top, State.setFrames_setFrames, State.pushFrame, State.frames_setTop _ hr', State.setTop_of_frames _ hr', State.setFrames_setFrames, hr]
      rfl
    have hsame : U.sameButNew ({ U with heap := s₂.heap, slotsUsed := s₂.slotsUsed } : State) L mc ms := by
      refine ⟨?_, q2, q3, q4, q5, q6⟩
      obtain ⟨t, ht, -⟩ := State.frames_cons hr
      show ({ U with heap := s₂.heap, slotsUsed := s₂.slotsUsed } : State) = { U.setFrames U.frames with heap := s₂.heap, slotsUsed := s₂.slotsUsed }
      rw [State.setFrames_self ht]
    subst hg
    refine Or.inr ⟨q, ⟨(({ U with heap := s₂.heap, slotsUsed := s₂.slotsUsed } : State).setVm s₂.vm), Ls ++ L, c0 + mc, s0 + ms⟩,
      ⟨X.admits, X.cas, X.clock, X.frames, X.room, X.hears, X.method, X.code, (X.here.setHeapUsed s₂.heap s₂.slotsUsed).setVm hW'.alike, X.tail, State.WarmedH.trans X.warmed hW', X.limits, X.bytes, X.same.trans (hsame.setVm s.vm)⟩,
      ⟨g, mk, s₂, L, E, ce, rfl, rfl, hx, hce, hcv, hcl, rfl, hL, rfl, rfl⟩, ?_⟩
    show Steps p.tables e below _ (((({ U with heap := s₂.heap, slotsUsed := s₂.slotsUsed } : State).setVm s₂.vm).setTop g).pushFrame (.throwing q))
    rw [← hs₂]
    exact hsteps
end
variable {p : Program} {l : Launch} {e : Env} {R : Room} {s : State} {m : MethodId} {args : Array Value} {below : List Frame} {meth : Method} {c : Code} {T : State} {H : Heap} {locs : List Loc} {cells slots : Nat}
theorem vx_callVX (X : Stand p l e R s m args below meth c T locs cells slots) (hexec : p.tables.exec = Jvm.exec) {own C : String} {index : Nat} {y : MethodName} {bytes : ByteArray} {maxL : Nat} {ret : Option FieldType} {hh : List (Nat × Nat × Nat × Nat)}
    (hown : s.vm.findClass own = some m.cls) (hlink : (Cond.methodLink own index y).before args s = true) (hinst : (Cond.instanceMethod y).before args s = true) (hsel : (Cond.selects C y y).before args s = true)
    (hcode : (Cond.codeWith y bytes maxL ret hh).before args s = true) (hy : y.cls ≠ "java/lang/invoke/MethodHandle" ∧ y.cls ≠ "java/lang/invoke/VarHandle")
    {W9 : Nat} {Pre : Pt → Array Value → Prop} {Post : Pt → Array Value → Option Value → Pt → Prop} {PostX : Pt → Array Value → Addr → Pt → Prop} (hK : vx_Back l R p e below s args y 3 W9 Pre Post PostX)
    {b : Addr} {cellB : Cell} (hcell : T.heap[b]? = some cellB) (hobj : cellB.vm.isStatics = false) (hcls : s.vm.findClass C = some cellB.cls)
    {g : JFrame} (hg : g.method = m) (hsize : g.locals.size = c.maxLocals) {argsL rest : List Value} (hlen : ∀ sig, parseMethodDescriptor y.desc = some sig → argsL.length = sig.parameters.length)
    (hstack : g.stack = argsL.reverse ++ .ref b :: rest) (hW : 2 * g.monitorRoom + (rest.map fun v => v.category).sum ≤ W9) (hdg : decode c.code g.pc = .ok (.invokevirtual index, 3))
    (hpre : ∀ vm₁, s.WarmedH vm₁ → Pre ⟨T.setVm vm₁, locs, cells, slots⟩ (Value.ref b :: argsL).toArray) :
    (∃ (v : Option Value) (vm₁ : Vm) (B : Pt), s.WarmedH vm₁ ∧ Stand p l e R s m args below meth c B.U B.locs B.cells B.slots ∧ Post ⟨T.setVm vm₁, locs, cells, slots⟩ (Value.ref b :: argsL).toArray v B ∧
      ∀ target, Steps p.tables e below (B.U.setTop { g with pc := g.pc + 3, stack := v.toList ++ rest }) target → Steps p.tables e below (T.setTop g) target) ∨
    (∃ (q : Addr) (vm₁ : Vm) (B : Pt), s.WarmedH vm₁ ∧ Stand p l e R s m args below meth c B.U B.locs B.cells B.slots ∧ PostX ⟨T.setVm vm₁, locs, cells, slots⟩ (Value.ref b :: argsL).toArray q B ∧
      Steps p.tables e below (T.setTop g) ((B.U.setTop { g with stack := rest }).pushFrame (.throwing q))) := by
  obtain ⟨mk, methM, hnamed, hmethM, hstM, habM⟩ := Cond.instanceMethod_spec hinst
  obtain ⟨m8, methM', cM, hn8, hmethM', -, -, -, -, -, -, hsigM⟩ := Cond.codeWith_spec hcode
  cases Option.some.inj (hn8.symm.trans hnamed)
  cases hmethM.symm.trans hmethM'
  obtain ⟨c2, r2, m2, q1, q2, q3, q4, kP, hkP, hkPi⟩ := Cond.selects_spec hsel
  cases hcls.symm.trans q1
  cases (State.methodFound?_of_named hnamed hy).symm.trans q2
  cases hnamed.symm.trans q3
  have hselP : selectMethod e.platform s.vm cellB.cls mk = .method mk := by rw [Launch.admits_selectMethod X.admits]; exact q4
  obtain ⟨vm₁, X₁, hstep₁⟩ := X.invokevirtual hexec hown hlink hnamed hmethM hstM hkP hkPi hy (a := b) (cell := cellB) hcell
    (fun z h => by rw [h] at hobj; cases hobj) hselP hmethM habM hkP hkPi (g := g) hg (argsL := argsL) (rest := rest) (hlen _ hsigM) hstack hdg
  rcases hK m meth c ⟨T.setVm vm₁, locs, cells, slots⟩ { g with stack := rest } (.invokevirtual index) mk (Value.ref b :: argsL).toArray X₁ hg hsize hdg hW (X₁.named hnamed) (hpre vm₁ X₁.warmed) with ⟨v, B, X', hpost, hsteps⟩ | ⟨q, B, X', hpost, hsteps⟩
  · exact Or.inl ⟨v, vm₁, B, X₁.warmed, X', hpost, fun target h => hstep₁ _ fun acts => by rw [doInvoke_state]; exact hsteps.trans h⟩
  · exact Or.inr ⟨q, vm₁, B, X₁.warmed, X', hpost, hstep₁ _ fun acts => by rw [doInvoke_state]; exact hsteps⟩
theorem vx_callSX (X : Stand p l e R s m args below meth c T locs cells slots) (hexec : p.tables.exec = Jvm.exec) {own : String} {index : Nat} {y : MethodName} {bytes : ByteArray} {maxL : Nat} {ret : Option FieldType} {hh : List (Nat × Nat × Nat × Nat)}
    (hown : s.vm.findClass own = some m.cls) (hlink : (Cond.methodLink own index y).before args s = true) (hstat : (Cond.static y).before args s = true) (hinit : (Cond.initialized y.cls).before args s = true)
    (hcode : (Cond.codeWith y bytes maxL ret hh).before args s = true) (hy : y.cls ≠ "java/lang/invoke/MethodHandle" ∧ y.cls ≠ "java/lang/invoke/VarHandle")
    {W9 : Nat} {Pre : Pt → Array Value → Prop} {Post : Pt → Array Value → Option Value → Pt → Prop} {PostX : Pt → Array Value → Addr → Pt → Prop} (hK : vx_Back l R p e below s args y 3 W9 Pre Post PostX)
    {g : JFrame} (hg : g.method = m) (hsize : g.locals.size = c.maxLocals) {argsL rest : List Value} (hlen : ∀ sig, parseMethodDescriptor y.desc = some sig → argsL.length = sig.parameters.length)
    (hstack : g.stack = argsL.reverse ++ rest) (hW : 2 * g.monitorRoom + (rest.map fun v => v.category).sum ≤ W9) (hdg : decode c.code g.pc = .ok (.invokestatic index, 3))
    (hpre : ∀ vm₁, s.WarmedH vm₁ → Pre ⟨T.setVm vm₁, locs, cells, slots⟩ argsL.toArray) :
    (∃ (v : Option Value) (vm₁ : Vm) (B : Pt), s.WarmedH vm₁ ∧ Stand p l e R s m args below meth c B.U B.locs B.cells B.slots ∧ Post ⟨T.setVm vm₁, locs, cells, slots⟩ argsL.toArray v B ∧
      ∀ target, Steps p.tables e below (B.U.setTop { g with pc := g.pc + 3, stack := v.toList ++ rest }) target → Steps p.tables e below (T.setTop g) target) ∨
    (∃ (q : Addr) (vm₁ : Vm) (B : Pt), s.WarmedH vm₁ ∧ Stand p l e R s m args below meth c B.U B.locs B.cells B.slots ∧ PostX ⟨T.setVm vm₁, locs, cells, slots⟩ argsL.toArray q B ∧
      Steps p.tables e below (T.setTop g) ((B.U.setTop { g with stack := rest }).pushFrame (.throwing q))) := by
  obtain ⟨mk, methM, cM, hnamed, hmethM, -, -, -, -, -, -, hsigM⟩ := Cond.codeWith_spec hcode
  have hstatic : methM.isStatic = true := Cond.static_spec hnamed hmethM hstat
  obtain ⟨kP, hkP, -⟩ := className_of_methodNamed hnamed
  have hinitP : kP.init = .initialized := Cond.initialized_spec (findClass_of_methodNamed hnamed) hkP hinit
  obtain ⟨vm₁, X₁, hstep₁⟩ := X.invokestatic hexec hown hlink hnamed hmethM hstatic hkP hinitP hy (g := g) hg (argsL := argsL) (rest := rest) (hlen _ hsigM) hstack hdg
  rcases hK m meth c ⟨T.setVm vm₁, locs, cells, slots⟩ { g with stack := rest } (.invokestatic index) mk argsL.toArray X₁ hg hsize hdg hW (X₁.named hnamed) (hpre vm₁ X₁.warmed) with ⟨v, B, X', hpost, hsteps⟩ | ⟨q, B, X', hpost, hsteps⟩
  · exact Or.inl ⟨v, vm₁, B, X₁.warmed, X', hpost, fun target h => hstep₁ _ fun acts => by rw [doInvoke_state]; exact hsteps.trans h⟩
  · exact Or.inr ⟨q, vm₁, B, X₁.warmed, X', hpost, hstep₁ _ fun acts => by rw [doInvoke_state]; exact hsteps⟩
theorem vx_callVW (X : Stand p l e R s m args below meth c T locs cells slots) (hexec : p.tables.exec = Jvm.exec) {own C : String} {index : Nat} {y : MethodName} {bytes : ByteArray} {maxL : Nat} {ret : Option FieldType} {hh : List (Nat × Nat × Nat × Nat)}
    (hown : s.vm.findClass own = some m.cls) (hlink : (Cond.methodLink own index y).before args s = true) (hinst : (Cond.instanceMethod y).before args s = true) (hsel : (Cond.selects C y y).before args s = true)
    (hcode : (Cond.codeWith y bytes maxL ret hh).before args s = true) (hy : y.cls ≠ "java/lang/invoke/MethodHandle" ∧ y.cls ≠ "java/lang/invoke/VarHandle")
    {W9 : Nat} {Pre : Pt → Array Value → Prop} {Post : Pt → Array Value → Option Value → Pt → Prop} (hK : Back l R p e below s args y 3 W9 Pre Post)
    {b : Addr} {cellB : Cell} (hcell : T.heap[b]? = some cellB) (hobj : cellB.vm.isStatics = false) (hcls : s.vm.findClass C = some cellB.cls)
    {g : JFrame} (hg : g.method = m) (hsize : g.locals.size = c.maxLocals) {argsL rest : List Value} (hlen : ∀ sig, parseMethodDescriptor y.desc = some sig → argsL.length = sig.parameters.length)
    (hstack : g.stack = argsL.reverse ++ .ref b :: rest) (hW : 2 * g.monitorRoom + (rest.map fun v => v.category).sum ≤ W9) (hdg : decode c.code g.pc = .ok (.invokevirtual index, 3))
    (hpre : ∀ vm₁, s.WarmedH vm₁ → Pre ⟨T.setVm vm₁, locs, cells, slots⟩ (Value.ref b :: argsL).toArray) :
    ∃ (v : Option Value) (vm₁ : Vm) (B : Pt), s.WarmedH vm₁ ∧ Stand p l e R s m args below meth c B.U B.locs B.cells B.slots ∧ Post ⟨T.setVm vm₁, locs, cells, slots⟩ (Value.ref b :: argsL).toArray v B ∧
      ∀ target, Steps p.tables e below (B.U.setTop { g with pc := g.pc + 3, stack := v.toList ++ rest }) target → Steps p.tables e below (T.setTop g) target := by
  obtain ⟨mk, methM, hnamed, hmethM, hstM, habM⟩ := Cond.instanceMethod_spec hinst
  obtain ⟨m8, methM', cM, hn8, hmethM', -, -, -, -, -, -, hsigM⟩ := Cond.codeWith_spec hcode
  cases Option.some.inj (hn8.symm.trans hnamed)
  cases hmethM.symm.trans hmethM'
  obtain ⟨c2, r2, m2, q1, q2, q3, q4, kP, hkP, hkPi⟩ := Cond.selects_spec hsel
  cases hcls.symm.trans q1
  cases (State.methodFound?_of_named hnamed hy).symm.trans q2
  cases hnamed.symm.trans q3
  have hselP : selectMethod e.platform s.vm cellB.cls mk = .method mk := by rw [Launch.admits_selectMethod X.admits]; exact q4
  obtain ⟨vm₁, X₁, hstep₁⟩ := X.invokevirtual hexec hown hlink hnamed hmethM hstM hkP hkPi hy (a := b) (cell := cellB) hcell
    (fun z h => by rw [h] at hobj; cases hobj) hselP hmethM habM hkP hkPi (g := g) hg (argsL := argsL) (rest := rest) (hlen _ hsigM) hstack hdg
  obtain ⟨v, B, X', hpost, hsteps⟩ := hK m meth c ⟨T.setVm vm₁, locs, cells, slots⟩ { g with stack := rest } (.invokevirtual index) mk (Value.ref b :: argsL).toArray X₁ hg hsize hdg hW (X₁.named hnamed) (hpre vm₁ X₁.warmed)
  exact ⟨v, vm₁, B, X₁.warmed, X', hpost, fun target h => hstep₁ _ fun acts => by rw [doInvoke_state]; exact hsteps.trans h⟩
abbrev vx_CVW (R : Room) (s : State) (args : Array Value) (own C : String) (index : Nat) (y : MethodName) (bytes : ByteArray) (maxL : Nat) (ret : Option FieldType) (hh : List (Nat × Nat × Nat × Nat)) (ws : List Cond) (rm : Room) (mc ms n : Nat) : Prop :=
  (rm.cells = mc ∧ rm.slots = ms ∧ rm.frames + 1 ≤ R.frames ∧ 8 + (maxL + 11) + rm.locals ≤ R.locals ∧ (∀ w ∈ ws, ∀ (a' : Array Value) (U : State), s.WarmedH U.vm → w.before a' U = true) ∧ Cond.codeWith y bytes maxL ret hh ∈ ws) ∧
  (Cond.codeWith y bytes maxL ret hh).before args s = true ∧ (Cond.initialized y.cls).before args s = true ∧ (y.cls ≠ "java/lang/invoke/MethodHandle" ∧ y.cls ≠ "java/lang/invoke/VarHandle") ∧
  (∀ sig, parseMethodDescriptor y.desc = some sig → n = sig.parameters.length) ∧ (Cond.methodLink own index y).before args s = true ∧ (Cond.instanceMethod y).before args s = true ∧ (Cond.selects C y y).before args s = true
theorem vx_cwVW {own C : String} {index maxL mc ms : Nat} {y : MethodName} {bytes : ByteArray} {ret : Option FieldType} {hh : List (Nat × Nat × Nat × Nat)} {Ts ws ws' : List Cond} {rm : Room} (n : Nat) (ht : ∀ w ∈ Ts, w.before args s = true) (hT : GoodIn Ts (wsV own index C y ws)) (hw : ws = Cond.codeWith y bytes maxL ret hh :: ws') (hrc : rm.cells = mc) (hrs : rm.slots = ms)
    (hd : y.cls = C ∧ y.cls ≠ "java/lang/invoke/MethodHandle" ∧ y.cls ≠ "java/lang/invoke/VarHandle" ∧ (parseMethodDescriptor y.desc).map (fun d => d.parameters.length) = some n) (hR : rm.frames + 1 ≤ R.frames ∧ 8 + (maxL + 11) + rm.locals ≤ R.locals) :
    vx_CVW R s args own C index y bytes maxL ret hh ws rm mc ms n := by
  obtain ⟨hC, hd⟩ := hd
  subst hC
  have ok : ∀ w ∈ wsV own index y.cls y ws, w.before args s = true := fun w h => ht w (hT w h).1
  have hG : GoodIn Ts ws := fun w h => hT w (by unfold wsV; exact List.mem_append_right _ h)
  have hc : Cond.codeWith y bytes maxL ret hh ∈ ws := by rw [hw]; exact List.mem_cons_self
  refine ⟨⟨hrc, hrs, hR.1, hR.2, pay_in ht hG, hc⟩, ht _ (hG _ hc).1, ok _ (by simp [wsV]), ⟨hd.1, hd.2.1⟩, fun sig h => ?_, ok _ (by simp [wsV]), ok _ (by simp [wsV]), ok _ (by simp [wsV])⟩
  have h2 := hd.2.2
  rw [h] at h2
  exact (Option.some.inj h2).symm
theorem vx_runVW {y : MethodName} {bytes cc : ByteArray} {maxL nL mc ms n index : Nat} {ret : Option FieldType} {hh : List (Nat × Nat × Nat × Nat)} {ws : List Cond} {rm : Room} {Pc : Array Value → State → Prop} {Qc : Array Value → State → Outcome → State → Prop} {free : Addr → Prop} {Ts : List Cond} {own C : String} {b : Addr} {As rest : List Value} {g : JFrame}
    (S : CallFix p m c cc nL s args Ts own) (hM : Met l y ws rm Pc Qc mc ms free) (cw : vx_CVW R s args own C index y bytes maxL ret hh ws rm mc ms n) (hp : PreV s H C b Pc As)
    (hg : g.method = m) (hn : As.length = n) (hsize : g.locals.size = nL) (hstack : g.stack = As.reverse ++ .ref b :: rest) (hW : 2 * g.monitorRoom + (rest.map fun v => v.category).sum ≤ 8) (hdg : decode cc g.pc = .ok (.invokevirtual index, 3)) (hf : cells + mc ≤ R.cells ∧ slots + ms ≤ R.slots) :
    va_Run p l e R s m args below meth c H locs cells slots mc ms g rest (Qc (Value.ref b :: As).toArray) free := by
  obtain ⟨⟨hrc, hrs, hfr, hlo, hws, hcw⟩, hcode, hini, hy, hlen, hl, hin, hse⟩ := cw
  have hK : Back l R p e below s args y 3 8 (PreOf R mc ms Pc) (PostOf Qc mc ms free) := va_backW (hh := hh) (bytes := bytes) (maxL := maxL) (ret := ret) hM hp.1 hrc hrs hfr hlo hws hcw (fun a' U hW => word_at hW (Or.inl (by first | rfl | simp [Cond.onTables, Cond.keeps, Cond.steady])) hini)
  obtain ⟨hx, hb, hml, ho, -⟩ := S
  obtain ⟨-, ⟨cellB, hcB, hoB, hclB⟩, hPc⟩ := hp
  intro T hT X
  obtain ⟨v, vm₁, ⟨U', l2, c2, s2⟩, hW₁, X', ⟨g', mk, t, L, e1, e2, hq, h1, hL, h2, h3⟩, st⟩ := vx_callVW X hx (C := C) (hh := hh) (bytes := bytes) (maxL := maxL) (ret := ret) ho hl hin hse hcode hy hK (by rw [hT]; exact hcB) hoB hclB hg (hsize.trans hml.symm) (argsL := As) (rest := rest) (fun sig h => hn.trans (hlen sig h)) hstack hW (by rw [hb]; exact hdg)
    (fun vm₁ hW₁ => ⟨hf.1, hf.2, hPc (T.setVm vm₁) hT hW₁⟩)
  dsimp only [Pt.U, Pt.locs, Pt.cells, Pt.slots] at X' e1 e2 h1 h2 h3 st
  subst h1; subst h2; subst h3
  exact ⟨v, (T.setVm vm₁).calling g' mk (Value.ref b :: As).toArray, t, U', L, hT, X', hL, e1, e2, hq, st⟩
section
variable {y : MethodName} {bytes cc : ByteArray} {maxL nL mc ms n index : Nat} {ret : Option FieldType} {ws : List Cond} {rm : Room} {Pc : Array Value → State → Prop} {Qc : Array Value → State → Outcome → State → Prop} {XC : String → State → State → Prop} {free : Addr → Prop} {Ts : List Cond} {own C : String} {b : Addr} {As rest : List Value} {g : JFrame}
theorem vx_runVX {hh : List (Nat × Nat × Nat × Nat)} (S : CallFix p m c cc nL s args Ts own) (hM : vx_Met l y ws rm Pc Qc XC mc ms free) (cw : vx_CVW R s args own C index y bytes maxL ret hh ws rm mc ms n) (hp : PreV s H C b Pc As)
    (hg : g.method = m) (hn : As.length = n) (hsize : g.locals.size = nL) (hstack : g.stack = As.reverse ++ .ref b :: rest) (hW : 2 * g.monitorRoom + (rest.map fun v => v.category).sum ≤ 8) (hdg : decode cc g.pc = .ok (.invokevirtual index, 3)) (hf : cells + mc ≤ R.cells ∧ slots + ms ≤ R.slots) :
    vx_Run p l e R s m args below meth c H locs cells slots mc ms g rest (Qc (Value.ref b :: As).toArray) XC free := by
  obtain ⟨⟨hrc, hrs, hfr, hlo, hws, hcw⟩, hcode, hini, hy, hlen, hl, hin, hse⟩ := cw
  have hK : vx_Back l R p e below s args y 3 8 (PreOf R mc ms Pc) (PostOf Qc mc ms free) (vx_Post XC mc ms free) := vx_backW (hh := hh) (bytes := bytes) (maxL := maxL) (ret := ret) hM hp.1 hrc hrs hfr hlo hws hcw (fun a' U hW => word_at hW (Or.inl (by first | rfl | simp [Cond.onTables, Cond.keeps, Cond.steady])) hini)
  obtain ⟨hx, hb, hml, ho, -⟩ := S
  obtain ⟨-, ⟨cellB, hcB, hoB, hclB⟩, hPc⟩ := hp
  intro T hT X
  rcases vx_callVX X hx (C := C) (hh := hh) (bytes := bytes) (maxL := maxL) (ret := ret) ho hl hin hse hcode hy hK (by rw [hT]; exact hcB) hoB hclB hg (hsize.trans hml.symm) (argsL := As) (rest := rest) (fun sig h => hn.trans (hlen sig h)) hstack hW (by rw [hb]; exact hdg)
    (fun vm₁ hW₁ => ⟨hf.1, hf.2, hPc (T.setVm vm₁) hT hW₁⟩) with ⟨v, vm₁, ⟨U', l2, c2, s2⟩, hW₁, X', ⟨g', mk, t, L, e1, e2, hq, h1, hL, h2, h3⟩, st⟩ | ⟨q, vm₁, ⟨U', l2, c2, s2⟩, hW₁, X', ⟨g', mk, t, L, E, ce, e1, e2, hq, hce, hcv, hcl, h1, hL, h2, h3⟩, st⟩
  · dsimp only [Pt.U, Pt.locs, Pt.cells, Pt.slots] at X' e1 e2 h1 h2 h3 st
    subst h1; subst h2; subst h3
    exact Or.inl ⟨v, (T.setVm vm₁).calling g' mk (Value.ref b :: As).toArray, t, U', L, hT, X', hL, e1, e2, hq, st⟩
  · dsimp only [Pt.U, Pt.locs, Pt.cells, Pt.slots] at X' e1 e2 h1 h2 h3 st hcl
    subst h1; subst h2; subst h3
    exact Or.inr ⟨q, (T.setVm vm₁).calling g' mk (Value.ref b :: As).toArray, t, U', L, E, ce, hT, X', hL, e1, e2, hq, hce, hcv, vx_cls hW₁ hcl, st⟩
theorem vx_runSX {hh : List (Nat × Nat × Nat × Nat)} (S : CallFix p m c cc nL s args Ts own) (hM : vx_Met l y ws rm Pc Qc XC mc ms free) (cw : vx_CSW R s args own index y bytes maxL ret hh ws rm mc ms n) (hp : PreS s H Pc As)
    (hg : g.method = m) (hn : As.length = n) (hsize : g.locals.size = nL) (hstack : g.stack = As.reverse ++ rest) (hW : 2 * g.monitorRoom + (rest.map fun v => v.category).sum ≤ 8) (hdg : decode cc g.pc = .ok (.invokestatic index, 3)) (hf : cells + mc ≤ R.cells ∧ slots + ms ≤ R.slots) :
    vx_Run p l e R s m args below meth c H locs cells slots mc ms g rest (Qc As.toArray) XC free := by
  obtain ⟨⟨hrc, hrs, hfr, hlo, hws, hcw⟩, hcode, hini, hy, hlen, hl, hstt⟩ := cw
  have hK : vx_Back l R p e below s args y 3 8 (PreOf R mc ms Pc) (PostOf Qc mc ms free) (vx_Post XC mc ms free) := vx_backW (hh := hh) (bytes := bytes) (maxL := maxL) (ret := ret) hM hp.1 hrc hrs hfr hlo hws hcw (fun a' U hW => word_at hW (Or.inl (by first | rfl | simp [Cond.onTables, Cond.keeps, Cond.steady])) hini)
  obtain ⟨hx, hb, hml, ho, -⟩ := S
  intro T hT X
  rcases vx_callSX X hx (hh := hh) (bytes := bytes) (maxL := maxL) (ret := ret) ho hl hstt hini hcode hy hK hg (hsize.trans hml.symm) (argsL := As) (rest := rest) (fun sig h => hn.trans (hlen sig h)) hstack hW (by rw [hb]; exact hdg)
    (fun vm₁ hW₁ => ⟨hf.1, hf.2, hp.2 (T.setVm vm₁) hT hW₁⟩) with ⟨v, vm₁, ⟨U', l2, c2, s2⟩, hW₁, X', ⟨g', mk, t, L, e1, e2, hq, h1, hL, h2, h3⟩, st⟩ | ⟨q, vm₁, ⟨U', l2, c2, s2⟩, hW₁, X', ⟨g', mk, t, L, E, ce, e1, e2, hq, hce, hcv, hcl, h1, hL, h2, h3⟩, st⟩
  · dsimp only [Pt.U, Pt.locs, Pt.cells, Pt.slots] at X' e1 e2 h1 h2 h3 st
    subst h1; subst h2; subst h3
    exact Or.inl ⟨v, (T.setVm vm₁).calling g' mk As.toArray, t, U', L, hT, X', hL, e1, e2, hq, st⟩
  · dsimp only [Pt.U, Pt.locs, Pt.cells, Pt.slots] at X' e1 e2 h1 h2 h3 st hcl
    subst h1; subst h2; subst h3
    exact Or.inr ⟨q, (T.setVm vm₁).calling g' mk As.toArray, t, U', L, E, ce, hT, X', hL, e1, e2, hq, hce, hcv, vx_cls hW₁ hcl, st⟩
end
end VXH
theorem vx_ofWH {l : Launch} {y : MethodName} {ws ws' : List Cond} {rm : Room} {Pc : Array Value → State → Prop} {Qc : Array Value → State → Outcome → State → Prop} {XC : String → State → State → Prop} {mc ms : Nat} {free : Addr → Prop} {cc : ByteArray} {maxL : Nat} {ret : Option FieldType} {hh : List (Nat × Nat × Nat × Nat)}
    (hy : plainName y.cls = true) (hw : ws = Cond.codeWith y cc maxL ret hh :: ws')
    (body : ∀ p e s m args below meth c s₁, BodyLoose p l y (headSpec ws rm) cc maxL ret e s m args below meth c s₁ → c.maxLocals = maxL → Pc args s →
      W p l e (headSpec ws rm).room s m args below meth c s.heap [] 0 0 (vx_MQ below Qc XC args s mc ms free) (entryFrame m args maxL)) : vx_Met l y ws rm Pc Qc XC mc ms free := by
  refine MetFree.of_bodyS (code := cc) (maxLocals := maxL) (ret := ret) hy ?_ ?_
  · intro args s m h hn
    obtain ⟨m9, meth, c, hn9, h1, h2, h3, h4, -, h5, h6, -⟩ := Cond.codeWith_spec (atoms_spec (ws := ws) h _ (by rw [hw]; exact List.mem_cons_self))
    cases hn.symm.trans hn9
    exact ⟨meth, c, h1, h2, h3, h4, h5, h6⟩
  · intro p e s m args below meth c s₁ B hml hP _
    have hh0 : s₁.heap = s.heap := by rw [B.state]; rfl
    obtain ⟨t, a1, o, b1, b2, b3⟩ := body p e s m args below meth c s₁ B hml hP s₁ hh0 (Stand.of_body B)
    exact ⟨t, o, a1, b1, b2, b3⟩
/-! ===== END ===== -/

/-! ===== BEGIN what the machine throws by itself, no traces kept ===== -/
section VXM
set_option maxHeartbeats 1000000 in
/-- the machine throws cls with the message text, no traces kept: from its note over the frame g to 'throwing' over the same frame (follows the proofs of Stand.vmThrowsMessage, Shelf/KitTracedVmS.lean, and Stand.throwsMessageColdBareV, StandMessageColdV.lean, without the step out of the frame) -/
theorem vx_vmAt {p : Program} {l : Launch} {e : Env} {R : Room} {s : State} {m₀ : MethodId} {args : Array Value} {below : List Frame} {meth : Method} {c : Code} {W : State} {locs : List Loc} {cells slots : Nat}
    (X : Stand p l e R s m₀ args below meth c W locs cells slots) (hexec : p.tables.exec = Jvm.exec) (htr : e.platform.stackTraces = false) {cls : String} {names : List String} {text : String}
    (hcls : Bundle.fit cls = true) (hnames : ∀ n ∈ names, Bundle.fit n = true) (hsoe : (cls == "java/lang/StackOverflowError") = false) (hoom : (cls == "java/lang/OutOfMemoryError") = false)
    (h : ∀ a ∈ Bundle.messageArmAtoms cls names, a.before args s = true)
    (hlocs : ∀ x ∈ locs, ∀ cell, s.heap[x.base]? = some cell → cell.vm.isStatics = false)
    (htext : (text == notModelled) = false) (hlimit : ¬ (stringBytes (stringToUtf16 text)).size > e.platform.arrayLengthLimit) (hheap : ¬ (stringBytes (stringToUtf16 text)).size * componentBytes .byte > e.platform.maxHeapBytes)
    {g : JFrame} (hg : g.method = m₀) (hsize : g.locals.size = c.maxLocals)
    (hRframes : names.length + 4 < R.frames) (hRlocals : 2 * g.monitorRoom + (g.stack.map fun v => v.category).sum + 10240 ≤ R.locals) (hshort : 13 * names.length + 55 ≤ 10240)
    (hRcells : cells + 3 ≤ R.cells) (hRslots : slots + ((stringBytes (stringToUtf16 text)).size + 4 + 6) ≤ R.slots) (hlocks : meth.locks = false) :
    ∃ (S : State) (q : Addr) (ce : Cell), (∀ target, Steps p.tables e below ((S.setTop g).pushFrame (.throwing q)) target → Steps p.tables e below ((W.setTop g).pushFrame (.throwNew cls (some text) none)) target) ∧
      Stand p l e R s m₀ args below meth c S locs (cells + 3) (slots + ((stringBytes (stringToUtf16 text)).size + 4 + 6)) ∧ S.heap[q]? = some ce ∧ s.vm.findClass cls = some ce.cls ∧ ce.vm = .none := by
  have howns : e.platform.frameOwnsMonitors = true := by rw [X.admits.platform]
  have hfin : e.platform.finalization = false := by rw [X.admits.platform]
  have hpl : e.platform.magicAccessors = ({} : Platform).magicAccessors := by rw [X.admits.platform]
  have a : ∀ x, x ∈ Bundle.messageArmAtoms cls names → x.holds args s none s [] = true := fun x hx => h x hx
  obtain ⟨T, Z0, L, -, Y⟩ := ThrowableC.of_atoms (args := args) howns hfin hpl (fun x hx => h x (by simp [Bundle.messageArmAtoms, hx]))
  obtain ⟨Z, M, LZ, LM, hnZ⟩ := Init0T.ofS_atoms (args := args) hpl L Y (fun x hx => h x (by simp [Bundle.messageArmAtoms, hx]))
  obtain ⟨P1, Ps, hlen, L1, hL, hP1m, hlink1, hlink⟩ := Bundle.chainS (args := args) hpl hnZ names cls hcls hnames (fun x hx => h x (by simp [Bundle.messageArmAtoms, hx]))
  obtain ⟨Zs, LZs, hn4, hfitv, hfitc⟩ := StringT.of_atoms (args := args) (fun x hx => h x (by simp [Bundle.messageArmAtoms, hx]))
  have hfound : s.vm.findClass cls = some P1.m.cls := findClass_of_methodNamed hP1m
  obtain ⟨c1, kX, hc1, hk, hord, -, -, hn6⟩ := Cond.instantiable_spec (a (.instantiable cls 6) (by simp [Bundle.messageArmAtoms]))
  cases Option.some.inj (hc1.symm.trans hfound)
  have hinit := Cond.initialized_spec hfound hk (a (.initialized cls) (by simp [Bundle.messageArmAtoms]))
  have hctor : kX.findMethod "<init>" "(Ljava/lang/String;)V" = some P1.m.idx := findMethod_of_methodNamed hP1m hk
  have hsel0 : selectMethod e.platform s.vm P1.m.cls T.fill0 = .method T.fill0 := by
    obtain ⟨c2, r2, m2, q1, q2, q3, q4, -⟩ := Cond.selects_spec (a (.selects cls Bundle.tFill0 Bundle.tFill0) (by simp [Bundle.messageArmAtoms]))
    cases Option.some.inj (q1.symm.trans hfound)
    cases Option.some.inj (q2.symm.trans (State.methodFound?_of_named Y.fill0 (by decide)))
    cases Option.some.inj (q3.symm.trans Y.fill0)
    rw [Launch.admits_selectMethod X.admits]; exact q4
  have hselF : selectMethod e.platform s.vm P1.m.cls T.fill = .method T.fill := by
    obtain ⟨c2, r2, m2, q1, q2, q3, q4, -⟩ := Cond.selects_spec (a (.selects cls Bundle.tFill Bundle.tFill) (by simp [Bundle.messageArmAtoms]))
    cases Option.some.inj (q1.symm.trans hfound)
    cases Option.some.inj (q2.symm.trans (State.methodFound?_of_named Y.fill (by decide)))
    cases Option.some.inj (q3.symm.trans Y.fill)
    rw [Launch.admits_selectMethod X.admits]; exact q4
  obtain ⟨cellS0, hcS0, hiss⟩ := Y.statics
  obtain ⟨u0, hu0⟩ := Cond.staticRefV Y.unassigned L.unassignedStatic L.statics hcS0 hiss (a (.isRef (.static Bundle.tN "UNASSIGNED_STACK" Bundle.steD)) (by simp [Bundle.messageArmAtoms]))
  obtain ⟨sen, hsen⟩ := Cond.staticRefV Y.sentinel L.sentinelStatic L.statics hcS0 hiss (a (.isRef (.static Bundle.tN "SUPPRESSED_SENTINEL" Bundle.listD)) (by simp [Bundle.messageArmAtoms]))
  obtain ⟨ci198, i198, fB, hk198, hg198, ha198, hsB, -, hnB, htB, hffB⟩ := Cond.ownField (t := .object "java/lang/Object") Y.found L.cls (by decide +kernel) (a (.fieldLink Bundle.tN 198 Bundle.tN "backtrace" "Ljava/lang/Object;") (by simp [Bundle.messageArmAtoms])) (a (.lays Bundle.tN Bundle.tN "backtrace" "Ljava/lang/Object;") (by simp [Bundle.messageArmAtoms])) e.platform hpl
  obtain ⟨cellS, hcS', heS, -, hkeep⟩ := X.same.2.2.2.2.2 T.aS cellS0 hcS0
  have hcellS : W.heap[T.aS]? = some cellS := hcS'
  have hout' : ∀ i, (⟨T.aS, i⟩ : Loc) ∉ locs := fun i hmem => by
    have := hlocs _ hmem cellS0 hcS0
    rw [hiss] at this; cases this
  have hknownS : cellS.vm ≠ .unknown := by
    rw [heS]; intro hu
    rw [show cellS0.vm = .unknown from hu] at hiss
    cases hiss
  have hvU : cellS.slots[T.fUnassigned.slot]? = some u0.v := by rw [hkeep _ (hout' _)]; exact hu0
  have hvSen : cellS.slots[T.fSentinel.slot]? = some sen.v := by rw [hkeep _ (hout' _)]; exact hsen
  obtain ⟨iM, hffM⟩ := Y.msg
  obtain ⟨tyC, dC, hdC, hdnC⟩ := Cond.laysAt hfound hk Y.cause (a (.lays cls Bundle.tN "cause" "Ljava/lang/Throwable;") (by simp [Bundle.messageArmAtoms]))
  obtain ⟨tyS, dS, hdS, hdnS⟩ := Cond.laysAt hfound hk Y.stack (a (.lays cls Bundle.tN "stackTrace" Bundle.steD) (by simp [Bundle.messageArmAtoms]))
  obtain ⟨tyP, dP, hdP, hdnP⟩ := Cond.laysAt hfound hk Y.supp (a (.lays cls Bundle.tN "suppressedExceptions" Bundle.listD) (by simp [Bundle.messageArmAtoms]))
  obtain ⟨tyM, dM, hdM, hdnM⟩ := Cond.laysAt hfound hk hffM (a (.lays cls Bundle.tN "detailMessage" "Ljava/lang/String;") (by simp [Bundle.messageArmAtoms]))
  obtain ⟨tyB, dB, hdB, hdnB⟩ := Cond.laysAt hfound hk hffB (a (.lays cls Bundle.tN "backtrace" "Ljava/lang/Object;") (by simp [Bundle.messageArmAtoms]))
  have bC := Cond.laysApart hdB hdC hdnB hdnC (by rw [hnB, Y.causeName]; decide)
  have bS := Cond.laysApart hdB hdS hdnB hdnS (by rw [hnB, Y.stackName]; decide)
  have bP := Cond.laysApart hdB hdP hdnB hdnP (by rw [hnB, Y.suppName]; decide)
  have hbk : ((preparedCellV T.toThrowableT (freshCell P1.m.cls kX) (W.heap.size + 2) u0 sen).withEntry W.cur).slots[fB.slot]? = some .null := by
    have := fresh_default (c := P1.m.cls) tyB
    rw [htB] at this
    simpa [preparedCellV, Cell.setSlot, Cell.withEntry, Array.getElem?_setIfInBounds, bC, bS, bP, bC.symm, bS.symm, bP.symm, defaultValue] using this
  have tkC := Takes.of_laid (v := .ref (W.heap.size + 2)) hk hord tyC (by rw [Y.causeType]; rfl)
  have tkS := Takes.of_laid (v := u0.v) hk hord tyS (by rw [Y.stackType]; exact fits_refV_array _ u0)
  have tkP := Takes.of_laid (v := sen.v) hk hord tyP (by rw [Y.suppType]; exact fits_refV_object _ sen)
  have tkM := Takes.of_laid (v := .ref (W.heap.size + 1)) hk hord tyM (by rw [Y.msgType]; rfl)
  have hskip : SkipFacts T e.platform s (fun u => u) u0 ((preparedCellV T.toThrowableT (freshCell P1.m.cls kX) (W.heap.size + 2) u0 sen).withEntry W.cur) := ⟨{ ci198 := ci198, i198 := i198, fBack := fB }, ⟨hk198, hg198, ha198, hsB⟩, hbk, fun _ _ => rfl⟩
  have h0 : At W g.method c below := by rw [hg]; exact X.here
  obtain ⟨hbeyond, hfreeW⟩ := X.vmMayThrow hsize (.throwNew cls (some text) none) (fun f hf => by cases hf) rfl hRlocals
  have hfr' : W.frames.length + Ps.length + 4 < (e.platform.stackLimits W.me).1 := by have := X.framesAbove hRframes; omega
  have hwd' : (stackUse (.java g :: W.frames.tail)).2 + 13 * Ps.length + 55 ≤ (e.platform.stackLimits W.me).2 := by have := X.stackAbove hsize (K := 13 * Ps.length + 55) (by omega); omega
  have hslots : W.slotsUsed + (stringBytes (stringToUtf16 text)).size + Zs.kS.instanceTypes.size + kX.instanceTypes.size ≤ e.platform.maxSlots := by
    have := X.slotsAbove hRslots
    rw [hn4, hn6]
    omega
  obtain ⟨vm', hW', st⟩ := Steps.vmThrowsMessageColdByV p (s₀ := s) (S := W) (g := g) h0 hexec T L Z LZ M LM X.warmed (t := W.cur) rfl Zs LZs P1 L1 Ps hL hlink1 hlink hsoe hoom hfound hk hinit hord hctor
    (Launch.admits_hotImplicitExceptions X.admits) hbeyond hfreeW htext hlimit hheap (X.cellsAbove hRcells) hslots (hfitv _) (hfitc _)
    (Nn := fun u => u) heapOnly_id (fun _ _ => rfl) (fun _ => rfl) (fun u x y => setCell_twice _ _ _ _) (fun _ => Nat.le_refl _) (cN := ((preparedCellV T.toThrowableT (freshCell P1.m.cls kX) (W.heap.size + 2) u0 sen).withEntry W.cur))
    hsel0 hcellS hknownS hvU tkS (fun _ hu => hu) (fun _ hu => hu) rfl rfl rfl (by simp [preparedCellV, Cell.setSlot, Cell.withEntry]) hskip (fun _ _ hA hW _ hroom _ hrest => L.nativeOff p htr hA hW hroom hrest) hselF hvSen tkC tkP tkM Y.objLocals rfl hfr' hwd'
  rw [plainBareV_eq T.toThrowableT (W.heap.size + 2) u0 sen (.ref (W.heap.size + 1)) W.cur rfl rfl] at st
  obtain ⟨-, -, w3, w4, -, -, -⟩ := withThrown_facts e.platform W Zs text P1.m.cls kX
  have X3 := ((X.pushed (bytesOf Zs.cB (stringToUtf16 text))).pushed (stringAt Zs.cS Zs.kS Zs.fv Zs.fc (stringToUtf16 text) W.heap.size)).pushed (freshCell P1.m.cls kX)
  rw [← withString_eq] at X3
  have X4 := X3.noted hW'
  have ha : (W.heap.size + 2) < ((withThrown W Zs text P1.m.cls kX).setVm vm').heap.size := by show _ < (withThrown W Zs text P1.m.cls kX).heap.size; rw [w3]; omega
  have hcell : ((withThrown W Zs text P1.m.cls kX).setVm vm').heap[(W.heap.size + 2)]? = some (freshCell P1.m.cls kX) := w4
  have X5 := ((((X4.stored hcell T.fCause.slot (.ref (W.heap.size + 2))).storedAgain ha T.fStack.slot u0.v).storedAgain ha T.fSupp.slot sen.v).storedAgain ha T.fStack.slot u0.v).storedAgain ha T.fMsg.slot (.ref (W.heap.size + 1))
  obtain ⟨g₁, hfrM⟩ := X5.frames_eq
  have hU : ((((withThrown W Zs text P1.m.cls kX).setVm vm').setCell (W.heap.size + 2) (plainBareV T.toThrowableT (freshCell P1.m.cls kX) (W.heap.size + 2) u0 sen (.ref (W.heap.size + 1)))).setTop g).pushFrame (.throwing (W.heap.size + 2)) = (((withThrown W Zs text P1.m.cls kX).setVm vm').setCell (W.heap.size + 2) (plainBareV T.toThrowableT (freshCell P1.m.cls kX) (W.heap.size + 2) u0 sen (.ref (W.heap.size + 1)))).setFrames (.throwing (W.heap.size + 2) :: .java g :: below) := by
    rw [State.pushFrame, State.frames_setTop _ hfrM, State.setTop_of_frames _ hfrM, State.setFrames_setFrames]
  have b1 : (bytesOf Zs.cB (stringToUtf16 text)).slots.size = (stringBytes (stringToUtf16 text)).size := by
    rw [(Cell.writeAll_facts _ _).2.2]; simp [bytes0]
  have b2 : (stringAt Zs.cS Zs.kS Zs.fv Zs.fc (stringToUtf16 text) W.heap.size).slots.size = 4 := by simp [string0, Cell.setSlot, hn4]
  have b3 : (freshCell P1.m.cls kX).slots.size = 6 := by simp [hn6]
  rw [b1, b2, b3] at X5
  have e9 : slots + (stringBytes (stringToUtf16 text)).size + 4 + 6 = slots + ((stringBytes (stringToUtf16 text)).size + 4 + 6) := by omega
  rw [e9] at X5
  simp only [List.append_assoc, List.cons_append, List.nil_append] at X5
  refine ⟨((withThrown W Zs text P1.m.cls kX).setVm vm').setCell (W.heap.size + 2) (plainBareV T.toThrowableT (freshCell P1.m.cls kX) (W.heap.size + 2) u0 sen (.ref (W.heap.size + 1))), W.heap.size + 2, _, fun target ht => st _ (by rw [X.tail, ← hU]; exact ht),
    X5.forget (fun y hy => ?_), heapAt_setCell_self _ ha, hfound, rfl⟩
  simp only [List.mem_cons, List.not_mem_nil, or_false] at hy
  have hge : s.heap.size ≤ W.heap.size := X.same.2.1
  rcases hy with rfl | rfl | rfl | rfl | rfl <;> exact Nat.le_trans hge (Nat.le_add_right _ 2)
set_option maxHeartbeats 1000000 in
/-- the machine throws NullPointerException, no traces kept: from its note over the frame g to 'throwing' over the same frame (follows the proof of Stand.vmThrowsNpe, Shelf42/KT2.lean; throwsNpeColdBareVAt, Shelf42/NT91.lean, called) -/
theorem vx_npeAt {p : Program} {l : Launch} {e : Env} {R : Room} {s : State} {m₀ : MethodId} {args : Array Value} {below : List Frame} {meth : Method} {c : Code} {W : State} {locs : List Loc} {cells slots : Nat}
    (X : Stand p l e R s m₀ args below meth c W locs cells slots) (hexec : p.tables.exec = Jvm.exec) (htr : e.platform.stackTraces = false) {n : Nat}
    (h : ∀ a ∈ Bundle.npeArmAtoms n, a.before args s = true)
    (hlocs : ∀ x ∈ locs, ∀ cell, s.heap[x.base]? = some cell → cell.vm.isStatics = false)
    {g : JFrame} (hg : g.method = m₀) (hsize : g.locals.size = c.maxLocals)
    (hRframes : 7 < R.frames) (hRlocals : 2 * g.monitorRoom + (g.stack.map fun v => v.category).sum + 10240 ≤ R.locals)
    (hRcells : cells + 1 ≤ R.cells) (hRslots : slots + n ≤ R.slots) (hlocks : meth.locks = false) :
    ∃ (S : State) (q : Addr) (ce : Cell), (∀ target, Steps p.tables e below ((S.setTop g).pushFrame (.throwing q)) target → Steps p.tables e below ((W.setTop g).pushFrame (.throwNew "java/lang/NullPointerException" none none)) target) ∧
      Stand p l e R s m₀ args below meth c S locs (cells + 1) (slots + n) ∧ S.heap[q]? = some ce ∧ s.vm.findClass "java/lang/NullPointerException" = some ce.cls ∧ ce.vm = .none := by
  have howns : e.platform.frameOwnsMonitors = true := by rw [X.admits.platform]
  have hfin : e.platform.finalization = false := by rw [X.admits.platform]
  have hpl : e.platform.magicAccessors = ({} : Platform).magicAccessors := by rw [X.admits.platform]
  have hpl2 : e.platform.arrayCloneIsPublic = true := by rw [X.admits.platform]
  have a' : ∀ x, x ∈ Bundle.npeArmAtoms n → x.holds args s none s [] = true := fun x hx => h x hx
  obtain ⟨T, Z, L, LZ, Y⟩ := ThrowableC.of_atoms (args := args) howns hfin hpl (fun x hx => h x (by simp [Bundle.npeArmAtoms, hx]))
  obtain ⟨N, LN, hcN, hnNF, hordN, hffS⟩ := NpeC.of_atoms (args := args) hpl hpl2 L Y (fun x hx => h x (by simp [Bundle.npeArmAtoms, hx]))
  obtain ⟨P1, L1, hP1m, hP1s⟩ := PassC.of_atoms (args := args) (s := s) hpl (X := Bundle.nN) (Y := Bundle.rN) (by decide) (by decide) LibCode.NullPointerException.Init0.at_0 LibCode.NullPointerException.Init0.at_1 LibCode.NullPointerException.Init0.at_4 (fun x hx => h x (by simp [Bundle.npeArmAtoms, hx]))
  obtain ⟨PR, LR, hPRm, hPRs⟩ := PassC.of_atoms (args := args) (s := s) hpl (X := Bundle.rN) (Y := Bundle.eN) (by decide) (by decide) LibCode.RuntimeException.Init0.at_0 LibCode.RuntimeException.Init0.at_1 LibCode.RuntimeException.Init0.at_4 (fun x hx => h x (by simp [Bundle.npeArmAtoms, hx]))
  obtain ⟨PE, LEx, hPEm, hPEs⟩ := PassC.of_atoms (args := args) (s := s) hpl (X := Bundle.eN) (Y := Bundle.tN) (by decide) (by decide) LibCode.Exception.Init0.at_0 LibCode.Exception.Init0.at_1 LibCode.Exception.Init0.at_4 (fun x hx => h x (by simp [Bundle.npeArmAtoms, hx]))
  have hfound : s.vm.findClass Bundle.nN = some P1.m.cls := findClass_of_methodNamed hP1m
  have ecls : N.cN = P1.m.cls := Option.some.inj (hcN.symm.trans hfound)
  have hk : s.vm.classes[P1.m.cls]? = some N.kN := by rw [← ecls]; exact LN.cls
  have hinit := Cond.initialized_spec hfound hk (a' (.initialized Bundle.nN) (by simp [Bundle.npeArmAtoms]))
  have hctor : N.kN.findMethod "<init>" "()V" = some P1.m.idx := findMethod_of_methodNamed hP1m hk
  obtain ⟨c1, k1, hc1, hk1, -, -, -, hn⟩ := Cond.instantiable_spec (a' (.instantiable Bundle.nN n) (by simp [Bundle.npeArmAtoms]))
  cases Option.some.inj (hc1.symm.trans hfound)
  cases Option.some.inj (hk1.symm.trans hk)
  have hfsz : (freshCell P1.m.cls N.kN).slots.size = n := by simp [hn]
  have hlink1 : P1.sup = PR.m := Option.some.inj (hP1s.symm.trans hPRm)
  have hlinkR : PR.sup = PE.m := Option.some.inj (hPRs.symm.trans hPEm)
  have hlinkE : PE.sup = Z.m T.toThrowableT := Option.some.inj (hPEs.symm.trans Y.init0)
  have hLs : ∀ P, P ∈ [PR, PE] → P.Links0 e.platform s := fun P hP => by
    simp only [List.mem_cons, List.not_mem_nil, or_false] at hP
    rcases hP with rfl | rfl
    · exact LR
    · exact LEx
  have hsel0 : selectMethod e.platform s.vm P1.m.cls T.fill0 = .method T.fill0 := by
    obtain ⟨c2, r2, m2, q1, q2, q3, q4, -⟩ := Cond.selects_spec (a' (.selects Bundle.nN Bundle.tFill0 Bundle.tFill0) (by simp [Bundle.npeArmAtoms]))
    cases Option.some.inj (q1.symm.trans hfound)
    cases Option.some.inj (q2.symm.trans (State.methodFound?_of_named Y.fill0 (by decide)))
    cases Option.some.inj (q3.symm.trans Y.fill0)
    rw [Launch.admits_selectMethod X.admits]; exact q4
  have hselF : selectMethod e.platform s.vm P1.m.cls T.fill = .method N.fill := by
    obtain ⟨c2, r2, m2, q1, q2, q3, q4, -⟩ := Cond.selects_spec (a' (.selects Bundle.nN Bundle.tFill Bundle.nFill) (by simp [Bundle.npeArmAtoms]))
    cases Option.some.inj (q1.symm.trans hfound)
    cases Option.some.inj (q2.symm.trans (State.methodFound?_of_named Y.fill (by decide)))
    cases Option.some.inj (q3.symm.trans hnNF)
    rw [Launch.admits_selectMethod X.admits]; exact q4
  obtain ⟨cellS0, hcS0, hiss⟩ := Y.statics
  obtain ⟨u0, hu0⟩ := Cond.staticRefV Y.unassigned L.unassignedStatic L.statics hcS0 hiss (a' (.isRef (.static Bundle.tN "UNASSIGNED_STACK" Bundle.steD)) (by simp [Bundle.npeArmAtoms]))
  obtain ⟨sen, hsen⟩ := Cond.staticRefV Y.sentinel L.sentinelStatic L.statics hcS0 hiss (a' (.isRef (.static Bundle.tN "SUPPRESSED_SENTINEL" Bundle.listD)) (by simp [Bundle.npeArmAtoms]))
  obtain ⟨ci198, i198, fB, hk198, hg198, ha198, hsB, -, hnB, htB, hffB⟩ := Cond.ownField (t := .object "java/lang/Object") Y.found L.cls (by decide +kernel) (a' (.fieldLink Bundle.tN 198 Bundle.tN "backtrace" Bundle.objD) (by simp [Bundle.npeArmAtoms])) (a' (.lays Bundle.tN Bundle.tN "backtrace" Bundle.objD) (by simp [Bundle.npeArmAtoms])) e.platform hpl
  obtain ⟨cellS, hcS', heS, -, hkeep⟩ := X.same.2.2.2.2.2 T.aS cellS0 hcS0
  have hcellS : W.heap[T.aS]? = some cellS := hcS'
  have hout' : ∀ i, (⟨T.aS, i⟩ : Loc) ∉ locs := fun i hmem => by
    have := hlocs _ hmem cellS0 hcS0
    rw [hiss] at this; cases this
  have hknownS : cellS.vm ≠ .unknown := by
    rw [heS]; intro hu
    rw [show cellS0.vm = .unknown from hu] at hiss
    cases hiss
  have hvU : cellS.slots[T.fUnassigned.slot]? = some u0.v := by rw [hkeep _ (hout' _)]; exact hu0
  have hvSen : cellS.slots[T.fSentinel.slot]? = some sen.v := by rw [hkeep _ (hout' _)]; exact hsen
  obtain ⟨tyC, dC, hdC, hdnC⟩ := Cond.laysAt hfound hk Y.cause (a' (.lays Bundle.nN Bundle.tN "cause" "Ljava/lang/Throwable;") (by simp [Bundle.npeArmAtoms]))
  obtain ⟨tyS, dS, hdS, hdnS⟩ := Cond.laysAt hfound hk Y.stack (a' (.lays Bundle.nN Bundle.tN "stackTrace" Bundle.steD) (by simp [Bundle.npeArmAtoms]))
  obtain ⟨tyP, dP, hdP, hdnP⟩ := Cond.laysAt hfound hk Y.supp (a' (.lays Bundle.nN Bundle.tN "suppressedExceptions" Bundle.listD) (by simp [Bundle.npeArmAtoms]))
  obtain ⟨tyX, dX, hdX, hdnX⟩ := Cond.laysAt hfound hk hffS (a' (.lays Bundle.nN Bundle.nN "extendedMessageState" "I") (by simp [Bundle.npeArmAtoms, Bundle.npeAtoms]))
  obtain ⟨hnX, htX⟩ := State.fieldFound?_type hffS (t := .int) (by decide +kernel)
  have xC := Cond.laysApart hdC hdX hdnC hdnX (by rw [hnX, Y.causeName]; decide)
  have xS := Cond.laysApart hdS hdX hdnS hdnX (by rw [hnX, Y.stackName]; decide)
  have xP := Cond.laysApart hdP hdX hdnP hdnX (by rw [hnX, Y.suppName]; decide)
  have hv0 : (freshCell P1.m.cls N.kN).slots[N.fState.slot]? = some (.int 0) := by
    have := fresh_default (c := P1.m.cls) tyX
    rw [htX] at this; exact this
  obtain ⟨tyB, dB, hdB, hdnB⟩ := Cond.laysAt hfound hk hffB (a' (.lays Bundle.nN Bundle.tN "backtrace" Bundle.objD) (by simp [Bundle.npeArmAtoms]))
  have bC := Cond.laysApart hdB hdC hdnB hdnC (by rw [hnB, Y.causeName]; decide)
  have bS := Cond.laysApart hdB hdS hdnB hdnS (by rw [hnB, Y.stackName]; decide)
  have bP := Cond.laysApart hdB hdP hdnB hdnP (by rw [hnB, Y.suppName]; decide)
  have bX := Cond.laysApart hdB hdX hdnB hdnX (by rw [hnB, hnX]; decide)
  have hbk : ((npeCell N.toNpeT (preparedCellV T.toThrowableT (freshCell P1.m.cls N.kN) W.heap.size u0 sen) W.cur).withEntry W.cur).slots[fB.slot]? = some .null := by
    have := fresh_default (c := P1.m.cls) tyB
    rw [htB] at this
    simpa [npeCell, preparedCellV, Cell.setSlot, Cell.withEntry, Array.getElem?_setIfInBounds, bC, bS, bP, bX, bC.symm, bS.symm, bP.symm, bX.symm, defaultValue] using this
  have tkC := Takes.of_laid (v := .ref W.heap.size) hk hordN tyC (by rw [Y.causeType]; rfl)
  have tkS := Takes.of_laid (v := u0.v) hk hordN tyS (by rw [Y.stackType]; exact fits_refV_array _ u0)
  have tkP := Takes.of_laid (v := sen.v) hk hordN tyP (by rw [Y.suppType]; exact fits_refV_object _ sen)
  have tkX := Takes.of_laid (v := .int 1) hk hordN tyX (by rw [htX]; rfl)
  have hskip : SkipFacts T e.platform s (fun u => u) u0 ((npeCell N.toNpeT (preparedCellV T.toThrowableT (freshCell P1.m.cls N.kN) W.heap.size u0 sen) W.cur).withEntry W.cur) := ⟨{ ci198 := ci198, i198 := i198, fBack := fB }, ⟨hk198, hg198, ha198, hsB⟩, hbk, fun _ _ => rfl⟩
  obtain ⟨vm', X3, st, -⟩ := X.throwsNpeColdBareVAt hexec hg hsize T L Z LZ N LN P1 L1 [PR, PE] hLs hlink1 ⟨hlinkR, hlinkE, trivial⟩ hfound hk hinit hordN hctor hsel0 hselF hcellS hknownS hvU hvSen
    hv0 xC xS xP tkC tkS tkP tkX Y.objLocals hskip (fun _ _ hA hW _ hroom _ hrest => L.nativeOff p htr hA hW hroom hrest) (by simpa using hRframes) hRlocals (by simp) hRcells (by rw [hn]; exact hRslots)
  have hlt : W.heap.size < ((W.pushCell (freshCell P1.m.cls N.kN)).setVm vm').heap.size := by
    show W.heap.size < (W.pushCell (freshCell P1.m.cls N.kN)).heap.size
    rw [State.heap_size_pushCell]; omega
  rw [hfsz] at X3
  obtain ⟨g₁, hfrM⟩ := X3.frames_eq
  have hU : ((((W.pushCell (freshCell P1.m.cls N.kN)).setVm vm').setCell W.heap.size (npeBareV T.toThrowableT N.toNpeT (freshCell P1.m.cls N.kN) W.heap.size u0 sen)).setTop g).pushFrame (.throwing W.heap.size) = (((W.pushCell (freshCell P1.m.cls N.kN)).setVm vm').setCell W.heap.size (npeBareV T.toThrowableT N.toNpeT (freshCell P1.m.cls N.kN) W.heap.size u0 sen)).setFrames (.throwing W.heap.size :: .java g :: below) := by
    rw [State.pushFrame, State.frames_setTop _ hfrM, State.setTop_of_frames _ hfrM, State.setFrames_setFrames]
  refine ⟨_, W.heap.size, _, fun target ht => st.trans (by rw [← hU]; exact ht), X3.forget (fun y hy => ?_), heapAt_setCell_self _ hlt, hfound, rfl⟩
  simp only [List.mem_cons, List.not_mem_nil, or_false] at hy
  have hge : s.heap.size ≤ W.heap.size := X.same.2.1
  rcases hy with rfl | rfl | rfl | rfl | rfl <;> exact hge
/-- the words of a machine's NullPointerException, but the four that speak of the heap -/
def vx_atN (n : Nat) : List Cond := (Bundle.npeArmAtoms n).filter vx_no
/-- the words of a machine's throw with a message, but the four that speak of the heap -/
def vx_atM (X : String) (names : List String) : List Cond := (Bundle.messageArmAtoms X names).filter vx_no
section
variable {p : Program} {l : Launch} {e : Env} {R : Room} {s : State} {m : MethodId} {args : Array Value} {below : List Frame} {meth : Method} {c : Code} {H : Heap} {locs : List Loc} {cells slots : Nat}
/-- a frame seen from a rebased start, seen from the first start again -/
theorem vx_back9 {T S : State} {R' : Room} {k n : Nat} (X : Stand p l e R s m args below meth c T locs cells slots) (Y : Stand p l e R' ((T.setVm s.vm).setFrames (.invoking m args :: below)) m args below meth c T [] 0 0) (Z : Stand p l e R' ((T.setVm s.vm).setFrames (.invoking m args :: below)) m args below meth c S [] k n) :
    Stand p l e R s m args below meth c S locs (cells + k) (slots + n) := by
  have hW0 : s.WarmedH ((T.setVm s.vm).setFrames (.invoking m args :: below)).vm := State.WarmedH.refl s
  refine { admits := X.admits, cas := X.cas, clock := X.clock, frames := X.frames, room := X.room, hears := X.hears, method := X.method, code := X.code, here := Z.here, tail := Z.tail, warmed := State.WarmedH.trans hW0 Z.warmed, limits := Z.limits.trans (Y.limits.symm.trans X.limits), bytes := Z.bytes.trans (Y.bytes.symm.trans X.bytes), same := ?_ }
  obtain ⟨e1, e2⟩ := Z.same
  rw [State.setFrames_setFrames] at e1
  have h2 : (T.setVm s.vm).sameButNew (S.setVm s.vm) [] k n := ⟨e1, e2⟩
  have h3 := X.same.trans h2
  rw [List.append_nil] at h3
  exact h3
/-- from the machine's note that E is thrown here with this text -/
def vx_Note (p : Program) (l : Launch) (e : Env) (R : Room) (s : State) (m : MethodId) (args : Array Value) (below : List Frame) (meth : Method) (c : Code) (H : Heap) (locs : List Loc) (cells slots : Nat) (Q : State → Prop) (g : JFrame) (E text : String) : Prop :=
  ∀ T : State, T.heap = H → Stand p l e R s m args below meth c T locs cells slots → ∃ t, Steps p.tables e below ((T.setTop g).pushFrame (.throwNew E (some text) none)) t ∧ Q t
theorem vx_vm {pc : Nat} {ls : Array Slot} {rest : List Value} {Q : State → Prop} (hexec : p.tables.exec = Jvm.exec) (hl : l.stackTraces = false) {cls text : String} {names : List String} {nb : Nat} {A : Nat → Prop}
    (hcls : Bundle.fit cls = true) (hnames : ∀ n ∈ names, Bundle.fit n = true) (hsoe : (cls == "java/lang/StackOverflowError") = false) (hoom : (cls == "java/lang/OutOfMemoryError") = false)
    (hat : ∀ w ∈ vx_atM cls names, w.before args s = true) (hgood : ∀ w ∈ vx_atM cls names, vx_ot w = true)
    (hU : vx_Zq Bundle.tN "UNASSIGNED_STACK" Bundle.steD A s s.heap) (hN : vx_Zq Bundle.tN "SUPPRESSED_SENTINEL" Bundle.listD A s s.heap) (hS : va_S A s.heap H locs) (hsize : ls.size = c.maxLocals)
    (htext : (text == notModelled) = false) (hnb : (stringBytes (stringToUtf16 text)).size ≤ nb) (hnb1 : nb ≤ 1000)
    (hRframes : names.length + 4 < R.frames) (hRlocals : (rest.map fun v => v.category).sum + 10240 ≤ R.locals) (hshort : 13 * names.length + 55 ≤ 10240) (hRcells : cells + 3 ≤ R.cells) (hRslots : slots + (nb + 10) ≤ R.slots) (hlocks : meth.locks = false)
    (k : ∀ (H1 : Heap) (q9 : Addr) (ce : Cell), H.size ≤ H1.size → (∀ q : Nat, q < H.size → H1[q]? = H[q]?) → va_S A s.heap H1 locs → H1[q9]? = some ce → ce.vm = .none → s.vm.findClass cls = some ce.cls → vx_W p l e R s m args below meth c H1 locs (cells + 3) (slots + (nb + 10)) Q (F0 m pc ls rest) q9) :
    vx_Note p l e R s m args below meth c H locs cells slots Q (F0 m pc ls rest) cls text := by
  intro T hT X
  have htr : e.platform.stackTraces = false := (show e.platform.stackTraces = l.stackTraces by rw [X.admits.platform]).trans hl
  have Y := vx_rebase X (R' := { frames := R.frames, locals := R.locals, cells := 3, slots := nb + 10 }) (Nat.le_refl _) (Nat.le_refl _) hRcells hRslots
  have hhp : ((T.setVm s.vm).setFrames (.invoking m args :: below)).heap = H := hT
  have hW0 : s.WarmedH ((T.setVm s.vm).setFrames (.invoking m args :: below)).vm := State.WarmedH.refl s
  have hat' : ∀ w ∈ vx_atM cls names, w.before args ((T.setVm s.vm).setFrames (.invoking m args :: below)) = true := fun w hw => vx_ot_at hW0 rfl (hgood w hw) (hat w hw)
  have hU' : vx_Zq Bundle.tN "UNASSIGNED_STACK" Bundle.steD A ((T.setVm s.vm).setFrames (.invoking m args :: below)) ((T.setVm s.vm).setFrames (.invoking m args :: below)).heap := by rw [hhp]; exact vx_Zq.moved hW0.alike (hU.kept hS.2.1)
  have hN' : vx_Zq Bundle.tN "SUPPRESSED_SENTINEL" Bundle.listD A ((T.setVm s.vm).setFrames (.invoking m args :: below)) ((T.setVm s.vm).setFrames (.invoking m args :: below)).heap := by rw [hhp]; exact vx_Zq.moved hW0.alike (hN.kept hS.2.1)
  obtain ⟨S, q, ce, st, Z, hce, hcl', hv⟩ := vx_vmAt Y hexec htr (cls := cls) (names := names) (text := text) hcls hnames hsoe hoom (vx_own hat' (vx_isRefq hU'.1) (vx_isRefq hN'.1) hU'.2.word hN'.2.word) (fun x hx => nomatch hx) htext
    (by rw [Launch.admits_arrayLengthLimit X.admits]; omega) (by rw [Launch.admits_maxHeapBytes X.admits]; simp only [componentBytes]; omega)
    (g := F0 m pc ls rest) rfl hsize hRframes (by show 2 * 0 + (rest.map fun v => v.category).sum + 10240 ≤ R.locals; omega) hshort (by show 0 + 3 ≤ 3; omega) (by show 0 + (_ + 4 + 6) ≤ nb + 10; omega) hlocks
  obtain ⟨f1, f2⟩ := vx_frame Z.same
  have f1' : H.size ≤ S.heap.size := by rw [← hT]; exact f1
  have f2' : ∀ q : Nat, q < H.size → S.heap[q]? = H[q]? := fun q hq => by
    rw [← hT]
    exact f2 q (by rw [← hT] at hq; exact hq) (fun z hz => nomatch hz)
  have X5 := vx_back9 X Y Z
  have X6 : Stand p l e R s m args below meth c S locs (cells + 3) (slots + (nb + 10)) := { X5 with same := X5.same.mono (by omega) (by omega) }
  obtain ⟨t, a1, b1⟩ := k S.heap q ce f1' f2' ⟨Nat.le_trans hS.1 f1', fun q h1 h2 => (f2' q (Nat.lt_of_lt_of_le h1 hS.1)).trans (hS.2.1 q h1 h2), hS.2.2⟩ hce hv hcl' S rfl X6
  exact ⟨t, st t a1, b1⟩
/-- from the machine's note that NullPointerException is thrown here -/
def vx_NoteN (p : Program) (l : Launch) (e : Env) (R : Room) (s : State) (m : MethodId) (args : Array Value) (below : List Frame) (meth : Method) (c : Code) (H : Heap) (locs : List Loc) (cells slots : Nat) (Q : State → Prop) (g : JFrame) : Prop :=
  ∀ T : State, T.heap = H → Stand p l e R s m args below meth c T locs cells slots → ∃ t, Steps p.tables e below ((T.setTop g).pushFrame (.throwNew "java/lang/NullPointerException" none none)) t ∧ Q t
theorem vx_npe {pc : Nat} {ls : Array Slot} {rest : List Value} {Q : State → Prop} (hexec : p.tables.exec = Jvm.exec) (hl : l.stackTraces = false) {nb : Nat} {A : Nat → Prop}
    (hat : ∀ w ∈ vx_atN nb, w.before args s = true) (hgood : ∀ w ∈ vx_atN nb, vx_ot w = true)
    (hU : vx_Zq Bundle.tN "UNASSIGNED_STACK" Bundle.steD A s s.heap) (hN : vx_Zq Bundle.tN "SUPPRESSED_SENTINEL" Bundle.listD A s s.heap) (hS : va_S A s.heap H locs) (hsize : ls.size = c.maxLocals)
    (hRframes : 7 < R.frames) (hRlocals : (rest.map fun v => v.category).sum + 10240 ≤ R.locals) (hRcells : cells + 1 ≤ R.cells) (hRslots : slots + nb ≤ R.slots) (hlocks : meth.locks = false)
    (k : ∀ (H1 : Heap) (q9 : Addr) (ce : Cell), H.size ≤ H1.size → (∀ q : Nat, q < H.size → H1[q]? = H[q]?) → va_S A s.heap H1 locs → H1[q9]? = some ce → ce.vm = .none → s.vm.findClass "java/lang/NullPointerException" = some ce.cls → vx_W p l e R s m args below meth c H1 locs (cells + 1) (slots + nb) Q (F0 m pc ls rest) q9) :
    vx_NoteN p l e R s m args below meth c H locs cells slots Q (F0 m pc ls rest) := by
  intro T hT X
  have htr : e.platform.stackTraces = false := (show e.platform.stackTraces = l.stackTraces by rw [X.admits.platform]).trans hl
  have Y := vx_rebase X (R' := { frames := R.frames, locals := R.locals, cells := 1, slots := nb }) (Nat.le_refl _) (Nat.le_refl _) hRcells hRslots
  have hhp : ((T.setVm s.vm).setFrames (.invoking m args :: below)).heap = H := hT
  have hW0 : s.WarmedH ((T.setVm s.vm).setFrames (.invoking m args :: below)).vm := State.WarmedH.refl s
  have hat' : ∀ w ∈ vx_atN nb, w.before args ((T.setVm s.vm).setFrames (.invoking m args :: below)) = true := fun w hw => vx_ot_at hW0 rfl (hgood w hw) (hat w hw)
  have hU' : vx_Zq Bundle.tN "UNASSIGNED_STACK" Bundle.steD A ((T.setVm s.vm).setFrames (.invoking m args :: below)) ((T.setVm s.vm).setFrames (.invoking m args :: below)).heap := by rw [hhp]; exact vx_Zq.moved hW0.alike (hU.kept hS.2.1)
  have hN' : vx_Zq Bundle.tN "SUPPRESSED_SENTINEL" Bundle.listD A ((T.setVm s.vm).setFrames (.invoking m args :: below)) ((T.setVm s.vm).setFrames (.invoking m args :: below)).heap := by rw [hhp]; exact vx_Zq.moved hW0.alike (hN.kept hS.2.1)
  obtain ⟨S, q, ce, st, Z, hce, hcl', hv⟩ := vx_npeAt Y hexec htr (n := nb) (vx_own hat' (vx_isRefq hU'.1) (vx_isRefq hN'.1) hU'.2.word hN'.2.word) (fun x hx => nomatch hx)
    (g := F0 m pc ls rest) rfl hsize hRframes (by show 2 * 0 + (rest.map fun v => v.category).sum + 10240 ≤ R.locals; omega) (by show 0 + 1 ≤ 1; omega) (by show 0 + nb ≤ nb; omega) hlocks
  obtain ⟨f1, f2⟩ := vx_frame Z.same
  have f1' : H.size ≤ S.heap.size := by rw [← hT]; exact f1
  have f2' : ∀ q : Nat, q < H.size → S.heap[q]? = H[q]? := fun q hq => by
    rw [← hT]
    exact f2 q (by rw [← hT] at hq; exact hq) (fun z hz => nomatch hz)
  have X5 := vx_back9 X Y Z
  have X6 : Stand p l e R s m args below meth c S locs (cells + 1) (slots + nb) := { X5 with same := X5.same.mono (by omega) (by omega) }
  obtain ⟨t, a1, b1⟩ := k S.heap q ce f1' f2' ⟨Nat.le_trans hS.1 f1', fun q h1 h2 => (f2' q (Nat.lt_of_lt_of_le h1 hS.1)).trans (hS.2.1 q h1 h2), hS.2.2⟩ hce hv hcl' S rfl X6
  exact ⟨t, st t a1, b1⟩
variable {Q : State → Prop} {cc : ByteArray} {pc : Nat} {ls : Array Slot} {rest : List Value}
theorem vx_idivZ (hexec : p.tables.exec = Jvm.exec) (hb : c.code = cc) {a b : Int32} (h0 : b = 0) (d : decode cc pc = .ok (.idiv, 1)) (k : vx_Note p l e R s m args below meth c H locs cells slots Q (F0 m pc ls rest) "java/lang/ArithmeticException" "/ by zero") :
    W p l e R s m args below meth c H locs cells slots Q (F0 m pc ls (.int b :: .int a :: rest)) := by
  intro T hT X
  obtain ⟨t, st, q⟩ := k T hT X
  exact ⟨t, X.idivZero hexec (g := F0 m pc ls (.int b :: .int a :: rest)) rfl (a := a) (rest := rest) (by rw [h0]) (by rw [hb]; exact d) t st, q⟩
theorem vx_iremZ (hexec : p.tables.exec = Jvm.exec) (hb : c.code = cc) {a b : Int32} (h0 : b = 0) (d : decode cc pc = .ok (.irem, 1)) (k : vx_Note p l e R s m args below meth c H locs cells slots Q (F0 m pc ls rest) "java/lang/ArithmeticException" "/ by zero") :
    W p l e R s m args below meth c H locs cells slots Q (F0 m pc ls (.int b :: .int a :: rest)) := by
  intro T hT X
  obtain ⟨t, st, q⟩ := k T hT X
  exact ⟨t, X.iremZero hexec (g := F0 m pc ls (.int b :: .int a :: rest)) rfl (a := a) (rest := rest) (by rw [h0]) (by rw [hb]; exact d) t st, q⟩
theorem vx_ldivZ (hexec : p.tables.exec = Jvm.exec) (hb : c.code = cc) {a b : Int64} (h0 : b = 0) (d : decode cc pc = .ok (.ldiv, 1)) (k : vx_Note p l e R s m args below meth c H locs cells slots Q (F0 m pc ls rest) "java/lang/ArithmeticException" "/ by zero") :
    W p l e R s m args below meth c H locs cells slots Q (F0 m pc ls (.long b :: .long a :: rest)) := by
  intro T hT X
  obtain ⟨t, st, q⟩ := k T hT X
  exact ⟨t, X.ldivZero hexec (g := F0 m pc ls (.long b :: .long a :: rest)) rfl (a := a) (rest := rest) (by rw [h0]) (by rw [hb]; exact d) t st, q⟩
theorem vx_lremZ (hexec : p.tables.exec = Jvm.exec) (hb : c.code = cc) {a b : Int64} (h0 : b = 0) (d : decode cc pc = .ok (.lrem, 1)) (k : vx_Note p l e R s m args below meth c H locs cells slots Q (F0 m pc ls rest) "java/lang/ArithmeticException" "/ by zero") :
    W p l e R s m args below meth c H locs cells slots Q (F0 m pc ls (.long b :: .long a :: rest)) := by
  intro T hT X
  obtain ⟨t, st, q⟩ := k T hT X
  exact ⟨t, X.lremZero hexec (g := F0 m pc ls (.long b :: .long a :: rest)) rfl (a := a) (rest := rest) (by rw [h0]) (by rw [hb]; exact d) t st, q⟩
theorem vx_ialdZ {D : va_G} {cl : List vw_C} {ws : va_W} {tys : List (ClassId × FieldType)} {a : Nat} (hexec : p.tables.exec = Jvm.exec) (hb : c.code = cc) (hK : va_K D cl tys s) (hP : va_P D cl ws H) (q0 t0 : Nat) {cA : ClassId} {n : Nat} {f : Nat → Int32} (ha : ws[q0]? = some (a, .inl (cA, n, .inl f))) (ht : tys[t0]? = some (cA, .int)) {i : Int32} (hout : ¬ vp_in i n) (hdg : decode cc pc = .ok (.iaload, 1))
    (k : ∀ tx : String, tx = (toString "Index " ++ toString i ++ toString " out of bounds for length " ++ toString n : String) → vx_Note p l e R s m args below meth c H locs cells slots Q (F0 m pc ls rest) "java/lang/ArrayIndexOutOfBoundsException" tx) : W p l e R s m args below meth c H locs cells slots Q (F0 m pc ls (.int i :: .ref a :: rest)) := by
  intro T hT X
  obtain ⟨t, st, q⟩ := k _ rfl T hT X
  refine ⟨t, ?_, q⟩
  have h1 := X.ialoadOut hexec (by rw [hT]; exact hP q0 _ ha) ((hK.2 t0 _ ht).1 n (fun j => .int (f j))) (j := i) (by show (i < 0 ∨ (arrV _ _ _).slots.size ≤ _); rw [arrV_size]; exact Classical.byContradiction hout) (g := F0 m pc ls (.int i :: .ref a :: rest)) rfl (rest := rest) rfl (by rw [hb]; exact hdg) t
  simp only [arrV_size] at h1
  exact h1 st
theorem vx_iastZ {D : va_G} {cl : List vw_C} {ws : va_W} {tys : List (ClassId × FieldType)} {a : Nat} (hexec : p.tables.exec = Jvm.exec) (hb : c.code = cc) (hK : va_K D cl tys s) (hP : va_P D cl ws H) (q0 t0 : Nat) {cA : ClassId} {n : Nat} {f : Nat → Int32} (ha : ws[q0]? = some (a, .inl (cA, n, .inl f))) (ht : tys[t0]? = some (cA, .int)) {i : Int32} {x : Int32} (hout : ¬ vp_in i n) (hdg : decode cc pc = .ok (.iastore, 1))
    (k : ∀ tx : String, tx = (toString "Index " ++ toString i ++ toString " out of bounds for length " ++ toString n : String) → vx_Note p l e R s m args below meth c H locs cells slots Q (F0 m pc ls rest) "java/lang/ArrayIndexOutOfBoundsException" tx) : W p l e R s m args below meth c H locs cells slots Q (F0 m pc ls (.int x :: .int i :: .ref a :: rest)) := by
  intro T hT X
  obtain ⟨t, st, q⟩ := k _ rfl T hT X
  refine ⟨t, ?_, q⟩
  have h1 := X.iastoreOut hexec (by rw [hT]; exact hP q0 _ ha) ((hK.2 t0 _ ht).1 n (fun j => .int (f j))) (j := i) (by show (i < 0 ∨ (arrV _ _ _).slots.size ≤ _); rw [arrV_size]; exact Classical.byContradiction hout) (g := F0 m pc ls (.int x :: .int i :: .ref a :: rest)) rfl (rest := rest) rfl (by rw [hb]; exact hdg) t
  simp only [arrV_size] at h1
  exact h1 st
theorem vx_baldZ {D : va_G} {cl : List vw_C} {ws : va_W} {tys : List (ClassId × FieldType)} {a : Nat} (hexec : p.tables.exec = Jvm.exec) (hb : c.code = cc) (hK : va_K D cl tys s) (hP : va_P D cl ws H) (q0 t0 : Nat) {cA : ClassId} {n : Nat} {f : Nat → Int32} (ha : ws[q0]? = some (a, .inl (cA, n, .inl f))) (ht : tys[t0]? = some (cA, .byte)) {i : Int32} (hout : ¬ vp_in i n) (hdg : decode cc pc = .ok (.baload, 1))
    (k : ∀ tx : String, tx = (toString "Index " ++ toString i ++ toString " out of bounds for length " ++ toString n : String) → vx_Note p l e R s m args below meth c H locs cells slots Q (F0 m pc ls rest) "java/lang/ArrayIndexOutOfBoundsException" tx) : W p l e R s m args below meth c H locs cells slots Q (F0 m pc ls (.int i :: .ref a :: rest)) := by
  intro T hT X
  obtain ⟨t, st, q⟩ := k _ rfl T hT X
  refine ⟨t, ?_, q⟩
  have h1 := X.baloadOut hexec (by rw [hT]; exact hP q0 _ ha) ((hK.2 t0 _ ht).1 n (fun j => .int (f j))) (j := i) (by show (i < 0 ∨ (arrV _ _ _).slots.size ≤ _); rw [arrV_size]; exact Classical.byContradiction hout) (g := F0 m pc ls (.int i :: .ref a :: rest)) rfl (rest := rest) rfl (by rw [hb]; exact hdg) t
  simp only [arrV_size] at h1
  exact h1 st
theorem vx_bastZ {D : va_G} {cl : List vw_C} {ws : va_W} {tys : List (ClassId × FieldType)} {a : Nat} (hexec : p.tables.exec = Jvm.exec) (hb : c.code = cc) (hK : va_K D cl tys s) (hP : va_P D cl ws H) (q0 t0 : Nat) {cA : ClassId} {n : Nat} {f : Nat → Int32} (ha : ws[q0]? = some (a, .inl (cA, n, .inl f))) (ht : tys[t0]? = some (cA, .byte)) {i : Int32} {x : Int32} (hout : ¬ vp_in i n) (hdg : decode cc pc = .ok (.bastore, 1))
    (k : ∀ tx : String, tx = (toString "Index " ++ toString i ++ toString " out of bounds for length " ++ toString n : String) → vx_Note p l e R s m args below meth c H locs cells slots Q (F0 m pc ls rest) "java/lang/ArrayIndexOutOfBoundsException" tx) : W p l e R s m args below meth c H locs cells slots Q (F0 m pc ls (.int x :: .int i :: .ref a :: rest)) := by
  intro T hT X
  obtain ⟨t, st, q⟩ := k _ rfl T hT X
  refine ⟨t, ?_, q⟩
  have h1 := X.bastoreOut hexec (by rw [hT]; exact hP q0 _ ha) ((hK.2 t0 _ ht).1 n (fun j => .int (f j))) (j := i) (by show (i < 0 ∨ (arrV _ _ _).slots.size ≤ _); rw [arrV_size]; exact Classical.byContradiction hout) (g := F0 m pc ls (.int x :: .int i :: .ref a :: rest)) rfl (rest := rest) rfl (by rw [hb]; exact hdg) t
  simp only [arrV_size] at h1
  exact h1 st
theorem vx_zaldZ {D : va_G} {cl : List vw_C} {ws : va_W} {tys : List (ClassId × FieldType)} {a : Nat} (hexec : p.tables.exec = Jvm.exec) (hb : c.code = cc) (hK : va_K D cl tys s) (hP : va_P D cl ws H) (q0 t0 : Nat) {cA : ClassId} {n : Nat} {f : Nat → Int32} (ha : ws[q0]? = some (a, .inl (cA, n, .inl f))) (ht : tys[t0]? = some (cA, .boolean)) {i : Int32} (hout : ¬ vp_in i n) (hdg : decode cc pc = .ok (.baload, 1))
    (k : ∀ tx : String, tx = (toString "Index " ++ toString i ++ toString " out of bounds for length " ++ toString n : String) → vx_Note p l e R s m args below meth c H locs cells slots Q (F0 m pc ls rest) "java/lang/ArrayIndexOutOfBoundsException" tx) : W p l e R s m args below meth c H locs cells slots Q (F0 m pc ls (.int i :: .ref a :: rest)) := by
  intro T hT X
  obtain ⟨t, st, q⟩ := k _ rfl T hT X
  refine ⟨t, ?_, q⟩
  have h1 := X.baloadOut hexec (by rw [hT]; exact hP q0 _ ha) ((hK.2 t0 _ ht).1 n (fun j => .int (f j))) (j := i) (by show (i < 0 ∨ (arrV _ _ _).slots.size ≤ _); rw [arrV_size]; exact Classical.byContradiction hout) (g := F0 m pc ls (.int i :: .ref a :: rest)) rfl (rest := rest) rfl (by rw [hb]; exact hdg) t
  simp only [arrV_size] at h1
  exact h1 st
theorem vx_zastZ {D : va_G} {cl : List vw_C} {ws : va_W} {tys : List (ClassId × FieldType)} {a : Nat} (hexec : p.tables.exec = Jvm.exec) (hb : c.code = cc) (hK : va_K D cl tys s) (hP : va_P D cl ws H) (q0 t0 : Nat) {cA : ClassId} {n : Nat} {f : Nat → Int32} (ha : ws[q0]? = some (a, .inl (cA, n, .inl f))) (ht : tys[t0]? = some (cA, .boolean)) {i : Int32} {x : Int32} (hout : ¬ vp_in i n) (hdg : decode cc pc = .ok (.bastore, 1))
    (k : ∀ tx : String, tx = (toString "Index " ++ toString i ++ toString " out of bounds for length " ++ toString n : String) → vx_Note p l e R s m args below meth c H locs cells slots Q (F0 m pc ls rest) "java/lang/ArrayIndexOutOfBoundsException" tx) : W p l e R s m args below meth c H locs cells slots Q (F0 m pc ls (.int x :: .int i :: .ref a :: rest)) := by
  intro T hT X
  obtain ⟨t, st, q⟩ := k _ rfl T hT X
  refine ⟨t, ?_, q⟩
  have h1 := X.bastoreOut hexec (by rw [hT]; exact hP q0 _ ha) ((hK.2 t0 _ ht).1 n (fun j => .int (f j))) (j := i) (by show (i < 0 ∨ (arrV _ _ _).slots.size ≤ _); rw [arrV_size]; exact Classical.byContradiction hout) (g := F0 m pc ls (.int x :: .int i :: .ref a :: rest)) rfl (rest := rest) rfl (by rw [hb]; exact hdg) t
  simp only [arrV_size] at h1
  exact h1 st
theorem vx_caldZ {D : va_G} {cl : List vw_C} {ws : va_W} {tys : List (ClassId × FieldType)} {a : Nat} (hexec : p.tables.exec = Jvm.exec) (hb : c.code = cc) (hK : va_K D cl tys s) (hP : va_P D cl ws H) (q0 t0 : Nat) {cA : ClassId} {n : Nat} {f : Nat → Int32} (ha : ws[q0]? = some (a, .inl (cA, n, .inl f))) (ht : tys[t0]? = some (cA, .char)) {i : Int32} (hout : ¬ vp_in i n) (hdg : decode cc pc = .ok (.caload, 1))
    (k : ∀ tx : String, tx = (toString "Index " ++ toString i ++ toString " out of bounds for length " ++ toString n : String) → vx_Note p l e R s m args below meth c H locs cells slots Q (F0 m pc ls rest) "java/lang/ArrayIndexOutOfBoundsException" tx) : W p l e R s m args below meth c H locs cells slots Q (F0 m pc ls (.int i :: .ref a :: rest)) := by
  intro T hT X
  obtain ⟨t, st, q⟩ := k _ rfl T hT X
  refine ⟨t, ?_, q⟩
  have h1 := X.caloadOut hexec (by rw [hT]; exact hP q0 _ ha) ((hK.2 t0 _ ht).1 n (fun j => .int (f j))) (j := i) (by show (i < 0 ∨ (arrV _ _ _).slots.size ≤ _); rw [arrV_size]; exact Classical.byContradiction hout) (g := F0 m pc ls (.int i :: .ref a :: rest)) rfl (rest := rest) rfl (by rw [hb]; exact hdg) t
  simp only [arrV_size] at h1
  exact h1 st
theorem vx_castZ {D : va_G} {cl : List vw_C} {ws : va_W} {tys : List (ClassId × FieldType)} {a : Nat} (hexec : p.tables.exec = Jvm.exec) (hb : c.code = cc) (hK : va_K D cl tys s) (hP : va_P D cl ws H) (q0 t0 : Nat) {cA : ClassId} {n : Nat} {f : Nat → Int32} (ha : ws[q0]? = some (a, .inl (cA, n, .inl f))) (ht : tys[t0]? = some (cA, .char)) {i : Int32} {x : Int32} (hout : ¬ vp_in i n) (hdg : decode cc pc = .ok (.castore, 1))
    (k : ∀ tx : String, tx = (toString "Index " ++ toString i ++ toString " out of bounds for length " ++ toString n : String) → vx_Note p l e R s m args below meth c H locs cells slots Q (F0 m pc ls rest) "java/lang/ArrayIndexOutOfBoundsException" tx) : W p l e R s m args below meth c H locs cells slots Q (F0 m pc ls (.int x :: .int i :: .ref a :: rest)) := by
  intro T hT X
  obtain ⟨t, st, q⟩ := k _ rfl T hT X
  refine ⟨t, ?_, q⟩
  have h1 := X.castoreOut hexec (by rw [hT]; exact hP q0 _ ha) ((hK.2 t0 _ ht).1 n (fun j => .int (f j))) (j := i) (by show (i < 0 ∨ (arrV _ _ _).slots.size ≤ _); rw [arrV_size]; exact Classical.byContradiction hout) (g := F0 m pc ls (.int x :: .int i :: .ref a :: rest)) rfl (rest := rest) rfl (by rw [hb]; exact hdg) t
  simp only [arrV_size] at h1
  exact h1 st
theorem vx_saldZ {D : va_G} {cl : List vw_C} {ws : va_W} {tys : List (ClassId × FieldType)} {a : Nat} (hexec : p.tables.exec = Jvm.exec) (hb : c.code = cc) (hK : va_K D cl tys s) (hP : va_P D cl ws H) (q0 t0 : Nat) {cA : ClassId} {n : Nat} {f : Nat → Int32} (ha : ws[q0]? = some (a, .inl (cA, n, .inl f))) (ht : tys[t0]? = some (cA, .short)) {i : Int32} (hout : ¬ vp_in i n) (hdg : decode cc pc = .ok (.saload, 1))
    (k : ∀ tx : String, tx = (toString "Index " ++ toString i ++ toString " out of bounds for length " ++ toString n : String) → vx_Note p l e R s m args below meth c H locs cells slots Q (F0 m pc ls rest) "java/lang/ArrayIndexOutOfBoundsException" tx) : W p l e R s m args below meth c H locs cells slots Q (F0 m pc ls (.int i :: .ref a :: rest)) := by
  intro T hT X
  obtain ⟨t, st, q⟩ := k _ rfl T hT X
  refine ⟨t, ?_, q⟩
  have h1 := X.saloadOut hexec (by rw [hT]; exact hP q0 _ ha) ((hK.2 t0 _ ht).1 n (fun j => .int (f j))) (j := i) (by show (i < 0 ∨ (arrV _ _ _).slots.size ≤ _); rw [arrV_size]; exact Classical.byContradiction hout) (g := F0 m pc ls (.int i :: .ref a :: rest)) rfl (rest := rest) rfl (by rw [hb]; exact hdg) t
  simp only [arrV_size] at h1
  exact h1 st
theorem vx_sastZ {D : va_G} {cl : List vw_C} {ws : va_W} {tys : List (ClassId × FieldType)} {a : Nat} (hexec : p.tables.exec = Jvm.exec) (hb : c.code = cc) (hK : va_K D cl tys s) (hP : va_P D cl ws H) (q0 t0 : Nat) {cA : ClassId} {n : Nat} {f : Nat → Int32} (ha : ws[q0]? = some (a, .inl (cA, n, .inl f))) (ht : tys[t0]? = some (cA, .short)) {i : Int32} {x : Int32} (hout : ¬ vp_in i n) (hdg : decode cc pc = .ok (.sastore, 1))
    (k : ∀ tx : String, tx = (toString "Index " ++ toString i ++ toString " out of bounds for length " ++ toString n : String) → vx_Note p l e R s m args below meth c H locs cells slots Q (F0 m pc ls rest) "java/lang/ArrayIndexOutOfBoundsException" tx) : W p l e R s m args below meth c H locs cells slots Q (F0 m pc ls (.int x :: .int i :: .ref a :: rest)) := by
  intro T hT X
  obtain ⟨t, st, q⟩ := k _ rfl T hT X
  refine ⟨t, ?_, q⟩
  have h1 := X.sastoreOut hexec (by rw [hT]; exact hP q0 _ ha) ((hK.2 t0 _ ht).1 n (fun j => .int (f j))) (j := i) (by show (i < 0 ∨ (arrV _ _ _).slots.size ≤ _); rw [arrV_size]; exact Classical.byContradiction hout) (g := F0 m pc ls (.int x :: .int i :: .ref a :: rest)) rfl (rest := rest) rfl (by rw [hb]; exact hdg) t
  simp only [arrV_size] at h1
  exact h1 st
theorem vx_laldZ {D : va_G} {cl : List vw_C} {ws : va_W} {tys : List (ClassId × FieldType)} {a : Nat} (hexec : p.tables.exec = Jvm.exec) (hb : c.code = cc) (hK : va_K D cl tys s) (hP : va_P D cl ws H) (q0 t0 : Nat) {cA : ClassId} {n : Nat} {f : Nat → Int64} (ha : ws[q0]? = some (a, .inl (cA, n, .inr (.inl f)))) (ht : tys[t0]? = some (cA, .long)) {i : Int32} (hout : ¬ vp_in i n) (hdg : decode cc pc = .ok (.laload, 1))
    (k : ∀ tx : String, tx = (toString "Index " ++ toString i ++ toString " out of bounds for length " ++ toString n : String) → vx_Note p l e R s m args below meth c H locs cells slots Q (F0 m pc ls rest) "java/lang/ArrayIndexOutOfBoundsException" tx) : W p l e R s m args below meth c H locs cells slots Q (F0 m pc ls (.int i :: .ref a :: rest)) := by
  intro T hT X
  obtain ⟨t, st, q⟩ := k _ rfl T hT X
  refine ⟨t, ?_, q⟩
  have h1 := X.laloadOut hexec (by rw [hT]; exact hP q0 _ ha) ((hK.2 t0 _ ht).1 n (fun j => .long (f j))) (j := i) (by show (i < 0 ∨ (arrV _ _ _).slots.size ≤ _); rw [arrV_size]; exact Classical.byContradiction hout) (g := F0 m pc ls (.int i :: .ref a :: rest)) rfl (rest := rest) rfl (by rw [hb]; exact hdg) t
  simp only [arrV_size] at h1
  exact h1 st
theorem vx_lastZ {D : va_G} {cl : List vw_C} {ws : va_W} {tys : List (ClassId × FieldType)} {a : Nat} (hexec : p.tables.exec = Jvm.exec) (hb : c.code = cc) (hK : va_K D cl tys s) (hP : va_P D cl ws H) (q0 t0 : Nat) {cA : ClassId} {n : Nat} {f : Nat → Int64} (ha : ws[q0]? = some (a, .inl (cA, n, .inr (.inl f)))) (ht : tys[t0]? = some (cA, .long)) {i : Int32} {x : Int64} (hout : ¬ vp_in i n) (hdg : decode cc pc = .ok (.lastore, 1))
    (k : ∀ tx : String, tx = (toString "Index " ++ toString i ++ toString " out of bounds for length " ++ toString n : String) → vx_Note p l e R s m args below meth c H locs cells slots Q (F0 m pc ls rest) "java/lang/ArrayIndexOutOfBoundsException" tx) : W p l e R s m args below meth c H locs cells slots Q (F0 m pc ls (.long x :: .int i :: .ref a :: rest)) := by
  intro T hT X
  obtain ⟨t, st, q⟩ := k _ rfl T hT X
  refine ⟨t, ?_, q⟩
  have h1 := X.lastoreOut hexec (by rw [hT]; exact hP q0 _ ha) ((hK.2 t0 _ ht).1 n (fun j => .long (f j))) (j := i) (by show (i < 0 ∨ (arrV _ _ _).slots.size ≤ _); rw [arrV_size]; exact Classical.byContradiction hout) (g := F0 m pc ls (.long x :: .int i :: .ref a :: rest)) rfl (rest := rest) rfl (by rw [hb]; exact hdg) t
  simp only [arrV_size] at h1
  exact h1 st
theorem vx_faldZ {D : va_G} {cl : List vw_C} {ws : va_W} {tys : List (ClassId × FieldType)} {a : Nat} (hexec : p.tables.exec = Jvm.exec) (hb : c.code = cc) (hK : va_K D cl tys s) (hP : va_P D cl ws H) (q0 t0 : Nat) {cA : ClassId} {n : Nat} {f : Nat → UInt32} (ha : ws[q0]? = some (a, .inl (cA, n, .inr (.inr (.inl f))))) (ht : tys[t0]? = some (cA, .float)) {i : Int32} (hout : ¬ vp_in i n) (hdg : decode cc pc = .ok (.faload, 1))
    (k : ∀ tx : String, tx = (toString "Index " ++ toString i ++ toString " out of bounds for length " ++ toString n : String) → vx_Note p l e R s m args below meth c H locs cells slots Q (F0 m pc ls rest) "java/lang/ArrayIndexOutOfBoundsException" tx) : W p l e R s m args below meth c H locs cells slots Q (F0 m pc ls (.int i :: .ref a :: rest)) := by
  intro T hT X
  obtain ⟨t, st, q⟩ := k _ rfl T hT X
  refine ⟨t, ?_, q⟩
  have h1 := X.faloadOut hexec (by rw [hT]; exact hP q0 _ ha) ((hK.2 t0 _ ht).1 n (fun j => .float (f j))) (j := i) (by show (i < 0 ∨ (arrV _ _ _).slots.size ≤ _); rw [arrV_size]; exact Classical.byContradiction hout) (g := F0 m pc ls (.int i :: .ref a :: rest)) rfl (rest := rest) rfl (by rw [hb]; exact hdg) t
  simp only [arrV_size] at h1
  exact h1 st
theorem vx_fastZ {D : va_G} {cl : List vw_C} {ws : va_W} {tys : List (ClassId × FieldType)} {a : Nat} (hexec : p.tables.exec = Jvm.exec) (hb : c.code = cc) (hK : va_K D cl tys s) (hP : va_P D cl ws H) (q0 t0 : Nat) {cA : ClassId} {n : Nat} {f : Nat → UInt32} (ha : ws[q0]? = some (a, .inl (cA, n, .inr (.inr (.inl f))))) (ht : tys[t0]? = some (cA, .float)) {i : Int32} {x : UInt32} (hout : ¬ vp_in i n) (hdg : decode cc pc = .ok (.fastore, 1))
    (k : ∀ tx : String, tx = (toString "Index " ++ toString i ++ toString " out of bounds for length " ++ toString n : String) → vx_Note p l e R s m args below meth c H locs cells slots Q (F0 m pc ls rest) "java/lang/ArrayIndexOutOfBoundsException" tx) : W p l e R s m args below meth c H locs cells slots Q (F0 m pc ls (.float x :: .int i :: .ref a :: rest)) := by
  intro T hT X
  obtain ⟨t, st, q⟩ := k _ rfl T hT X
  refine ⟨t, ?_, q⟩
  have h1 := X.fastoreOut hexec (by rw [hT]; exact hP q0 _ ha) ((hK.2 t0 _ ht).1 n (fun j => .float (f j))) (j := i) (by show (i < 0 ∨ (arrV _ _ _).slots.size ≤ _); rw [arrV_size]; exact Classical.byContradiction hout) (g := F0 m pc ls (.float x :: .int i :: .ref a :: rest)) rfl (rest := rest) rfl (by rw [hb]; exact hdg) t
  simp only [arrV_size] at h1
  exact h1 st
theorem vx_daldZ {D : va_G} {cl : List vw_C} {ws : va_W} {tys : List (ClassId × FieldType)} {a : Nat} (hexec : p.tables.exec = Jvm.exec) (hb : c.code = cc) (hK : va_K D cl tys s) (hP : va_P D cl ws H) (q0 t0 : Nat) {cA : ClassId} {n : Nat} {f : Nat → UInt64} (ha : ws[q0]? = some (a, .inl (cA, n, .inr (.inr (.inr (.inl f)))))) (ht : tys[t0]? = some (cA, .double)) {i : Int32} (hout : ¬ vp_in i n) (hdg : decode cc pc = .ok (.daload, 1))
    (k : ∀ tx : String, tx = (toString "Index " ++ toString i ++ toString " out of bounds for length " ++ toString n : String) → vx_Note p l e R s m args below meth c H locs cells slots Q (F0 m pc ls rest) "java/lang/ArrayIndexOutOfBoundsException" tx) : W p l e R s m args below meth c H locs cells slots Q (F0 m pc ls (.int i :: .ref a :: rest)) := by
  intro T hT X
  obtain ⟨t, st, q⟩ := k _ rfl T hT X
  refine ⟨t, ?_, q⟩
  have h1 := X.daloadOut hexec (by rw [hT]; exact hP q0 _ ha) ((hK.2 t0 _ ht).1 n (fun j => .double (f j))) (j := i) (by show (i < 0 ∨ (arrV _ _ _).slots.size ≤ _); rw [arrV_size]; exact Classical.byContradiction hout) (g := F0 m pc ls (.int i :: .ref a :: rest)) rfl (rest := rest) rfl (by rw [hb]; exact hdg) t
  simp only [arrV_size] at h1
  exact h1 st
theorem vx_dastZ {D : va_G} {cl : List vw_C} {ws : va_W} {tys : List (ClassId × FieldType)} {a : Nat} (hexec : p.tables.exec = Jvm.exec) (hb : c.code = cc) (hK : va_K D cl tys s) (hP : va_P D cl ws H) (q0 t0 : Nat) {cA : ClassId} {n : Nat} {f : Nat → UInt64} (ha : ws[q0]? = some (a, .inl (cA, n, .inr (.inr (.inr (.inl f)))))) (ht : tys[t0]? = some (cA, .double)) {i : Int32} {x : UInt64} (hout : ¬ vp_in i n) (hdg : decode cc pc = .ok (.dastore, 1))
    (k : ∀ tx : String, tx = (toString "Index " ++ toString i ++ toString " out of bounds for length " ++ toString n : String) → vx_Note p l e R s m args below meth c H locs cells slots Q (F0 m pc ls rest) "java/lang/ArrayIndexOutOfBoundsException" tx) : W p l e R s m args below meth c H locs cells slots Q (F0 m pc ls (.double x :: .int i :: .ref a :: rest)) := by
  intro T hT X
  obtain ⟨t, st, q⟩ := k _ rfl T hT X
  refine ⟨t, ?_, q⟩
  have h1 := X.dastoreOut hexec (by rw [hT]; exact hP q0 _ ha) ((hK.2 t0 _ ht).1 n (fun j => .double (f j))) (j := i) (by show (i < 0 ∨ (arrV _ _ _).slots.size ≤ _); rw [arrV_size]; exact Classical.byContradiction hout) (g := F0 m pc ls (.double x :: .int i :: .ref a :: rest)) rfl (rest := rest) rfl (by rw [hb]; exact hdg) t
  simp only [arrV_size] at h1
  exact h1 st
theorem vx_arraylengthN (hexec : p.tables.exec = Jvm.exec) (hb : c.code = cc) (hdg : decode cc pc = .ok (.arraylength, 1)) (k : vx_NoteN p l e R s m args below meth c H locs cells slots Q (F0 m pc ls rest)) : W p l e R s m args below meth c H locs cells slots Q (F0 m pc ls (.null :: rest)) := by
  intro T hT X
  obtain ⟨t, st, q⟩ := k T hT X
  exact ⟨t, X.arraylengthNull hexec (g := F0 m pc ls (.null :: rest)) rfl (rest := rest) rfl (by rw [hb]; exact hdg) t st, q⟩
theorem vx_ialoadN (hexec : p.tables.exec = Jvm.exec) (hb : c.code = cc) {i : Int32} (hdg : decode cc pc = .ok (.iaload, 1)) (k : vx_NoteN p l e R s m args below meth c H locs cells slots Q (F0 m pc ls rest)) : W p l e R s m args below meth c H locs cells slots Q (F0 m pc ls (.int i :: .null :: rest)) := by
  intro T hT X
  obtain ⟨t, st, q⟩ := k T hT X
  exact ⟨t, X.ialoadNull hexec (g := F0 m pc ls (.int i :: .null :: rest)) rfl (rest := rest) rfl (by rw [hb]; exact hdg) t st, q⟩
theorem vx_laloadN (hexec : p.tables.exec = Jvm.exec) (hb : c.code = cc) {i : Int32} (hdg : decode cc pc = .ok (.laload, 1)) (k : vx_NoteN p l e R s m args below meth c H locs cells slots Q (F0 m pc ls rest)) : W p l e R s m args below meth c H locs cells slots Q (F0 m pc ls (.int i :: .null :: rest)) := by
  intro T hT X
  obtain ⟨t, st, q⟩ := k T hT X
  exact ⟨t, X.laloadNull hexec (g := F0 m pc ls (.int i :: .null :: rest)) rfl (rest := rest) rfl (by rw [hb]; exact hdg) t st, q⟩
theorem vx_faloadN (hexec : p.tables.exec = Jvm.exec) (hb : c.code = cc) {i : Int32} (hdg : decode cc pc = .ok (.faload, 1)) (k : vx_NoteN p l e R s m args below meth c H locs cells slots Q (F0 m pc ls rest)) : W p l e R s m args below meth c H locs cells slots Q (F0 m pc ls (.int i :: .null :: rest)) := by
  intro T hT X
  obtain ⟨t, st, q⟩ := k T hT X
  exact ⟨t, X.faloadNull hexec (g := F0 m pc ls (.int i :: .null :: rest)) rfl (rest := rest) rfl (by rw [hb]; exact hdg) t st, q⟩
theorem vx_daloadN (hexec : p.tables.exec = Jvm.exec) (hb : c.code = cc) {i : Int32} (hdg : decode cc pc = .ok (.daload, 1)) (k : vx_NoteN p l e R s m args below meth c H locs cells slots Q (F0 m pc ls rest)) : W p l e R s m args below meth c H locs cells slots Q (F0 m pc ls (.int i :: .null :: rest)) := by
  intro T hT X
  obtain ⟨t, st, q⟩ := k T hT X
  exact ⟨t, X.daloadNull hexec (g := F0 m pc ls (.int i :: .null :: rest)) rfl (rest := rest) rfl (by rw [hb]; exact hdg) t st, q⟩
theorem vx_aaloadN (hexec : p.tables.exec = Jvm.exec) (hb : c.code = cc) {i : Int32} (hdg : decode cc pc = .ok (.aaload, 1)) (k : vx_NoteN p l e R s m args below meth c H locs cells slots Q (F0 m pc ls rest)) : W p l e R s m args below meth c H locs cells slots Q (F0 m pc ls (.int i :: .null :: rest)) := by
  intro T hT X
  obtain ⟨t, st, q⟩ := k T hT X
  exact ⟨t, X.aaloadNull hexec (g := F0 m pc ls (.int i :: .null :: rest)) rfl (rest := rest) rfl (by rw [hb]; exact hdg) t st, q⟩
theorem vx_baloadN (hexec : p.tables.exec = Jvm.exec) (hb : c.code = cc) {i : Int32} (hdg : decode cc pc = .ok (.baload, 1)) (k : vx_NoteN p l e R s m args below meth c H locs cells slots Q (F0 m pc ls rest)) : W p l e R s m args below meth c H locs cells slots Q (F0 m pc ls (.int i :: .null :: rest)) := by
  intro T hT X
  obtain ⟨t, st, q⟩ := k T hT X
  exact ⟨t, X.baloadNull hexec (g := F0 m pc ls (.int i :: .null :: rest)) rfl (rest := rest) rfl (by rw [hb]; exact hdg) t st, q⟩
theorem vx_caloadN (hexec : p.tables.exec = Jvm.exec) (hb : c.code = cc) {i : Int32} (hdg : decode cc pc = .ok (.caload, 1)) (k : vx_NoteN p l e R s m args below meth c H locs cells slots Q (F0 m pc ls rest)) : W p l e R s m args below meth c H locs cells slots Q (F0 m pc ls (.int i :: .null :: rest)) := by
  intro T hT X
  obtain ⟨t, st, q⟩ := k T hT X
  exact ⟨t, X.caloadNull hexec (g := F0 m pc ls (.int i :: .null :: rest)) rfl (rest := rest) rfl (by rw [hb]; exact hdg) t st, q⟩
theorem vx_saloadN (hexec : p.tables.exec = Jvm.exec) (hb : c.code = cc) {i : Int32} (hdg : decode cc pc = .ok (.saload, 1)) (k : vx_NoteN p l e R s m args below meth c H locs cells slots Q (F0 m pc ls rest)) : W p l e R s m args below meth c H locs cells slots Q (F0 m pc ls (.int i :: .null :: rest)) := by
  intro T hT X
  obtain ⟨t, st, q⟩ := k T hT X
  exact ⟨t, X.saloadNull hexec (g := F0 m pc ls (.int i :: .null :: rest)) rfl (rest := rest) rfl (by rw [hb]; exact hdg) t st, q⟩
theorem vx_iastoreN (hexec : p.tables.exec = Jvm.exec) (hb : c.code = cc) {x : Int32} {i : Int32} (hdg : decode cc pc = .ok (.iastore, 1)) (k : vx_NoteN p l e R s m args below meth c H locs cells slots Q (F0 m pc ls rest)) : W p l e R s m args below meth c H locs cells slots Q (F0 m pc ls (.int x :: .int i :: .null :: rest)) := by
  intro T hT X
  obtain ⟨t, st, q⟩ := k T hT X
  exact ⟨t, X.iastoreNull hexec (g := F0 m pc ls (.int x :: .int i :: .null :: rest)) rfl (rest := rest) rfl (by rw [hb]; exact hdg) t st, q⟩
theorem vx_lastoreN (hexec : p.tables.exec = Jvm.exec) (hb : c.code = cc) {x : Int64} {i : Int32} (hdg : decode cc pc = .ok (.lastore, 1)) (k : vx_NoteN p l e R s m args below meth c H locs cells slots Q (F0 m pc ls rest)) : W p l e R s m args below meth c H locs cells slots Q (F0 m pc ls (.long x :: .int i :: .null :: rest)) := by
  intro T hT X
  obtain ⟨t, st, q⟩ := k T hT X
  exact ⟨t, X.lastoreNull hexec (g := F0 m pc ls (.long x :: .int i :: .null :: rest)) rfl (rest := rest) rfl (by rw [hb]; exact hdg) t st, q⟩
theorem vx_fastoreN (hexec : p.tables.exec = Jvm.exec) (hb : c.code = cc) {x : UInt32} {i : Int32} (hdg : decode cc pc = .ok (.fastore, 1)) (k : vx_NoteN p l e R s m args below meth c H locs cells slots Q (F0 m pc ls rest)) : W p l e R s m args below meth c H locs cells slots Q (F0 m pc ls (.float x :: .int i :: .null :: rest)) := by
  intro T hT X
  obtain ⟨t, st, q⟩ := k T hT X
  exact ⟨t, X.fastoreNull hexec (g := F0 m pc ls (.float x :: .int i :: .null :: rest)) rfl (rest := rest) rfl (by rw [hb]; exact hdg) t st, q⟩
theorem vx_dastoreN (hexec : p.tables.exec = Jvm.exec) (hb : c.code = cc) {x : UInt64} {i : Int32} (hdg : decode cc pc = .ok (.dastore, 1)) (k : vx_NoteN p l e R s m args below meth c H locs cells slots Q (F0 m pc ls rest)) : W p l e R s m args below meth c H locs cells slots Q (F0 m pc ls (.double x :: .int i :: .null :: rest)) := by
  intro T hT X
  obtain ⟨t, st, q⟩ := k T hT X
  exact ⟨t, X.dastoreNull hexec (g := F0 m pc ls (.double x :: .int i :: .null :: rest)) rfl (rest := rest) rfl (by rw [hb]; exact hdg) t st, q⟩
theorem vx_bastoreN (hexec : p.tables.exec = Jvm.exec) (hb : c.code = cc) {x : Int32} {i : Int32} (hdg : decode cc pc = .ok (.bastore, 1)) (k : vx_NoteN p l e R s m args below meth c H locs cells slots Q (F0 m pc ls rest)) : W p l e R s m args below meth c H locs cells slots Q (F0 m pc ls (.int x :: .int i :: .null :: rest)) := by
  intro T hT X
  obtain ⟨t, st, q⟩ := k T hT X
  exact ⟨t, X.bastoreNull hexec (g := F0 m pc ls (.int x :: .int i :: .null :: rest)) rfl (rest := rest) rfl (by rw [hb]; exact hdg) t st, q⟩
theorem vx_castoreN (hexec : p.tables.exec = Jvm.exec) (hb : c.code = cc) {x : Int32} {i : Int32} (hdg : decode cc pc = .ok (.castore, 1)) (k : vx_NoteN p l e R s m args below meth c H locs cells slots Q (F0 m pc ls rest)) : W p l e R s m args below meth c H locs cells slots Q (F0 m pc ls (.int x :: .int i :: .null :: rest)) := by
  intro T hT X
  obtain ⟨t, st, q⟩ := k T hT X
  exact ⟨t, X.castoreNull hexec (g := F0 m pc ls (.int x :: .int i :: .null :: rest)) rfl (rest := rest) rfl (by rw [hb]; exact hdg) t st, q⟩
theorem vx_sastoreN (hexec : p.tables.exec = Jvm.exec) (hb : c.code = cc) {x : Int32} {i : Int32} (hdg : decode cc pc = .ok (.sastore, 1)) (k : vx_NoteN p l e R s m args below meth c H locs cells slots Q (F0 m pc ls rest)) : W p l e R s m args below meth c H locs cells slots Q (F0 m pc ls (.int x :: .int i :: .null :: rest)) := by
  intro T hT X
  obtain ⟨t, st, q⟩ := k T hT X
  exact ⟨t, X.sastoreNull hexec (g := F0 m pc ls (.int x :: .int i :: .null :: rest)) rfl (rest := rest) rfl (by rw [hb]; exact hdg) t st, q⟩
theorem vx_invokeN {own C : String} {index maxL : Nat} {y : MethodName} {bytes : ByteArray} {ret : Option FieldType} (hexec : p.tables.exec = Jvm.exec) (hb : c.code = cc) (hown : s.vm.findClass own = some m.cls) (hlink : (Cond.methodLink own index y).before args s = true) (hinst : (Cond.instanceMethod y).before args s = true) (hcode : (Cond.code y bytes maxL ret).before args s = true) (hsel : (Cond.selects C y y).before args s = true)
    (hx : y.cls ≠ "java/lang/invoke/MethodHandle" ∧ y.cls ≠ "java/lang/invoke/VarHandle") {As : List Value} (hlen : (parseMethodDescriptor y.desc).map (fun d => d.parameters.length) = some As.length) (hdg : decode cc pc = .ok (.invokevirtual index, 3))
    (k : vx_NoteN p l e R s m args below meth c H locs cells slots Q (F0 m pc ls rest)) {st0 : List Value} (hst : st0 = As.reverse ++ .null :: rest) : W p l e R s m args below meth c H locs cells slots Q (F0 m pc ls st0) := by
  intro T hT X
  obtain ⟨r0, r, hn, hrm, hstR, hsigR⟩ := va_Decl.of hinst hcode
  obtain ⟨c2, r2, m2, q1, q2, q3, q4, kP, hkP, hkPi⟩ := Cond.selects_spec hsel
  cases hn.symm.trans q3
  have hl9 : As.length = r.sig.parameters.length := by
    rw [hsigR] at hlen
    exact (Option.some.inj hlen).symm
  obtain ⟨vm', X1, st1⟩ := X.invokevirtualNull hexec hown hlink hn hrm hstR hkP hkPi hx (g := F0 m pc ls st0) rfl (argsL := As) (rest := rest) hl9 hst (by rw [hb]; exact hdg)
  obtain ⟨t, st, q⟩ := k (T.setVm vm') hT X1
  exact ⟨t, st1 t st, q⟩
theorem vx_newarrayZ {atype : ArrayType} (hexec : p.tables.exec = Jvm.exec) (hb : c.code = cc) {n : Int32} (h0 : n < 0) (hdg : decode cc pc = .ok (.newarray atype, 2)) (k : ∀ tx : String, tx = toString n → vx_Note p l e R s m args below meth c H locs cells slots Q (F0 m pc ls rest) "java/lang/NegativeArraySizeException" tx) : W p l e R s m args below meth c H locs cells slots Q (F0 m pc ls (.int n :: rest)) := by
  intro T hT X
  obtain ⟨t, st, q⟩ := k _ rfl T hT X
  exact ⟨t, X.newarrayNegative hexec (g := F0 m pc ls (.int n :: rest)) rfl h0 (rest := rest) rfl (by rw [hb]; exact hdg) t st, q⟩
end
end VXM
/-! ===== END ===== -/
/-! ===== BEGIN a constructor that throws (launches without stack traces) ===== -/
section VXIA
variable {p : Program} {l : Launch} {e : Env} {R : Room} {s : State} {m : MethodId} {args : Array Value} {below : List Frame} {meth : Method} {c : Code} {T : State} {locs : List Loc} {cells slots : Nat}
theorem vx_callI (X : Stand p l e R s m args below meth c T locs cells slots) (hexec : p.tables.exec = Jvm.exec) {own : String} {index : Nat} {y : MethodName} {bytes : ByteArray} {maxL : Nat}
    (hown : s.vm.findClass own = some m.cls) (hy1 : y.name = "<init>") (hlink : (Cond.methodLink own index y).before args s = true) (hinst : (Cond.instanceMethod y).before args s = true)
    (hcode : (Cond.code y bytes maxL none).before args s = true) (hy : y.cls ≠ "java/lang/invoke/MethodHandle" ∧ y.cls ≠ "java/lang/invoke/VarHandle")
    {W9 : Nat} {Pre : Pt → Array Value → Prop} {Post : Pt → Array Value → Option Value → Pt → Prop} {PostX : Pt → Array Value → Addr → Pt → Prop} (hK : vx_Back l R p e below s args y 3 W9 Pre Post PostX)
    {g : JFrame} (hg : g.method = m) (hsize : g.locals.size = c.maxLocals) {a : Addr} {argsL rest : List Value} (hlen : ∀ sig, parseMethodDescriptor y.desc = some sig → argsL.length = sig.parameters.length)
    (hstack : g.stack = argsL.reverse ++ .ref a :: rest) (hW : 2 * g.monitorRoom + (rest.map fun v => v.category).sum ≤ W9) (hdg : decode c.code g.pc = .ok (.invokespecial index, 3))
    (hpre : ∀ vm₁, s.WarmedH vm₁ → Pre ⟨T.setVm vm₁, locs, cells, slots⟩ (Value.ref a :: argsL).toArray) :
    (∃ (v : Option Value) (vm₁ : Vm) (B : Pt), s.WarmedH vm₁ ∧ Stand p l e R s m args below meth c B.U B.locs B.cells B.slots ∧ Post ⟨T.setVm vm₁, locs, cells, slots⟩ (Value.ref a :: argsL).toArray v B ∧
      ∀ target, Steps p.tables e below (B.U.setTop { g with pc := g.pc + 3, stack := v.toList ++ rest }) target → Steps p.tables e below (T.setTop g) target) ∨
    (∃ (q : Addr) (vm₁ : Vm) (B : Pt), s.WarmedH vm₁ ∧ Stand p l e R s m args below meth c B.U B.locs B.cells B.slots ∧ PostX ⟨T.setVm vm₁, locs, cells, slots⟩ (Value.ref a :: argsL).toArray q B ∧
      Steps p.tables e below (T.setTop g) ((B.U.setTop { g with stack := rest }).pushFrame (.throwing q))) := by
  subst hg
  have hpl : e.platform.magicAccessors = ({} : Platform).magicAccessors := by rw [X.admits.platform]
  obtain ⟨mk, methM, cM, kP, vm₁, hnamed, hmethM, hcodeM, -, hlocalsM, -, hkP, -, hW₁, hstep₁⟩ := Steps.initColdArgs (e := e) X.here hexec X.warmed hpl hown hy1 hy hlink hinst hcode (f := g) rfl hlen hstack hdg
  have X₁ := X.noted hW₁
  rcases hK g.method meth c ⟨T.setVm vm₁, locs, cells, slots⟩ { g with stack := rest } (.invokespecial index) mk (Value.ref a :: argsL).toArray X₁ rfl hsize hdg hW (X₁.named hnamed) (hpre vm₁ X₁.warmed) with ⟨v, B, X', hpost, hsteps⟩ | ⟨q, B, X', hpost, hsteps⟩
  · exact Or.inl ⟨v, vm₁, B, X₁.warmed, X', hpost, fun target h => hstep₁ _ fun acts => by rw [doInvoke_state]; exact hsteps.trans h⟩
  · exact Or.inr ⟨q, vm₁, B, X₁.warmed, X', hpost, hstep₁ _ fun acts => by rw [doInvoke_state]; exact hsteps⟩
end VXIA
section VXIB
variable {p : Program} {l : Launch} {e : Env} {R : Room} {s : State} {m : MethodId} {args : Array Value} {below : List Frame} {meth : Method} {c : Code} {H : Heap} {locs : List Loc} {cells slots : Nat}
variable {y : MethodName} {bytes cc : ByteArray} {maxL nL mc ms n index : Nat} {ret : Option FieldType} {ws : List Cond} {rm : Room} {Pc : Array Value → State → Prop} {Qc : Array Value → State → Outcome → State → Prop} {XC : String → State → State → Prop} {free : Addr → Prop} {Ts : List Cond} {own C : String} {b : Addr} {As rest : List Value} {g : JFrame}
theorem vx_runI (S : CallFix p m c cc nL s args Ts own) (hM : vx_Met l y ws rm Pc Qc XC mc ms free) (cw : CallB R s args own index y bytes maxL none ws rm mc ms n ∧ y.name = "<init>" ∧ (Cond.instanceMethod y).before args s = true) (hp : PreS s H Pc (.ref b :: As))
    (hg : g.method = m) (hn : As.length = n) (hsize : g.locals.size = nL) (hstack : g.stack = As.reverse ++ .ref b :: rest) (hW : 2 * g.monitorRoom + (rest.map fun v => v.category).sum ≤ 8) (hdg : decode cc g.pc = .ok (.invokespecial index, 3)) (hf : cells + mc ≤ R.cells ∧ slots + ms ≤ R.slots) :
    vx_Run p l e R s m args below meth c H locs cells slots mc ms g rest (Qc (Value.ref b :: As).toArray) XC free := by
  have hK : vx_Back l R p e below s args y 3 8 (PreOf R mc ms Pc) (PostOf Qc mc ms free) (vx_Post XC mc ms free) := vx_callBack cw.1 hM hp.1
  obtain ⟨⟨-, -, -, -, -, -, hcode, -, hy, hlen, hl⟩, hy1, hin⟩ := cw
  obtain ⟨hx, hb, hml, ho, -⟩ := S
  have hPc := hp.2
  intro T hT X
  rcases vx_callI X hx (bytes := bytes) (maxL := maxL) ho hy1 hl hin hcode hy hK hg (hsize.trans hml.symm) (a := b) (argsL := As) (rest := rest) (fun sig h => hn.trans (hlen sig h)) hstack hW (by rw [hb]; exact hdg)
    (fun vm₁ hW₁ => ⟨hf.1, hf.2, hPc (T.setVm vm₁) hT hW₁⟩) with ⟨v, vm₁, ⟨U', l2, c2, s2⟩, hW₁, X', ⟨g', mk, t, L, e1, e2, hq, h1, hL, h2, h3⟩, st⟩ | ⟨q, vm₁, ⟨U', l2, c2, s2⟩, hW₁, X', ⟨g', mk, t, L, E, ce, e1, e2, hq, hce, hcv, hcl, h1, hL, h2, h3⟩, st⟩
  · dsimp only [Pt.U, Pt.locs, Pt.cells, Pt.slots] at X' e1 e2 h1 h2 h3 st
    subst h1; subst h2; subst h3
    exact Or.inl ⟨v, (T.setVm vm₁).calling g' mk (Value.ref b :: As).toArray, t, U', L, hT, X', hL, e1, e2, hq, st⟩
  · dsimp only [Pt.U, Pt.locs, Pt.cells, Pt.slots] at X' e1 e2 h1 h2 h3 st hcl
    subst h1; subst h2; subst h3
    exact Or.inr ⟨q, (T.setVm vm₁).calling g' mk (Value.ref b :: As).toArray, t, U', L, E, ce, hT, X', hL, e1, e2, hq, hce, hcv, vx_cls hW₁ hcl, st⟩
end VXIB
/-! ===== END ===== -/
/-! ===== BEGIN a private constructor of a nest mate that throws ===== -/
section VXIC
variable {p : Program} {l : Launch} {e : Env} {R : Room} {s : State} {m : MethodId} {args : Array Value} {below : List Frame} {meth : Method} {c : Code} {T : State} {locs : List Loc} {cells slots : Nat}
theorem vx_callIN (X : Stand p l e R s m args below meth c T locs cells slots) (hexec : p.tables.exec = Jvm.exec) {own : String} {index : Nat} {host : String} {y : MethodName} {bytes : ByteArray} {maxL : Nat}
    (hown : s.vm.findClass own = some m.cls) (hy1 : y.name = "<init>") (hlink : (Cond.methodLinkNest own index y host).before args s = true) (hinst : (Cond.instanceMethod y).before args s = true)
    (hcode : (Cond.code y bytes maxL none).before args s = true) (hy : y.cls ≠ "java/lang/invoke/MethodHandle" ∧ y.cls ≠ "java/lang/invoke/VarHandle")
    {W9 : Nat} {Pre : Pt → Array Value → Prop} {Post : Pt → Array Value → Option Value → Pt → Prop} {PostX : Pt → Array Value → Addr → Pt → Prop} (hK : vx_Back l R p e below s args y 3 W9 Pre Post PostX)
    {g : JFrame} (hg : g.method = m) (hsize : g.locals.size = c.maxLocals) {a : Addr} {argsL rest : List Value} (hlen : ∀ sig, parseMethodDescriptor y.desc = some sig → argsL.length = sig.parameters.length)
    (hstack : g.stack = argsL.reverse ++ .ref a :: rest) (hW : 2 * g.monitorRoom + (rest.map fun v => v.category).sum ≤ W9) (hdg : decode c.code g.pc = .ok (.invokespecial index, 3))
    (hpre : ∀ vm₁, s.WarmedH vm₁ → Pre ⟨T.setVm vm₁, locs, cells, slots⟩ (Value.ref a :: argsL).toArray) :
    (∃ (v : Option Value) (vm₁ : Vm) (B : Pt), s.WarmedH vm₁ ∧ Stand p l e R s m args below meth c B.U B.locs B.cells B.slots ∧ Post ⟨T.setVm vm₁, locs, cells, slots⟩ (Value.ref a :: argsL).toArray v B ∧
      ∀ target, Steps p.tables e below (B.U.setTop { g with pc := g.pc + 3, stack := v.toList ++ rest }) target → Steps p.tables e below (T.setTop g) target) ∨
    (∃ (q : Addr) (vm₁ : Vm) (B : Pt), s.WarmedH vm₁ ∧ Stand p l e R s m args below meth c B.U B.locs B.cells B.slots ∧ PostX ⟨T.setVm vm₁, locs, cells, slots⟩ (Value.ref a :: argsL).toArray q B ∧
      Steps p.tables e below (T.setTop g) ((B.U.setTop { g with stack := rest }).pushFrame (.throwing q))) := by
  subst hg
  have hpl : e.platform.magicAccessors = ({} : Platform).magicAccessors := by rw [X.admits.platform]
  obtain ⟨mk, methM, cM, kP, vm₁, hnamed, hmethM, hcodeM, -, hlocalsM, -, hkP, -, hW₁, hstep₁⟩ := Steps.initColdArgsNest (e := e) X.here hexec X.warmed hpl hown hy1 hy hlink hinst hcode (f := g) rfl hlen hstack hdg
  have X₁ := X.noted hW₁
  rcases hK g.method meth c ⟨T.setVm vm₁, locs, cells, slots⟩ { g with stack := rest } (.invokespecial index) mk (Value.ref a :: argsL).toArray X₁ rfl hsize hdg hW (X₁.named hnamed) (hpre vm₁ X₁.warmed) with ⟨v, B, X', hpost, hsteps⟩ | ⟨q, B, X', hpost, hsteps⟩
  · exact Or.inl ⟨v, vm₁, B, X₁.warmed, X', hpost, fun target h => hstep₁ _ fun acts => by rw [doInvoke_state]; exact hsteps.trans h⟩
  · exact Or.inr ⟨q, vm₁, B, X₁.warmed, X', hpost, hstep₁ _ fun acts => by rw [doInvoke_state]; exact hsteps⟩
end VXIC
section VXID
variable {p : Program} {l : Launch} {e : Env} {R : Room} {s : State} {m : MethodId} {args : Array Value} {below : List Frame} {meth : Method} {c : Code} {H : Heap} {locs : List Loc} {cells slots : Nat}
theorem vx_runIN {y : MethodName} {bytes cc : ByteArray} {maxL nL mc ms n index : Nat} {ws : List Cond} {rm : Room} {Pc : Array Value → State → Prop} {Qc : Array Value → State → Outcome → State → Prop} {XC : String → State → State → Prop} {free : Addr → Prop} {Ts : List Cond} {own host : String} {b : Addr} {As rest : List Value} {g : JFrame}
    (S : CallFix p m c cc nL s args Ts own) (hM : vx_Met l y ws rm Pc Qc XC mc ms free) (cw : va_CN R s args own index y host bytes maxL none ws rm mc ms n ∧ y.name = "<init>" ∧ (Cond.instanceMethod y).before args s = true) (hp : PreS s H Pc (.ref b :: As))
    (hg : g.method = m) (hn : As.length = n) (hsize : g.locals.size = nL) (hstack : g.stack = As.reverse ++ .ref b :: rest) (hW : 2 * g.monitorRoom + (rest.map fun v => v.category).sum ≤ 8) (hdg : decode cc g.pc = .ok (.invokespecial index, 3)) (hf : cells + mc ≤ R.cells ∧ slots + ms ≤ R.slots) :
    vx_Run p l e R s m args below meth c H locs cells slots mc ms g rest (Qc (Value.ref b :: As).toArray) XC free := by
  obtain ⟨⟨⟨hrc, hrs, hfr, hlo, hws, hcw⟩, hcode, hini, hy, hlen, hl⟩, hx1, hx2⟩ := cw
  have hK : vx_Back l R p e below s args y 3 8 (PreOf R mc ms Pc) (PostOf Qc mc ms free) (vx_Post XC mc ms free) := vx_back (bytes := bytes) (maxL := maxL) (ret := none) hM hp.1 hrc hrs hfr hlo hws hcw (fun a' U hW => word_at hW (Or.inl (by first | rfl | simp [Cond.onTables, Cond.keeps, Cond.steady])) hini)
  obtain ⟨hx, hb, hml, ho, -⟩ := S
  have hPc := hp.2
  intro T hT X
  rcases vx_callIN X hx (bytes := bytes) (maxL := maxL) ho hx1 hl hx2 hcode hy hK hg (hsize.trans hml.symm) (a := b) (argsL := As) (rest := rest) (fun sig h => hn.trans (hlen sig h)) hstack hW (by rw [hb]; exact hdg)
    (fun vm₁ hW₁ => ⟨hf.1, hf.2, hPc (T.setVm vm₁) hT hW₁⟩) with ⟨v, vm₁, ⟨U', l2, c2, s2⟩, hW₁, X', ⟨g', mk, t, L, e1, e2, hq, h1, hL, h2, h3⟩, st⟩ | ⟨q, vm₁, ⟨U', l2, c2, s2⟩, hW₁, X', ⟨g', mk, t, L, E, ce, e1, e2, hq, hce, hcv, hcl, h1, hL, h2, h3⟩, st⟩
  · dsimp only [Pt.U, Pt.locs, Pt.cells, Pt.slots] at X' e1 e2 h1 h2 h3 st
    subst h1; subst h2; subst h3
    exact Or.inl ⟨v, (T.setVm vm₁).calling g' mk (Value.ref b :: As).toArray, t, U', L, hT, X', hL, e1, e2, hq, st⟩
  · dsimp only [Pt.U, Pt.locs, Pt.cells, Pt.slots] at X' e1 e2 h1 h2 h3 st hcl
    subst h1; subst h2; subst h3
    exact Or.inr ⟨q, (T.setVm vm₁).calling g' mk (Value.ref b :: As).toArray, t, U', L, E, ce, hT, X', hL, e1, e2, hq, hce, hcv, vx_cls hW₁ hcl, st⟩
end VXID
/-! ===== END ===== -/
/-! ===== BEGIN a private method of a nest mate that may throw (follows va_callVN, va_callSN, va_runVN, va_runSN) ===== -/
section
variable {p : Program} {l : Launch} {e : Env} {R : Room} {s : State} {m : MethodId} {args : Array Value} {below : List Frame} {meth : Method} {c : Code} {H : Heap} {locs : List Loc} {cells slots : Nat}
variable {T : State}
theorem vx_callVN (X : Stand p l e R s m args below meth c T locs cells slots) (hexec : p.tables.exec = Jvm.exec) {own C : String} {index : Nat} {host : String} {y : MethodName} {bytes : ByteArray} {maxL : Nat} {ret : Option FieldType}
    (hown : s.vm.findClass own = some m.cls) (hlink : (Cond.methodLinkNest own index y host).before args s = true) (hinst : (Cond.instanceMethod y).before args s = true) (hsel : (Cond.selects C y y).before args s = true)
    (hcode : (Cond.code y bytes maxL ret).before args s = true) (hy : y.cls ≠ "java/lang/invoke/MethodHandle" ∧ y.cls ≠ "java/lang/invoke/VarHandle")
    {W : Nat} {Pre : Pt → Array Value → Prop} {Post : Pt → Array Value → Option Value → Pt → Prop} {PostX : Pt → Array Value → Addr → Pt → Prop} (hK : vx_Back l R p e below s args y 3 W Pre Post PostX)
    {b : Addr} {cellB : Cell} (hcell : T.heap[b]? = some cellB) (hobj : cellB.vm.isStatics = false) (hcls : s.vm.findClass C = some cellB.cls)
    {g : JFrame} (hg : g.method = m) (hsize : g.locals.size = c.maxLocals) {argsL rest : List Value} (hlen : ∀ sig, parseMethodDescriptor y.desc = some sig → argsL.length = sig.parameters.length)
    (hstack : g.stack = argsL.reverse ++ .ref b :: rest) (hW : 2 * g.monitorRoom + (rest.map fun v => v.category).sum ≤ W) (hdg : decode c.code g.pc = .ok (.invokevirtual index, 3))
    (hpre : ∀ vm₁, s.WarmedH vm₁ → Pre ⟨T.setVm vm₁, locs, cells, slots⟩ (Value.ref b :: argsL).toArray) :
    (∃ (v : Option Value) (vm₁ : Vm) (B : Pt), s.WarmedH vm₁ ∧ Stand p l e R s m args below meth c B.U B.locs B.cells B.slots ∧ Post ⟨T.setVm vm₁, locs, cells, slots⟩ (Value.ref b :: argsL).toArray v B ∧
      ∀ target, Steps p.tables e below (B.U.setTop { g with pc := g.pc + 3, stack := v.toList ++ rest }) target → Steps p.tables e below (T.setTop g) target) ∨
    (∃ (q : Addr) (vm₁ : Vm) (B : Pt), s.WarmedH vm₁ ∧ Stand p l e R s m args below meth c B.U B.locs B.cells B.slots ∧ PostX ⟨T.setVm vm₁, locs, cells, slots⟩ (Value.ref b :: argsL).toArray q B ∧
      Steps p.tables e below (T.setTop g) ((B.U.setTop { g with stack := rest }).pushFrame (.throwing q))) := by
  obtain ⟨mk, methM, hnamed, hmethM, hstM, habM⟩ := Cond.instanceMethod_spec hinst
  obtain ⟨methM', cM, hmethM', -, -, -, -, -, -, hsigM⟩ := Cond.code_spec hnamed hcode
  cases hmethM.symm.trans hmethM'
  obtain ⟨c2, r2, m2, q1, q2, q3, q4, kP, hkP, hkPi⟩ := Cond.selects_spec hsel
  cases hcls.symm.trans q1
  cases (State.methodFound?_of_named hnamed hy).symm.trans q2
  cases hnamed.symm.trans q3
  have hselP : selectMethod e.platform s.vm cellB.cls mk = .method mk := by rw [Launch.admits_selectMethod X.admits]; exact q4
  obtain ⟨vm₁, X₁, hstep₁⟩ := X.invokevirtualNest hexec hown hlink hnamed hmethM hstM hkP hkPi hy (a := b) (cell := cellB) hcell
    (fun z h => by rw [h] at hobj; cases hobj) hselP hmethM habM hkP hkPi (g := g) hg (argsL := argsL) (rest := rest) (hlen _ hsigM) hstack hdg
  rcases hK m meth c ⟨T.setVm vm₁, locs, cells, slots⟩ { g with stack := rest } (.invokevirtual index) mk (Value.ref b :: argsL).toArray X₁ hg hsize hdg hW (X₁.named hnamed) (hpre vm₁ X₁.warmed) with ⟨v, B, X', hpost, hsteps⟩ | ⟨q, B, X', hpost, hsteps⟩
  · exact Or.inl ⟨v, vm₁, B, X₁.warmed, X', hpost, fun target h => hstep₁ _ fun acts => by rw [doInvoke_state]; exact hsteps.trans h⟩
  · exact Or.inr ⟨q, vm₁, B, X₁.warmed, X', hpost, hstep₁ _ fun acts => by rw [doInvoke_state]; exact hsteps⟩
theorem vx_callSN (X : Stand p l e R s m args below meth c T locs cells slots) (hexec : p.tables.exec = Jvm.exec) {own : String} {index : Nat} {host : String} {y : MethodName} {bytes : ByteArray} {maxL : Nat} {ret : Option FieldType}
    (hown : s.vm.findClass own = some m.cls) (hlink : (Cond.methodLinkNest own index y host).before args s = true) (hstat : (Cond.static y).before args s = true) (hinit : (Cond.initialized y.cls).before args s = true)
    (hcode : (Cond.code y bytes maxL ret).before args s = true) (hy : y.cls ≠ "java/lang/invoke/MethodHandle" ∧ y.cls ≠ "java/lang/invoke/VarHandle")
    {W : Nat} {Pre : Pt → Array Value → Prop} {Post : Pt → Array Value → Option Value → Pt → Prop} {PostX : Pt → Array Value → Addr → Pt → Prop} (hK : vx_Back l R p e below s args y 3 W Pre Post PostX)
    {g : JFrame} (hg : g.method = m) (hsize : g.locals.size = c.maxLocals) {argsL rest : List Value} (hlen : ∀ sig, parseMethodDescriptor y.desc = some sig → argsL.length = sig.parameters.length)
    (hstack : g.stack = argsL.reverse ++ rest) (hW : 2 * g.monitorRoom + (rest.map fun v => v.category).sum ≤ W) (hdg : decode c.code g.pc = .ok (.invokestatic index, 3))
    (hpre : ∀ vm₁, s.WarmedH vm₁ → Pre ⟨T.setVm vm₁, locs, cells, slots⟩ argsL.toArray) :
    (∃ (v : Option Value) (vm₁ : Vm) (B : Pt), s.WarmedH vm₁ ∧ Stand p l e R s m args below meth c B.U B.locs B.cells B.slots ∧ Post ⟨T.setVm vm₁, locs, cells, slots⟩ argsL.toArray v B ∧
      ∀ target, Steps p.tables e below (B.U.setTop { g with pc := g.pc + 3, stack := v.toList ++ rest }) target → Steps p.tables e below (T.setTop g) target) ∨
    (∃ (q : Addr) (vm₁ : Vm) (B : Pt), s.WarmedH vm₁ ∧ Stand p l e R s m args below meth c B.U B.locs B.cells B.slots ∧ PostX ⟨T.setVm vm₁, locs, cells, slots⟩ argsL.toArray q B ∧
      Steps p.tables e below (T.setTop g) ((B.U.setTop { g with stack := rest }).pushFrame (.throwing q))) := by
  obtain ⟨mk, hnamed⟩ := Cond.code_named hcode
  obtain ⟨methM, cM, hmethM, -, -, -, -, -, -, hsigM⟩ := Cond.code_spec hnamed hcode
  have hstatic : methM.isStatic = true := Cond.static_spec hnamed hmethM hstat
  obtain ⟨kP, hkP, -⟩ := className_of_methodNamed hnamed
  have hinitP : kP.init = .initialized := Cond.initialized_spec (findClass_of_methodNamed hnamed) hkP hinit
  obtain ⟨vm₁, X₁, hstep₁⟩ := X.invokestaticNest hexec hown hlink hnamed hmethM hstatic hkP hinitP hy (g := g) hg (argsL := argsL) (rest := rest) (hlen _ hsigM) hstack hdg
  rcases hK m meth c ⟨T.setVm vm₁, locs, cells, slots⟩ { g with stack := rest } (.invokestatic index) mk argsL.toArray X₁ hg hsize hdg hW (X₁.named hnamed) (hpre vm₁ X₁.warmed) with ⟨v, B, X', hpost, hsteps⟩ | ⟨q, B, X', hpost, hsteps⟩
  · exact Or.inl ⟨v, vm₁, B, X₁.warmed, X', hpost, fun target h => hstep₁ _ fun acts => by rw [doInvoke_state]; exact hsteps.trans h⟩
  · exact Or.inr ⟨q, vm₁, B, X₁.warmed, X', hpost, hstep₁ _ fun acts => by rw [doInvoke_state]; exact hsteps⟩
theorem vx_runVN {y : MethodName} {bytes cc : ByteArray} {maxL nL mc ms n index : Nat} {ret : Option FieldType} {ws : List Cond} {rm : Room} {Pc : Array Value → State → Prop} {Qc : Array Value → State → Outcome → State → Prop} {XC : String → State → State → Prop} {free : Addr → Prop} {Ts : List Cond} {own C host : String} {b : Addr} {As rest : List Value} {g : JFrame}
    (S : CallFix p m c cc nL s args Ts own) (hM : vx_Met l y ws rm Pc Qc XC mc ms free) (cw : va_CN R s args own index y host bytes maxL ret ws rm mc ms n ∧ (Cond.instanceMethod y).before args s = true ∧ (Cond.selects C y y).before args s = true) (hp : PreV s H C b Pc As)
    (hg : g.method = m) (hn : As.length = n) (hsize : g.locals.size = nL) (hstack : g.stack = As.reverse ++ .ref b :: rest) (hW : 2 * g.monitorRoom + (rest.map fun v => v.category).sum ≤ 8) (hdg : decode cc g.pc = .ok (.invokevirtual index, 3)) (hf : cells + mc ≤ R.cells ∧ slots + ms ≤ R.slots) :
    vx_Run p l e R s m args below meth c H locs cells slots mc ms g rest (Qc (Value.ref b :: As).toArray) XC free := by
  obtain ⟨⟨⟨hrc, hrs, hfr, hlo, hws, hcw⟩, hcode, hini, hy, hlen, hl⟩, hx1, hx2⟩ := cw
  have hK : vx_Back l R p e below s args y 3 8 (PreOf R mc ms Pc) (PostOf Qc mc ms free) (vx_Post XC mc ms free) := vx_back (bytes := bytes) (maxL := maxL) (ret := ret) hM hp.1 hrc hrs hfr hlo hws hcw (fun a' U hW => word_at hW (Or.inl (by first | rfl | simp [Cond.onTables, Cond.keeps, Cond.steady])) hini)
  obtain ⟨hx, hb, hml, ho, -⟩ := S
  obtain ⟨-, ⟨cellB, hcB, hoB, hclB⟩, hPc⟩ := hp
  intro T hT X
  rcases vx_callVN X hx (C := C) (bytes := bytes) (maxL := maxL) (ret := ret) ho hl hx1 hx2 hcode hy hK (by rw [hT]; exact hcB) hoB hclB hg (hsize.trans hml.symm) (argsL := As) (rest := rest) (fun sig h => hn.trans (hlen sig h)) hstack hW (by rw [hb]; exact hdg)
    (fun vm₁ hW₁ => ⟨hf.1, hf.2, hPc (T.setVm vm₁) hT hW₁⟩) with ⟨v, vm₁, ⟨U', l2, c2, s2⟩, hW₁, X', ⟨g', mk, t, L, e1, e2, hq, h1, hL, h2, h3⟩, st⟩ | ⟨q, vm₁, ⟨U', l2, c2, s2⟩, hW₁, X', ⟨g', mk, t, L, E, ce, e1, e2, hq, hce, hcv, hcl, h1, hL, h2, h3⟩, st⟩
  · dsimp only [Pt.U, Pt.locs, Pt.cells, Pt.slots] at X' e1 e2 h1 h2 h3 st
    subst h1; subst h2; subst h3
    exact Or.inl ⟨v, (T.setVm vm₁).calling g' mk (Value.ref b :: As).toArray, t, U', L, hT, X', hL, e1, e2, hq, st⟩
  · dsimp only [Pt.U, Pt.locs, Pt.cells, Pt.slots] at X' e1 e2 h1 h2 h3 st hcl
    subst h1; subst h2; subst h3
    exact Or.inr ⟨q, (T.setVm vm₁).calling g' mk (Value.ref b :: As).toArray, t, U', L, E, ce, hT, X', hL, e1, e2, hq, hce, hcv, vx_cls hW₁ hcl, st⟩
theorem vx_runSN {y : MethodName} {bytes cc : ByteArray} {maxL nL mc ms n index : Nat} {ret : Option FieldType} {ws : List Cond} {rm : Room} {Pc : Array Value → State → Prop} {Qc : Array Value → State → Outcome → State → Prop} {XC : String → State → State → Prop} {free : Addr → Prop} {Ts : List Cond} {own host : String} {As rest : List Value} {g : JFrame}
    (S : CallFix p m c cc nL s args Ts own) (hM : vx_Met l y ws rm Pc Qc XC mc ms free) (cw : va_CN R s args own index y host bytes maxL ret ws rm mc ms n ∧ (Cond.static y).before args s = true ∧ True) (hp : PreS s H Pc As)
    (hg : g.method = m) (hn : As.length = n) (hsize : g.locals.size = nL) (hstack : g.stack = As.reverse ++ rest) (hW : 2 * g.monitorRoom + (rest.map fun v => v.category).sum ≤ 8) (hdg : decode cc g.pc = .ok (.invokestatic index, 3)) (hf : cells + mc ≤ R.cells ∧ slots + ms ≤ R.slots) :
    vx_Run p l e R s m args below meth c H locs cells slots mc ms g rest (Qc As.toArray) XC free := by
  obtain ⟨⟨⟨hrc, hrs, hfr, hlo, hws, hcw⟩, hcode, hini, hy, hlen, hl⟩, hx1, hx2⟩ := cw
  have hK : vx_Back l R p e below s args y 3 8 (PreOf R mc ms Pc) (PostOf Qc mc ms free) (vx_Post XC mc ms free) := vx_back (bytes := bytes) (maxL := maxL) (ret := ret) hM hp.1 hrc hrs hfr hlo hws hcw (fun a' U hW => word_at hW (Or.inl (by first | rfl | simp [Cond.onTables, Cond.keeps, Cond.steady])) hini)
  obtain ⟨hx, hb, hml, ho, -⟩ := S
  have hPc := hp.2
  intro T hT X
  rcases vx_callSN X hx (bytes := bytes) (maxL := maxL) (ret := ret) ho hl hx1 hini hcode hy hK hg (hsize.trans hml.symm) (argsL := As) (rest := rest) (fun sig h => hn.trans (hlen sig h)) hstack hW (by rw [hb]; exact hdg)
    (fun vm₁ hW₁ => ⟨hf.1, hf.2, hPc (T.setVm vm₁) hT hW₁⟩) with ⟨v, vm₁, ⟨U', l2, c2, s2⟩, hW₁, X', ⟨g', mk, t, L, e1, e2, hq, h1, hL, h2, h3⟩, st⟩ | ⟨q, vm₁, ⟨U', l2, c2, s2⟩, hW₁, X', ⟨g', mk, t, L, E, ce, e1, e2, hq, hce, hcv, hcl, h1, hL, h2, h3⟩, st⟩
  · dsimp only [Pt.U, Pt.locs, Pt.cells, Pt.slots] at X' e1 e2 h1 h2 h3 st
    subst h1; subst h2; subst h3
    exact Or.inl ⟨v, (T.setVm vm₁).calling g' mk As.toArray, t, U', L, hT, X', hL, e1, e2, hq, st⟩
  · dsimp only [Pt.U, Pt.locs, Pt.cells, Pt.slots] at X' e1 e2 h1 h2 h3 st hcl
    subst h1; subst h2; subst h3
    exact Or.inr ⟨q, (T.setVm vm₁).calling g' mk As.toArray, t, U', L, E, ce, hT, X', hL, e1, e2, hq, hce, hcv, vx_cls hW₁ hcl, st⟩
end
/-! ===== END ===== -/
end
section
/-! ===== BEGIN printed: names, fields, word lists, decode rows ===== -/
def RX0 : String := "InterleavedArchive$Decoder"
def TX0 : u_T := fun k => match k with
  | 0 => ("InterleavedArchive$Decoder", "given", "[I", true)
  | 1 => ("InterleavedArchive$Decoder", "results", "[I", true)
  | 2 => ("InterleavedArchive$Decoder", "sums", "[I", true)
  | 3 => ("InterleavedArchive$Decoder", "row", "[I", true)
  | 4 => ("InterleavedArchive$Decoder", "rows", "[[I", true)
  | 5 => ("InterleavedArchive$Decoder", "checks", "I", false)
  | 6 => ("InterleavedArchive$Decoder", "erasures", "I", false)
  | 7 => ("InterleavedArchive$Decoder", "errors", "I", false)
  | _ => ("InterleavedArchive$Decoder", "decodable", "Z", false)
def tyX0 : Nat → FieldType := fun k => match k with
  | 0 => .array .int
  | 1 => .array .int
  | 2 => .array .int
  | 3 => .array .int
  | 4 => .array (.array .int)
  | 5 => .int
  | 6 => .int
  | 7 => .int
  | _ => .boolean
abbrev wsX00 : List Cond := u_ws RX0 TX0 9
theorem nmX0 : ∀ a, a < 9 → ∀ b, b < 9 → a ≠ b → (TX0 a).2.1 ≠ (TX0 b).2.1 := by decide +kernel
theorem tyX0_ok : ∀ k, k < 9 → parseFieldDescriptor (TX0 k).2.2.1 = some (tyX0 k) := by decide +kernel
abbrev cX0_init : ByteArray := prog_2_method_1_code
def yX0_init : MethodName := ⟨RX0, "<init>", "()V"⟩
abbrev cX0_clearBlock : ByteArray := prog_2_method_2_code
def yX0_clearBlock : MethodName := ⟨RX0, "clearBlock", "(I)V"⟩
abbrev cX0_load : ByteArray := prog_2_method_3_code
def yX0_load : MethodName := ⟨RX0, "load", "(LInterleavedArchive$State;II)V"⟩
abbrev cX0_decode : ByteArray := prog_2_method_4_code
def yX0_decode : MethodName := ⟨RX0, "decode", "(LInterleavedArchive$State;II)Z"⟩
abbrev cX0_encode : ByteArray := prog_2_method_5_code
def yX0_encode : MethodName := ⟨RX0, "encode", "()V"⟩
abbrev cX0_damageCount : ByteArray := prog_2_method_6_code
def yX0_damageCount : MethodName := ⟨RX0, "damageCount", "()I"⟩
abbrev cX0_addSums : ByteArray := prog_2_method_7_code
def yX0_addSums : MethodName := ⟨RX0, "addSums", "()V"⟩
abbrev cX0_errorSet : ByteArray := prog_2_method_8_code
def yX0_errorSet : MethodName := ⟨RX0, "errorSet", "([[IIIIIII)I"⟩
abbrev cX0_isZero : ByteArray := prog_2_method_9_code
def yX0_isZero : MethodName := ⟨RX0, "isZero", "([II)Z"⟩
abbrev cX0_cancel : ByteArray := prog_2_method_10_code
def yX0_cancel : MethodName := ⟨RX0, "cancel", "([I[III)V"⟩
abbrev cX0_cancelErasures : ByteArray := prog_2_method_11_code
def yX0_cancelErasures : MethodName := ⟨RX0, "cancelErasures", "()V"⟩
abbrev cX0_solve : ByteArray := prog_2_method_12_code
def yX0_solve : MethodName := ⟨RX0, "solve", "(I)V"⟩
abbrev cX0_difference : ByteArray := prog_2_method_13_code
def yX0_difference : MethodName := ⟨RX0, "difference", "(II)I"⟩
def RX1 : String := "InterleavedArchive$State"
def TX1 : u_T := fun k => match k with
  | 0 => ("InterleavedArchive$State", "symbols", "[I", true)
  | 1 => ("InterleavedArchive$State", "written", "[I", true)
  | 2 => ("InterleavedArchive$State", "gone", "[I", true)
  | 3 => ("InterleavedArchive$State", "counts", "[I", true)
  | 4 => ("InterleavedArchive$State", "lengths", "[I", true)
  | 5 => ("InterleavedArchive$State", "blocks", "[I", true)
  | 6 => ("InterleavedArchive$State", "checks", "[I", true)
  | 7 => ("InterleavedArchive$State", "depths", "[I", true)
  | 8 => ("InterleavedArchive$State", "seals", "[I", true)
  | 9 => ("InterleavedArchive$State", "firsts", "[I", true)
  | 10 => ("InterleavedArchive$State", "checkDays", "[I", true)
  | _ => ("InterleavedArchive$State", "today", "I", false)
def tyX1 : Nat → FieldType := fun k => match k with
  | 0 => .array .int
  | 1 => .array .int
  | 2 => .array .int
  | 3 => .array .int
  | 4 => .array .int
  | 5 => .array .int
  | 6 => .array .int
  | 7 => .array .int
  | 8 => .array .int
  | 9 => .array .int
  | 10 => .array .int
  | _ => .int
abbrev wsX10 : List Cond := u_ws RX1 TX1 12
theorem nmX1 : ∀ a, a < 12 → ∀ b, b < 12 → a ≠ b → (TX1 a).2.1 ≠ (TX1 b).2.1 := by decide +kernel
theorem tyX1_ok : ∀ k, k < 12 → parseFieldDescriptor (TX1 k).2.2.1 = some (tyX1 k) := by decide +kernel
abbrev cX1_init : ByteArray := prog_3_method_1_code
def yX1_init : MethodName := ⟨RX1, "<init>", "()V"⟩
abbrev cX1_takeOver : ByteArray := prog_3_method_2_code
def yX1_takeOver : MethodName := ⟨RX1, "takeOver", "(LInterleavedArchive$State;)V"⟩
abbrev cX1_reset : ByteArray := prog_3_method_3_code
def yX1_reset : MethodName := ⟨RX1, "reset", "()V"⟩
abbrev cX1_hasFile : ByteArray := prog_3_method_4_code
def yX1_hasFile : MethodName := ⟨RX1, "hasFile", "(I)Z"⟩
abbrev cX1_hasBlock : ByteArray := prog_3_method_5_code
def yX1_hasBlock : MethodName := ⟨RX1, "hasBlock", "(II)Z"⟩
abbrev cX1_hasPosition : ByteArray := prog_3_method_6_code
def yX1_hasPosition : MethodName := ⟨RX1, "hasPosition", "(III)Z"⟩
abbrev cX1_fileCount : ByteArray := prog_3_method_7_code
def yX1_fileCount : MethodName := ⟨RX1, "fileCount", "()I"⟩
abbrev cX1_freeFile : ByteArray := prog_3_method_8_code
def yX1_freeFile : MethodName := ⟨RX1, "freeFile", "()I"⟩
abbrev cX1_enter : ByteArray := prog_3_method_9_code
def yX1_enter : MethodName := ⟨RX1, "enter", "(IIIII)V"⟩
abbrev cX1_drop : ByteArray := prog_3_method_10_code
def yX1_drop : MethodName := ⟨RX1, "drop", "(I)V"⟩
abbrev cX1_blockSize : ByteArray := prog_3_method_11_code
def yX1_blockSize : MethodName := ⟨RX1, "blockSize", "(I)I"⟩
abbrev cX1_areaSize : ByteArray := prog_3_method_12_code
def yX1_areaSize : MethodName := ⟨RX1, "areaSize", "(I)I"⟩
abbrev cX1_areaStart : ByteArray := prog_3_method_13_code
def yX1_areaStart : MethodName := ⟨RX1, "areaStart", "(I)I"⟩
abbrev cX1_areaEnd : ByteArray := prog_3_method_14_code
def yX1_areaEnd : MethodName := ⟨RX1, "areaEnd", "(I)I"⟩
abbrev cX1_groupSize : ByteArray := prog_3_method_15_code
def yX1_groupSize : MethodName := ⟨RX1, "groupSize", "(II)I"⟩
abbrev cX1_cellAt : ByteArray := prog_3_method_16_code
def yX1_cellAt : MethodName := ⟨RX1, "cellAt", "(III)I"⟩
abbrev cX1_placeInFile : ByteArray := prog_3_method_17_code
def yX1_placeInFile : MethodName := ⟨RX1, "placeInFile", "(II)I"⟩
abbrev cX1_fileAt : ByteArray := prog_3_method_18_code
def yX1_fileAt : MethodName := ⟨RX1, "fileAt", "(I)I"⟩
abbrev cX1_freeArea : ByteArray := prog_3_method_19_code
def yX1_freeArea : MethodName := ⟨RX1, "freeArea", "(I)I"⟩
abbrev cX1_greatestFreeArea : ByteArray := prog_3_method_20_code
def yX1_greatestFreeArea : MethodName := ⟨RX1, "greatestFreeArea", "()I"⟩
abbrev cX1_write : ByteArray := prog_3_method_21_code
def yX1_write : MethodName := ⟨RX1, "write", "(II)V"⟩
abbrev cX1_damage : ByteArray := prog_3_method_22_code
def yX1_damage : MethodName := ⟨RX1, "damage", "(II)V"⟩
abbrev cX1_isDue : ByteArray := prog_3_method_23_code
def yX1_isDue : MethodName := ⟨RX1, "isDue", "(II)Z"⟩
abbrev cX1_blockToCheck : ByteArray := prog_3_method_24_code
def yX1_blockToCheck : MethodName := ⟨RX1, "blockToCheck", "()I"⟩
def RX2 : String := "InterleavedArchive"
def TX2 : u_T := fun k => match k with
  | 0 => ("InterleavedArchive", "state", "LInterleavedArchive$State;", true)
  | 1 => ("InterleavedArchive", "kept", "LInterleavedArchive$State;", true)
  | 2 => ("InterleavedArchive", "history", "[LInterleavedArchive$State;", true)
  | 3 => ("InterleavedArchive", "decoder", "LInterleavedArchive$Decoder;", true)
  | 4 => ("InterleavedArchive", "input", "[C", true)
  | 5 => ("InterleavedArchive", "lines", "[I", true)
  | 6 => ("InterleavedArchive", "held", "[I", true)
  | 7 => ("InterleavedArchive", "inputLength", "I", false)
  | 8 => ("InterleavedArchive", "lineCount", "I", false)
  | 9 => ("InterleavedArchive", "keptError", "I", false)
  | 10 => ("InterleavedArchive", "hasKept", "Z", false)
  | 11 => ("InterleavedArchive", "oldestChange", "I", false)
  | _ => ("InterleavedArchive", "changes", "I", false)
def tyX2 : Nat → FieldType := fun k => match k with
  | 0 => .object "InterleavedArchive$State"
  | 1 => .object "InterleavedArchive$State"
  | 2 => .array (.object "InterleavedArchive$State")
  | 3 => .object "InterleavedArchive$Decoder"
  | 4 => .array .char
  | 5 => .array .int
  | 6 => .array .int
  | 7 => .int
  | 8 => .int
  | 9 => .int
  | 10 => .boolean
  | 11 => .int
  | _ => .int
abbrev wsX20 : List Cond := u_ws RX2 TX2 13
theorem nmX2 : ∀ a, a < 13 → ∀ b, b < 13 → a ≠ b → (TX2 a).2.1 ≠ (TX2 b).2.1 := by decide +kernel
theorem tyX2_ok : ∀ k, k < 13 → parseFieldDescriptor (TX2 k).2.2.1 = some (tyX2 k) := by decide +kernel
abbrev cX2_init : ByteArray := prog_1_method_1_code
def yX2_init : MethodName := ⟨RX2, "<init>", "()V"⟩
abbrev cX2_clear : ByteArray := prog_1_method_2_code
def yX2_clear : MethodName := ⟨RX2, "clear", "()I"⟩
abbrev cX2_append : ByteArray := prog_1_method_3_code
def yX2_append : MethodName := ⟨RX2, "append", "(C)I"⟩
abbrev cX2_store : ByteArray := prog_1_method_4_code
def yX2_store : MethodName := ⟨RX2, "store", "()I"⟩
abbrev cX2_errorPosition : ByteArray := prog_1_method_5_code
def yX2_errorPosition : MethodName := ⟨RX2, "errorPosition", "()I"⟩
abbrev cX2_remove : ByteArray := prog_1_method_6_code
def yX2_remove : MethodName := ⟨RX2, "remove", "(I)I"⟩
abbrev cX2_file : ByteArray := prog_1_method_7_code
def yX2_file : MethodName := ⟨RX2, "file", "(II)I"⟩
abbrev cX2_files : ByteArray := prog_1_method_8_code
def yX2_files : MethodName := ⟨RX2, "files", "()I"⟩
abbrev cX2_cellOf : ByteArray := prog_1_method_9_code
def yX2_cellOf : MethodName := ⟨RX2, "cellOf", "(III)I"⟩
abbrev cX2_owner : ByteArray := prog_1_method_10_code
def yX2_owner : MethodName := ⟨RX2, "owner", "(I)I"⟩
abbrev cX2_placeOf : ByteArray := prog_1_method_11_code
def yX2_placeOf : MethodName := ⟨RX2, "placeOf", "(I)I"⟩
abbrev cX2_room : ByteArray := prog_1_method_12_code
def yX2_room : MethodName := ⟨RX2, "room", "()I"⟩
abbrev cX2_symbol : ByteArray := prog_1_method_13_code
def yX2_symbol : MethodName := ⟨RX2, "symbol", "(I)I"⟩
abbrev cX2_isErased : ByteArray := prog_1_method_14_code
def yX2_isErased : MethodName := ⟨RX2, "isErased", "(I)Z"⟩
abbrev cX2_flip : ByteArray := prog_1_method_15_code
def yX2_flip : MethodName := ⟨RX2, "flip", "(II)I"⟩
abbrev cX2_erase : ByteArray := prog_1_method_16_code
def yX2_erase : MethodName := ⟨RX2, "erase", "(I)I"⟩
abbrev cX2_burst : ByteArray := prog_1_method_17_code
def yX2_burst : MethodName := ⟨RX2, "burst", "(III)I"⟩
abbrev cX2_wrong : ByteArray := prog_1_method_18_code
def yX2_wrong : MethodName := ⟨RX2, "wrong", "(I)I"⟩
abbrev cX2_erased : ByteArray := prog_1_method_19_code
def yX2_erased : MethodName := ⟨RX2, "erased", "(I)I"⟩
abbrev cX2_sum : ByteArray := prog_1_method_20_code
def yX2_sum : MethodName := ⟨RX2, "sum", "(III)I"⟩
abbrev cX2_decoded : ByteArray := prog_1_method_21_code
def yX2_decoded : MethodName := ⟨RX2, "decoded", "(III)I"⟩
abbrev cX2_found : ByteArray := prog_1_method_22_code
def yX2_found : MethodName := ⟨RX2, "found", "(III)I"⟩
abbrev cX2_read : ByteArray := prog_1_method_23_code
def yX2_read : MethodName := ⟨RX2, "read", "(II)I"⟩
abbrev cX2_condition : ByteArray := prog_1_method_24_code
def yX2_condition : MethodName := ⟨RX2, "condition", "(I)I"⟩
abbrev cX2_undecodable : ByteArray := prog_1_method_25_code
def yX2_undecodable : MethodName := ⟨RX2, "undecodable", "(I)I"⟩
abbrev cX2_margin : ByteArray := prog_1_method_26_code
def yX2_margin : MethodName := ⟨RX2, "margin", "(II)I"⟩
abbrev cX2_burstLimit : ByteArray := prog_1_method_27_code
def yX2_burstLimit : MethodName := ⟨RX2, "burstLimit", "(I)I"⟩
abbrev cX2_advance : ByteArray := prog_1_method_28_code
def yX2_advance : MethodName := ⟨RX2, "advance", "(I)I"⟩
abbrev cX2_scrub : ByteArray := prog_1_method_29_code
def yX2_scrub : MethodName := ⟨RX2, "scrub", "(I)I"⟩
abbrev cX2_report : ByteArray := prog_1_method_30_code
def yX2_report : MethodName := ⟨RX2, "report", "(II)I"⟩
abbrev cX2_reportLines : ByteArray := prog_1_method_31_code
def yX2_reportLines : MethodName := ⟨RX2, "reportLines", "()I"⟩
abbrev cX2_repair : ByteArray := prog_1_method_32_code
def yX2_repair : MethodName := ⟨RX2, "repair", "(II)I"⟩
abbrev cX2_checked : ByteArray := prog_1_method_33_code
def yX2_checked : MethodName := ⟨RX2, "checked", "(II)I"⟩
abbrev cX2_nextToCheck : ByteArray := prog_1_method_34_code
def yX2_nextToCheck : MethodName := ⟨RX2, "nextToCheck", "()I"⟩
abbrev cX2_needed : ByteArray := prog_1_method_35_code
def yX2_needed : MethodName := ⟨RX2, "needed", "()I"⟩
abbrev cX2_account : ByteArray := prog_1_method_36_code
def yX2_account : MethodName := ⟨RX2, "account", "(I)I"⟩
abbrev cX2_day : ByteArray := prog_1_method_37_code
def yX2_day : MethodName := ⟨RX2, "day", "()I"⟩
abbrev cX2_health : ByteArray := prog_1_method_38_code
def yX2_health : MethodName := ⟨RX2, "health", "()D"⟩
abbrev cX2_describe : ByteArray := prog_1_method_39_code
def yX2_describe : MethodName := ⟨RX2, "describe", "(II)I"⟩
abbrev cX2_undo : ByteArray := prog_1_method_40_code
def yX2_undo : MethodName := ⟨RX2, "undo", "()I"⟩
abbrev cX2_save : ByteArray := prog_1_method_41_code
def yX2_save : MethodName := ⟨RX2, "save", "()I"⟩
abbrev cX2_restore : ByteArray := prog_1_method_42_code
def yX2_restore : MethodName := ⟨RX2, "restore", "()I"⟩
abbrev cX2_remember : ByteArray := prog_1_method_43_code
def yX2_remember : MethodName := ⟨RX2, "remember", "()V"⟩
abbrev cX2_forgetChanges : ByteArray := prog_1_method_44_code
def yX2_forgetChanges : MethodName := ⟨RX2, "forgetChanges", "()V"⟩
abbrev cX2_textError : ByteArray := prog_1_method_45_code
def yX2_textError : MethodName := ⟨RX2, "textError", "([CI)I"⟩
abbrev cX2_fitsText : ByteArray := prog_1_method_46_code
def yX2_fitsText : MethodName := ⟨RX2, "fitsText", "(IC)Z"⟩
abbrev cX2_symbolOf : ByteArray := prog_1_method_47_code
def yX2_symbolOf : MethodName := ⟨RX2, "symbolOf", "(C)I"⟩
abbrev cX2_headCharacter : ByteArray := prog_1_method_48_code
def yX2_headCharacter : MethodName := ⟨RX2, "headCharacter", "(II)I"⟩
abbrev cX2_dataCharacter : ByteArray := prog_1_method_49_code
def yX2_dataCharacter : MethodName := ⟨RX2, "dataCharacter", "(II)I"⟩
abbrev cX2_writeFile : ByteArray := prog_1_method_50_code
def yX2_writeFile : MethodName := ⟨RX2, "writeFile", "(I)V"⟩
abbrev cX2_writeFound : ByteArray := prog_1_method_51_code
def yX2_writeFound : MethodName := ⟨RX2, "writeFound", "(III)V"⟩
abbrev cX2_sealBehind : ByteArray := prog_1_method_52_code
def yX2_sealBehind : MethodName := ⟨RX2, "sealBehind", "(III)I"⟩
abbrev cX2_dataIn : ByteArray := prog_1_method_53_code
def yX2_dataIn : MethodName := ⟨RX2, "dataIn", "(II)I"⟩
abbrev cX2_lostBlocks : ByteArray := prog_1_method_54_code
def yX2_lostBlocks : MethodName := ⟨RX2, "lostBlocks", "(I)I"⟩
abbrev cX2_standingFrom : ByteArray := prog_1_method_55_code
def yX2_standingFrom : MethodName := ⟨RX2, "standingFrom", "(III)I"⟩
abbrev cX2_scrubBlock : ByteArray := prog_1_method_56_code
def yX2_scrubBlock : MethodName := ⟨RX2, "scrubBlock", "(III)I"⟩
abbrev cX2_addLine : ByteArray := prog_1_method_57_code
def yX2_addLine : MethodName := ⟨RX2, "addLine", "(IIII)V"⟩
abbrev cX2_isCell : ByteArray := prog_1_method_58_code
def yX2_isCell : MethodName := ⟨RX2, "isCell", "(I)Z"⟩
abbrev cX2_blocksFor : ByteArray := prog_1_method_59_code
def yX2_blocksFor : MethodName := ⟨RX2, "blocksFor", "(I)I"⟩
abbrev cX2_product : ByteArray := prog_1_method_60_code
def yX2_product : MethodName := ⟨RX2, "product", "(II)I"⟩
abbrev cX2_quotient : ByteArray := prog_1_method_61_code
def yX2_quotient : MethodName := ⟨RX2, "quotient", "(II)I"⟩
def RX3 : String := "InterleavedArchiveModel"
def TX3 : u_T := fun k => match k with
  | 0 => ("InterleavedArchiveModel", "thrown", "I", false)
  | 1 => ("InterleavedArchiveModel", "v", "[I", true)
  | 2 => ("InterleavedArchiveModel", "saved", "[I", true)
  | 3 => ("InterleavedArchiveModel", "past", "[I", true)
  | 4 => ("InterleavedArchiveModel", "changes", "I", false)
  | 5 => ("InterleavedArchiveModel", "fault", "I", false)
  | 6 => ("InterleavedArchiveModel", "isSaved", "Z", false)
  | 7 => ("InterleavedArchiveModel", "text", "[C", true)
  | 8 => ("InterleavedArchiveModel", "textN", "I", false)
  | 9 => ("InterleavedArchiveModel", "lines", "[I", true)
  | 10 => ("InterleavedArchiveModel", "lineN", "I", false)
  | 11 => ("InterleavedArchiveModel", "products", "[I", true)
  | 12 => ("InterleavedArchiveModel", "powers", "[I", true)
  | 13 => ("InterleavedArchiveModel", "inverses", "[I", true)
  | 14 => ("InterleavedArchiveModel", "at", "I", false)
  | 15 => ("InterleavedArchiveModel", "isFaulty", "Z", false)
  | 16 => ("InterleavedArchiveModel", "told", "[I", true)
  | 17 => ("InterleavedArchiveModel", "symbol", "[I", true)
  | 18 => ("InterleavedArchiveModel", "found", "[I", true)
  | 19 => ("InterleavedArchiveModel", "places", "[I", true)
  | 20 => ("InterleavedArchiveModel", "differences", "[I", true)
  | 21 => ("InterleavedArchiveModel", "rows", "[I", true)
  | 22 => ("InterleavedArchiveModel", "sums", "[I", true)
  | 23 => ("InterleavedArchiveModel", "size", "I", false)
  | 24 => ("InterleavedArchiveModel", "checksN", "I", false)
  | 25 => ("InterleavedArchiveModel", "erasures", "I", false)
  | 26 => ("InterleavedArchiveModel", "errors", "I", false)
  | 27 => ("InterleavedArchiveModel", "errorN", "I", false)
  | 28 => ("InterleavedArchiveModel", "erasureN", "I", false)
  | 29 => ("InterleavedArchiveModel", "symbols", "[I", true)
  | _ => ("InterleavedArchiveModel", "isAllClean", "Z", false)
def tyX3 : Nat → FieldType := fun k => match k with
  | 0 => .int
  | 1 => .array .int
  | 2 => .array .int
  | 3 => .array .int
  | 4 => .int
  | 5 => .int
  | 6 => .boolean
  | 7 => .array .char
  | 8 => .int
  | 9 => .array .int
  | 10 => .int
  | 11 => .array .int
  | 12 => .array .int
  | 13 => .array .int
  | 14 => .int
  | 15 => .boolean
  | 16 => .array .int
  | 17 => .array .int
  | 18 => .array .int
  | 19 => .array .int
  | 20 => .array .int
  | 21 => .array .int
  | 22 => .array .int
  | 23 => .int
  | 24 => .int
  | 25 => .int
  | 26 => .int
  | 27 => .int
  | 28 => .int
  | 29 => .array .int
  | _ => .boolean
abbrev wsX30 : List Cond := u_ws RX3 TX3 31
theorem nmX3 : ∀ a, a < 31 → ∀ b, b < 31 → a ≠ b → (TX3 a).2.1 ≠ (TX3 b).2.1 := by decide +kernel
theorem tyX3_ok : ∀ k, k < 31 → parseFieldDescriptor (TX3 k).2.2.1 = some (tyX3 k) := by decide +kernel
abbrev cX3_init : ByteArray := prog_5_method_1_code
def yX3_init : MethodName := ⟨RX3, "<init>", "()V"⟩
abbrev cX3_thrown : ByteArray := prog_5_method_2_code
def yX3_thrown : MethodName := ⟨RX3, "thrown", "()I"⟩
abbrev cX3_no : ByteArray := prog_5_method_3_code
def yX3_no : MethodName := ⟨RX3, "no", "(I)I"⟩
abbrev cX3_isIn : ByteArray := prog_5_method_4_code
def yX3_isIn : MethodName := ⟨RX3, "isIn", "(III)Z"⟩
abbrev cX3_keeps : ByteArray := prog_5_method_5_code
def yX3_keeps : MethodName := ⟨RX3, "keeps", "()V"⟩
abbrev cX3_copies : ByteArray := prog_5_method_6_code
def yX3_copies : MethodName := ⟨RX3, "copies", "([I[I)V"⟩
abbrev cX3_multiplied : ByteArray := prog_5_method_7_code
def yX3_multiplied : MethodName := ⟨RX3, "multiplied", "(II)I"⟩
abbrev cX3_times : ByteArray := prog_5_method_8_code
def yX3_times : MethodName := ⟨RX3, "times", "(II)I"⟩
abbrev cX3_power : ByteArray := prog_5_method_9_code
def yX3_power : MethodName := ⟨RX3, "power", "(I)I"⟩
abbrev cX3_of : ByteArray := prog_5_method_10_code
def yX3_of : MethodName := ⟨RX3, "of", "(II)I"⟩
abbrev cX3_isFile : ByteArray := prog_5_method_11_code
def yX3_isFile : MethodName := ⟨RX3, "isFile", "(I)Z"⟩
abbrev cX3_blocks : ByteArray := prog_5_method_12_code
def yX3_blocks : MethodName := ⟨RX3, "blocks", "(I)I"⟩
abbrev cX3_size : ByteArray := prog_5_method_13_code
def yX3_size : MethodName := ⟨RX3, "size", "(I)I"⟩
abbrev cX3_cells : ByteArray := prog_5_method_14_code
def yX3_cells : MethodName := ⟨RX3, "cells", "(I)I"⟩
abbrev cX3_isBlock : ByteArray := prog_5_method_15_code
def yX3_isBlock : MethodName := ⟨RX3, "isBlock", "(II)Z"⟩
abbrev cX3_cell : ByteArray := prog_5_method_16_code
def yX3_cell : MethodName := ⟨RX3, "cell", "(III)I"⟩
abbrev cX3_ownerOf : ByteArray := prog_5_method_17_code
def yX3_ownerOf : MethodName := ⟨RX3, "ownerOf", "(I)I"⟩
abbrev cX3_many : ByteArray := prog_5_method_18_code
def yX3_many : MethodName := ⟨RX3, "many", "()I"⟩
abbrev cX3_clear : ByteArray := prog_5_method_19_code
def yX3_clear : MethodName := ⟨RX3, "clear", "()I"⟩
abbrev cX3_append : ByteArray := prog_5_method_20_code
def yX3_append : MethodName := ⟨RX3, "append", "(C)I"⟩
abbrev cX3_here : ByteArray := prog_5_method_21_code
def yX3_here : MethodName := ⟨RX3, "here", "()I"⟩
abbrev cX3_digit : ByteArray := prog_5_method_22_code
def yX3_digit : MethodName := ⟨RX3, "digit", "(I)I"⟩
abbrev cX3_takes : ByteArray := prog_5_method_23_code
def yX3_takes : MethodName := ⟨RX3, "takes", "(I)V"⟩
abbrev cX3_symbolOf : ByteArray := prog_5_method_24_code
def yX3_symbolOf : MethodName := ⟨RX3, "symbolOf", "(I)I"⟩
abbrev cX3_area : ByteArray := prog_5_method_25_code
def yX3_area : MethodName := ⟨RX3, "area", "(I)I"⟩
abbrev cX3_writes : ByteArray := prog_5_method_26_code
def yX3_writes : MethodName := ⟨RX3, "writes", "(II)V"⟩
abbrev cX3_store : ByteArray := prog_5_method_27_code
def yX3_store : MethodName := ⟨RX3, "store", "()I"⟩
abbrev cX3_errorPosition : ByteArray := prog_5_method_28_code
def yX3_errorPosition : MethodName := ⟨RX3, "errorPosition", "()I"⟩
abbrev cX3_remove : ByteArray := prog_5_method_29_code
def yX3_remove : MethodName := ⟨RX3, "remove", "(I)I"⟩
abbrev cX3_file : ByteArray := prog_5_method_30_code
def yX3_file : MethodName := ⟨RX3, "file", "(II)I"⟩
abbrev cX3_files : ByteArray := prog_5_method_31_code
def yX3_files : MethodName := ⟨RX3, "files", "()I"⟩
abbrev cX3_isPlace : ByteArray := prog_5_method_32_code
def yX3_isPlace : MethodName := ⟨RX3, "isPlace", "(III)Z"⟩
abbrev cX3_cellOf : ByteArray := prog_5_method_33_code
def yX3_cellOf : MethodName := ⟨RX3, "cellOf", "(III)I"⟩
abbrev cX3_isCell : ByteArray := prog_5_method_34_code
def yX3_isCell : MethodName := ⟨RX3, "isCell", "(I)Z"⟩
abbrev cX3_owner : ByteArray := prog_5_method_35_code
def yX3_owner : MethodName := ⟨RX3, "owner", "(I)I"⟩
abbrev cX3_placeOf : ByteArray := prog_5_method_36_code
def yX3_placeOf : MethodName := ⟨RX3, "placeOf", "(I)I"⟩
abbrev cX3_room : ByteArray := prog_5_method_37_code
def yX3_room : MethodName := ⟨RX3, "room", "()I"⟩
abbrev cX3_symbol : ByteArray := prog_5_method_38_code
def yX3_symbol : MethodName := ⟨RX3, "symbol", "(I)I"⟩
abbrev cX3_isErased : ByteArray := prog_5_method_39_code
def yX3_isErased : MethodName := ⟨RX3, "isErased", "(I)Z"⟩
abbrev cX3_flip : ByteArray := prog_5_method_40_code
def yX3_flip : MethodName := ⟨RX3, "flip", "(II)I"⟩
abbrev cX3_erase : ByteArray := prog_5_method_41_code
def yX3_erase : MethodName := ⟨RX3, "erase", "(I)I"⟩
abbrev cX3_burst : ByteArray := prog_5_method_42_code
def yX3_burst : MethodName := ⟨RX3, "burst", "(III)I"⟩
abbrev cX3_isWrong : ByteArray := prog_5_method_43_code
def yX3_isWrong : MethodName := ⟨RX3, "isWrong", "(I)Z"⟩
abbrev cX3_isFileOrAll : ByteArray := prog_5_method_44_code
def yX3_isFileOrAll : MethodName := ⟨RX3, "isFileOrAll", "(I)Z"⟩
abbrev cX3_wrong : ByteArray := prog_5_method_45_code
def yX3_wrong : MethodName := ⟨RX3, "wrong", "(I)I"⟩
abbrev cX3_erased : ByteArray := prog_5_method_46_code
def yX3_erased : MethodName := ⟨RX3, "erased", "(I)I"⟩
abbrev cX3_looks : ByteArray := prog_5_method_47_code
def yX3_looks : MethodName := ⟨RX3, "looks", "(II)V"⟩
abbrev cX3_sumOf : ByteArray := prog_5_method_48_code
def yX3_sumOf : MethodName := ⟨RX3, "sumOf", "(I)I"⟩
abbrev cX3_bits : ByteArray := prog_5_method_49_code
def yX3_bits : MethodName := ⟨RX3, "bits", "(I)I"⟩
abbrev cX3_isSolved : ByteArray := prog_5_method_50_code
def yX3_isSolved : MethodName := ⟨RX3, "isSolved", "(I)Z"⟩
abbrev cX3_isDecoded : ByteArray := prog_5_method_51_code
def yX3_isDecoded : MethodName := ⟨RX3, "isDecoded", "()Z"⟩
abbrev cX3_behind : ByteArray := prog_5_method_52_code
def yX3_behind : MethodName := ⟨RX3, "behind", "(II)I"⟩
abbrev cX3_isDecoded_ : ByteArray := prog_5_method_53_code
def yX3_isDecoded_ : MethodName := ⟨RX3, "isDecoded", "(II)Z"⟩
abbrev cX3_isClean : ByteArray := prog_5_method_54_code
def yX3_isClean : MethodName := ⟨RX3, "isClean", "()Z"⟩
abbrev cX3_isThere : ByteArray := prog_5_method_55_code
def yX3_isThere : MethodName := ⟨RX3, "isThere", "(II)Z"⟩
abbrev cX3_sum : ByteArray := prog_5_method_56_code
def yX3_sum : MethodName := ⟨RX3, "sum", "(III)I"⟩
abbrev cX3_decoded : ByteArray := prog_5_method_57_code
def yX3_decoded : MethodName := ⟨RX3, "decoded", "(III)I"⟩
abbrev cX3_found : ByteArray := prog_5_method_58_code
def yX3_found : MethodName := ⟨RX3, "found", "(III)I"⟩
abbrev cX3_read : ByteArray := prog_5_method_59_code
def yX3_read : MethodName := ⟨RX3, "read", "(II)I"⟩
abbrev cX3_isWhole : ByteArray := prog_5_method_60_code
def yX3_isWhole : MethodName := ⟨RX3, "isWhole", "(I)Z"⟩
abbrev cX3_condition : ByteArray := prog_5_method_61_code
def yX3_condition : MethodName := ⟨RX3, "condition", "(I)I"⟩
abbrev cX3_undecodable : ByteArray := prog_5_method_62_code
def yX3_undecodable : MethodName := ⟨RX3, "undecodable", "(I)I"⟩
abbrev cX3_margin : ByteArray := prog_5_method_63_code
def yX3_margin : MethodName := ⟨RX3, "margin", "(II)I"⟩
abbrev cX3_isStood : ByteArray := prog_5_method_64_code
def yX3_isStood : MethodName := ⟨RX3, "isStood", "(III)Z"⟩
abbrev cX3_burstLimit : ByteArray := prog_5_method_65_code
def yX3_burstLimit : MethodName := ⟨RX3, "burstLimit", "(I)I"⟩
abbrev cX3_advance : ByteArray := prog_5_method_66_code
def yX3_advance : MethodName := ⟨RX3, "advance", "(I)I"⟩
abbrev cX3_next : ByteArray := prog_5_method_67_code
def yX3_next : MethodName := ⟨RX3, "next", "()I"⟩
abbrev cX3_tells : ByteArray := prog_5_method_68_code
def yX3_tells : MethodName := ⟨RX3, "tells", "(IIII)V"⟩
abbrev cX3_mends : ByteArray := prog_5_method_69_code
def yX3_mends : MethodName := ⟨RX3, "mends", "(II)I"⟩
abbrev cX3_scrub : ByteArray := prog_5_method_70_code
def yX3_scrub : MethodName := ⟨RX3, "scrub", "(I)I"⟩
abbrev cX3_report : ByteArray := prog_5_method_71_code
def yX3_report : MethodName := ⟨RX3, "report", "(II)I"⟩
abbrev cX3_reportLines : ByteArray := prog_5_method_72_code
def yX3_reportLines : MethodName := ⟨RX3, "reportLines", "()I"⟩
abbrev cX3_repair : ByteArray := prog_5_method_73_code
def yX3_repair : MethodName := ⟨RX3, "repair", "(II)I"⟩
abbrev cX3_checked : ByteArray := prog_5_method_74_code
def yX3_checked : MethodName := ⟨RX3, "checked", "(II)I"⟩
abbrev cX3_nextToCheck : ByteArray := prog_5_method_75_code
def yX3_nextToCheck : MethodName := ⟨RX3, "nextToCheck", "()I"⟩
abbrev cX3_needed : ByteArray := prog_5_method_76_code
def yX3_needed : MethodName := ⟨RX3, "needed", "()I"⟩
abbrev cX3_account : ByteArray := prog_5_method_77_code
def yX3_account : MethodName := ⟨RX3, "account", "(I)I"⟩
abbrev cX3_day : ByteArray := prog_5_method_78_code
def yX3_day : MethodName := ⟨RX3, "day", "()I"⟩
abbrev cX3_health : ByteArray := prog_5_method_79_code
def yX3_health : MethodName := ⟨RX3, "health", "()D"⟩
abbrev cX3_describe : ByteArray := prog_5_method_80_code
def yX3_describe : MethodName := ⟨RX3, "describe", "(II)I"⟩
abbrev cX3_undo : ByteArray := prog_5_method_81_code
def yX3_undo : MethodName := ⟨RX3, "undo", "()I"⟩
abbrev cX3_save : ByteArray := prog_5_method_82_code
def yX3_save : MethodName := ⟨RX3, "save", "()I"⟩
abbrev cX3_restore : ByteArray := prog_5_method_83_code
def yX3_restore : MethodName := ⟨RX3, "restore", "()I"⟩
def RJx145de : String := "java/io/Serializable"
def TJx145de : u_T := fun k => match k with
  | _ => ("", "", "", false)
def tyJx145de : Nat → FieldType := fun k => match k with
  | _ => .int
abbrev wsJx145de0 : List Cond := u_ws RJx145de TJx145de 0
theorem nmJx145de : ∀ a, a < 0 → ∀ b, b < 0 → a ≠ b → (TJx145de a).2.1 ≠ (TJx145de b).2.1 := by decide +kernel
theorem tyJx145de_ok : ∀ k, k < 0 → parseFieldDescriptor (TJx145de k).2.2.1 = some (tyJx145de k) := by decide +kernel
def RJx00060 : String := "java/lang/ArrayIndexOutOfBoundsException"
def TJx00060 : u_T := fun k => match k with
  | 0 => ("java/lang/Throwable", "backtrace", "Ljava/lang/Object;", false)
  | 1 => ("java/lang/Throwable", "detailMessage", "Ljava/lang/String;", false)
  | 2 => ("java/lang/Throwable", "cause", "Ljava/lang/Throwable;", false)
  | 3 => ("java/lang/Throwable", "stackTrace", "[Ljava/lang/StackTraceElement;", false)
  | 4 => ("java/lang/Throwable", "depth", "I", false)
  | _ => ("java/lang/Throwable", "suppressedExceptions", "Ljava/util/List;", false)
def tyJx00060 : Nat → FieldType := fun k => match k with
  | 0 => .object "java/lang/Object"
  | 1 => .object "java/lang/String"
  | 2 => .object "java/lang/Throwable"
  | 3 => .array (.object "java/lang/StackTraceElement")
  | 4 => .int
  | _ => .object "java/util/List"
abbrev wsJx000600 : List Cond := u_ws RJx00060 TJx00060 6
theorem nmJx00060 : ∀ a, a < 6 → ∀ b, b < 6 → a ≠ b → (TJx00060 a).2.1 ≠ (TJx00060 b).2.1 := by decide +kernel
theorem tyJx00060_ok : ∀ k, k < 6 → parseFieldDescriptor (TJx00060 k).2.2.1 = some (tyJx00060 k) := by decide +kernel
abbrev cJx00060_init_a7421 : ByteArray := prog_8_method_2_code
def yJx00060_init_a7421 : MethodName := ⟨RJx00060, "<init>", "(Ljava/lang/String;)V"⟩
def RJ6 : String := "java/lang/Integer"
def TJ6 : u_T := fun k => match k with
  | _ => ("", "", "", false)
def tyJ6 : Nat → FieldType := fun k => match k with
  | _ => .int
abbrev wsJ60 : List Cond := u_ws RJ6 TJ6 0
theorem nmJ6 : ∀ a, a < 0 → ∀ b, b < 0 → a ≠ b → (TJ6 a).2.1 ≠ (TJ6 b).2.1 := by decide +kernel
theorem tyJ6_ok : ∀ k, k < 0 → parseFieldDescriptor (TJ6 k).2.2.1 = some (tyJ6 k) := by decide +kernel
abbrev cJ6_bitCount_0f7a4 : ByteArray := prog_13_method_49_code
def yJ6_bitCount_0f7a4 : MethodName := ⟨RJ6, "bitCount", "(I)I"⟩
def RJ9 : String := "java/lang/Math"
def TJ9 : u_T := fun k => match k with
  | _ => ("", "", "", false)
def tyJ9 : Nat → FieldType := fun k => match k with
  | _ => .int
abbrev wsJ90 : List Cond := u_ws RJ9 TJ9 0
theorem nmJ9 : ∀ a, a < 0 → ∀ b, b < 0 → a ≠ b → (TJ9 a).2.1 ≠ (TJ9 b).2.1 := by decide +kernel
theorem tyJ9_ok : ∀ k, k < 0 → parseFieldDescriptor (TJ9 k).2.2.1 = some (tyJ9 k) := by decide +kernel
abbrev cJ9_max_7cf53 : ByteArray := prog_14_method_65_code
def yJ9_max_7cf53 : MethodName := ⟨RJ9, "max", "(II)I"⟩
abbrev cJ9_min_7cf53 : ByteArray := prog_14_method_69_code
def yJ9_min_7cf53 : MethodName := ⟨RJ9, "min", "(II)I"⟩
def RJ0 : String := "java/lang/String"
def TJ0 : u_T := fun k => match k with
  | 0 => ("java/lang/String", "value", "[B", true)
  | _ => ("java/lang/String", "coder", "B", true)
def tyJ0 : Nat → FieldType := fun k => match k with
  | 0 => .array .byte
  | _ => .byte
abbrev wsJ00 : List Cond := u_ws RJ0 TJ0 2
theorem nmJ0 : ∀ a, a < 2 → ∀ b, b < 2 → a ≠ b → (TJ0 a).2.1 ≠ (TJ0 b).2.1 := by decide +kernel
theorem tyJ0_ok : ∀ k, k < 2 → parseFieldDescriptor (TJ0 k).2.2.1 = some (tyJ0 k) := by decide +kernel
def RJ10 : String := "java/lang/System"
def TJ10 : u_T := fun k => match k with
  | _ => ("", "", "", false)
def tyJ10 : Nat → FieldType := fun k => match k with
  | _ => .int
abbrev wsJ100 : List Cond := u_ws RJ10 TJ10 0
theorem nmJ10 : ∀ a, a < 0 → ∀ b, b < 0 → a ≠ b → (TJ10 a).2.1 ≠ (TJ10 b).2.1 := by decide +kernel
theorem tyJ10_ok : ∀ k, k < 0 → parseFieldDescriptor (TJ10 k).2.2.1 = some (tyJ10 k) := by decide +kernel
def RL : String := "InterleavedArchiveLaw"
abbrev cL_append : ByteArray := method_3_code
def yL_append : MethodName := ⟨RL, "append", "(LInterleavedArchive;C[J)I"⟩
abbrev cL_store : ByteArray := method_4_code
def yL_store : MethodName := ⟨RL, "store", "(LInterleavedArchive;[J)I"⟩
abbrev cL_errorPosition : ByteArray := method_5_code
def yL_errorPosition : MethodName := ⟨RL, "errorPosition", "(LInterleavedArchive;[J)I"⟩
abbrev cL_remove : ByteArray := method_6_code
def yL_remove : MethodName := ⟨RL, "remove", "(LInterleavedArchive;I[J)I"⟩
abbrev cL_file : ByteArray := method_7_code
def yL_file : MethodName := ⟨RL, "file", "(LInterleavedArchive;II[J)I"⟩
abbrev cL_cellOf : ByteArray := method_8_code
def yL_cellOf : MethodName := ⟨RL, "cellOf", "(LInterleavedArchive;III[J)I"⟩
abbrev cL_owner : ByteArray := method_9_code
def yL_owner : MethodName := ⟨RL, "owner", "(LInterleavedArchive;I[J)I"⟩
abbrev cL_placeOf : ByteArray := method_10_code
def yL_placeOf : MethodName := ⟨RL, "placeOf", "(LInterleavedArchive;I[J)I"⟩
abbrev cL_symbol : ByteArray := method_11_code
def yL_symbol : MethodName := ⟨RL, "symbol", "(LInterleavedArchive;I[J)I"⟩
abbrev cL_isErased : ByteArray := method_12_code
def yL_isErased : MethodName := ⟨RL, "isErased", "(LInterleavedArchive;I[J)I"⟩
abbrev cL_flip : ByteArray := method_13_code
def yL_flip : MethodName := ⟨RL, "flip", "(LInterleavedArchive;II[J)I"⟩
abbrev cL_erase : ByteArray := method_14_code
def yL_erase : MethodName := ⟨RL, "erase", "(LInterleavedArchive;I[J)I"⟩
abbrev cL_burst : ByteArray := method_15_code
def yL_burst : MethodName := ⟨RL, "burst", "(LInterleavedArchive;III[J)I"⟩
abbrev cL_wrong : ByteArray := method_16_code
def yL_wrong : MethodName := ⟨RL, "wrong", "(LInterleavedArchive;I[J)I"⟩
abbrev cL_erased : ByteArray := method_17_code
def yL_erased : MethodName := ⟨RL, "erased", "(LInterleavedArchive;I[J)I"⟩
abbrev cL_sum : ByteArray := method_18_code
def yL_sum : MethodName := ⟨RL, "sum", "(LInterleavedArchive;III[J)I"⟩
abbrev cL_decoded : ByteArray := method_19_code
def yL_decoded : MethodName := ⟨RL, "decoded", "(LInterleavedArchive;III[J)I"⟩
abbrev cL_found : ByteArray := method_20_code
def yL_found : MethodName := ⟨RL, "found", "(LInterleavedArchive;III[J)I"⟩
abbrev cL_read : ByteArray := method_21_code
def yL_read : MethodName := ⟨RL, "read", "(LInterleavedArchive;II[J)I"⟩
abbrev cL_condition : ByteArray := method_22_code
def yL_condition : MethodName := ⟨RL, "condition", "(LInterleavedArchive;I[J)I"⟩
abbrev cL_undecodable : ByteArray := method_23_code
def yL_undecodable : MethodName := ⟨RL, "undecodable", "(LInterleavedArchive;I[J)I"⟩
abbrev cL_margin : ByteArray := method_24_code
def yL_margin : MethodName := ⟨RL, "margin", "(LInterleavedArchive;II[J)I"⟩
abbrev cL_burstLimit : ByteArray := method_25_code
def yL_burstLimit : MethodName := ⟨RL, "burstLimit", "(LInterleavedArchive;I[J)I"⟩
abbrev cL_advance : ByteArray := method_26_code
def yL_advance : MethodName := ⟨RL, "advance", "(LInterleavedArchive;I[J)I"⟩
abbrev cL_scrub : ByteArray := method_27_code
def yL_scrub : MethodName := ⟨RL, "scrub", "(LInterleavedArchive;I[J)I"⟩
abbrev cL_report : ByteArray := method_28_code
def yL_report : MethodName := ⟨RL, "report", "(LInterleavedArchive;II[J)I"⟩
abbrev cL_repair : ByteArray := method_29_code
def yL_repair : MethodName := ⟨RL, "repair", "(LInterleavedArchive;II[J)I"⟩
abbrev cL_checked : ByteArray := method_30_code
def yL_checked : MethodName := ⟨RL, "checked", "(LInterleavedArchive;II[J)I"⟩
abbrev cL_nextToCheck : ByteArray := method_31_code
def yL_nextToCheck : MethodName := ⟨RL, "nextToCheck", "(LInterleavedArchive;[J)I"⟩
abbrev cL_account : ByteArray := method_32_code
def yL_account : MethodName := ⟨RL, "account", "(LInterleavedArchive;I[J)I"⟩
abbrev cL_health : ByteArray := method_33_code
def yL_health : MethodName := ⟨RL, "health", "(LInterleavedArchive;[D)I"⟩
abbrev cL_describe : ByteArray := method_34_code
def yL_describe : MethodName := ⟨RL, "describe", "(LInterleavedArchive;II[J)I"⟩
abbrev cL_undo : ByteArray := method_35_code
def yL_undo : MethodName := ⟨RL, "undo", "(LInterleavedArchive;[J)I"⟩
abbrev cL_restore : ByteArray := method_36_code
def yL_restore : MethodName := ⟨RL, "restore", "(LInterleavedArchive;[J)I"⟩
abbrev cL_law : ByteArray := code
def yL_law : MethodName := ⟨RL, "law", "([I)Z"⟩
end
section
/-! ===== an abstract machine with numbered cells, over the kit's rows: a method's code is walked over heaps that are
lists of kinds with their contents; every row here is one of the kit's rows, the frame and the room carried along ===== -/
def gMv : Cond → Bool
  | .castable .. => true
  | .declares _ => true
  | .fieldLinkNest .. => true
  | .methodLinkNest .. => true
  | w => goodWord w
theorem gMv_use {w : Cond} (hw : gMv w = true) {args a' : Array Value} {s U : State} (hW : s.WarmedH U.vm) (h : w.before args s = true) : w.before a' U = true := by
  cases w with
  | castable C T => exact va_Nw.use rfl (va_Nw.warmC hW (va_Nw.of rfl h))
  | declares x => exact va_Nw.use rfl (va_Nw.warmD hW (va_Nw.of rfl h))
  | fieldLinkNest a b c d e f => exact va_Nw.use rfl (va_Nw.warmF hW (va_Nw.of rfl h))
  | methodLinkNest a b c d => exact va_Nw.use rfl (va_Nw.warmM hW (va_Nw.of rfl h))
  | _ => exact word_at hW (good_of_word hw) h
/-- the words that every method is given -/
def gW : List Cond := lw_tbl.filter gMv
theorem gW_good {w : Cond} (h : w ∈ gW) : gMv w = true := (List.mem_filter.mp h).2
theorem gW_in {w : Cond} (h : w ∈ lw_tbl) (g : gMv w = true) : w ∈ gW := List.mem_filter.mpr ⟨h, g⟩
theorem va_AOA.spec {ty : FieldType} {s : State} (h : va_AOA ty s) :
    ∃ comp c k, s.vm.findClass (FieldType.array ty).toString = some comp ∧ (s.vm.classes.findIdx? fun (x : Class) => match x.kind with | .array component _ => component == comp | _ => false) = some c ∧ s.vm.classes[c]? = some k ∧ k.kind = .array comp (.array ty) ∧ s.vm.findClass ("[" ++ (FieldType.array ty).toString) = some c := by
  unfold va_AOA at h
  simp only [Cond.before, Cond.holds, Cond.value, beq_iff_eq] at h
  cases hc : s.vm.findClass (FieldType.array ty).toString with
  | none => simp [hc] at h
  | some comp =>
    simp only [hc, Option.bind_some, Option.bind_eq_some_iff, Option.map_eq_some_iff] at h
    obtain ⟨c, hi, k, hk, hb⟩ := h
    obtain ⟨hlt, hp, -⟩ := Array.findIdx?_eq_some_iff_getElem.mp hi
    have hkk : s.vm.classes[c] = k := (Array.getElem?_eq_some_iff.mp hk).2
    rw [hkk] at hp
    cases hkind : k.kind with
    | array component ty =>
      rw [hkind] at hb hp
      simp at hb hp
      exact ⟨comp, c, k, rfl, hi, hk, by rw [hkind, hp, hb.1], hb.2⟩
    | _ => rw [hkind] at hb; simp at hb
theorem va_AOA.moved {ty : FieldType} {u U : State} (hvm : u.vm.Alike U.vm) (h : va_AOA ty u) : va_AOA ty U := by
  obtain ⟨comp, c, k, h1, h2, h3, h4, h5⟩ := va_AOA.spec h
  obtain ⟨k', hk', he⟩ := hvm.2.2 _ _ h3
  have hi : (U.vm.classes.findIdx? fun (x : Class) => match x.kind with | .array component _ => component == comp | _ => false) = some c := by
    have e1 := va_idx_bare U.vm comp
    have e2 := va_idx_bare u.vm comp
    have e3 : U.vm.bare = u.vm.bare := by first | exact hvm.bare_eq | exact hvm.bare_eq.symm
    rw [e3] at e1
    exact (e1.symm.trans e2).trans h2
  have hkind : k'.kind = .array comp (.array ty) := by rw [he]; exact h4
  have f1 : U.vm.findClass (FieldType.array ty).toString = some comp := by rw [hvm.findClass]; exact h1
  have f2 : U.vm.findClass ("[" ++ (FieldType.array ty).toString) = some c := by rw [hvm.findClass]; exact h5
  unfold va_AOA
  simp only [Cond.before, Cond.holds, Cond.value, f1, Option.bind_some, beq_iff_eq]
  rw [Option.bind_eq_some_iff]
  refine ⟨c, hi, ?_⟩
  simp [hk', hkind, f2]
/-- what is fixed for a whole run: classes, array classes, the first address that may be written, three constant rows -/
abbrev gG : Type := va_G × (Nat → ClassId) × Nat × (Nat → Nat) × (Nat → Nat) × (Nat → Nat → Int32)
/-- a method: name, bytes, locals, answer, handlers -/
abbrev gY : Type := MethodName × ByteArray × Nat × Option FieldType × List (Nat × Nat × Nat × Nat)
/-- a heap: kinds (0: a constant row of so many; 1: an object of a class; 2: an array of a kind, its length), references, ints, longs, doubles -/
abbrev gH : Type := List (Nat × Nat × Nat) × (Nat → Nat → Option Nat) × (Nat → Nat → Int32) × (Nat → Nat → Int64) × (Nat → Nat → UInt64)
def gN : Nat → Nat
  | 0 => 9
  | 1 => 12
  | 2 => 13
  | _ => 31
def gTy : Nat → Nat → FieldType
  | 0 => tyX0
  | 1 => tyX1
  | 2 => tyX2
  | _ => tyX3
def gK : List vw_C := [(RX0, TX0, 9), (RX1, TX1, 12), (RX2, TX2, 13), (RX3, TX3, 31)]
def gTs (ca : Nat → ClassId) : List (ClassId × FieldType) := [(ca 0, .int), (ca 1, .char), (ca 2, .long), (ca 3, .double), (ca 4, .array .int), (ca 5, .object RX1)]
def gIsR (ci j : Nat) : Bool := match gTy ci j with
  | .object _ => true
  | .array _ => true
  | _ => false
def gUp {α : Type} (f : Nat → Nat → α) (k i : Nat) (x : α) : Nat → Nat → α := fun a b => if a = k ∧ b = i then x else f a b
def gFc (ad : List Nat) (h : gH) (k ci j : Nat) : Value := if gIsR ci j then va_rf ((h.2.1 k j).map (fun r => ad.getD r 0)) else .int (h.2.2.1 k j)
def gAr (ad : List Nat) (h : gH) (k t n : Nat) : vp_A := (n, match t with
  | 0 => .inl (h.2.2.1 k)
  | 1 => .inl (h.2.2.1 k)
  | 2 => .inr (.inl (h.2.2.2.1 k))
  | 3 => .inr (.inr (.inr (.inl (h.2.2.2.2 k))))
  | _ => .inr (.inr (.inr (.inr (fun j => (h.2.1 k j).map (fun r => ad.getD r 0))))))
def gCe (ca : Nat → ClassId) (ad : List Nat) (h : gH) (k : Nat) : va_E := match h.1[k]? with
  | some (1, ci, _) => .inr (ci, (List.range (gN ci)).map (gFc ad h k ci))
  | some (_, t, n) => .inl (ca t, gAr ad h k t n)
  | none => .inr (0, [])
def gWs (ca : Nat → ClassId) (ad : List Nat) (h : gH) : va_W := (List.range (h.1.length - 3)).map (fun i => (ad.getD (i + 3) 0, gCe ca ad h (i + 3)))
theorem gWs_at {ca : Nat → ClassId} {ad : List Nat} {h : gH} {k : Nat} (h3 : 3 ≤ k) (hl : k < h.1.length) : (gWs ca ad h)[k - 3]? = some (ad.getD k 0, gCe ca ad h k) := by
  unfold gWs
  rw [List.getElem?_map, List.getElem?_range (by omega), Option.map_some]
  rw [show k - 3 + 3 = k by omega]
theorem gWs_len {ca : Nat → ClassId} {ad : List Nat} {h : gH} : (gWs ca ad h).length = h.1.length - 3 := by simp [gWs]
/-- one cell written -/
theorem gWs_set {ca : Nat → ClassId} {ad : List Nat} {h h' : gH} {k : Nat} (hs : h'.1 = h.1) (h3 : 3 ≤ k) (hl : k < h.1.length) (ho : ∀ j, j ≠ k → gCe ca ad h' j = gCe ca ad h j) : gWs ca ad h' = (gWs ca ad h).set (k - 3) (ad.getD k 0, gCe ca ad h' k) := by
  apply List.ext_getElem?
  intro i
  by_cases hi : i = k - 3
  · subst hi
    rw [List.getElem?_set_self (by rw [gWs_len]; omega), gWs_at h3 (by rw [hs]; exact hl)]
  · rw [List.getElem?_set_ne (Ne.symm hi)]
    by_cases hb : i < h.1.length - 3
    · have e1 := gWs_at (ca := ca) (ad := ad) (h := h') (k := i + 3) (by omega) (by rw [hs]; omega)
      have e2 := gWs_at (ca := ca) (ad := ad) (h := h) (k := i + 3) (by omega) (by omega)
      rw [show i + 3 - 3 = i by omega] at e1 e2
      rw [e1, e2, ho (i + 3) (by omega)]
    · rw [List.getElem?_eq_none (by rw [gWs_len, hs]; omega), List.getElem?_eq_none (by rw [gWs_len]; omega)]

def gStr : List (Nat × String) := [(73, "character out of range"), (80, "input full"), (87, "not a text of a file"), (99, "no number or no area for the file"), (114, "no error position"), (123, "no such file"), (150, "no such number of a file"), (156, "no such file, block or position"), (165, "no such cell"), (170, "the cell belongs to no file"), (185, "difference out of range"), (191, "length or kind out of range"), (206, "no such file, block or sum"), (215, "no such file or block"), (217, "no such number of a decoding"), (231, "the block cannot be decoded"), (239, "no such file or symbol"), (253, "days out of range"), (258, "the day number would be too great"), (260, "budget out of range"), (271, "no such line"), (273, "no such number of a line"), (285, "no block is to be checked"), (290, "no such account"), (294, "no files"), (297, "the file cannot be decoded"), (299, "no such character"), (307, "no change is remembered"), (313, "nothing was saved")]
def gNc : List (String × String) := [("InterleavedArchive", "java/lang/IllegalArgumentException"), ("InterleavedArchive$State", "java/lang/IllegalArgumentException"), ("InterleavedArchive$Decoder", "java/lang/IllegalArgumentException"), ("InterleavedArchiveModel", "java/lang/IllegalArgumentException"), ("java/lang/IllegalStateException", "java/lang/IllegalArgumentException"), ("java/util/NoSuchElementException", "java/lang/IllegalArgumentException"), ("java/lang/ArrayIndexOutOfBoundsException", "java/lang/IllegalArgumentException"), ("java/lang/IndexOutOfBoundsException", "java/lang/IllegalArgumentException"), ("java/lang/UnsupportedOperationException", "java/lang/IllegalArgumentException"), ("java/lang/ArithmeticException", "java/lang/IllegalArgumentException"), ("InterleavedArchive", "java/lang/IllegalStateException"), ("InterleavedArchive$State", "java/lang/IllegalStateException"), ("InterleavedArchive$Decoder", "java/lang/IllegalStateException"), ("InterleavedArchiveModel", "java/lang/IllegalStateException"), ("java/lang/IllegalArgumentException", "java/lang/IllegalStateException"), ("java/util/NoSuchElementException", "java/lang/IllegalStateException"), ("java/lang/ArrayIndexOutOfBoundsException", "java/lang/IllegalStateException"), ("java/lang/IndexOutOfBoundsException", "java/lang/IllegalStateException"), ("java/lang/UnsupportedOperationException", "java/lang/IllegalStateException"), ("java/lang/ArithmeticException", "java/lang/IllegalStateException"), ("InterleavedArchive", "java/util/NoSuchElementException"), ("InterleavedArchive$State", "java/util/NoSuchElementException"), ("InterleavedArchive$Decoder", "java/util/NoSuchElementException"), ("InterleavedArchiveModel", "java/util/NoSuchElementException"), ("java/lang/IllegalArgumentException", "java/util/NoSuchElementException"), ("java/lang/IllegalStateException", "java/util/NoSuchElementException"), ("java/lang/ArrayIndexOutOfBoundsException", "java/util/NoSuchElementException"), ("java/lang/IndexOutOfBoundsException", "java/util/NoSuchElementException"), ("java/lang/UnsupportedOperationException", "java/util/NoSuchElementException"), ("java/lang/ArithmeticException", "java/util/NoSuchElementException"), ("InterleavedArchive", "java/lang/IndexOutOfBoundsException"), ("InterleavedArchive$State", "java/lang/IndexOutOfBoundsException"), ("InterleavedArchive$Decoder", "java/lang/IndexOutOfBoundsException"), ("InterleavedArchiveModel", "java/lang/IndexOutOfBoundsException"), ("java/lang/IllegalArgumentException", "java/lang/IndexOutOfBoundsException"), ("java/lang/IllegalStateException", "java/lang/IndexOutOfBoundsException"), ("java/util/NoSuchElementException", "java/lang/IndexOutOfBoundsException"), ("java/lang/UnsupportedOperationException", "java/lang/IndexOutOfBoundsException"), ("java/lang/ArithmeticException", "java/lang/IndexOutOfBoundsException"), ("InterleavedArchive", "java/lang/UnsupportedOperationException"), ("InterleavedArchive$State", "java/lang/UnsupportedOperationException"), ("InterleavedArchive$Decoder", "java/lang/UnsupportedOperationException"), ("InterleavedArchiveModel", "java/lang/UnsupportedOperationException"), ("java/lang/IllegalArgumentException", "java/lang/UnsupportedOperationException"), ("java/lang/IllegalStateException", "java/lang/UnsupportedOperationException"), ("java/util/NoSuchElementException", "java/lang/UnsupportedOperationException"), ("java/lang/ArrayIndexOutOfBoundsException", "java/lang/UnsupportedOperationException"), ("java/lang/IndexOutOfBoundsException", "java/lang/UnsupportedOperationException"), ("java/lang/ArithmeticException", "java/lang/UnsupportedOperationException"), ("InterleavedArchive", "java/lang/ArithmeticException"), ("InterleavedArchive$State", "java/lang/ArithmeticException"), ("InterleavedArchive$Decoder", "java/lang/ArithmeticException"), ("InterleavedArchiveModel", "java/lang/ArithmeticException"), ("java/lang/IllegalArgumentException", "java/lang/ArithmeticException"), ("java/lang/IllegalStateException", "java/lang/ArithmeticException"), ("java/util/NoSuchElementException", "java/lang/ArithmeticException"), ("java/lang/ArrayIndexOutOfBoundsException", "java/lang/ArithmeticException"), ("java/lang/IndexOutOfBoundsException", "java/lang/ArithmeticException"), ("java/lang/UnsupportedOperationException", "java/lang/ArithmeticException")]
/-- what stands outside of the numbered cells: class tables, constant rows, statics, texts -/
def gGlob (G : gG) (U : State) (H : Heap) : Prop :=
  G.2.2.1 ≤ H.size ∧ va_K G.1 gK (gTs G.2.1) U ∧ (∀ j, j < 3 → va_T .int (G.2.2.2.1 j) (G.2.2.2.2.1 j) (fun i => .int (G.2.2.2.2.2 j i)) (fun q => G.2.2.1 ≤ q) U H) ∧
  (va_Z RX2 "POWERS" "[I" (.ref (G.2.2.2.1 1)) (fun q => G.2.2.1 ≤ q) U H ∧ va_Z RX2 "LOGARITHMS" "[I" (.ref (G.2.2.2.1 2)) (fun q => G.2.2.1 ≤ q) U H) ∧
  (vx_Zq Bundle.tN "UNASSIGNED_STACK" Bundle.steD (fun q => G.2.2.1 ≤ q) U H ∧ vx_Zq Bundle.tN "SUPPRESSED_SENTINEL" Bundle.listD (fun q => G.2.2.1 ≤ q) U H) ∧
  (∀ q ∈ gStr, ∃ sa, vk_R RX2 q.1 q.2 sa U) ∧ (∀ q ∈ gNc, va_Nc q.1 q.2 U) ∧ va_AO RX1 U ∧ va_AOA .int U
theorem gGlob.moved {G : gG} {u U : State} {H H1 : Heap} (h : gGlob G u H) (hW : u.WarmedH U.vm) (hz : H.size ≤ H1.size) (hq : ∀ a : Nat, a < H.size → ¬ G.2.2.1 ≤ a → H1[a]? = H[a]?) : gGlob G U H1 := by
  obtain ⟨h1, h2, h3, ⟨h4, h4'⟩, ⟨h5, h5'⟩, h6, h7, h8, h9⟩ := h
  have hv := hW.alike
  refine ⟨Nat.le_trans h1 hz, va_K.moved hv h2, fun j hj => ((h3 j hj).moved hv).kept hq,
    ⟨va_Z.moved hv (h4.kept hq), va_Z.moved hv (h4'.kept hq)⟩, ⟨vx_Zq.moved hv (h5.kept hq), vx_Zq.moved hv (h5'.kept hq)⟩, fun q hm => ?_, fun q hm => va_Nc.moved hv (h7 q hm), h8.moved hv, h9.moved hv⟩
  obtain ⟨sa, hs⟩ := h6 q hm
  exact ⟨sa, hs.warm hW⟩
/-- the numbered cells lie in H, at the addresses ad -/
def gRep (G : gG) (ad : List Nat) (h : gH) (H : Heap) : Prop :=
  (ad.length = h.1.length ∧ 3 ≤ ad.length) ∧ (∀ j, j < 3 → ad[j]? = some (G.2.2.2.1 j) ∧ h.1[j]? = some (0, 0, G.2.2.2.2.1 j) ∧ h.2.2.1 j = G.2.2.2.2.2 j) ∧ (∀ k j r, h.2.1 k j = some r → r < ad.length) ∧
  va_P G.1 gK (gWs G.2.1 ad h) H ∧ va_D (fun q => G.2.2.1 ≤ q) (gWs G.2.1 ad h)
/-- a value where the cells lie -/
def gV (ad : List Nat) : Value → Option Value
  | .ref k => (ad[k]?).map .ref
  | v => some v
def gLoc (ad : List Nat) (al : List (Option Value)) (ls : Array Slot) (nL : Nat) : Prop := ls.size = nL ∧ lv_wf ls ∧ ∀ (i : Nat) (v : Value), al[i]? = some (some v) → ∃ w, gV ad v = some w ∧ ls[i]? = some (.val w)
/-- the law's own name: of it alone name and handlers aren't known (it has none, and is no constructor) -/
def gLaw : MethodName := ⟨"InterleavedArchiveLaw", "law", "([I)Z"⟩
/-- a method's facts: its code, its name, the words, what is fixed, its room -/
def gCtx (G : gG) (Y : gY) (d : Nat) (p : Program) (l : Launch) (R : Room) (s : State) (m : MethodId) (args : Array Value) (meth : Method) (c : Code) (mc ms : Nat) : Prop :=
  p.tables.exec = Jvm.exec ∧ c.code = Y.2.1 ∧ c.maxLocals = Y.2.2.1 ∧ s.vm.findClass Y.1.cls = some m.cls ∧ (∀ w ∈ gW, w.before args s = true) ∧ gGlob G s s.heap ∧ meth.locks = false ∧ meth.sig.returnType = Y.2.2.2.1 ∧
  l.stackTraces = false ∧ (Y.1 ≠ gLaw → meth.name = Y.1.name) ∧ (Y.1 ≠ gLaw → c.exceptionTable.toList = tableOf Y.2.2.2.2) ∧ (d + 12 ≤ R.frames ∧ 100 * d + 400 ≤ R.locals) ∧ mc ≤ R.cells ∧ ms ≤ R.slots
/-- the instruction at pc answers v -/
def gRet (Y : gY) (pc : Nat) : Option Value → Prop
  | none => decode Y.2.1 pc = .ok (.return_, 1) ∧ Y.2.2.2.1 = none
  | some (.int x) => decode Y.2.1 pc = .ok (.ireturn, 1) ∧ ∃ ty, Y.2.2.2.1 = some ty ∧ narrow ty (.int x) = .int x
  | some (.double _) => decode Y.2.1 pc = .ok (.dreturn, 1) ∧ Y.2.2.2.1 = some .double
  | _ => False
/-- at pc stands 'throw new E(a text)' -/
def gThr (Y : gY) (pc : Nat) (E : String) : Prop := Y.1.cls = RX2 ∧ Y.2.2.2.2 = [] ∧ ∃ (names : List String) (ik is ic : Nat) (tx : String),
  Bundle.fit E = true ∧ (∀ n ∈ names, Bundle.fit n = true) ∧ names.length ≤ 3 ∧ Cond.classLink RX2 ik E ∈ gW ∧ Cond.initialized E ∈ gW ∧ (is, tx) ∈ gStr ∧ (∀ w ∈ vx_atS RX2 ic E names, w ∈ gW) ∧
  (∀ w ∈ Cond.classLink RX2 ik E :: Cond.initialized E :: vx_atS RX2 ic E names, vx_ot w = true) ∧
  decode Y.2.1 pc = .ok (.new ik, 3) ∧ decode Y.2.1 (pc + 3) = .ok (.dup, 1) ∧
  ((decode Y.2.1 (pc + 4) = .ok (.ldc is, 2) ∧ decode Y.2.1 (pc + 6) = .ok (.invokespecial ic, 3) ∧ decode Y.2.1 (pc + 9) = .ok (.athrow, 1)) ∨
   (decode Y.2.1 (pc + 4) = .ok (.ldc_w is, 3) ∧ decode Y.2.1 (pc + 7) = .ok (.invokespecial ic, 3) ∧ decode Y.2.1 (pc + 10) = .ok (.athrow, 1)))
abbrev gQ : Type := Option Value ⊕ String → gH → Prop
/-- what the end of a method does for QS -/
def gEnd (G : gG) (Y : gY) (p : Program) (l : Launch) (e : Env) (R : Room) (s : State) (m : MethodId) (args : Array Value) (below : List Frame) (meth : Method) (c : Code) (mc ms : Nat) (ad0 : List Nat) (QS : State → Prop) (Q : gQ) : Prop :=
  ∀ (ad : List Nat) (h : gH) (H : Heap) (locs : List Loc) (cells slots : Nat) (ls : Array Slot) (pc : Nat), ad0 <+: ad → gRep G ad h H → va_S (fun q => G.2.2.1 ≤ q) s.heap H locs → ls.size = Y.2.2.1 →
    (∀ v : Option Value, cells ≤ mc → slots ≤ ms → Q (.inl v) h → gRet Y pc v → W p l e R s m args below meth c H locs cells slots QS (F0 m pc ls v.toList)) ∧
    (∀ (E : String), cells + 1 ≤ mc → slots + 6 ≤ ms → Q (.inr E) h → gThr Y pc E → W p l e R s m args below meth c H locs cells slots QS (F0 m pc ls []))
/-- from pc on, over locals al, stack st and heap h, with kc cells of ks slots left to make: the method ends as Q says -/
def gGo (G : gG) (Y : gY) (d pc : Nat) (al : List (Option Value)) (st : List Value) (h : gH) (kc ks : Nat) (Q : gQ) : Prop :=
  ∀ (p : Program) (l : Launch) (e : Env) (R : Room) (s : State) (m : MethodId) (args : Array Value) (below : List Frame) (meth : Method) (c : Code) (QS : State → Prop) (mc ms : Nat) (ad0 : List Nat),
    gCtx G Y d p l R s m args meth c mc ms → gEnd G Y p l e R s m args below meth c mc ms ad0 QS Q →
    ∀ (ad : List Nat) (ls : Array Slot) (sk : List Value) (H : Heap) (locs : List Loc) (cells slots : Nat), ad0 <+: ad → gLoc ad al ls Y.2.2.1 → st.map (gV ad) = sk.map some → gRep G ad h H → va_S (fun q => G.2.2.1 ≤ q) s.heap H locs → cells + kc ≤ mc → slots + ks ≤ ms →
      W p l e R s m args below meth c H locs cells slots QS (F0 m pc ls sk)
/-- the entry's locals -/
def gIn (n : Nat) (a : List Value) : List (Option Value) := a.map some ++ List.replicate (n - a.length) none
/-- a call of the method -/
def gEv (G : gG) (Y : gY) (d : Nat) (a : List Value) (h : gH) (kc ks : Nat) (Q : gQ) : Prop := gGo G Y d 0 (gIn Y.2.2.1 a) [] h kc ks Q
theorem gV_int {ad : List Nat} {x : Int32} : gV ad (.int x) = some (.int x) := rfl
theorem gV_long {ad : List Nat} {x : Int64} : gV ad (.long x) = some (.long x) := rfl
theorem gV_double {ad : List Nat} {x : UInt64} : gV ad (.double x) = some (.double x) := rfl
theorem gV_ref {ad : List Nat} {k : Nat} {w : Value} (h : gV ad (.ref k) = some w) : ∃ a, ad[k]? = some a ∧ w = .ref a := by
  have h : (ad[k]?).map Value.ref = some w := h
  cases hk : ad[k]? with
  | none => rw [hk] at h; cases h
  | some a => rw [hk] at h; exact ⟨a, rfl, (Option.some.inj h).symm⟩
theorem gV_cat {ad : List Nat} {v w : Value} (h : gV ad v = some w) : w.category = v.category := by
  cases v with
  | ref k => obtain ⟨a, -, rfl⟩ := gV_ref h; rfl
  | _ => cases h; rfl
theorem gV_up {ad ad' : List Nat} {v w : Value} (h : gV ad v = some w) (hp : ad <+: ad') : gV ad' v = some w := by
  cases v with
  | ref k =>
    obtain ⟨a, ha, rfl⟩ := gV_ref h
    show (ad'[k]?).map Value.ref = _
    obtain ⟨t, rfl⟩ := hp
    rw [List.getElem?_append_left (List.getElem?_eq_some_iff.mp ha).1, ha]
    rfl
  | _ => exact h
theorem gSk_cons {ad : List Nat} {v : Value} {st sk : List Value} (h : (v :: st).map (gV ad) = sk.map some) : ∃ w sk', gV ad v = some w ∧ sk = w :: sk' ∧ st.map (gV ad) = sk'.map some := by
  cases sk with
  | nil => simp at h
  | cons w sk' =>
    simp only [List.map_cons, List.cons.injEq] at h
    exact ⟨w, sk', h.1, rfl, h.2⟩
theorem gSk_int {ad : List Nat} {x : Int32} {st sk : List Value} (h : (Value.int x :: st).map (gV ad) = sk.map some) : ∃ sk', sk = .int x :: sk' ∧ st.map (gV ad) = sk'.map some := by
  obtain ⟨w, sk', h1, h2, h3⟩ := gSk_cons h
  cases h1
  exact ⟨sk', h2, h3⟩
theorem gSk_long {ad : List Nat} {x : Int64} {st sk : List Value} (h : (Value.long x :: st).map (gV ad) = sk.map some) : ∃ sk', sk = .long x :: sk' ∧ st.map (gV ad) = sk'.map some := by
  obtain ⟨w, sk', h1, h2, h3⟩ := gSk_cons h
  cases h1
  exact ⟨sk', h2, h3⟩
theorem gSk_double {ad : List Nat} {x : UInt64} {st sk : List Value} (h : (Value.double x :: st).map (gV ad) = sk.map some) : ∃ sk', sk = .double x :: sk' ∧ st.map (gV ad) = sk'.map some := by
  obtain ⟨w, sk', h1, h2, h3⟩ := gSk_cons h
  cases h1
  exact ⟨sk', h2, h3⟩
theorem gSk_ref {ad : List Nat} {k : Nat} {st sk : List Value} (h : (Value.ref k :: st).map (gV ad) = sk.map some) : ∃ a sk', ad[k]? = some a ∧ sk = .ref a :: sk' ∧ st.map (gV ad) = sk'.map some := by
  obtain ⟨w, sk', h1, h2, h3⟩ := gSk_cons h
  obtain ⟨a, ha, rfl⟩ := gV_ref h1
  exact ⟨a, sk', ha, h2, h3⟩
theorem gSk_nil {ad : List Nat} {sk : List Value} (h : ([] : List Value).map (gV ad) = sk.map some) : sk = [] := by
  cases sk with
  | nil => rfl
  | cons w sk' => simp at h
theorem gSk_in {ad : List Nat} {v w : Value} {st sk : List Value} (h1 : gV ad v = some w) (h : st.map (gV ad) = sk.map some) : (v :: st).map (gV ad) = (w :: sk).map some := by
  simp only [List.map_cons, h1, h]
theorem gSk_cat {ad : List Nat} : ∀ {st sk : List Value}, st.map (gV ad) = sk.map some → (sk.map fun v => v.category).sum = (st.map fun v => v.category).sum
  | [], sk, h => by rw [gSk_nil h]
  | v :: st, sk, h => by
    obtain ⟨w, sk', h1, rfl, h3⟩ := gSk_cons h
    simp only [List.map_cons, List.sum_cons, gV_cat h1, gSk_cat h3]
theorem gSk_up {ad ad' : List Nat} (hp : ad <+: ad') : ∀ {st sk : List Value}, st.map (gV ad) = sk.map some → st.map (gV ad') = sk.map some
  | [], sk, h => by rw [gSk_nil h]; rfl
  | v :: st, sk, h => by
    obtain ⟨w, sk', h1, rfl, h3⟩ := gSk_cons h
    exact gSk_in (gV_up h1 hp) (gSk_up hp h3)
theorem gLoc_up {ad ad' : List Nat} {al : List (Option Value)} {ls : Array Slot} {n : Nat} (hp : ad <+: ad') (h : gLoc ad al ls n) : gLoc ad' al ls n := ⟨h.1, h.2.1, fun i v hv => by
  obtain ⟨w, h1, h2⟩ := h.2.2 i v hv
  exact ⟨w, gV_up h1 hp, h2⟩⟩
theorem gLoc_int {ad : List Nat} {al : List (Option Value)} {ls : Array Slot} {n i : Nat} {x : Int32} (h : gLoc ad al ls n) (hi : al[i]? = some (some (.int x))) : ls[i]? = some (.val (.int x)) := by
  obtain ⟨w, h1, h2⟩ := h.2.2 i _ hi
  cases h1
  exact h2
theorem gLoc_double {ad : List Nat} {al : List (Option Value)} {ls : Array Slot} {n i : Nat} {x : UInt64} (h : gLoc ad al ls n) (hi : al[i]? = some (some (.double x))) : ls[i]? = some (.val (.double x)) := by
  obtain ⟨w, h1, h2⟩ := h.2.2 i _ hi
  cases h1
  exact h2
theorem gLoc_ref {ad : List Nat} {al : List (Option Value)} {ls : Array Slot} {n i k : Nat} (h : gLoc ad al ls n) (hi : al[i]? = some (some (.ref k))) : ∃ a, ad[k]? = some a ∧ ls[i]? = some (.val (.ref a)) := by
  obtain ⟨w, h1, h2⟩ := h.2.2 i _ hi
  obtain ⟨a, ha, rfl⟩ := gV_ref h1
  exact ⟨a, ha, h2⟩
/-- the list of what is known of the locals, as the kit's rows want it -/
def gLv (ad : List Nat) (al : List (Option Value)) : List (Nat × Value) := (List.range al.length).filterMap (fun i => (al[i]?.bind id).bind (fun v => (gV ad v).map (fun w => (i, w))))
theorem gLv_mem {ad : List Nat} {al : List (Option Value)} {i : Nat} {v w : Value} (h : al[i]? = some (some v)) (hw : gV ad v = some w) : (i, w) ∈ gLv ad al := by
  unfold gLv
  refine List.mem_filterMap.mpr ⟨i, List.mem_range.mpr (List.getElem?_eq_some_iff.mp h).1, ?_⟩
  simp [h, hw]
theorem gLv_of {ad : List Nat} {al : List (Option Value)} {q : Nat × Value} (h : q ∈ gLv ad al) : ∃ v, al[q.1]? = some (some v) ∧ gV ad v = some q.2 := by
  unfold gLv at h
  obtain ⟨i, -, hi⟩ := List.mem_filterMap.mp h
  cases ha : al[i]? with
  | none => simp [ha] at hi
  | some o =>
    cases o with
    | none => simp [ha] at hi
    | some v =>
      cases hv : gV ad v with
      | none => simp [ha, hv] at hi
      | some w =>
        simp [ha, hv] at hi
        subst hi
        exact ⟨v, ha, hv⟩
theorem gLoc_has {ad : List Nat} {al : List (Option Value)} {ls : Array Slot} {n : Nat} (h : gLoc ad al ls n) : lv_has ls n (gLv ad al) := by
  refine ⟨h.1, h.2.1, fun q hq => ?_⟩
  obtain ⟨v, h1, h2⟩ := gLv_of hq
  obtain ⟨w, h3, h4⟩ := h.2.2 _ _ h1
  rw [h2] at h3
  cases h3
  exact h4
def gDw : Option Value → Option Value
  | some v => if v.category = 2 then none else some v
  | none => none
/-- the locals behind a store of one slot (what takes two slots is forgotten) -/
def gSto (al : List (Option Value)) (i : Nat) (v : Value) : List (Option Value) := (al.map gDw).set i (some v)
theorem gSto_get {al : List (Option Value)} {i j : Nat} {v u : Value} (h : (gSto al i v)[j]? = some (some u)) : (j = i ∧ u = v) ∨ (j ≠ i ∧ al[j]? = some (some u) ∧ u.category = 1) := by
  unfold gSto at h
  by_cases hj : j = i
  · subst hj
    have hl : j < (al.map gDw).length := by
      have := (List.getElem?_eq_some_iff.mp h).1
      rw [List.length_set] at this
      exact this
    rw [List.getElem?_set_self hl] at h
    exact Or.inl ⟨rfl, (Option.some.inj (Option.some.inj h)).symm⟩
  · rw [List.getElem?_set_ne (Ne.symm hj), List.getElem?_map] at h
    refine Or.inr ⟨hj, ?_⟩
    cases ha : al[j]? with
    | none => rw [ha] at h; cases h
    | some o =>
      rw [ha, Option.map_some] at h
      cases o with
      | none => cases Option.some.inj h
      | some z =>
        have h := Option.some.inj h
        unfold gDw at h
        rcases lv_cat z with hc | hc
        · simp only [hc] at h
          cases h
          exact ⟨rfl, hc⟩
        · simp only [hc] at h
          cases h
theorem gLoc_sto {ad : List Nat} {al : List (Option Value)} {ls' : Array Slot} {n i : Nat} {v w : Value} (h : lv_has ls' n ((i, w) :: (gLv ad al).filter (fun q => !(q.1 == i) && !(q.1 + 1 == i && q.2.category == 2)))) (hv : gV ad v = some w) (h2 : ∀ (j : Nat) (u : Value), al[j]? = some (some u) → ∃ z, gV ad u = some z) : gLoc ad (gSto al i v) ls' n := by
  refine ⟨h.1, h.2.1, fun j u hu => ?_⟩
  rcases gSto_get hu with ⟨rfl, rfl⟩ | ⟨hj, ha, hc⟩
  · exact ⟨w, hv, h.2.2 _ List.mem_cons_self⟩
  · obtain ⟨z, hz⟩ := h2 j u ha
    refine ⟨z, hz, h.2.2 (j, z) (List.mem_cons_of_mem _ (List.mem_filter.mpr ⟨gLv_mem ha hz, ?_⟩))⟩
    have h9 : z.category = 1 := (gV_cat hz).trans hc
    simp [hj, h9]
theorem gLoc_val {ad : List Nat} {al : List (Option Value)} {ls : Array Slot} {n : Nat} (h : gLoc ad al ls n) : ∀ (j : Nat) (u : Value), al[j]? = some (some u) → ∃ z, gV ad u = some z := fun j u hu => by
  obtain ⟨w, h1, -⟩ := h.2.2 j u hu
  exact ⟨w, h1⟩
theorem gLoc_sub {ad : List Nat} {al al' : List (Option Value)} {ls : Array Slot} {n : Nat} (h : gLoc ad al ls n) (hs : ∀ (i : Nat) (v : Value), al'[i]? = some (some v) → al[i]? = some (some v)) : gLoc ad al' ls n := ⟨h.1, h.2.1, fun i v hv => h.2.2 i v (hs i v hv)⟩
end
section
theorem g_iconst {G : gG} {Y : gY} {d pc : Nat} {al : List (Option Value)} {st : List Value} {h : gH} {kc ks : Nat} {Q : gQ} {n : Int} {v : Int32} (dg : decode Y.2.1 pc = .ok (.iconst n, 1)) (hv : Int32.ofInt n = v) (k : gGo G Y d (pc + 1) al (.int v :: st) h kc ks Q) : gGo G Y d pc al st h kc ks Q := by
  intro p l e R s m args below meth c QS mc ms ad0 C E ad ls sk H locs cells slots ha hL hs hR hV h1 h2
  exact lv_iconst C.1 C.2.1 dg hv (k p l e R s m args below meth c QS mc ms ad0 C E ad ls _ H locs cells slots ha hL (gSk_in gV_int hs) hR hV h1 h2)
theorem g_bipush {G : gG} {Y : gY} {d pc : Nat} {al : List (Option Value)} {st : List Value} {h : gH} {kc ks : Nat} {Q : gQ} {n : Int} {v : Int32} (dg : decode Y.2.1 pc = .ok (.bipush n, 2)) (hv : (Int8.ofInt n).toInt32 = v) (k : gGo G Y d (pc + 2) al (.int v :: st) h kc ks Q) : gGo G Y d pc al st h kc ks Q := by
  intro p l e R s m args below meth c QS mc ms ad0 C E ad ls sk H locs cells slots ha hL hs hR hV h1 h2
  exact lv_bipush C.1 C.2.1 dg hv (k p l e R s m args below meth c QS mc ms ad0 C E ad ls _ H locs cells slots ha hL (gSk_in gV_int hs) hR hV h1 h2)
theorem g_sipush {G : gG} {Y : gY} {d pc : Nat} {al : List (Option Value)} {st : List Value} {h : gH} {kc ks : Nat} {Q : gQ} {n : Int} {v : Int32} (dg : decode Y.2.1 pc = .ok (.sipush n, 3)) (hv : (Int16.ofInt n).toInt32 = v) (k : gGo G Y d (pc + 3) al (.int v :: st) h kc ks Q) : gGo G Y d pc al st h kc ks Q := by
  intro p l e R s m args below meth c QS mc ms ad0 C E ad ls sk H locs cells slots ha hL hs hR hV h1 h2
  exact lv_sipush C.1 C.2.1 dg hv (k p l e R s m args below meth c QS mc ms ad0 C E ad ls _ H locs cells slots ha hL (gSk_in gV_int hs) hR hV h1 h2)
theorem g_lconst {G : gG} {Y : gY} {d pc : Nat} {al : List (Option Value)} {st : List Value} {h : gH} {kc ks : Nat} {Q : gQ} {n : Fin 2} {v : Int64} (dg : decode Y.2.1 pc = .ok (.lconst n, 1)) (hv : Int64.ofNat (n : Nat) = v) (k : gGo G Y d (pc + 1) al (.long v :: st) h kc ks Q) : gGo G Y d pc al st h kc ks Q := by
  intro p l e R s m args below meth c QS mc ms ad0 C E ad ls sk H locs cells slots ha hL hs hR hV h1 h2
  exact lv_lconst C.1 C.2.1 dg hv (k p l e R s m args below meth c QS mc ms ad0 C E ad ls _ H locs cells slots ha hL (gSk_in gV_long hs) hR hV h1 h2)
theorem g_dconst0 {G : gG} {Y : gY} {d pc : Nat} {al : List (Option Value)} {st : List Value} {h : gH} {kc ks : Nat} {Q : gQ} (dg : decode Y.2.1 pc = .ok (.dconst 0, 1)) (k : gGo G Y d (pc + 1) al (.double 0 :: st) h kc ks Q) : gGo G Y d pc al st h kc ks Q := by
  intro p l e R s m args below meth c QS mc ms ad0 C E ad ls sk H locs cells slots ha hL hs hR hV h1 h2
  exact lv_dconst0 C.1 C.2.1 dg (k p l e R s m args below meth c QS mc ms ad0 C E ad ls _ H locs cells slots ha hL (gSk_in gV_double hs) hR hV h1 h2)
theorem g_ldc {G : gG} {Y : gY} {d pc : Nat} {al : List (Option Value)} {st : List Value} {h : gH} {kc ks : Nat} {Q : gQ} {ix : Nat} {v : Int32} (dg : decode Y.2.1 pc = .ok (.ldc ix, 2)) (hv : Cond.constant Y.1.cls ix v ∈ gW) (k : gGo G Y d (pc + 2) al (.int v :: st) h kc ks Q) : gGo G Y d pc al st h kc ks Q := by
  intro p l e R s m args below meth c QS mc ms ad0 C E ad ls sk H locs cells slots ha hL hs hR hV h1 h2
  exact lv_ldc C.1 C.2.1 C.2.2.2.1 (C.2.2.2.2.1 _ hv) dg (k p l e R s m args below meth c QS mc ms ad0 C E ad ls _ H locs cells slots ha hL (gSk_in gV_int hs) hR hV h1 h2)
theorem g_ldcw {G : gG} {Y : gY} {d pc : Nat} {al : List (Option Value)} {st : List Value} {h : gH} {kc ks : Nat} {Q : gQ} {ix : Nat} {v : Int32} (dg : decode Y.2.1 pc = .ok (.ldc_w ix, 3)) (hv : Cond.constant Y.1.cls ix v ∈ gW) (k : gGo G Y d (pc + 3) al (.int v :: st) h kc ks Q) : gGo G Y d pc al st h kc ks Q := by
  intro p l e R s m args below meth c QS mc ms ad0 C E ad ls sk H locs cells slots ha hL hs hR hV h1 h2
  exact lv_ldcw C.1 C.2.1 C.2.2.2.1 (C.2.2.2.2.1 _ hv) dg (k p l e R s m args below meth c QS mc ms ad0 C E ad ls _ H locs cells slots ha hL (gSk_in gV_int hs) hR hV h1 h2)
theorem g_iload_n {G : gG} {Y : gY} {d pc : Nat} {al : List (Option Value)} {st : List Value} {h : gH} {kc ks : Nat} {Q : gQ} {k0 : Fin 4} {i : Nat} {x : Int32} (dg : decode Y.2.1 pc = .ok (.iload_n k0, 1)) (hi : (k0 : Nat) = i) (hl : al[i]? = some (some (.int x))) (k : gGo G Y d (pc + 1) al (.int x :: st) h kc ks Q) : gGo G Y d pc al st h kc ks Q := by
  intro p l e R s m args below meth c QS mc ms ad0 C E ad ls sk H locs cells slots ha hL hs hR hV h1 h2
  exact lv_iload_n C.1 C.2.1 dg hi (gLoc_int hL hl) (k p l e R s m args below meth c QS mc ms ad0 C E ad ls _ H locs cells slots ha hL (gSk_in gV_int hs) hR hV h1 h2)
theorem g_iload {G : gG} {Y : gY} {d pc : Nat} {al : List (Option Value)} {st : List Value} {h : gH} {kc ks : Nat} {Q : gQ} {i : Nat} {x : Int32} (dg : decode Y.2.1 pc = .ok (.iload i, 2)) (hl : al[i]? = some (some (.int x))) (k : gGo G Y d (pc + 2) al (.int x :: st) h kc ks Q) : gGo G Y d pc al st h kc ks Q := by
  intro p l e R s m args below meth c QS mc ms ad0 C E ad ls sk H locs cells slots ha hL hs hR hV h1 h2
  exact lv_iload C.1 C.2.1 dg (gLoc_int hL hl) (k p l e R s m args below meth c QS mc ms ad0 C E ad ls _ H locs cells slots ha hL (gSk_in gV_int hs) hR hV h1 h2)
theorem g_dload {G : gG} {Y : gY} {d pc : Nat} {al : List (Option Value)} {st : List Value} {h : gH} {kc ks : Nat} {Q : gQ} {i : Nat} {x : UInt64} (dg : decode Y.2.1 pc = .ok (.dload i, 2)) (hl : al[i]? = some (some (.double x))) (k : gGo G Y d (pc + 2) al (.double x :: st) h kc ks Q) : gGo G Y d pc al st h kc ks Q := by
  intro p l e R s m args below meth c QS mc ms ad0 C E ad ls sk H locs cells slots ha hL hs hR hV h1 h2
  exact lv_dload C.1 C.2.1 dg (gLoc_double hL hl) (k p l e R s m args below meth c QS mc ms ad0 C E ad ls _ H locs cells slots ha hL (gSk_in gV_double hs) hR hV h1 h2)
theorem gV_at {ad : List Nat} {k a : Nat} (h : ad[k]? = some a) : gV ad (.ref k) = some (.ref a) := by
  show (ad[k]?).map Value.ref = _
  rw [h]; rfl
theorem g_aload_n {G : gG} {Y : gY} {d pc : Nat} {al : List (Option Value)} {st : List Value} {h : gH} {kc ks : Nat} {Q : gQ} {k0 : Fin 4} {i r : Nat} (dg : decode Y.2.1 pc = .ok (.aload_n k0, 1)) (hi : (k0 : Nat) = i) (hl : al[i]? = some (some (.ref r))) (k : gGo G Y d (pc + 1) al (.ref r :: st) h kc ks Q) : gGo G Y d pc al st h kc ks Q := by
  intro p l e R s m args below meth c QS mc ms ad0 C E ad ls sk H locs cells slots ha hL hs hR hV h1 h2
  obtain ⟨a, hq, hz⟩ := gLoc_ref hL hl
  exact lv_aload_n C.1 C.2.1 dg hi hz (k p l e R s m args below meth c QS mc ms ad0 C E ad ls _ H locs cells slots ha hL (gSk_in (gV_at hq) hs) hR hV h1 h2)
theorem g_aload {G : gG} {Y : gY} {d pc : Nat} {al : List (Option Value)} {st : List Value} {h : gH} {kc ks : Nat} {Q : gQ} {i r : Nat} (dg : decode Y.2.1 pc = .ok (.aload i, 2)) (hl : al[i]? = some (some (.ref r))) (k : gGo G Y d (pc + 2) al (.ref r :: st) h kc ks Q) : gGo G Y d pc al st h kc ks Q := by
  intro p l e R s m args below meth c QS mc ms ad0 C E ad ls sk H locs cells slots ha hL hs hR hV h1 h2
  obtain ⟨a, hq, hz⟩ := gLoc_ref hL hl
  exact lv_aload C.1 C.2.1 dg hz (k p l e R s m args below meth c QS mc ms ad0 C E ad ls _ H locs cells slots ha hL (gSk_in (gV_at hq) hs) hR hV h1 h2)
theorem g_istore_n {G : gG} {Y : gY} {d pc : Nat} {al : List (Option Value)} {st : List Value} {h : gH} {kc ks : Nat} {Q : gQ} {k0 : Fin 4} {i : Nat} {x : Int32} {al' : List (Option Value)} (dg : decode Y.2.1 pc = .ok (.istore_n k0, 1)) (hi : (k0 : Nat) = i) (hn : i < Y.2.2.1) (he : gSto al i (.int x) = al') (k : gGo G Y d (pc + 1) al' st h kc ks Q) : gGo G Y d pc al (.int x :: st) h kc ks Q := by
  intro p l e R s m args below meth c QS mc ms ad0 C E ad ls sk H locs cells slots ha hL hs hR hV h1 h2
  subst he
  obtain ⟨sk', rfl, hs'⟩ := gSk_int hs
  exact lv_istore_n C.1 C.2.1 dg hi (gLoc_has hL) hn rfl (fun ls' hl' => k p l e R s m args below meth c QS mc ms ad0 C E ad ls' _ H locs cells slots ha (gLoc_sto hl' gV_int (gLoc_val hL)) hs' hR hV h1 h2)
theorem g_istore {G : gG} {Y : gY} {d pc : Nat} {al : List (Option Value)} {st : List Value} {h : gH} {kc ks : Nat} {Q : gQ} {i : Nat} {x : Int32} {al' : List (Option Value)} (dg : decode Y.2.1 pc = .ok (.istore i, 2)) (hn : i < Y.2.2.1) (he : gSto al i (.int x) = al') (k : gGo G Y d (pc + 2) al' st h kc ks Q) : gGo G Y d pc al (.int x :: st) h kc ks Q := by
  intro p l e R s m args below meth c QS mc ms ad0 C E ad ls sk H locs cells slots ha hL hs hR hV h1 h2
  subst he
  obtain ⟨sk', rfl, hs'⟩ := gSk_int hs
  exact lv_istore C.1 C.2.1 dg (gLoc_has hL) hn rfl (fun ls' hl' => k p l e R s m args below meth c QS mc ms ad0 C E ad ls' _ H locs cells slots ha (gLoc_sto hl' gV_int (gLoc_val hL)) hs' hR hV h1 h2)
theorem g_astore_n {G : gG} {Y : gY} {d pc : Nat} {al : List (Option Value)} {st : List Value} {h : gH} {kc ks : Nat} {Q : gQ} {k0 : Fin 4} {i r : Nat} {al' : List (Option Value)} (dg : decode Y.2.1 pc = .ok (.astore_n k0, 1)) (hi : (k0 : Nat) = i) (hn : i < Y.2.2.1) (he : gSto al i (.ref r) = al') (k : gGo G Y d (pc + 1) al' st h kc ks Q) : gGo G Y d pc al (.ref r :: st) h kc ks Q := by
  intro p l e R s m args below meth c QS mc ms ad0 C E ad ls sk H locs cells slots ha hL hs hR hV h1 h2
  subst he
  obtain ⟨a, sk', hq, rfl, hs'⟩ := gSk_ref hs
  exact lv_astore_n C.1 C.2.1 dg hi (gLoc_has hL) hn rfl (fun ls' hl' => k p l e R s m args below meth c QS mc ms ad0 C E ad ls' _ H locs cells slots ha (gLoc_sto hl' (gV_at hq) (gLoc_val hL)) hs' hR hV h1 h2)
theorem g_astore {G : gG} {Y : gY} {d pc : Nat} {al : List (Option Value)} {st : List Value} {h : gH} {kc ks : Nat} {Q : gQ} {i r : Nat} {al' : List (Option Value)} (dg : decode Y.2.1 pc = .ok (.astore i, 2)) (hn : i < Y.2.2.1) (he : gSto al i (.ref r) = al') (k : gGo G Y d (pc + 2) al' st h kc ks Q) : gGo G Y d pc al (.ref r :: st) h kc ks Q := by
  intro p l e R s m args below meth c QS mc ms ad0 C E ad ls sk H locs cells slots ha hL hs hR hV h1 h2
  subst he
  obtain ⟨a, sk', hq, rfl, hs'⟩ := gSk_ref hs
  exact lv_astore C.1 C.2.1 dg (gLoc_has hL) hn rfl (fun ls' hl' => k p l e R s m args below meth c QS mc ms ad0 C E ad ls' _ H locs cells slots ha (gLoc_sto hl' (gV_at hq) (gLoc_val hL)) hs' hR hV h1 h2)
/-- the locals behind a store of two slots -/
def gStw (al : List (Option Value)) (i : Nat) (v : Value) : List (Option Value) := ((al.map gDw).set i (some v)).set (i + 1) none
theorem gLoc_stw {ad : List Nat} {al : List (Option Value)} {ls' : Array Slot} {n i : Nat} {v w : Value} (h : lv_has ls' n ((i, w) :: (gLv ad al).filter (fun q => !(q.1 == i) && (!(q.1 == i + 1) && !(q.1 + 1 == i && q.2.category == 2))))) (hv : gV ad v = some w) (h2 : ∀ (j : Nat) (u : Value), al[j]? = some (some u) → ∃ z, gV ad u = some z) : gLoc ad (gStw al i v) ls' n := by
  refine ⟨h.1, h.2.1, fun j u hu => ?_⟩
  unfold gStw at hu
  by_cases h9 : j = i + 1
  · subst h9
    have hl : i + 1 < ((al.map gDw).set i (some v)).length := by
      have := (List.getElem?_eq_some_iff.mp hu).1
      rw [List.length_set] at this
      exact this
    rw [List.getElem?_set_self hl] at hu
    cases Option.some.inj hu
  · rw [List.getElem?_set_ne (Ne.symm h9)] at hu
    rcases gSto_get hu with ⟨rfl, rfl⟩ | ⟨hj, ha, hc⟩
    · exact ⟨w, hv, h.2.2 _ List.mem_cons_self⟩
    · obtain ⟨z, hz⟩ := h2 j u ha
      refine ⟨z, hz, h.2.2 (j, z) (List.mem_cons_of_mem _ (List.mem_filter.mpr ⟨gLv_mem ha hz, ?_⟩))⟩
      have hcz : z.category = 1 := (gV_cat hz).trans hc
      simp [hj, h9, hcz]
theorem g_dstore {G : gG} {Y : gY} {d pc : Nat} {al : List (Option Value)} {st : List Value} {h : gH} {kc ks : Nat} {Q : gQ} {i : Nat} {x : UInt64} {al' : List (Option Value)} (dg : decode Y.2.1 pc = .ok (.dstore i, 2)) (hn : i + 1 < Y.2.2.1) (he : gStw al i (.double x) = al') (k : gGo G Y d (pc + 2) al' st h kc ks Q) : gGo G Y d pc al (.double x :: st) h kc ks Q := by
  intro p l e R s m args below meth c QS mc ms ad0 C E ad ls sk H locs cells slots ha hL hs hR hV h1 h2
  subst he
  obtain ⟨sk', rfl, hs'⟩ := gSk_double hs
  exact lv_dstore C.1 C.2.1 dg (gLoc_has hL) hn rfl (fun ls' hl' => k p l e R s m args below meth c QS mc ms ad0 C E ad ls' _ H locs cells slots ha (gLoc_stw hl' gV_double (gLoc_val hL)) hs' hR hV h1 h2)
theorem g_iinc {G : gG} {Y : gY} {d pc : Nat} {al : List (Option Value)} {st : List Value} {h : gH} {kc ks : Nat} {Q : gQ} {i : Nat} {n : Int} {x v : Int32} {al' : List (Option Value)} (dg : decode Y.2.1 pc = .ok (.iinc i n, 3)) (hn : i < Y.2.2.1) (hl : al[i]? = some (some (.int x))) (hv : x + Int32.ofInt n = v) (he : gSto al i (.int v) = al') (k : gGo G Y d (pc + 3) al' st h kc ks Q) : gGo G Y d pc al st h kc ks Q := by
  intro p l e R s m args below meth c QS mc ms ad0 C E ad ls sk H locs cells slots ha hL hs hR hV h1 h2
  subst he
  obtain ⟨j, hj⟩ := List.getElem?_of_mem (gLv_mem hl (gV_int (ad := ad)))
  have hs' := hs
  exact lv_iinc C.1 C.2.1 dg (gLoc_has hL) hj hv hn rfl (fun ls' hl' => k p l e R s m args below meth c QS mc ms ad0 C E ad ls' _ H locs cells slots ha (gLoc_sto hl' gV_int (gLoc_val hL)) hs' hR hV h1 h2)
theorem g_iadd {G : gG} {Y : gY} {d pc : Nat} {al : List (Option Value)} {st : List Value} {h : gH} {kc ks : Nat} {Q : gQ} {x y : Int32} (dg : decode Y.2.1 pc = .ok (.iadd, 1)) (k : gGo G Y d (pc + 1) al (.int (x + y) :: st) h kc ks Q) : gGo G Y d pc al (.int y :: .int x :: st) h kc ks Q := by
  intro p l e R s m args below meth c QS mc ms ad0 C E ad ls sk H locs cells slots ha hL hs hR hV h1 h2
  obtain ⟨sk1, rfl, hz1⟩ := gSk_int hs
  obtain ⟨sk2, rfl, hz2⟩ := gSk_int hz1
  exact lv_iadd C.1 C.2.1 dg (k p l e R s m args below meth c QS mc ms ad0 C E ad ls _ H locs cells slots ha hL (gSk_in gV_int hz2) hR hV h1 h2)
theorem g_isub {G : gG} {Y : gY} {d pc : Nat} {al : List (Option Value)} {st : List Value} {h : gH} {kc ks : Nat} {Q : gQ} {x y : Int32} (dg : decode Y.2.1 pc = .ok (.isub, 1)) (k : gGo G Y d (pc + 1) al (.int (x - y) :: st) h kc ks Q) : gGo G Y d pc al (.int y :: .int x :: st) h kc ks Q := by
  intro p l e R s m args below meth c QS mc ms ad0 C E ad ls sk H locs cells slots ha hL hs hR hV h1 h2
  obtain ⟨sk1, rfl, hz1⟩ := gSk_int hs
  obtain ⟨sk2, rfl, hz2⟩ := gSk_int hz1
  exact lv_isub C.1 C.2.1 dg (k p l e R s m args below meth c QS mc ms ad0 C E ad ls _ H locs cells slots ha hL (gSk_in gV_int hz2) hR hV h1 h2)
theorem g_imul {G : gG} {Y : gY} {d pc : Nat} {al : List (Option Value)} {st : List Value} {h : gH} {kc ks : Nat} {Q : gQ} {x y : Int32} (dg : decode Y.2.1 pc = .ok (.imul, 1)) (k : gGo G Y d (pc + 1) al (.int (x * y) :: st) h kc ks Q) : gGo G Y d pc al (.int y :: .int x :: st) h kc ks Q := by
  intro p l e R s m args below meth c QS mc ms ad0 C E ad ls sk H locs cells slots ha hL hs hR hV h1 h2
  obtain ⟨sk1, rfl, hz1⟩ := gSk_int hs
  obtain ⟨sk2, rfl, hz2⟩ := gSk_int hz1
  exact lv_imul C.1 C.2.1 dg (k p l e R s m args below meth c QS mc ms ad0 C E ad ls _ H locs cells slots ha hL (gSk_in gV_int hz2) hR hV h1 h2)
theorem g_iand {G : gG} {Y : gY} {d pc : Nat} {al : List (Option Value)} {st : List Value} {h : gH} {kc ks : Nat} {Q : gQ} {x y : Int32} (dg : decode Y.2.1 pc = .ok (.iand, 1)) (k : gGo G Y d (pc + 1) al (.int (x &&& y) :: st) h kc ks Q) : gGo G Y d pc al (.int y :: .int x :: st) h kc ks Q := by
  intro p l e R s m args below meth c QS mc ms ad0 C E ad ls sk H locs cells slots ha hL hs hR hV h1 h2
  obtain ⟨sk1, rfl, hz1⟩ := gSk_int hs
  obtain ⟨sk2, rfl, hz2⟩ := gSk_int hz1
  exact lv_iand C.1 C.2.1 dg (k p l e R s m args below meth c QS mc ms ad0 C E ad ls _ H locs cells slots ha hL (gSk_in gV_int hz2) hR hV h1 h2)
theorem g_ior {G : gG} {Y : gY} {d pc : Nat} {al : List (Option Value)} {st : List Value} {h : gH} {kc ks : Nat} {Q : gQ} {x y : Int32} (dg : decode Y.2.1 pc = .ok (.ior, 1)) (k : gGo G Y d (pc + 1) al (.int (x ||| y) :: st) h kc ks Q) : gGo G Y d pc al (.int y :: .int x :: st) h kc ks Q := by
  intro p l e R s m args below meth c QS mc ms ad0 C E ad ls sk H locs cells slots ha hL hs hR hV h1 h2
  obtain ⟨sk1, rfl, hz1⟩ := gSk_int hs
  obtain ⟨sk2, rfl, hz2⟩ := gSk_int hz1
  exact lv_ior C.1 C.2.1 dg (k p l e R s m args below meth c QS mc ms ad0 C E ad ls _ H locs cells slots ha hL (gSk_in gV_int hz2) hR hV h1 h2)
theorem g_ixor {G : gG} {Y : gY} {d pc : Nat} {al : List (Option Value)} {st : List Value} {h : gH} {kc ks : Nat} {Q : gQ} {x y : Int32} (dg : decode Y.2.1 pc = .ok (.ixor, 1)) (k : gGo G Y d (pc + 1) al (.int (x ^^^ y) :: st) h kc ks Q) : gGo G Y d pc al (.int y :: .int x :: st) h kc ks Q := by
  intro p l e R s m args below meth c QS mc ms ad0 C E ad ls sk H locs cells slots ha hL hs hR hV h1 h2
  obtain ⟨sk1, rfl, hz1⟩ := gSk_int hs
  obtain ⟨sk2, rfl, hz2⟩ := gSk_int hz1
  exact lv_ixor C.1 C.2.1 dg (k p l e R s m args below meth c QS mc ms ad0 C E ad ls _ H locs cells slots ha hL (gSk_in gV_int hz2) hR hV h1 h2)
theorem g_ishl {G : gG} {Y : gY} {d pc : Nat} {al : List (Option Value)} {st : List Value} {h : gH} {kc ks : Nat} {Q : gQ} {x y : Int32} (dg : decode Y.2.1 pc = .ok (.ishl, 1)) (k : gGo G Y d (pc + 1) al (.int (x <<< (y &&& 31)) :: st) h kc ks Q) : gGo G Y d pc al (.int y :: .int x :: st) h kc ks Q := by
  intro p l e R s m args below meth c QS mc ms ad0 C E ad ls sk H locs cells slots ha hL hs hR hV h1 h2
  obtain ⟨sk1, rfl, hz1⟩ := gSk_int hs
  obtain ⟨sk2, rfl, hz2⟩ := gSk_int hz1
  exact lv_ishl C.1 C.2.1 dg (k p l e R s m args below meth c QS mc ms ad0 C E ad ls _ H locs cells slots ha hL (gSk_in gV_int hz2) hR hV h1 h2)
theorem g_ishr {G : gG} {Y : gY} {d pc : Nat} {al : List (Option Value)} {st : List Value} {h : gH} {kc ks : Nat} {Q : gQ} {x y : Int32} (dg : decode Y.2.1 pc = .ok (.ishr, 1)) (k : gGo G Y d (pc + 1) al (.int (x >>> (y &&& 31)) :: st) h kc ks Q) : gGo G Y d pc al (.int y :: .int x :: st) h kc ks Q := by
  intro p l e R s m args below meth c QS mc ms ad0 C E ad ls sk H locs cells slots ha hL hs hR hV h1 h2
  obtain ⟨sk1, rfl, hz1⟩ := gSk_int hs
  obtain ⟨sk2, rfl, hz2⟩ := gSk_int hz1
  exact lv_ishr C.1 C.2.1 dg (k p l e R s m args below meth c QS mc ms ad0 C E ad ls _ H locs cells slots ha hL (gSk_in gV_int hz2) hR hV h1 h2)
theorem g_iushr {G : gG} {Y : gY} {d pc : Nat} {al : List (Option Value)} {st : List Value} {h : gH} {kc ks : Nat} {Q : gQ} {x y : Int32} (dg : decode Y.2.1 pc = .ok (.iushr, 1)) (k : gGo G Y d (pc + 1) al (.int (x.toUInt32 >>> (y.toUInt32 &&& Int32.toUInt32 31)).toInt32 :: st) h kc ks Q) : gGo G Y d pc al (.int y :: .int x :: st) h kc ks Q := by
  intro p l e R s m args below meth c QS mc ms ad0 C E ad ls sk H locs cells slots ha hL hs hR hV h1 h2
  obtain ⟨sk1, rfl, hz1⟩ := gSk_int hs
  obtain ⟨sk2, rfl, hz2⟩ := gSk_int hz1
  exact lv_iushr C.1 C.2.1 dg rfl (k p l e R s m args below meth c QS mc ms ad0 C E ad ls _ H locs cells slots ha hL (gSk_in gV_int hz2) hR hV h1 h2)
theorem g_idiv {G : gG} {Y : gY} {d pc : Nat} {al : List (Option Value)} {st : List Value} {h : gH} {kc ks : Nat} {Q : gQ} {x y v : Int32} (dg : decode Y.2.1 pc = .ok (.idiv, 1)) (hne : ¬ y = 0) (hv : x / y = v) (k : gGo G Y d (pc + 1) al (.int v :: st) h kc ks Q) : gGo G Y d pc al (.int y :: .int x :: st) h kc ks Q := by
  intro p l e R s m args below meth c QS mc ms ad0 C E ad ls sk H locs cells slots ha hL hs hR hV h1 h2
  subst hv
  obtain ⟨sk1, rfl, hz1⟩ := gSk_int hs
  obtain ⟨sk2, rfl, hz2⟩ := gSk_int hz1
  exact lv_idiv C.1 C.2.1 dg hne (k p l e R s m args below meth c QS mc ms ad0 C E ad ls _ H locs cells slots ha hL (gSk_in gV_int hz2) hR hV h1 h2)
theorem g_irem {G : gG} {Y : gY} {d pc : Nat} {al : List (Option Value)} {st : List Value} {h : gH} {kc ks : Nat} {Q : gQ} {x y v : Int32} (dg : decode Y.2.1 pc = .ok (.irem, 1)) (hne : ¬ y = 0) (hv : x - x / y * y = v) (k : gGo G Y d (pc + 1) al (.int v :: st) h kc ks Q) : gGo G Y d pc al (.int y :: .int x :: st) h kc ks Q := by
  intro p l e R s m args below meth c QS mc ms ad0 C E ad ls sk H locs cells slots ha hL hs hR hV h1 h2
  subst hv
  obtain ⟨sk1, rfl, hz1⟩ := gSk_int hs
  obtain ⟨sk2, rfl, hz2⟩ := gSk_int hz1
  exact lv_irem C.1 C.2.1 dg hne (k p l e R s m args below meth c QS mc ms ad0 C E ad ls _ H locs cells slots ha hL (gSk_in gV_int hz2) hR hV h1 h2)
theorem g_ineg {G : gG} {Y : gY} {d pc : Nat} {al : List (Option Value)} {st : List Value} {h : gH} {kc ks : Nat} {Q : gQ} {x : Int32} (dg : decode Y.2.1 pc = .ok (.ineg, 1)) (k : gGo G Y d (pc + 1) al (.int (-x) :: st) h kc ks Q) : gGo G Y d pc al (.int x :: st) h kc ks Q := by
  intro p l e R s m args below meth c QS mc ms ad0 C E ad ls sk H locs cells slots ha hL hs hR hV h1 h2
  obtain ⟨sk1, rfl, hz1⟩ := gSk_int hs
  exact lv_ineg C.1 C.2.1 dg (k p l e R s m args below meth c QS mc ms ad0 C E ad ls _ H locs cells slots ha hL (gSk_in gV_int hz1) hR hV h1 h2)
theorem g_i2l {G : gG} {Y : gY} {d pc : Nat} {al : List (Option Value)} {st : List Value} {h : gH} {kc ks : Nat} {Q : gQ} {x : Int32} (dg : decode Y.2.1 pc = .ok (.i2l, 1)) (k : gGo G Y d (pc + 1) al (.long x.toInt64 :: st) h kc ks Q) : gGo G Y d pc al (.int x :: st) h kc ks Q := by
  intro p l e R s m args below meth c QS mc ms ad0 C E ad ls sk H locs cells slots ha hL hs hR hV h1 h2
  obtain ⟨sk1, rfl, hz1⟩ := gSk_int hs
  exact lv_i2l C.1 C.2.1 dg rfl (k p l e R s m args below meth c QS mc ms ad0 C E ad ls _ H locs cells slots ha hL (gSk_in gV_long hz1) hR hV h1 h2)
theorem g_i2c {G : gG} {Y : gY} {d pc : Nat} {al : List (Option Value)} {st : List Value} {h : gH} {kc ks : Nat} {Q : gQ} {x : Int32} (dg : decode Y.2.1 pc = .ok (.i2c, 1)) (k : gGo G Y d (pc + 1) al (.int (x.toUInt32 % 65536).toInt32 :: st) h kc ks Q) : gGo G Y d pc al (.int x :: st) h kc ks Q := by
  intro p l e R s m args below meth c QS mc ms ad0 C E ad ls sk H locs cells slots ha hL hs hR hV h1 h2
  obtain ⟨sk1, rfl, hz1⟩ := gSk_int hs
  exact lv_i2c C.1 C.2.1 dg rfl (k p l e R s m args below meth c QS mc ms ad0 C E ad ls _ H locs cells slots ha hL (gSk_in gV_int hz1) hR hV h1 h2)
theorem g_i2d {G : gG} {Y : gY} {d pc : Nat} {al : List (Option Value)} {st : List Value} {h : gH} {kc ks : Nat} {Q : gQ} {x : Int32} (dg : decode Y.2.1 pc = .ok (.i2d, 1)) (k : gGo G Y d (pc + 1) al (.double (FP.i2d x) :: st) h kc ks Q) : gGo G Y d pc al (.int x :: st) h kc ks Q := by
  intro p l e R s m args below meth c QS mc ms ad0 C E ad ls sk H locs cells slots ha hL hs hR hV h1 h2
  obtain ⟨sk1, rfl, hz1⟩ := gSk_int hs
  exact lv_i2d C.1 C.2.1 dg (k p l e R s m args below meth c QS mc ms ad0 C E ad ls _ H locs cells slots ha hL (gSk_in gV_double hz1) hR hV h1 h2)
theorem g_ddiv {G : gG} {Y : gY} {d pc : Nat} {al : List (Option Value)} {st : List Value} {h : gH} {kc ks : Nat} {Q : gQ} {x y : UInt64} (dg : decode Y.2.1 pc = .ok (.ddiv, 1)) (hne : vf_n64 (FP.ddiv x y)) (k : gGo G Y d (pc + 1) al (.double (FP.ddiv x y) :: st) h kc ks Q) : gGo G Y d pc al (.double y :: .double x :: st) h kc ks Q := by
  intro p l e R s m args below meth c QS mc ms ad0 C E ad ls sk H locs cells slots ha hL hs hR hV h1 h2
  obtain ⟨sk1, rfl, hz1⟩ := gSk_double hs
  obtain ⟨sk2, rfl, hz2⟩ := gSk_double hz1
  exact lv_ddiv C.1 C.2.1 dg hne (k p l e R s m args below meth c QS mc ms ad0 C E ad ls _ H locs cells slots ha hL (gSk_in gV_double hz2) hR hV h1 h2)
theorem g_dcmp {G : gG} {Y : gY} {d pc : Nat} {al : List (Option Value)} {st : List Value} {h : gH} {kc ks : Nat} {Q : gQ} {x y : UInt64} {op : CmpOp} (dg : decode Y.2.1 pc = .ok (.dcmp op, 1)) (k : gGo G Y d (pc + 1) al (.int (Op.cmpValue (FP.dcmp x y) op) :: st) h kc ks Q) : gGo G Y d pc al (.double y :: .double x :: st) h kc ks Q := by
  intro p l e R s m args below meth c QS mc ms ad0 C E ad ls sk H locs cells slots ha hL hs hR hV h1 h2
  obtain ⟨sk1, rfl, hz1⟩ := gSk_double hs
  obtain ⟨sk2, rfl, hz2⟩ := gSk_double hz1
  exact lv_dcmp C.1 C.2.1 dg (k p l e R s m args below meth c QS mc ms ad0 C E ad ls _ H locs cells slots ha hL (gSk_in gV_int hz2) hR hV h1 h2)
theorem g_lcmp {G : gG} {Y : gY} {d pc : Nat} {al : List (Option Value)} {st : List Value} {h : gH} {kc ks : Nat} {Q : gQ} {x y : Int64} (dg : decode Y.2.1 pc = .ok (.lcmp, 1)) (k : gGo G Y d (pc + 1) al (.int (lg_cmp x y) :: st) h kc ks Q) : gGo G Y d pc al (.long y :: .long x :: st) h kc ks Q := by
  intro p l e R s m args below meth c QS mc ms ad0 C E ad ls sk H locs cells slots ha hL hs hR hV h1 h2
  obtain ⟨sk1, rfl, hz1⟩ := gSk_long hs
  obtain ⟨sk2, rfl, hz2⟩ := gSk_long hz1
  exact W.lcmp C.1 C.2.1 dg (k p l e R s m args below meth c QS mc ms ad0 C E ad ls _ H locs cells slots ha hL (gSk_in gV_int hz2) hR hV h1 h2)
theorem g_dup {G : gG} {Y : gY} {d pc : Nat} {al : List (Option Value)} {st : List Value} {h : gH} {kc ks : Nat} {Q : gQ} {v : Value} (dg : decode Y.2.1 pc = .ok (.dup, 1)) (hc : v.category = 1) (k : gGo G Y d (pc + 1) al (v :: v :: st) h kc ks Q) : gGo G Y d pc al (v :: st) h kc ks Q := by
  intro p l e R s m args below meth c QS mc ms ad0 C E ad ls sk H locs cells slots ha hL hs hR hV h1 h2
  obtain ⟨w, sk1, hw, rfl, hz1⟩ := gSk_cons hs
  exact lv_dup C.1 C.2.1 dg (by rw [gV_cat hw]; exact hc) (k p l e R s m args below meth c QS mc ms ad0 C E ad ls _ H locs cells slots ha hL (gSk_in hw (gSk_in hw hz1)) hR hV h1 h2)
theorem g_dup2 {G : gG} {Y : gY} {d pc : Nat} {al : List (Option Value)} {st : List Value} {h : gH} {kc ks : Nat} {Q : gQ} {v u : Value} (dg : decode Y.2.1 pc = .ok (.dup2, 1)) (hc : v.category = 1) (hd : u.category = 1) (k : gGo G Y d (pc + 1) al (v :: u :: v :: u :: st) h kc ks Q) : gGo G Y d pc al (v :: u :: st) h kc ks Q := by
  intro p l e R s m args below meth c QS mc ms ad0 C E ad ls sk H locs cells slots ha hL hs hR hV h1 h2
  obtain ⟨w, sk1, hw, rfl, hz1⟩ := gSk_cons hs
  obtain ⟨w2, sk2, hw2, rfl, hz2⟩ := gSk_cons hz1
  exact lv_dup2_11 C.1 C.2.1 dg (by rw [gV_cat hw]; exact hc) (by rw [gV_cat hw2]; exact hd) (k p l e R s m args below meth c QS mc ms ad0 C E ad ls _ H locs cells slots ha hL (gSk_in hw (gSk_in hw2 (gSk_in hw (gSk_in hw2 hz2)))) hR hV h1 h2)
theorem g_pop {G : gG} {Y : gY} {d pc : Nat} {al : List (Option Value)} {st : List Value} {h : gH} {kc ks : Nat} {Q : gQ} {v : Value} (dg : decode Y.2.1 pc = .ok (.pop, 1)) (hc : v.category = 1) (k : gGo G Y d (pc + 1) al st h kc ks Q) : gGo G Y d pc al (v :: st) h kc ks Q := by
  intro p l e R s m args below meth c QS mc ms ad0 C E ad ls sk H locs cells slots ha hL hs hR hV h1 h2
  obtain ⟨w, sk1, hw, rfl, hz1⟩ := gSk_cons hs
  exact lv_pop C.1 C.2.1 dg (by rw [gV_cat hw]; exact hc) (k p l e R s m args below meth c QS mc ms ad0 C E ad ls _ H locs cells slots ha hL hz1 hR hV h1 h2)
theorem g_if_eq {G : gG} {Y : gY} {d pc : Nat} {al : List (Option Value)} {st : List Value} {h : gH} {kc ks : Nat} {Q : gQ} {x : Int32} {off : Int} {tgt : Nat} (dg : decode Y.2.1 pc = .ok (.ifCond .eq off, 3)) (ht : (pc : Int) + off = (tgt : Int)) (kt : x = 0 → gGo G Y d tgt al st h kc ks Q) (kf : ¬ x = 0 → gGo G Y d (pc + 3) al st h kc ks Q) : gGo G Y d pc al (.int x :: st) h kc ks Q := by
  intro p l e R s m args below meth c QS mc ms ad0 C E ad ls sk H locs cells slots ha hL hs hR hV h1 h2
  obtain ⟨sk1, rfl, hz1⟩ := gSk_int hs
  exact lv_if_eq C.1 C.2.1 dg ht (fun q => kt q p l e R s m args below meth c QS mc ms ad0 C E ad ls _ H locs cells slots ha hL hz1 hR hV h1 h2) (fun q => kf q p l e R s m args below meth c QS mc ms ad0 C E ad ls _ H locs cells slots ha hL hz1 hR hV h1 h2)
theorem g_icmp_eq {G : gG} {Y : gY} {d pc : Nat} {al : List (Option Value)} {st : List Value} {h : gH} {kc ks : Nat} {Q : gQ} {x y : Int32} {off : Int} {tgt : Nat} (dg : decode Y.2.1 pc = .ok (.if_icmp .eq off, 3)) (ht : (pc : Int) + off = (tgt : Int)) (kt : x = y → gGo G Y d tgt al st h kc ks Q) (kf : ¬ x = y → gGo G Y d (pc + 3) al st h kc ks Q) : gGo G Y d pc al (.int y :: .int x :: st) h kc ks Q := by
  intro p l e R s m args below meth c QS mc ms ad0 C E ad ls sk H locs cells slots ha hL hs hR hV h1 h2
  obtain ⟨sk1, rfl, hz1⟩ := gSk_int hs
  obtain ⟨sk2, rfl, hz2⟩ := gSk_int hz1
  exact lv_icmp_eq C.1 C.2.1 dg ht (fun q => kt q p l e R s m args below meth c QS mc ms ad0 C E ad ls _ H locs cells slots ha hL hz2 hR hV h1 h2) (fun q => kf q p l e R s m args below meth c QS mc ms ad0 C E ad ls _ H locs cells slots ha hL hz2 hR hV h1 h2)
theorem g_if_ne {G : gG} {Y : gY} {d pc : Nat} {al : List (Option Value)} {st : List Value} {h : gH} {kc ks : Nat} {Q : gQ} {x : Int32} {off : Int} {tgt : Nat} (dg : decode Y.2.1 pc = .ok (.ifCond .ne off, 3)) (ht : (pc : Int) + off = (tgt : Int)) (kt : ¬ x = 0 → gGo G Y d tgt al st h kc ks Q) (kf : x = 0 → gGo G Y d (pc + 3) al st h kc ks Q) : gGo G Y d pc al (.int x :: st) h kc ks Q := by
  intro p l e R s m args below meth c QS mc ms ad0 C E ad ls sk H locs cells slots ha hL hs hR hV h1 h2
  obtain ⟨sk1, rfl, hz1⟩ := gSk_int hs
  exact lv_if_ne C.1 C.2.1 dg ht (fun q => kt q p l e R s m args below meth c QS mc ms ad0 C E ad ls _ H locs cells slots ha hL hz1 hR hV h1 h2) (fun q => kf q p l e R s m args below meth c QS mc ms ad0 C E ad ls _ H locs cells slots ha hL hz1 hR hV h1 h2)
theorem g_icmp_ne {G : gG} {Y : gY} {d pc : Nat} {al : List (Option Value)} {st : List Value} {h : gH} {kc ks : Nat} {Q : gQ} {x y : Int32} {off : Int} {tgt : Nat} (dg : decode Y.2.1 pc = .ok (.if_icmp .ne off, 3)) (ht : (pc : Int) + off = (tgt : Int)) (kt : ¬ x = y → gGo G Y d tgt al st h kc ks Q) (kf : x = y → gGo G Y d (pc + 3) al st h kc ks Q) : gGo G Y d pc al (.int y :: .int x :: st) h kc ks Q := by
  intro p l e R s m args below meth c QS mc ms ad0 C E ad ls sk H locs cells slots ha hL hs hR hV h1 h2
  obtain ⟨sk1, rfl, hz1⟩ := gSk_int hs
  obtain ⟨sk2, rfl, hz2⟩ := gSk_int hz1
  exact lv_icmp_ne C.1 C.2.1 dg ht (fun q => kt q p l e R s m args below meth c QS mc ms ad0 C E ad ls _ H locs cells slots ha hL hz2 hR hV h1 h2) (fun q => kf q p l e R s m args below meth c QS mc ms ad0 C E ad ls _ H locs cells slots ha hL hz2 hR hV h1 h2)
theorem g_if_lt {G : gG} {Y : gY} {d pc : Nat} {al : List (Option Value)} {st : List Value} {h : gH} {kc ks : Nat} {Q : gQ} {x : Int32} {off : Int} {tgt : Nat} (dg : decode Y.2.1 pc = .ok (.ifCond .lt off, 3)) (ht : (pc : Int) + off = (tgt : Int)) (kt : x < 0 → gGo G Y d tgt al st h kc ks Q) (kf : ¬ x < 0 → gGo G Y d (pc + 3) al st h kc ks Q) : gGo G Y d pc al (.int x :: st) h kc ks Q := by
  intro p l e R s m args below meth c QS mc ms ad0 C E ad ls sk H locs cells slots ha hL hs hR hV h1 h2
  obtain ⟨sk1, rfl, hz1⟩ := gSk_int hs
  exact lv_if_lt C.1 C.2.1 dg ht (fun q => kt q p l e R s m args below meth c QS mc ms ad0 C E ad ls _ H locs cells slots ha hL hz1 hR hV h1 h2) (fun q => kf q p l e R s m args below meth c QS mc ms ad0 C E ad ls _ H locs cells slots ha hL hz1 hR hV h1 h2)
theorem g_icmp_lt {G : gG} {Y : gY} {d pc : Nat} {al : List (Option Value)} {st : List Value} {h : gH} {kc ks : Nat} {Q : gQ} {x y : Int32} {off : Int} {tgt : Nat} (dg : decode Y.2.1 pc = .ok (.if_icmp .lt off, 3)) (ht : (pc : Int) + off = (tgt : Int)) (kt : x < y → gGo G Y d tgt al st h kc ks Q) (kf : ¬ x < y → gGo G Y d (pc + 3) al st h kc ks Q) : gGo G Y d pc al (.int y :: .int x :: st) h kc ks Q := by
  intro p l e R s m args below meth c QS mc ms ad0 C E ad ls sk H locs cells slots ha hL hs hR hV h1 h2
  obtain ⟨sk1, rfl, hz1⟩ := gSk_int hs
  obtain ⟨sk2, rfl, hz2⟩ := gSk_int hz1
  exact lv_icmp_lt C.1 C.2.1 dg ht (fun q => kt q p l e R s m args below meth c QS mc ms ad0 C E ad ls _ H locs cells slots ha hL hz2 hR hV h1 h2) (fun q => kf q p l e R s m args below meth c QS mc ms ad0 C E ad ls _ H locs cells slots ha hL hz2 hR hV h1 h2)
theorem g_if_ge {G : gG} {Y : gY} {d pc : Nat} {al : List (Option Value)} {st : List Value} {h : gH} {kc ks : Nat} {Q : gQ} {x : Int32} {off : Int} {tgt : Nat} (dg : decode Y.2.1 pc = .ok (.ifCond .ge off, 3)) (ht : (pc : Int) + off = (tgt : Int)) (kt : 0 ≤ x → gGo G Y d tgt al st h kc ks Q) (kf : ¬ 0 ≤ x → gGo G Y d (pc + 3) al st h kc ks Q) : gGo G Y d pc al (.int x :: st) h kc ks Q := by
  intro p l e R s m args below meth c QS mc ms ad0 C E ad ls sk H locs cells slots ha hL hs hR hV h1 h2
  obtain ⟨sk1, rfl, hz1⟩ := gSk_int hs
  exact lv_if_ge C.1 C.2.1 dg ht (fun q => kt q p l e R s m args below meth c QS mc ms ad0 C E ad ls _ H locs cells slots ha hL hz1 hR hV h1 h2) (fun q => kf q p l e R s m args below meth c QS mc ms ad0 C E ad ls _ H locs cells slots ha hL hz1 hR hV h1 h2)
theorem g_icmp_ge {G : gG} {Y : gY} {d pc : Nat} {al : List (Option Value)} {st : List Value} {h : gH} {kc ks : Nat} {Q : gQ} {x y : Int32} {off : Int} {tgt : Nat} (dg : decode Y.2.1 pc = .ok (.if_icmp .ge off, 3)) (ht : (pc : Int) + off = (tgt : Int)) (kt : y ≤ x → gGo G Y d tgt al st h kc ks Q) (kf : ¬ y ≤ x → gGo G Y d (pc + 3) al st h kc ks Q) : gGo G Y d pc al (.int y :: .int x :: st) h kc ks Q := by
  intro p l e R s m args below meth c QS mc ms ad0 C E ad ls sk H locs cells slots ha hL hs hR hV h1 h2
  obtain ⟨sk1, rfl, hz1⟩ := gSk_int hs
  obtain ⟨sk2, rfl, hz2⟩ := gSk_int hz1
  exact lv_icmp_ge C.1 C.2.1 dg ht (fun q => kt q p l e R s m args below meth c QS mc ms ad0 C E ad ls _ H locs cells slots ha hL hz2 hR hV h1 h2) (fun q => kf q p l e R s m args below meth c QS mc ms ad0 C E ad ls _ H locs cells slots ha hL hz2 hR hV h1 h2)
theorem g_if_gt {G : gG} {Y : gY} {d pc : Nat} {al : List (Option Value)} {st : List Value} {h : gH} {kc ks : Nat} {Q : gQ} {x : Int32} {off : Int} {tgt : Nat} (dg : decode Y.2.1 pc = .ok (.ifCond .gt off, 3)) (ht : (pc : Int) + off = (tgt : Int)) (kt : 0 < x → gGo G Y d tgt al st h kc ks Q) (kf : ¬ 0 < x → gGo G Y d (pc + 3) al st h kc ks Q) : gGo G Y d pc al (.int x :: st) h kc ks Q := by
  intro p l e R s m args below meth c QS mc ms ad0 C E ad ls sk H locs cells slots ha hL hs hR hV h1 h2
  obtain ⟨sk1, rfl, hz1⟩ := gSk_int hs
  exact lv_if_gt C.1 C.2.1 dg ht (fun q => kt q p l e R s m args below meth c QS mc ms ad0 C E ad ls _ H locs cells slots ha hL hz1 hR hV h1 h2) (fun q => kf q p l e R s m args below meth c QS mc ms ad0 C E ad ls _ H locs cells slots ha hL hz1 hR hV h1 h2)
theorem g_icmp_gt {G : gG} {Y : gY} {d pc : Nat} {al : List (Option Value)} {st : List Value} {h : gH} {kc ks : Nat} {Q : gQ} {x y : Int32} {off : Int} {tgt : Nat} (dg : decode Y.2.1 pc = .ok (.if_icmp .gt off, 3)) (ht : (pc : Int) + off = (tgt : Int)) (kt : y < x → gGo G Y d tgt al st h kc ks Q) (kf : ¬ y < x → gGo G Y d (pc + 3) al st h kc ks Q) : gGo G Y d pc al (.int y :: .int x :: st) h kc ks Q := by
  intro p l e R s m args below meth c QS mc ms ad0 C E ad ls sk H locs cells slots ha hL hs hR hV h1 h2
  obtain ⟨sk1, rfl, hz1⟩ := gSk_int hs
  obtain ⟨sk2, rfl, hz2⟩ := gSk_int hz1
  exact lv_icmp_gt C.1 C.2.1 dg ht (fun q => kt q p l e R s m args below meth c QS mc ms ad0 C E ad ls _ H locs cells slots ha hL hz2 hR hV h1 h2) (fun q => kf q p l e R s m args below meth c QS mc ms ad0 C E ad ls _ H locs cells slots ha hL hz2 hR hV h1 h2)
theorem g_if_le {G : gG} {Y : gY} {d pc : Nat} {al : List (Option Value)} {st : List Value} {h : gH} {kc ks : Nat} {Q : gQ} {x : Int32} {off : Int} {tgt : Nat} (dg : decode Y.2.1 pc = .ok (.ifCond .le off, 3)) (ht : (pc : Int) + off = (tgt : Int)) (kt : x ≤ 0 → gGo G Y d tgt al st h kc ks Q) (kf : ¬ x ≤ 0 → gGo G Y d (pc + 3) al st h kc ks Q) : gGo G Y d pc al (.int x :: st) h kc ks Q := by
  intro p l e R s m args below meth c QS mc ms ad0 C E ad ls sk H locs cells slots ha hL hs hR hV h1 h2
  obtain ⟨sk1, rfl, hz1⟩ := gSk_int hs
  exact lv_if_le C.1 C.2.1 dg ht (fun q => kt q p l e R s m args below meth c QS mc ms ad0 C E ad ls _ H locs cells slots ha hL hz1 hR hV h1 h2) (fun q => kf q p l e R s m args below meth c QS mc ms ad0 C E ad ls _ H locs cells slots ha hL hz1 hR hV h1 h2)
theorem g_icmp_le {G : gG} {Y : gY} {d pc : Nat} {al : List (Option Value)} {st : List Value} {h : gH} {kc ks : Nat} {Q : gQ} {x y : Int32} {off : Int} {tgt : Nat} (dg : decode Y.2.1 pc = .ok (.if_icmp .le off, 3)) (ht : (pc : Int) + off = (tgt : Int)) (kt : x ≤ y → gGo G Y d tgt al st h kc ks Q) (kf : ¬ x ≤ y → gGo G Y d (pc + 3) al st h kc ks Q) : gGo G Y d pc al (.int y :: .int x :: st) h kc ks Q := by
  intro p l e R s m args below meth c QS mc ms ad0 C E ad ls sk H locs cells slots ha hL hs hR hV h1 h2
  obtain ⟨sk1, rfl, hz1⟩ := gSk_int hs
  obtain ⟨sk2, rfl, hz2⟩ := gSk_int hz1
  exact lv_icmp_le C.1 C.2.1 dg ht (fun q => kt q p l e R s m args below meth c QS mc ms ad0 C E ad ls _ H locs cells slots ha hL hz2 hR hV h1 h2) (fun q => kf q p l e R s m args below meth c QS mc ms ad0 C E ad ls _ H locs cells slots ha hL hz2 hR hV h1 h2)
theorem g_goto {G : gG} {Y : gY} {d pc : Nat} {al : List (Option Value)} {st : List Value} {h : gH} {kc ks : Nat} {Q : gQ} {off : Int} {tgt : Nat} (dg : decode Y.2.1 pc = .ok (.goto off, 3)) (ht : (pc : Int) + off = (tgt : Int)) (k : gGo G Y d tgt al st h kc ks Q) : gGo G Y d pc al st h kc ks Q := by
  intro p l e R s m args below meth c QS mc ms ad0 C E ad ls sk H locs cells slots ha hL hs hR hV h1 h2
  exact lv_goto C.1 C.2.1 dg ht (k p l e R s m args below meth c QS mc ms ad0 C E ad ls _ H locs cells slots ha hL hs hR hV h1 h2)
theorem g_tabOut {G : gG} {Y : gY} {d pc : Nat} {al : List (Option Value)} {st : List Value} {h : gH} {kc ks : Nat} {Q : gQ} {dflt lo hi : Int} {offs : Array Int} {len : Nat} {x : Int32} {tgt : Nat} (dg : decode Y.2.1 pc = .ok (.tableswitch dflt lo hi offs, len)) (hx : x.toInt < lo ∨ hi < x.toInt) (ht : (pc : Int) + dflt = (tgt : Int)) (k : gGo G Y d tgt al st h kc ks Q) : gGo G Y d pc al (.int x :: st) h kc ks Q := by
  intro p l e R s m args below meth c QS mc ms ad0 C E ad ls sk H locs cells slots ha hL hs hR hV h1 h2
  obtain ⟨sk1, rfl, hz1⟩ := gSk_int hs
  exact lv_tableOut C.1 C.2.1 dg hx ht (k p l e R s m args below meth c QS mc ms ad0 C E ad ls _ H locs cells slots ha hL hz1 hR hV h1 h2)
theorem g_tabIn {G : gG} {Y : gY} {d pc : Nat} {al : List (Option Value)} {st : List Value} {h : gH} {kc ks : Nat} {Q : gQ} {dflt lo hi : Int} {offs : Array Int} {len : Nat} {x : Int32} {off : Int} {tgt : Nat} (dg : decode Y.2.1 pc = .ok (.tableswitch dflt lo hi offs, len)) (hx : ¬ x.toInt < lo) (hy : ¬ hi < x.toInt) (ho : offs[(x.toInt - lo).toNat]? = some off) (ht : (pc : Int) + off = (tgt : Int)) (k : gGo G Y d tgt al st h kc ks Q) : gGo G Y d pc al (.int x :: st) h kc ks Q := by
  intro p l e R s m args below meth c QS mc ms ad0 C E ad ls sk H locs cells slots ha hL hs hR hV h1 h2
  obtain ⟨sk1, rfl, hz1⟩ := gSk_int hs
  exact lv_tableIn C.1 C.2.1 dg hx hy ho ht (k p l e R s m args below meth c QS mc ms ad0 C E ad ls _ H locs cells slots ha hL hz1 hR hV h1 h2)
theorem g_sub {G : gG} {Y : gY} {d pc : Nat} {al : List (Option Value)} {st : List Value} {h : gH} {kc ks : Nat} {Q : gQ} {al' : List (Option Value)} (hsub : ∀ (i : Nat) (v : Value), al'[i]? = some (some v) → al[i]? = some (some v)) (k : gGo G Y d pc al' st h kc ks Q) : gGo G Y d pc al st h kc ks Q := by
  intro p l e R s m args below meth c QS mc ms ad0 C E ad ls sk H locs cells slots ha hL hs hR hV h1 h2
  exact k p l e R s m args below meth c QS mc ms ad0 C E ad ls _ H locs cells slots ha (gLoc_sub hL hsub) hs hR hV h1 h2
theorem g_bud {G : gG} {Y : gY} {d pc : Nat} {al : List (Option Value)} {st : List Value} {h : gH} {kc ks kc' ks' : Nat} {Q : gQ} (hc : kc' ≤ kc) (hk : ks' ≤ ks) (k : gGo G Y d pc al st h kc' ks' Q) : gGo G Y d pc al st h kc ks Q := by
  intro p l e R s m args below meth c QS mc ms ad0 C E ad ls sk H locs cells slots ha hL hs hR hV h1 h2
  exact k p l e R s m args below meth c QS mc ms ad0 C E ad ls sk H locs cells slots ha hL hs hR hV (by omega) (by omega)
theorem g_imp {G : gG} {Y : gY} {d pc : Nat} {al : List (Option Value)} {st : List Value} {h : gH} {kc ks : Nat} {Q Q' : gQ} (hq : ∀ o h', Q' o h' → Q o h') (k : gGo G Y d pc al st h kc ks Q') : gGo G Y d pc al st h kc ks Q := by
  intro p l e R s m args below meth c QS mc ms ad0 C E ad ls sk H locs cells slots ha hL hs hR hV h1 h2
  refine k p l e R s m args below meth c QS mc ms ad0 C (fun ad h H locs cells slots ls pc g1 g2 g3 g4 => ?_) ad ls sk H locs cells slots ha hL hs hR hV h1 h2
  obtain ⟨e1, e2⟩ := E ad h H locs cells slots ls pc g1 g2 g3 g4
  exact ⟨fun v a b q => e1 v a b (hq _ _ q), fun x a b q => e2 x a b (hq _ _ q)⟩
theorem g_deep {G : gG} {Y : gY} {d d' pc : Nat} {al : List (Option Value)} {st : List Value} {h : gH} {kc ks : Nat} {Q : gQ} (hd : d ≤ d') (k : gGo G Y d pc al st h kc ks Q) : gGo G Y d' pc al st h kc ks Q := by
  intro p l e R s m args below meth c QS mc ms ad0 C E ad ls sk H locs cells slots ha hL hs hR hV h1 h2
  obtain ⟨c1, c2, c3, c4, c5, c6, c7, c8, c9, c10, c11, ⟨c12, c13⟩, c14⟩ := C
  exact k p l e R s m args below meth c QS mc ms ad0 ⟨c1, c2, c3, c4, c5, c6, c7, c8, c9, c10, c11, ⟨by omega, by omega⟩, c14⟩ E ad ls sk H locs cells slots ha hL hs hR hV h1 h2
theorem g_ireturn {G : gG} {Y : gY} {d pc : Nat} {al : List (Option Value)} {st : List Value} {h : gH} {kc ks : Nat} {Q : gQ} {x : Int32} {ty : FieldType} (dg : decode Y.2.1 pc = .ok (.ireturn, 1)) (hr : Y.2.2.2.1 = some ty) (hn : narrow ty (.int x) = .int x) (hq : Q (.inl (some (.int x))) h)  : gGo G Y d pc al [.int x] h kc ks Q := by
  intro p l e R s m args below meth c QS mc ms ad0 C E ad ls sk H locs cells slots ha hL hs hR hV h1 h2
  obtain ⟨sk1, rfl, hz1⟩ := gSk_int hs
  cases gSk_nil hz1
  exact (E ad h H locs cells slots ls pc ha hR hV hL.1).1 (some (.int x)) (by omega) (by omega) hq ⟨dg, ty, hr, hn⟩
theorem g_dreturn {G : gG} {Y : gY} {d pc : Nat} {al : List (Option Value)} {st : List Value} {h : gH} {kc ks : Nat} {Q : gQ} {x : UInt64} (dg : decode Y.2.1 pc = .ok (.dreturn, 1)) (hr : Y.2.2.2.1 = some .double) (hq : Q (.inl (some (.double x))) h)  : gGo G Y d pc al [.double x] h kc ks Q := by
  intro p l e R s m args below meth c QS mc ms ad0 C E ad ls sk H locs cells slots ha hL hs hR hV h1 h2
  obtain ⟨sk1, rfl, hz1⟩ := gSk_double hs
  cases gSk_nil hz1
  exact (E ad h H locs cells slots ls pc ha hR hV hL.1).1 (some (.double x)) (by omega) (by omega) hq ⟨dg, hr⟩
theorem g_return {G : gG} {Y : gY} {d pc : Nat} {al : List (Option Value)} {st : List Value} {h : gH} {kc ks : Nat} {Q : gQ} (dg : decode Y.2.1 pc = .ok (.return_, 1)) (hr : Y.2.2.2.1 = none) (hq : Q (.inl none) h)  : gGo G Y d pc al [] h kc ks Q := by
  intro p l e R s m args below meth c QS mc ms ad0 C E ad ls sk H locs cells slots ha hL hs hR hV h1 h2
  cases gSk_nil hs
  exact (E ad h H locs cells slots ls pc ha hR hV hL.1).1 none (by omega) (by omega) hq ⟨dg, hr⟩
theorem g_throw {G : gG} {Y : gY} {d pc : Nat} {al : List (Option Value)} {h : gH} {kc ks : Nat} {Q : gQ} {X : String} (ht : gThr Y pc X) (hc : 1 ≤ kc) (hk : 6 ≤ ks) (hq : Q (.inr X) h) : gGo G Y d pc al [] h kc ks Q := by
  intro p l e R s m args below meth c QS mc ms ad0 C E ad ls sk H locs cells slots ha hL hs hR hV h1 h2
  cases gSk_nil hs
  exact (E ad h H locs cells slots ls pc ha hR hV hL.1).2 X (by omega) (by omega) hq ht
end
section
/-! ===== rows that read and write cells ===== -/
def gRx : Nat → String
  | 0 => RX0
  | 1 => RX1
  | 2 => RX2
  | _ => RX3
def gTx : Nat → u_T
  | 0 => TX0
  | 1 => TX1
  | 2 => TX2
  | _ => TX3
theorem g_four {P : Nat → Prop} (h0 : P 0) (h1 : P 1) (h2 : P 2) (h3 : P 3) {ci : Nat} (h : ci < 4) : P ci := by
  match ci, h with
  | 0, _ => exact h0
  | 1, _ => exact h1
  | 2, _ => exact h2
  | 3, _ => exact h3
theorem gK_at {ci : Nat} (h : ci < 4) : gK[ci]? = some (gRx ci, gTx ci, gN ci) := g_four (P := fun ci => gK[ci]? = some (gRx ci, gTx ci, gN ci)) rfl rfl rfl rfl h
theorem gTx_own : ∀ ci, ci < 4 → ∀ j, j < gN ci → (gTx ci j).1 = gRx ci := by decide +kernel
theorem gTx_ty : ∀ ci, ci < 4 → ∀ j, j < gN ci → parseFieldDescriptor (gTx ci j).2.2.1 = some (gTy ci j) := by decide +kernel
theorem gTx_nm : ∀ ci, ci < 4 → ∀ a, a < gN ci → ∀ b, b < gN ci → a ≠ b → (gTx ci a).2.1 ≠ (gTx ci b).2.1 := by decide +kernel
theorem gLays0 : ∀ w ∈ u_ws RX0 TX0 9, w ∈ gW := by decide +kernel
theorem gLays1 : ∀ w ∈ u_ws RX1 TX1 12, w ∈ gW := by decide +kernel
theorem gLays2 : ∀ w ∈ u_ws RX2 TX2 13, w ∈ gW := by decide +kernel
theorem gLays3 : ∀ w ∈ u_ws RX3 TX3 31, w ∈ gW := by decide +kernel
theorem gLays {ci : Nat} (h : ci < 4) : ∀ w ∈ u_ws (gRx ci) (gTx ci) (gN ci), w ∈ gW := g_four (P := fun ci => ∀ w ∈ u_ws (gRx ci) (gTx ci) (gN ci), w ∈ gW) gLays0 gLays1 gLays2 gLays3 h
/-- the constant ix of the class own names the field j of the class ci -/
def gFl (own : String) (ix ci j : Nat) : Prop := (ci < 4 ∧ j < gN ci) ∧ (Cond.fieldLink own ix (gRx ci) (gTx ci j).2.1 (gTx ci j).2.2.1 ∈ gW ∨ ∃ host, Cond.fieldLinkNest own ix (gRx ci) (gTx ci j).2.1 (gTx ci j).2.2.1 host ∈ gW)
theorem gUp_ne {α : Type} {f : Nat → Nat → α} {k i j : Nat} {x : α} (h : j ≠ k) : gUp f k i x j = f j := by
  funext b
  simp [gUp, h]
theorem gUp_at {α : Type} {f : Nat → Nat → α} {k i : Nat} {x : α} : gUp f k i x k = fun b => if b = i then x else f k b := by
  funext b
  simp [gUp]
theorem gUp_get {α : Type} {f : Nat → Nat → α} {k i a b : Nat} {x : α} : gUp f k i x a b = if a = k ∧ b = i then x else f a b := rfl
theorem gCe_congr {ca : Nat → ClassId} {ad : List Nat} {h h' : gH} {k : Nat} (e1 : h'.1[k]? = h.1[k]?) (e2 : h'.2.1 k = h.2.1 k) (e3 : h'.2.2.1 k = h.2.2.1 k) (e4 : h'.2.2.2.1 k = h.2.2.2.1 k) (e5 : h'.2.2.2.2 k = h.2.2.2.2 k) : gCe ca ad h' k = gCe ca ad h k := by
  have a1 : ∀ ci, gFc ad h' k ci = gFc ad h k ci := fun ci => by
    funext j
    simp only [gFc, e2, e3]
  have a2 : ∀ t n, gAr ad h' k t n = gAr ad h k t n := fun t n => by simp only [gAr, e2, e3, e4, e5]
  simp only [gCe, e1, a1, a2]
theorem gCe_obj {ca : Nat → ClassId} {ad : List Nat} {h : gH} {k ci n : Nat} (hs : h.1[k]? = some (1, ci, n)) : gCe ca ad h k = .inr (ci, (List.range (gN ci)).map (gFc ad h k ci)) := by
  unfold gCe
  rw [hs]
  rfl
theorem gCe_arr {ca : Nat → ClassId} {ad : List Nat} {h : gH} {k t n : Nat} (hs : h.1[k]? = some (2, t, n)) : gCe ca ad h k = .inl (ca t, gAr ad h k t n) := by
  unfold gCe
  rw [hs]
  rfl
theorem g_adr {ad : List Nat} {r a : Nat} (h : ad[r]? = some a) : ad.getD r 0 = a := by
  rw [List.getD_eq_getElem?_getD, h]
  rfl
theorem gRep_set {G : gG} {ad : List Nat} {h h' : gH} {H H1 : Heap} {k : Nat} {e : va_E} (hR : gRep G ad h H) (h3 : 3 ≤ k) (hl : k < h.1.length) (hs : h'.1 = h.1) (ho : ∀ j, j ≠ k → gCe G.2.1 ad h' j = gCe G.2.1 ad h j) (hc : ∀ j, j < 3 → h'.2.2.1 j = h.2.2.1 j) (hr : ∀ k j r, h'.2.1 k j = some r → r < ad.length) (hk : gCe G.2.1 ad h' k = e)
    (hP : va_P G.1 gK ((gWs G.2.1 ad h).set (k - 3) (ad.getD k 0, e)) H1) (hD : va_D (fun q => G.2.2.1 ≤ q) ((gWs G.2.1 ad h).set (k - 3) (ad.getD k 0, e))) : gRep G ad h' H1 := by
  subst hk
  rw [← gWs_set hs h3 hl ho] at hP hD
  exact ⟨by rw [hs]; exact hR.1, fun j hj => ⟨(hR.2.1 j hj).1, by rw [hs]; exact (hR.2.1 j hj).2.1, by rw [hc j hj]; exact (hR.2.1 j hj).2.2⟩, hr, hP, hD⟩
theorem gFs_int {ad : List Nat} {S : List (Nat × Nat × Nat)} {T : Nat → Nat → Option Nat} {I : Nat → Nat → Int32} {L : Nat → Nat → Int64} {D : Nat → Nat → UInt64} {k ci j N : Nat} {x : Int32} (ht : gIsR ci j = false) : ((List.range N).map (gFc ad (S, T, I, L, D) k ci)).set j (.int x) = (List.range N).map (gFc ad (S, T, gUp I k j x, L, D) k ci) := by
  apply List.ext_getElem?
  intro i
  by_cases hi : i = j
  · subst hi
    by_cases hN : i < N
    · rw [List.getElem?_set_self (by simpa using hN), List.getElem?_map, List.getElem?_range hN]
      simp [gFc, ht, gUp]
    · rw [List.getElem?_eq_none (by simp; omega), List.getElem?_eq_none (by simp; omega)]
  · rw [List.getElem?_set_ne (Ne.symm hi), List.getElem?_map, List.getElem?_map]
    by_cases hN : i < N
    · rw [List.getElem?_range hN]
      simp [gFc, gUp, hi]
    · rw [List.getElem?_eq_none (by simp; omega)]
      rfl

theorem g_getI {G : gG} {Y : gY} {d pc : Nat} {al : List (Option Value)} {st : List Value} {S : List (Nat × Nat × Nat)} {T : Nat → Nat → Option Nat} {I : Nat → Nat → Int32} {L : Nat → Nat → Int64} {D : Nat → Nat → UInt64} {kc ks : Nat} {Q : gQ} {ix r ci j n0 : Nat} (dg : decode Y.2.1 pc = .ok (.getfield ix, 3)) (hf : gFl Y.1.cls ix ci j) (hS : S[r]? = some (1, ci, n0)) (h3 : 3 ≤ r) (hty : gIsR ci j = false) (k : gGo G Y d (pc + 3) al (.int (I r j) :: st) (S, T, I, L, D) kc ks Q) : gGo G Y d pc al (.ref r :: st) (S, T, I, L, D) kc ks Q := by
  intro p l e R s m args below meth c QS mc ms ad0 C E ad ls sk H locs cells slots ha hL hs hR hV h1 h2
  obtain ⟨a, sk1, hq, rfl, hz1⟩ := gSk_ref hs
  have hl : r < S.length := (List.getElem?_eq_some_iff.mp hS).1
  have haq : ad.getD r 0 = a := g_adr hq
  have he := gWs_at (ca := G.2.1) (ad := ad) (h := (S, T, I, L, D)) h3 hl
  rw [haq, gCe_obj (h := (S, T, I, L, D)) hS] at he
  obtain ⟨⟨hc4, hjN⟩, hlk⟩ := hf
  have hv : ((List.range (gN ci)).map (gFc ad (S, T, I, L, D) r ci))[j]? = some (.int (I r j)) := by
    rw [List.getElem?_map, List.getElem?_range hjN]
    simp [gFc, hty]
  have hk9 := k p l e R s m args below meth c QS mc ms ad0 C E ad ls _ H locs cells slots ha hL (gSk_in gV_int hz1) hR hV h1 h2
  have hsm : ∀ x, s.fieldFound? (gTx ci j).1 (gTx ci j).2.1 (gTx ci j).2.2.1 = some x → s.fieldFound? (gRx ci) (gTx ci j).2.1 (gTx ci j).2.2.1 = some x := fun x hx => by rw [gTx_own ci hc4 j hjN] at hx; exact hx
  rcases hlk with hlk | ⟨host, hlk⟩
  · exact va_get C.1 C.2.1 C.2.2.2.2.1 (gLays hc4) C.2.2.2.1 C.2.2.2.2.2.1.2.1 hR.2.2.2.1 (r - 3) he (gK_at hc4) j hjN (C.2.2.2.2.1 _ hlk) hsm hv dg hk9
  · exact va_getN C.1 C.2.1 C.2.2.2.2.1 (gLays hc4) C.2.2.2.1 C.2.2.2.2.2.1.2.1 hR.2.2.2.1 (r - 3) he (gK_at hc4) j hjN (C.2.2.2.2.1 _ hlk) hsm hv dg hk9
theorem g_getR {G : gG} {Y : gY} {d pc : Nat} {al : List (Option Value)} {st : List Value} {S : List (Nat × Nat × Nat)} {T : Nat → Nat → Option Nat} {I : Nat → Nat → Int32} {L : Nat → Nat → Int64} {D : Nat → Nat → UInt64} {kc ks : Nat} {Q : gQ} {ix r ci j n0 q : Nat} (dg : decode Y.2.1 pc = .ok (.getfield ix, 3)) (hf : gFl Y.1.cls ix ci j) (hS : S[r]? = some (1, ci, n0)) (h3 : 3 ≤ r) (hty : gIsR ci j = true) (hq0 : T r j = some q) (k : gGo G Y d (pc + 3) al (.ref q :: st) (S, T, I, L, D) kc ks Q) : gGo G Y d pc al (.ref r :: st) (S, T, I, L, D) kc ks Q := by
  intro p l e R s m args below meth c QS mc ms ad0 C E ad ls sk H locs cells slots ha hL hs hR hV h1 h2
  obtain ⟨a, sk1, hq, rfl, hz1⟩ := gSk_ref hs
  have hl : r < S.length := (List.getElem?_eq_some_iff.mp hS).1
  have haq : ad.getD r 0 = a := g_adr hq
  have he := gWs_at (ca := G.2.1) (ad := ad) (h := (S, T, I, L, D)) h3 hl
  rw [haq, gCe_obj (h := (S, T, I, L, D)) hS] at he
  obtain ⟨⟨hc4, hjN⟩, hlk⟩ := hf
  obtain ⟨a2, ha2⟩ : ∃ a2, ad[q]? = some a2 := ⟨_, List.getElem?_eq_getElem (hR.2.2.1 r j q hq0)⟩
  have hv : ((List.range (gN ci)).map (gFc ad (S, T, I, L, D) r ci))[j]? = some (.ref a2) := by
    rw [List.getElem?_map, List.getElem?_range hjN]
    simp only [Option.map_some, gFc, hty, if_true, hq0, g_adr ha2]
    rfl
  have hk9 := k p l e R s m args below meth c QS mc ms ad0 C E ad ls _ H locs cells slots ha hL (gSk_in (gV_at ha2) hz1) hR hV h1 h2
  have hsm : ∀ x, s.fieldFound? (gTx ci j).1 (gTx ci j).2.1 (gTx ci j).2.2.1 = some x → s.fieldFound? (gRx ci) (gTx ci j).2.1 (gTx ci j).2.2.1 = some x := fun x hx => by rw [gTx_own ci hc4 j hjN] at hx; exact hx
  rcases hlk with hlk | ⟨host, hlk⟩
  · exact va_get C.1 C.2.1 C.2.2.2.2.1 (gLays hc4) C.2.2.2.1 C.2.2.2.2.2.1.2.1 hR.2.2.2.1 (r - 3) he (gK_at hc4) j hjN (C.2.2.2.2.1 _ hlk) hsm hv dg hk9
  · exact va_getN C.1 C.2.1 C.2.2.2.2.1 (gLays hc4) C.2.2.2.1 C.2.2.2.2.2.1.2.1 hR.2.2.2.1 (r - 3) he (gK_at hc4) j hjN (C.2.2.2.2.1 _ hlk) hsm hv dg hk9
theorem g_putI {G : gG} {Y : gY} {d pc : Nat} {al : List (Option Value)} {st : List Value} {S : List (Nat × Nat × Nat)} {T : Nat → Nat → Option Nat} {I : Nat → Nat → Int32} {L : Nat → Nat → Int64} {D : Nat → Nat → UInt64} {kc ks : Nat} {Q : gQ} {ix r ci j n0 : Nat} {x : Int32} (dg : decode Y.2.1 pc = .ok (.putfield ix, 3)) (hf : gFl Y.1.cls ix ci j) (hS : S[r]? = some (1, ci, n0)) (h3 : 3 ≤ r) (hty : gIsR ci j = false) (hfin : (gTx ci j).2.2.2 = false) (hn : narrow (gTy ci j) (.int x) = .int x) (hfit : fits (gTy ci j) (.int x) = true) (k : gGo G Y d (pc + 3) al (st) (S, T, gUp I r j x, L, D) kc ks Q) : gGo G Y d pc al (.int x :: .ref r :: st) (S, T, I, L, D) kc ks Q := by
  intro p l e R s m args below meth c QS mc ms ad0 C E ad ls sk H locs cells slots ha hL hs hR hV h1 h2
  obtain ⟨sk0, rfl, hz0⟩ := gSk_int hs
  obtain ⟨a, sk1, hq, rfl, hz1⟩ := gSk_ref hz0
  have hl : r < S.length := (List.getElem?_eq_some_iff.mp hS).1
  have haq : ad.getD r 0 = a := g_adr hq
  have he := gWs_at (ca := G.2.1) (ad := ad) (h := (S, T, I, L, D)) h3 hl
  rw [haq, gCe_obj (h := (S, T, I, L, D)) hS] at he
  obtain ⟨⟨hc4, hjN⟩, hlk⟩ := hf
  have hsm : ∀ x, s.fieldFound? (gTx ci j).1 (gTx ci j).2.1 (gTx ci j).2.2.1 = some x → s.fieldFound? (gRx ci) (gTx ci j).2.1 (gTx ci j).2.2.1 = some x := fun x hx => by rw [gTx_own ci hc4 j hjN] at hx; exact hx
  have hk9 : ∀ (H1 : Heap) (locs1 : List Loc), va_P G.1 gK ((gWs G.2.1 ad (S, T, I, L, D)).set (r - 3) (a, .inr (ci, ((List.range (gN ci)).map (gFc ad (S, T, I, L, D) r ci)).set j (.int x)))) H1 → va_D (fun q => G.2.2.1 ≤ q) ((gWs G.2.1 ad (S, T, I, L, D)).set (r - 3) (a, .inr (ci, ((List.range (gN ci)).map (gFc ad (S, T, I, L, D) r ci)).set j (.int x)))) → va_S (fun q => G.2.2.1 ≤ q) s.heap H1 locs1 → W p l e R s m args below meth c H1 locs1 cells slots QS (F0 m (pc + 3) ls sk1) := fun H1 locs1 hP hD hS1 => by
    rw [← haq, gFs_int hty] at hP hD
    exact k p l e R s m args below meth c QS mc ms ad0 C E ad ls sk1 H1 locs1 cells slots ha hL hz1 (gRep_set (h' := (S, T, gUp I r j x, L, D)) hR h3 hl rfl (fun j9 hj9 => gCe_congr rfl rfl (gUp_ne hj9) rfl rfl) (fun j9 hj9 => gUp_ne (by omega)) hR.2.2.1 (gCe_obj (h := (S, T, gUp I r j x, L, D)) hS) hP hD) hS1 h1 h2
  rcases hlk with hlk | ⟨host, hlk⟩
  · exact va_put C.1 C.2.1 C.2.2.2.2.1 (gLays hc4) (gTy ci) (gTx_ty ci hc4) (gTx_nm ci hc4) C.2.2.2.1 C.2.2.2.2.2.1.2.1 hR.2.2.2.1 hR.2.2.2.2 hV (r - 3) he (gK_at hc4) j hjN (C.2.2.2.2.1 _ hlk) hsm hfin (gTx_ty ci hc4 j hjN) hn hfit (by simpa using hjN) dg hk9
  · exact va_putN C.1 C.2.1 C.2.2.2.2.1 (gLays hc4) (gTy ci) (gTx_ty ci hc4) (gTx_nm ci hc4) C.2.2.2.1 C.2.2.2.2.2.1.2.1 hR.2.2.2.1 hR.2.2.2.2 hV (r - 3) he (gK_at hc4) j hjN (C.2.2.2.2.1 _ hlk) hsm hfin (gTx_ty ci hc4 j hjN) hn hfit (by simpa using hjN) dg hk9
theorem g_iaload {G : gG} {Y : gY} {d pc : Nat} {al : List (Option Value)} {st : List Value} {S : List (Nat × Nat × Nat)} {T : Nat → Nat → Option Nat} {I : Nat → Nat → Int32} {L : Nat → Nat → Int64} {D : Nat → Nat → UInt64} {kc ks : Nat} {Q : gQ} {r n : Nat} {i : Int32} (dg : decode Y.2.1 pc = .ok (.iaload, 1)) (hS : S[r]? = some (2, 0, n)) (h3 : 3 ≤ r) (hin : vp_in i n) (k : gGo G Y d (pc + 1) al (.int (I r i.toNatClampNeg) :: st) (S, T, I, L, D) kc ks Q) : gGo G Y d pc al (.int i :: .ref r :: st) (S, T, I, L, D) kc ks Q := by
  intro p l e R s m args below meth c QS mc ms ad0 C E ad ls sk H locs cells slots ha hL hs hR hV h1 h2
  obtain ⟨sk0, rfl, hz0⟩ := gSk_int hs
  obtain ⟨a, sk1, hq, rfl, hz1⟩ := gSk_ref hz0
  have hl : r < S.length := (List.getElem?_eq_some_iff.mp hS).1
  have haq : ad.getD r 0 = a := g_adr hq
  have he := gWs_at (ca := G.2.1) (ad := ad) (h := (S, T, I, L, D)) h3 hl
  rw [haq, gCe_arr (h := (S, T, I, L, D)) hS] at he
  exact va_iald C.1 C.2.1 C.2.2.2.2.2.1.2.1 hR.2.2.2.1 (r - 3) 0 he rfl hin dg (k p l e R s m args below meth c QS mc ms ad0 C E ad ls _ H locs cells slots ha hL (gSk_in gV_int hz1) hR hV h1 h2)
theorem g_caload {G : gG} {Y : gY} {d pc : Nat} {al : List (Option Value)} {st : List Value} {S : List (Nat × Nat × Nat)} {T : Nat → Nat → Option Nat} {I : Nat → Nat → Int32} {L : Nat → Nat → Int64} {D : Nat → Nat → UInt64} {kc ks : Nat} {Q : gQ} {r n : Nat} {i : Int32} (dg : decode Y.2.1 pc = .ok (.caload, 1)) (hS : S[r]? = some (2, 1, n)) (h3 : 3 ≤ r) (hin : vp_in i n) (k : gGo G Y d (pc + 1) al (.int (I r i.toNatClampNeg) :: st) (S, T, I, L, D) kc ks Q) : gGo G Y d pc al (.int i :: .ref r :: st) (S, T, I, L, D) kc ks Q := by
  intro p l e R s m args below meth c QS mc ms ad0 C E ad ls sk H locs cells slots ha hL hs hR hV h1 h2
  obtain ⟨sk0, rfl, hz0⟩ := gSk_int hs
  obtain ⟨a, sk1, hq, rfl, hz1⟩ := gSk_ref hz0
  have hl : r < S.length := (List.getElem?_eq_some_iff.mp hS).1
  have haq : ad.getD r 0 = a := g_adr hq
  have he := gWs_at (ca := G.2.1) (ad := ad) (h := (S, T, I, L, D)) h3 hl
  rw [haq, gCe_arr (h := (S, T, I, L, D)) hS] at he
  exact va_cald C.1 C.2.1 C.2.2.2.2.2.1.2.1 hR.2.2.2.1 (r - 3) 1 he rfl hin dg (k p l e R s m args below meth c QS mc ms ad0 C E ad ls _ H locs cells slots ha hL (gSk_in gV_int hz1) hR hV h1 h2)
theorem g_laload {G : gG} {Y : gY} {d pc : Nat} {al : List (Option Value)} {st : List Value} {S : List (Nat × Nat × Nat)} {T : Nat → Nat → Option Nat} {I : Nat → Nat → Int32} {L : Nat → Nat → Int64} {D : Nat → Nat → UInt64} {kc ks : Nat} {Q : gQ} {r n : Nat} {i : Int32} (dg : decode Y.2.1 pc = .ok (.laload, 1)) (hS : S[r]? = some (2, 2, n)) (h3 : 3 ≤ r) (hin : vp_in i n) (k : gGo G Y d (pc + 1) al (.long (L r i.toNatClampNeg) :: st) (S, T, I, L, D) kc ks Q) : gGo G Y d pc al (.int i :: .ref r :: st) (S, T, I, L, D) kc ks Q := by
  intro p l e R s m args below meth c QS mc ms ad0 C E ad ls sk H locs cells slots ha hL hs hR hV h1 h2
  obtain ⟨sk0, rfl, hz0⟩ := gSk_int hs
  obtain ⟨a, sk1, hq, rfl, hz1⟩ := gSk_ref hz0
  have hl : r < S.length := (List.getElem?_eq_some_iff.mp hS).1
  have haq : ad.getD r 0 = a := g_adr hq
  have he := gWs_at (ca := G.2.1) (ad := ad) (h := (S, T, I, L, D)) h3 hl
  rw [haq, gCe_arr (h := (S, T, I, L, D)) hS] at he
  exact va_lald C.1 C.2.1 C.2.2.2.2.2.1.2.1 hR.2.2.2.1 (r - 3) 2 he rfl hin dg (k p l e R s m args below meth c QS mc ms ad0 C E ad ls _ H locs cells slots ha hL (gSk_in gV_long hz1) hR hV h1 h2)
theorem g_daload {G : gG} {Y : gY} {d pc : Nat} {al : List (Option Value)} {st : List Value} {S : List (Nat × Nat × Nat)} {T : Nat → Nat → Option Nat} {I : Nat → Nat → Int32} {L : Nat → Nat → Int64} {D : Nat → Nat → UInt64} {kc ks : Nat} {Q : gQ} {r n : Nat} {i : Int32} (dg : decode Y.2.1 pc = .ok (.daload, 1)) (hS : S[r]? = some (2, 3, n)) (h3 : 3 ≤ r) (hin : vp_in i n) (k : gGo G Y d (pc + 1) al (.double (D r i.toNatClampNeg) :: st) (S, T, I, L, D) kc ks Q) : gGo G Y d pc al (.int i :: .ref r :: st) (S, T, I, L, D) kc ks Q := by
  intro p l e R s m args below meth c QS mc ms ad0 C E ad ls sk H locs cells slots ha hL hs hR hV h1 h2
  obtain ⟨sk0, rfl, hz0⟩ := gSk_int hs
  obtain ⟨a, sk1, hq, rfl, hz1⟩ := gSk_ref hz0
  have hl : r < S.length := (List.getElem?_eq_some_iff.mp hS).1
  have haq : ad.getD r 0 = a := g_adr hq
  have he := gWs_at (ca := G.2.1) (ad := ad) (h := (S, T, I, L, D)) h3 hl
  rw [haq, gCe_arr (h := (S, T, I, L, D)) hS] at he
  exact va_dald C.1 C.2.1 C.2.2.2.2.2.1.2.1 hR.2.2.2.1 (r - 3) 3 he rfl hin dg (k p l e R s m args below meth c QS mc ms ad0 C E ad ls _ H locs cells slots ha hL (gSk_in gV_double hz1) hR hV h1 h2)
theorem g_ialoadK {G : gG} {Y : gY} {d pc : Nat} {al : List (Option Value)} {st : List Value} {S : List (Nat × Nat × Nat)} {T : Nat → Nat → Option Nat} {I : Nat → Nat → Int32} {L : Nat → Nat → Int64} {D : Nat → Nat → UInt64} {kc ks : Nat} {Q : gQ} {r n : Nat} {i : Int32} (dg : decode Y.2.1 pc = .ok (.iaload, 1)) (hS : S[r]? = some (0, 0, n)) (h3 : r < 3) (hin : vp_in i n) (k : gGo G Y d (pc + 1) al (.int (I r i.toNatClampNeg) :: st) (S, T, I, L, D) kc ks Q) : gGo G Y d pc al (.int i :: .ref r :: st) (S, T, I, L, D) kc ks Q := by
  intro p l e R s m args below meth c QS mc ms ad0 C E ad ls sk H locs cells slots ha hL hs hR hV h1 h2
  obtain ⟨sk0, rfl, hz0⟩ := gSk_int hs
  obtain ⟨a, sk1, hq, rfl, hz1⟩ := gSk_ref hz0
  obtain ⟨e1, e2, e3⟩ := hR.2.1 r h3
  have g2 := C.2.2.2.2.2.1.2.2.1 r h3
  have ea : a = G.2.2.2.1 r := Option.some.inj (hq.symm.trans e1)
  subst ea
  have en : (0, 0, n) = (0, 0, G.2.2.2.2.1 r) := Option.some.inj (hS.symm.trans e2)
  have en : n = G.2.2.2.2.1 r := by injection en with _ en; injection en
  subst en
  have ei : I r = G.2.2.2.2.2 r := e3
  exact va_ti C.1 C.2.1 g2 hV hin (v := .int (I r i.toNatClampNeg)) (by rw [ei]) dg (k p l e R s m args below meth c QS mc ms ad0 C E ad ls _ H locs cells slots ha hL (gSk_in gV_int hz1) hR hV h1 h2)
theorem g_alenK {G : gG} {Y : gY} {d pc : Nat} {al : List (Option Value)} {st : List Value} {S : List (Nat × Nat × Nat)} {T : Nat → Nat → Option Nat} {I : Nat → Nat → Int32} {L : Nat → Nat → Int64} {D : Nat → Nat → UInt64} {kc ks : Nat} {Q : gQ} {r n : Nat} (dg : decode Y.2.1 pc = .ok (.arraylength, 1)) (hS : S[r]? = some (0, 0, n)) (h3 : r < 3) (k : gGo G Y d (pc + 1) al (.int (nI n) :: st) (S, T, I, L, D) kc ks Q) : gGo G Y d pc al (.ref r :: st) (S, T, I, L, D) kc ks Q := by
  intro p l e R s m args below meth c QS mc ms ad0 C E ad ls sk H locs cells slots ha hL hs hR hV h1 h2
  obtain ⟨a, sk1, hq, rfl, hz1⟩ := gSk_ref hs
  obtain ⟨e1, e2, e3⟩ := hR.2.1 r h3
  have g2 := C.2.2.2.2.2.1.2.2.1 r h3
  have ea : a = G.2.2.2.1 r := Option.some.inj (hq.symm.trans e1)
  subst ea
  have en : (0, 0, n) = (0, 0, G.2.2.2.2.1 r) := Option.some.inj (hS.symm.trans e2)
  have en : n = G.2.2.2.2.1 r := by injection en with _ en; injection en
  subst en
  exact va_tlen C.1 C.2.1 g2 hV rfl dg (k p l e R s m args below meth c QS mc ms ad0 C E ad ls _ H locs cells slots ha hL (gSk_in gV_int hz1) hR hV h1 h2)
theorem g_alen {G : gG} {Y : gY} {d pc : Nat} {al : List (Option Value)} {st : List Value} {S : List (Nat × Nat × Nat)} {T : Nat → Nat → Option Nat} {I : Nat → Nat → Int32} {L : Nat → Nat → Int64} {D : Nat → Nat → UInt64} {kc ks : Nat} {Q : gQ} {r t n : Nat} (dg : decode Y.2.1 pc = .ok (.arraylength, 1)) (hS : S[r]? = some (2, t, n)) (h3 : 3 ≤ r) (ht : t < 6) (k : gGo G Y d (pc + 1) al (.int (Int32.ofNat n) :: st) (S, T, I, L, D) kc ks Q) : gGo G Y d pc al (.ref r :: st) (S, T, I, L, D) kc ks Q := by
  intro p l e R s m args below meth c QS mc ms ad0 C E ad ls sk H locs cells slots ha hL hs hR hV h1 h2
  obtain ⟨a, sk1, hq, rfl, hz1⟩ := gSk_ref hs
  have hl : r < S.length := (List.getElem?_eq_some_iff.mp hS).1
  have haq : ad.getD r 0 = a := g_adr hq
  have he := gWs_at (ca := G.2.1) (ad := ad) (h := (S, T, I, L, D)) h3 hl
  rw [haq, gCe_arr (h := (S, T, I, L, D)) hS] at he
  obtain ⟨ty, hty⟩ : ∃ ty, (gTs G.2.1)[t]? = some (G.2.1 t, ty) := by
    match t, ht with
    | 0, _ => exact ⟨_, rfl⟩
    | 1, _ => exact ⟨_, rfl⟩
    | 2, _ => exact ⟨_, rfl⟩
    | 3, _ => exact ⟨_, rfl⟩
    | 4, _ => exact ⟨_, rfl⟩
    | 5, _ => exact ⟨_, rfl⟩
  exact va_alen C.1 C.2.1 C.2.2.2.2.2.1.2.1 hR.2.2.2.1 (r - 3) t he hty rfl dg (k p l e R s m args below meth c QS mc ms ad0 C E ad ls _ H locs cells slots ha hL (gSk_in gV_int hz1) hR hV h1 h2)
theorem g_iastore {G : gG} {Y : gY} {d pc : Nat} {al : List (Option Value)} {st : List Value} {S : List (Nat × Nat × Nat)} {T : Nat → Nat → Option Nat} {I : Nat → Nat → Int32} {L : Nat → Nat → Int64} {D : Nat → Nat → UInt64} {kc ks : Nat} {Q : gQ} {r n : Nat} {i : Int32} {x : Int32} (dg : decode Y.2.1 pc = .ok (.iastore, 1)) (hS : S[r]? = some (2, 0, n)) (h3 : 3 ≤ r) (hin : vp_in i n) (k : gGo G Y d (pc + 1) al (st) (S, T, gUp I r i.toNatClampNeg x, L, D) kc ks Q) : gGo G Y d pc al (.int x :: .int i :: .ref r :: st) (S, T, I, L, D) kc ks Q := by
  intro p l e R s m args below meth c QS mc ms ad0 C E ad ls sk H locs cells slots ha hL hs hR hV h1 h2
  obtain ⟨sk9, rfl, hz9⟩ := gSk_int hs
  obtain ⟨sk0, rfl, hz0⟩ := gSk_int hz9
  obtain ⟨a, sk1, hq, rfl, hz1⟩ := gSk_ref hz0
  have hl : r < S.length := (List.getElem?_eq_some_iff.mp hS).1
  have haq : ad.getD r 0 = a := g_adr hq
  have he := gWs_at (ca := G.2.1) (ad := ad) (h := (S, T, I, L, D)) h3 hl
  rw [haq, gCe_arr (h := (S, T, I, L, D)) hS] at he
  refine va_iast C.1 C.2.1 C.2.2.2.2.2.1.2.1 hR.2.2.2.1 hR.2.2.2.2 hV (r - 3) 0 he rfl hin dg (fun H1 locs1 hP hD hS1 => ?_)
  rw [← haq] at hP hD
  refine k p l e R s m args below meth c QS mc ms ad0 C E ad ls sk1 H1 locs1 cells slots ha hL hz1 (gRep_set (h' := (S, T, gUp I r i.toNatClampNeg x, L, D)) hR h3 hl rfl (fun j9 hj9 => gCe_congr rfl rfl (gUp_ne hj9) rfl rfl) (fun j9 hj9 => gUp_ne (by omega)) hR.2.2.1 ?_ hP hD) hS1 h1 h2
  rw [gCe_arr (h := (S, T, gUp I r i.toNatClampNeg x, L, D)) hS]
  simp only [gAr, gUp_at]
  rfl
theorem g_castore {G : gG} {Y : gY} {d pc : Nat} {al : List (Option Value)} {st : List Value} {S : List (Nat × Nat × Nat)} {T : Nat → Nat → Option Nat} {I : Nat → Nat → Int32} {L : Nat → Nat → Int64} {D : Nat → Nat → UInt64} {kc ks : Nat} {Q : gQ} {r n : Nat} {i : Int32} {x : Int32} (dg : decode Y.2.1 pc = .ok (.castore, 1)) (hS : S[r]? = some (2, 1, n)) (h3 : 3 ≤ r) (hin : vp_in i n) (k : gGo G Y d (pc + 1) al (st) (S, T, gUp I r i.toNatClampNeg (vp_nar .char x), L, D) kc ks Q) : gGo G Y d pc al (.int x :: .int i :: .ref r :: st) (S, T, I, L, D) kc ks Q := by
  intro p l e R s m args below meth c QS mc ms ad0 C E ad ls sk H locs cells slots ha hL hs hR hV h1 h2
  obtain ⟨sk9, rfl, hz9⟩ := gSk_int hs
  obtain ⟨sk0, rfl, hz0⟩ := gSk_int hz9
  obtain ⟨a, sk1, hq, rfl, hz1⟩ := gSk_ref hz0
  have hl : r < S.length := (List.getElem?_eq_some_iff.mp hS).1
  have haq : ad.getD r 0 = a := g_adr hq
  have he := gWs_at (ca := G.2.1) (ad := ad) (h := (S, T, I, L, D)) h3 hl
  rw [haq, gCe_arr (h := (S, T, I, L, D)) hS] at he
  refine va_cast C.1 C.2.1 C.2.2.2.2.2.1.2.1 hR.2.2.2.1 hR.2.2.2.2 hV (r - 3) 1 he rfl hin dg (fun H1 locs1 hP hD hS1 => ?_)
  rw [← haq] at hP hD
  refine k p l e R s m args below meth c QS mc ms ad0 C E ad ls sk1 H1 locs1 cells slots ha hL hz1 (gRep_set (h' := (S, T, gUp I r i.toNatClampNeg (vp_nar .char x), L, D)) hR h3 hl rfl (fun j9 hj9 => gCe_congr rfl rfl (gUp_ne hj9) rfl rfl) (fun j9 hj9 => gUp_ne (by omega)) hR.2.2.1 ?_ hP hD) hS1 h1 h2
  rw [gCe_arr (h := (S, T, gUp I r i.toNatClampNeg (vp_nar .char x), L, D)) hS]
  simp only [gAr, gUp_at]
  rfl
theorem g_lastore {G : gG} {Y : gY} {d pc : Nat} {al : List (Option Value)} {st : List Value} {S : List (Nat × Nat × Nat)} {T : Nat → Nat → Option Nat} {I : Nat → Nat → Int32} {L : Nat → Nat → Int64} {D : Nat → Nat → UInt64} {kc ks : Nat} {Q : gQ} {r n : Nat} {i : Int32} {x : Int64} (dg : decode Y.2.1 pc = .ok (.lastore, 1)) (hS : S[r]? = some (2, 2, n)) (h3 : 3 ≤ r) (hin : vp_in i n) (k : gGo G Y d (pc + 1) al (st) (S, T, I, gUp L r i.toNatClampNeg x, D) kc ks Q) : gGo G Y d pc al (.long x :: .int i :: .ref r :: st) (S, T, I, L, D) kc ks Q := by
  intro p l e R s m args below meth c QS mc ms ad0 C E ad ls sk H locs cells slots ha hL hs hR hV h1 h2
  obtain ⟨sk9, rfl, hz9⟩ := gSk_long hs
  obtain ⟨sk0, rfl, hz0⟩ := gSk_int hz9
  obtain ⟨a, sk1, hq, rfl, hz1⟩ := gSk_ref hz0
  have hl : r < S.length := (List.getElem?_eq_some_iff.mp hS).1
  have haq : ad.getD r 0 = a := g_adr hq
  have he := gWs_at (ca := G.2.1) (ad := ad) (h := (S, T, I, L, D)) h3 hl
  rw [haq, gCe_arr (h := (S, T, I, L, D)) hS] at he
  refine va_last C.1 C.2.1 C.2.2.2.2.2.1.2.1 hR.2.2.2.1 hR.2.2.2.2 hV (r - 3) 2 he rfl hin dg (fun H1 locs1 hP hD hS1 => ?_)
  rw [← haq] at hP hD
  refine k p l e R s m args below meth c QS mc ms ad0 C E ad ls sk1 H1 locs1 cells slots ha hL hz1 (gRep_set (h' := (S, T, I, gUp L r i.toNatClampNeg x, D)) hR h3 hl rfl (fun j9 hj9 => gCe_congr rfl rfl rfl (gUp_ne hj9) rfl) (fun j9 hj9 => rfl) hR.2.2.1 ?_ hP hD) hS1 h1 h2
  rw [gCe_arr (h := (S, T, I, gUp L r i.toNatClampNeg x, D)) hS]
  simp only [gAr, gUp_at]
  rfl
theorem g_dastore {G : gG} {Y : gY} {d pc : Nat} {al : List (Option Value)} {st : List Value} {S : List (Nat × Nat × Nat)} {T : Nat → Nat → Option Nat} {I : Nat → Nat → Int32} {L : Nat → Nat → Int64} {D : Nat → Nat → UInt64} {kc ks : Nat} {Q : gQ} {r n : Nat} {i : Int32} {x : UInt64} (dg : decode Y.2.1 pc = .ok (.dastore, 1)) (hS : S[r]? = some (2, 3, n)) (h3 : 3 ≤ r) (hin : vp_in i n) (k : gGo G Y d (pc + 1) al (st) (S, T, I, L, gUp D r i.toNatClampNeg x) kc ks Q) : gGo G Y d pc al (.double x :: .int i :: .ref r :: st) (S, T, I, L, D) kc ks Q := by
  intro p l e R s m args below meth c QS mc ms ad0 C E ad ls sk H locs cells slots ha hL hs hR hV h1 h2
  obtain ⟨sk9, rfl, hz9⟩ := gSk_double hs
  obtain ⟨sk0, rfl, hz0⟩ := gSk_int hz9
  obtain ⟨a, sk1, hq, rfl, hz1⟩ := gSk_ref hz0
  have hl : r < S.length := (List.getElem?_eq_some_iff.mp hS).1
  have haq : ad.getD r 0 = a := g_adr hq
  have he := gWs_at (ca := G.2.1) (ad := ad) (h := (S, T, I, L, D)) h3 hl
  rw [haq, gCe_arr (h := (S, T, I, L, D)) hS] at he
  refine va_dast C.1 C.2.1 C.2.2.2.2.2.1.2.1 hR.2.2.2.1 hR.2.2.2.2 hV (r - 3) 3 he rfl hin dg (fun H1 locs1 hP hD hS1 => ?_)
  rw [← haq] at hP hD
  refine k p l e R s m args below meth c QS mc ms ad0 C E ad ls sk1 H1 locs1 cells slots ha hL hz1 (gRep_set (h' := (S, T, I, L, gUp D r i.toNatClampNeg x)) hR h3 hl rfl (fun j9 hj9 => gCe_congr rfl rfl rfl rfl (gUp_ne hj9)) (fun j9 hj9 => rfl) hR.2.2.1 ?_ hP hD) hS1 h1 h2
  rw [gCe_arr (h := (S, T, I, L, gUp D r i.toNatClampNeg x)) hS]
  simp only [gAr, gUp_at]
  rfl
theorem g_aaload {G : gG} {Y : gY} {d pc : Nat} {al : List (Option Value)} {st : List Value} {S : List (Nat × Nat × Nat)} {T : Nat → Nat → Option Nat} {I : Nat → Nat → Int32} {L : Nat → Nat → Int64} {D : Nat → Nat → UInt64} {kc ks : Nat} {Q : gQ} {r t n q : Nat} {i : Int32} (dg : decode Y.2.1 pc = .ok (.aaload, 1)) (ht : t = 4 ∨ t = 5) (hS : S[r]? = some (2, t, n)) (h3 : 3 ≤ r) (hin : vp_in i n) (hq0 : T r i.toNatClampNeg = some q) (k : gGo G Y d (pc + 1) al (.ref q :: st) (S, T, I, L, D) kc ks Q) : gGo G Y d pc al (.int i :: .ref r :: st) (S, T, I, L, D) kc ks Q := by
  intro p l e R s m args below meth c QS mc ms ad0 C E ad ls sk H locs cells slots ha hL hs hR hV h1 h2
  obtain ⟨sk0, rfl, hz0⟩ := gSk_int hs
  obtain ⟨a, sk1, hq, rfl, hz1⟩ := gSk_ref hz0
  have hl : r < S.length := (List.getElem?_eq_some_iff.mp hS).1
  have haq : ad.getD r 0 = a := g_adr hq
  have he := gWs_at (ca := G.2.1) (ad := ad) (h := (S, T, I, L, D)) h3 hl
  rw [haq, gCe_arr (h := (S, T, I, L, D)) hS] at he
  obtain ⟨a2, ha2⟩ : ∃ a2, ad[q]? = some a2 := ⟨_, List.getElem?_eq_getElem (hR.2.2.1 r _ q hq0)⟩
  have hk9 := k p l e R s m args below meth c QS mc ms ad0 C E ad ls _ H locs cells slots ha hL (gSk_in (gV_at ha2) hz1) hR hV h1 h2
  have hlt : i.toNatClampNeg < n := Nat.not_le.mp fun z => hin (Or.inr z)
  have hkn := C.2.2.2.2.2.1.2.1.2
  rcases ht with rfl | rfl
  · have hcell : H[a]? = some (arrV (G.2.1 4) n (fun j => va_rf ((T r j).map (fun z => ad.getD z 0)))) := hR.2.2.2.1 (r - 3) _ he
    refine W.aald (v := va_rf ((T r i.toNatClampNeg).map (fun z => ad.getD z 0))) (ty := .array .int) C.1 C.2.1 hcell ((hkn 4 _ rfl).1 n (fun j => va_rf ((T r j).map (fun z => ad.getD z 0)))) rfl (fun z => by cases z) (by rw [arrV_size]; exact hin) (by rw [arrV_read _ _ hlt]) rfl rfl dg ?_
    rw [hq0, Option.map_some, g_adr ha2]
    exact hk9
  · have hcell : H[a]? = some (arrV (G.2.1 5) n (fun j => va_rf ((T r j).map (fun z => ad.getD z 0)))) := hR.2.2.2.1 (r - 3) _ he
    refine W.aald (v := va_rf ((T r i.toNatClampNeg).map (fun z => ad.getD z 0))) (ty := .object RX1) C.1 C.2.1 hcell ((hkn 5 _ rfl).1 n (fun j => va_rf ((T r j).map (fun z => ad.getD z 0)))) rfl (fun z => by cases z) (by rw [arrV_size]; exact hin) (by rw [arrV_read _ _ hlt]) rfl rfl dg ?_
    rw [hq0, Option.map_some, g_adr ha2]
    exact hk9
theorem g_powers {G : gG} {Y : gY} {d pc : Nat} {al : List (Option Value)} {st : List Value} {S : List (Nat × Nat × Nat)} {T : Nat → Nat → Option Nat} {I : Nat → Nat → Int32} {L : Nat → Nat → Int64} {D : Nat → Nat → UInt64} {kc ks : Nat} {Q : gQ} {ix : Nat} (dg : decode Y.2.1 pc = .ok (.getstatic ix, 3)) (hf : Cond.fieldLink Y.1.cls ix RX2 "POWERS" "[I" ∈ gW ∨ ∃ host, Cond.fieldLinkNest Y.1.cls ix RX2 "POWERS" "[I" host ∈ gW) (k : gGo G Y d (pc + 3) al (.ref 1 :: st) (S, T, I, L, D) kc ks Q) : gGo G Y d pc al st (S, T, I, L, D) kc ks Q := by
  intro p l e R s m args below meth c QS mc ms ad0 C E ad ls sk H locs cells slots ha hL hs hR hV h1 h2
  have e1 := (hR.2.1 1 (by omega)).1
  have hk9 := k p l e R s m args below meth c QS mc ms ad0 C E ad ls _ H locs cells slots ha hL (gSk_in (gV_at e1) hs) hR hV h1 h2
  have hz := C.2.2.2.2.2.1.2.2.2.1.1
  rcases hf with hf | ⟨host, hf⟩
  · exact va_gets C.1 C.2.1 hz hV C.2.2.2.1 (C.2.2.2.2.1 _ hf) (fun x hx => hx) dg hk9
  · exact va_getsN C.1 C.2.1 hz hV C.2.2.2.1 (C.2.2.2.2.1 _ hf) (fun x hx => hx) dg hk9
theorem g_logs {G : gG} {Y : gY} {d pc : Nat} {al : List (Option Value)} {st : List Value} {S : List (Nat × Nat × Nat)} {T : Nat → Nat → Option Nat} {I : Nat → Nat → Int32} {L : Nat → Nat → Int64} {D : Nat → Nat → UInt64} {kc ks : Nat} {Q : gQ} {ix : Nat} (dg : decode Y.2.1 pc = .ok (.getstatic ix, 3)) (hf : Cond.fieldLink Y.1.cls ix RX2 "LOGARITHMS" "[I" ∈ gW ∨ ∃ host, Cond.fieldLinkNest Y.1.cls ix RX2 "LOGARITHMS" "[I" host ∈ gW) (k : gGo G Y d (pc + 3) al (.ref 2 :: st) (S, T, I, L, D) kc ks Q) : gGo G Y d pc al st (S, T, I, L, D) kc ks Q := by
  intro p l e R s m args below meth c QS mc ms ad0 C E ad ls sk H locs cells slots ha hL hs hR hV h1 h2
  have e1 := (hR.2.1 2 (by omega)).1
  have hk9 := k p l e R s m args below meth c QS mc ms ad0 C E ad ls _ H locs cells slots ha hL (gSk_in (gV_at e1) hs) hR hV h1 h2
  have hz := C.2.2.2.2.2.1.2.2.2.1.2
  rcases hf with hf | ⟨host, hf⟩
  · exact va_gets C.1 C.2.1 hz hV C.2.2.2.1 (C.2.2.2.2.1 _ hf) (fun x hx => hx) dg hk9
  · exact va_getsN C.1 C.2.1 hz hV C.2.2.2.1 (C.2.2.2.2.1 _ hf) (fun x hx => hx) dg hk9
end
section
/-! ===== calls ===== -/
def gRm (d mc ms : Nat) : Room := { frames := d + 12, cells := mc, slots := ms, locals := 100 * d + 400 }
theorem gRm_f {d mc ms : Nat} : (gRm d mc ms).frames = d + 12 := rfl
theorem gRm_l {d mc ms : Nat} : (gRm d mc ms).locals = 100 * d + 400 := rfl
set_option maxRecDepth 20000 in
theorem gRt0 {d n x : Nat} (r2 : 100 * (d + 1) + 400 ≤ x) (z5 : n ≤ 80) : 8 + (n + 11) + (100 * d + 400) ≤ x := by
  rw [Nat.mul_add] at r2
  generalize 100 * d = y at r2 ⊢
  omega
theorem gRt {d kc ks n : Nat} {R : Room} (r1 : d + 1 + 12 ≤ R.frames) (r2 : 100 * (d + 1) + 400 ≤ R.locals) (z5 : n ≤ 80) : (gRm d kc ks).frames + 1 ≤ R.frames ∧ 8 + (n + 11) + (gRm d kc ks).locals ≤ R.locals := by
  constructor
  · rw [gRm_f]
    omega
  · rw [gRm_l]
    exact gRt0 r2 z5
def gPrim : Option Value → Prop
  | none => True
  | some (.int _) => True
  | some (.double _) => True
  | _ => False
theorem gPrim_of {Y : gY} {pc : Nat} {v : Option Value} (h : gRet Y pc v) : gPrim v := by
  cases v with
  | none => trivial
  | some w => cases w <;> first | trivial | exact h.elim
theorem gPrim_st {v : Option Value} (h : gPrim v) {ad : List Nat} {st sk : List Value} (hs : st.map (gV ad) = sk.map some) : (v.toList ++ st).map (gV ad) = (v.toList ++ sk).map some := by
  cases v with
  | none => exact hs
  | some w => cases w <;> first | exact gSk_in rfl hs | exact h.elim
def gPc (G : gG) (ad : List Nat) (h : gH) (av : List Value) : Array Value → State → Prop := fun a U => a = av.toArray ∧ gGlob G U U.heap ∧ gRep G ad h U.heap
def gQc (G : gG) (ad : List Nat) (Q : gQ) : Array Value → State → Outcome → State → Prop := fun _ st oc t => ∃ (v : Option Value) (h' : gH) (ad' : List Nat), oc = .returned v ∧ gPrim v ∧ Q (.inl v) h' ∧ ad <+: ad' ∧ gRep G ad' h' t.heap ∧ va_F (fun q => G.2.2.1 ≤ q) st t
def gXc (G : gG) (ad : List Nat) (Q : gQ) : String → State → State → Prop := fun X st t => ∃ (h' : gH) (ad' : List Nat), Q (.inr X) h' ∧ ad <+: ad' ∧ gRep G ad' h' t.heap ∧ va_F (fun q => G.2.2.1 ≤ q) st t
theorem gPc_blind {G : gG} {ad : List Nat} {h : gH} {av : List Value} : FrameBlind (gPc G ad h av) := fun a U g mk q => ⟨q.1, q.2.1.moved (State.WarmedH.refl U) (Nat.le_refl _) (fun _ _ _ => rfl), q.2.2⟩
theorem gRep_kept {G : gG} {ad : List Nat} {h : gH} {H H1 : Heap} (hR : gRep G ad h H) (hk : ∀ q : Nat, q < H.size → H1[q]? = H[q]?) : gRep G ad h H1 :=
  ⟨hR.1, hR.2.1, hR.2.2.1, hR.2.2.2.1.kept (fun k q hq => hk q.1 ((hR.2.2.2.1 k q hq).lt)), hR.2.2.2.2⟩
theorem gArgs_len : ∀ (aw : List Value), (∀ v ∈ aw, v.category = 1) → (lg_sl aw).length = aw.length
  | [], _ => rfl
  | v :: aw, h => by
    have h1 := h v List.mem_cons_self
    have h2 := gArgs_len aw (fun z hz => h z (List.mem_cons_of_mem _ hz))
    unfold lg_sl at h2 ⊢
    rw [List.flatMap_cons, List.length_append, h2]
    simp [h1, Nat.add_comm]
theorem gArgs_at : ∀ (aw : List Value) (k i : Nat) (w : Value), (∀ v ∈ aw, v.category = 1) → aw[i]? = some w → (k + i, w) ∈ lv_args k aw
  | [], _, _, _, _, h => by simp at h
  | v :: aw, k, i, w, hc, h => by
    have h1 := hc v List.mem_cons_self
    unfold lv_args
    rw [if_neg (by rw [h1]; decide)]
    cases i with
    | zero =>
      rw [List.getElem?_cons_zero] at h
      cases h
      exact List.mem_cons_self
    | succ i =>
      rw [List.getElem?_cons_succ] at h
      have := gArgs_at aw (k + 1) i w (fun z hz => hc z (List.mem_cons_of_mem _ hz)) h
      rw [show k + 1 + i = k + (i + 1) by omega] at this
      exact List.mem_cons_of_mem _ this
theorem gSk_at {ad : List Nat} {av aw : List Value} (h : av.map (gV ad) = aw.map some) {i : Nat} {v : Value} (hi : av[i]? = some v) : ∃ w, gV ad v = some w ∧ aw[i]? = some w := by
  have h1 : (av.map (gV ad))[i]? = some (gV ad v) := by rw [List.getElem?_map, hi]; rfl
  rw [h, List.getElem?_map] at h1
  cases hw : aw[i]? with
  | none => rw [hw] at h1; cases h1
  | some w =>
    rw [hw] at h1
    exact ⟨w, (Option.some.inj h1).symm, rfl⟩
theorem gSk_cats {ad : List Nat} {av aw : List Value} (h : av.map (gV ad) = aw.map some) (hc : ∀ v ∈ av, v.category = 1) : ∀ w ∈ aw, w.category = 1 := by
  intro w hw
  obtain ⟨i, hi⟩ := List.getElem?_of_mem hw
  have h1 : (aw.map some)[i]? = some (some w) := by rw [List.getElem?_map, hi]; rfl
  rw [← h, List.getElem?_map] at h1
  cases hv : av[i]? with
  | none => rw [hv] at h1; cases h1
  | some v =>
    rw [hv] at h1
    rw [gV_cat (Option.some.inj h1)]
    exact hc v (List.mem_of_getElem? hv)
theorem gSk_len {ad : List Nat} {av aw : List Value} (h : av.map (gV ad) = aw.map some) : av.length = aw.length := by
  have := congrArg List.length h
  simpa using this
theorem gLoc_in {ad : List Nat} {av aw : List Value} {n : Nat} (h : av.map (gV ad) = aw.map some) (hc : ∀ v ∈ av, v.category = 1) (hn : av.length ≤ n) : gLoc ad (gIn n av) ((lg_sl aw ++ List.replicate (n - (lg_sl aw).length) Slot.unset).toArray) n := by
  have hc' := gSk_cats h hc
  have hl := gSk_len h
  have hv := lv_entry aw (n := n) (by rw [gArgs_len aw hc', ← hl]; exact hn)
  refine ⟨hv.1, hv.2.1, fun i v hi => ?_⟩
  unfold gIn at hi
  have hia : av[i]? = some v := by
    by_cases hlt : i < (av.map some).length
    · rw [List.getElem?_append_left hlt, List.getElem?_map] at hi
      cases ha : av[i]? with
      | none => rw [ha] at hi; cases hi
      | some z => rw [ha] at hi; rw [Option.some.inj (Option.some.inj hi)]
    · rw [List.getElem?_append_right (by omega), List.getElem?_replicate] at hi
      split at hi <;> cases hi
  obtain ⟨w, h1, h2⟩ := gSk_at h hia
  have h3 := gArgs_at aw 0 i w hc' h2
  rw [Nat.zero_add] at h3
  exact ⟨w, h1, hv.2.2 _ h3⟩
/-- the end of a body: it returns or throws, as the contract wants it -/
theorem gEnd_of {G : gG} {Y : gY} {d : Nat} {p : Program} {l : Launch} {e : Env} {R : Room} {s : State} {m : MethodId} {args : Array Value} {below : List Frame} {meth : Method} {c : Code} {mc ms : Nat} {ad0 : List Nat} {Q : gQ} (C : gCtx G Y d p l R s m args meth c mc ms) :
    gEnd G Y p l e R s m args below meth c mc ms ad0 (vx_MQ below (gQc G ad0 Q) (gXc G ad0 Q) args s mc ms (fun q => G.2.2.1 ≤ q)) Q := by
  obtain ⟨c1, c2, c3, c4, c5, c6, c7, c8, c9, c10, c11, ⟨c12, c13⟩, c14, c15⟩ := C
  intro ad h H locs cells slots ls pc hp hR hV hz
  refine ⟨fun v hc hk hq hret => ?_, fun X hc hk hq ht => ?_⟩
  · have hpr := gPrim_of hret
    cases v with
    | none => exact W.widen hc hk (vx_ret (W.vret c1 c2 (by rw [c8]; exact hret.2) (fun t ht hW => ⟨none, h, ad, rfl, hpr, hq, hp, by rw [ht]; exact hR, hV.F ht⟩) hV.2.2 hret.1 c7))
    | some w =>
      cases w with
      | int x =>
        obtain ⟨r1, ty, r2, r3⟩ := hret
        exact W.widen hc hk (vx_ret (W.zret c1 c2 (by rw [c8]; exact r2) r3 (fun t ht hW => ⟨_, h, ad, rfl, hpr, hq, hp, by rw [ht]; exact hR, hV.F ht⟩) hV.2.2 r1 c7))
      | double x => exact W.widen hc hk (vx_ret (W.dret c1 c2 (by rw [c8]; exact hret.2) (fun t ht hW => ⟨_, h, ad, rfl, hpr, hq, hp, by rw [ht]; exact hR, hV.F ht⟩) hV.2.2 hret.1 c7))
      | _ => exact hret.elim
  · obtain ⟨t1, t2, names, ik, is, ic, tx, u1, u2, u3, u4, u5, u6, u7, u8, u9, u10, u11⟩ := ht
    obtain ⟨sa, hsa⟩ := c6.2.2.2.2.2.1 _ u6
    have hown : s.vm.findClass RX2 = some m.cls := by rw [← t1]; exact c4
    have hout : ∀ (pc : Nat), ∀ x ∈ c.exceptionTable.toList, covers x pc = false := fun pc x hx => by
      rw [c11 (fun q9 => by rw [q9] at t1; revert t1; decide), t2] at hx
      cases hx
    have hx : ∀ t : State, s.vm.Alike t.vm → H.size ≤ t.heap.size → (∀ q : Nat, q < H.size → t.heap[q]? = H[q]?) → gXc G ad0 Q X s t := fun t _ hz hk9 =>
      ⟨h, ad, hq, hp, gRep_kept hR hk9, Nat.le_trans hV.1 hz, fun q hq1 hq2 => by rw [hk9 q (Nat.lt_of_lt_of_le hq1 hV.1)]; exact hV.2.1 q hq1 hq2⟩
    rcases u11 with ⟨v1, v2, v3⟩ | ⟨v1, v2, v3⟩
    · exact vx_throwS c1 c2 c9 hown u1 u2 (c5 _ u4) (c5 _ u5) hsa (fun w hw => c5 w (u7 w hw)) u8 c6.2.2.2.2.1.1 c6.2.2.2.2.1.2 hV (hz.trans c3.symm) u9 u10 v1 v2 v3 (hout _) (by omega) (by simp only [List.map_nil, List.sum_nil]; omega) (by omega) (by omega) c7 hx hV.2.2 hc hk
    · exact vx_throwSW c1 c2 c9 hown u1 u2 (c5 _ u4) (c5 _ u5) hsa (fun w hw => c5 w (u7 w hw)) u8 c6.2.2.2.2.1.1 c6.2.2.2.2.1.2 hV (hz.trans c3.symm) u9 u10 v1 v2 v3 (hout _) (by omega) (by simp only [List.map_nil, List.sum_nil]; omega) (by omega) (by omega) c7 hx hV.2.2 hc hk
def gCw (Y : gY) : Cond := .code Y.1 Y.2.1 Y.2.2.1 Y.2.2.2.1
def gCh (Y : gY) : Cond := .codeWith Y.1 Y.2.1 Y.2.2.1 Y.2.2.2.1 Y.2.2.2.2
theorem gTable_nil : tableOf [] = [] := rfl
/-- a contract of the kit, out of a walk -/
theorem gMet {G : gG} {Y : gY} {d : Nat} {l : Launch} {av aw : List Value} {ad : List Nat} {h : gH} {kc ks : Nat} {Q : gQ} (hl : l.stackTraces = false) (hy : plainName Y.1.cls = true) (hh : Y.2.2.2.2 = []) (hE : gEv G Y d av h kc ks Q) (hs : av.map (gV ad) = aw.map some) (hc : ∀ v ∈ av, v.category = 1) (hn : av.length ≤ Y.2.2.1) :
    vx_Met l Y.1 (gCw Y :: gW) (gRm d kc ks) (gPc G ad h aw) (gQc G ad Q) (gXc G ad Q) kc ks (fun q => G.2.2.1 ≤ q) := by
  refine vx_ofW (cc := Y.2.1) (maxL := Y.2.2.1) (ret := Y.2.2.2.1) hy rfl ?_
  intro p e s m args below meth c s₁ B hml ht hv
  obtain ⟨rfl, hG, hR⟩ := hv
  have hts := atoms_spec (ws := gCw Y :: gW) B.pre
  have htab : c.exceptionTable.toList = tableOf Y.2.2.2.2 := by
    rw [hh, gTable_nil]
    exact List.eq_nil_iff_forall_not_mem.mpr ht
  have C : gCtx G Y d p l (headSpec (gCw Y :: gW) (gRm d kc ks)).room s m aw.toArray meth c kc ks :=
    ⟨B.exec, B.bytes, hml, findClass_of_methodNamed B.named, fun w hw => hts w (List.mem_cons_of_mem _ hw), hG, B.notSynchronized, B.returns, hl, fun _ => (name_of_methodNamed B.named B.method).1, fun _ => htab, ⟨Nat.le_refl _, Nat.le_refl _⟩, Nat.le_refl _, Nat.le_refl _⟩
  rw [lg_entry_eq]
  exact hE p l e _ s m aw.toArray below meth c _ kc ks ad C (gEnd_of C) ad _ [] s.heap [] 0 0 (List.prefix_refl _) (gLoc_in hs hc hn) rfl hR va_S.rf (by omega) (by omega)
theorem gMetH {G : gG} {Y : gY} {d : Nat} {l : Launch} {av aw : List Value} {ad : List Nat} {h : gH} {kc ks : Nat} {Q : gQ} (hl : l.stackTraces = false) (hy : plainName Y.1.cls = true) (hE : gEv G Y d av h kc ks Q) (hs : av.map (gV ad) = aw.map some) (hc : ∀ v ∈ av, v.category = 1) (hn : av.length ≤ Y.2.2.1) :
    vx_Met l Y.1 (gCh Y :: gW) (gRm d kc ks) (gPc G ad h aw) (gQc G ad Q) (gXc G ad Q) kc ks (fun q => G.2.2.1 ≤ q) := by
  refine vx_ofWH (cc := Y.2.1) (maxL := Y.2.2.1) (ret := Y.2.2.2.1) (hh := Y.2.2.2.2) hy rfl ?_
  intro p e s m args below meth c s₁ B hml hv
  obtain ⟨rfl, hG, hR⟩ := hv
  have hts := atoms_spec (ws := gCh Y :: gW) B.pre
  have htab : c.exceptionTable.toList = tableOf Y.2.2.2.2 := vx_table (x := Y.1) B (hts _ List.mem_cons_self)
  have C : gCtx G Y d p l (headSpec (gCh Y :: gW) (gRm d kc ks)).room s m aw.toArray meth c kc ks :=
    ⟨B.exec, B.bytes, hml, findClass_of_methodNamed B.named, fun w hw => hts w (List.mem_cons_of_mem _ hw), hG, B.notSynchronized, B.returns, hl, fun _ => (name_of_methodNamed B.named B.method).1, fun _ => htab, ⟨Nat.le_refl _, Nat.le_refl _⟩, Nat.le_refl _, Nat.le_refl _⟩
  rw [lg_entry_eq]
  exact hE p l e _ s m aw.toArray below meth c _ kc ks ad C (gEnd_of C) ad _ [] s.heap [] 0 0 (List.prefix_refl _) (gLoc_in hs hc hn) rfl hR va_S.rf (by omega) (by omega)
/-- a method of the tables -/
def gMt (Z : gY) : Prop := gCw Z ∈ gW ∧ Cond.initialized Z.1.cls ∈ gW ∧ plainName Z.1.cls = true ∧ (Z.1.cls ≠ "java/lang/invoke/MethodHandle" ∧ Z.1.cls ≠ "java/lang/invoke/VarHandle") ∧ Z.2.2.1 ≤ 80 ∧ Z.2.2.2.2 = []
def gMh (Z : gY) : Prop := gCh Z ∈ gW ∧ Cond.initialized Z.1.cls ∈ gW ∧ plainName Z.1.cls = true ∧ (Z.1.cls ≠ "java/lang/invoke/MethodHandle" ∧ Z.1.cls ≠ "java/lang/invoke/VarHandle") ∧ Z.2.2.1 ≤ 80
def gLk (own : String) (ix : Nat) (y : MethodName) : Prop := Cond.methodLink own ix y ∈ gW ∨ ∃ host, Cond.methodLinkNest own ix y host ∈ gW
def gNp (y : MethodName) : Option Nat := (parseMethodDescriptor y.desc).map (fun d => d.parameters.length)
theorem gNp_len {y : MethodName} {n : Nat} (h : gNp y = some n) : ∀ sig, parseMethodDescriptor y.desc = some sig → n = sig.parameters.length := fun sig hs => by
  unfold gNp at h
  rw [hs] at h
  exact (Option.some.inj h).symm
theorem gPays {s : State} {args : Array Value} (h : ∀ w ∈ gW, w.before args s = true) {w0 : Cond} (h0 : w0 ∈ gW) : ∀ w ∈ w0 :: gW, ∀ (a' : Array Value) (U : State), s.WarmedH U.vm → w.before a' U = true := fun w hw a' U hW => by
  have hm : w ∈ gW := (List.mem_cons.mp hw).elim (fun e => by rw [e]; exact h0) id
  exact gMv_use (gW_good hm) hW (h w hm)
/-- the locals behind a handler's store of what was caught -/
def gKl (al : List (Option Value)) (i : Nat) : List (Option Value) := (al.map gDw).set i none
theorem gLoc_kl {ad : List Nat} {al : List (Option Value)} {ls' : Array Slot} {n i a : Nat} (h : lv_has ls' n ((i, Value.ref a) :: (gLv ad al).filter (fun q => !(q.1 == i) && !(q.1 + 1 == i && q.2.category == 2)))) (h2 : ∀ (j : Nat) (u : Value), al[j]? = some (some u) → ∃ z, gV ad u = some z) : gLoc ad (gKl al i) ls' n := by
  refine ⟨h.1, h.2.1, fun j u hu => ?_⟩
  unfold gKl at hu
  by_cases hj : j = i
  · subst hj
    have hl : j < (al.map gDw).length := by
      have := (List.getElem?_eq_some_iff.mp hu).1
      rw [List.length_set] at this
      exact this
    rw [List.getElem?_set_self hl] at hu
    cases Option.some.inj hu
  · have hu' : (gSto al i (.int 0))[j]? = some (some u) := by
      unfold gSto
      rw [List.getElem?_set_ne (Ne.symm hj)] at hu ⊢
      exact hu
    rcases gSto_get hu' with ⟨q, -⟩ | ⟨-, ha, hc⟩
    · exact absurd q hj
    · obtain ⟨z, hz⟩ := h2 j u ha
      refine ⟨z, hz, h.2.2 (j, z) (List.mem_cons_of_mem _ (List.mem_filter.mpr ⟨gLv_mem ha hz, ?_⟩))⟩
      have h9 : z.category = 1 := (gV_cat hz).trans hc
      simp [hj, h9]
/-- what is thrown at pc, an X, is caught at hp -/
def gHd (Y : gY) (pc : Nat) (X : String) (hp : Nat) : Prop := Y.1 ≠ gLaw ∧ ∃ (pre : List ExceptionTableEntry) (x : ExceptionTableEntry) (suf : List ExceptionTableEntry) (nm : String), tableOf Y.2.2.2.2 = pre ++ x :: suf ∧
  (∀ z ∈ pre, covers z pc = false ∨ (z.catchType ≠ 0 ∧ ∃ nm : String, Cond.classLink Y.1.cls z.catchType nm ∈ gW ∧ (X, nm) ∈ gNc)) ∧ covers x pc = true ∧ x.catchType ≠ 0 ∧ Cond.classLink Y.1.cls x.catchType nm ∈ gW ∧ Cond.castable X nm ∈ gW ∧ x.handlerPc = hp
/-- .. and stored in the local i, then it goes on at nx -/
def gHs (Y : gY) (hp i nx : Nat) : Prop := i < Y.2.2.1 ∧ ((decode Y.2.1 hp = .ok (.astore i, 2) ∧ nx = hp + 2) ∨ ∃ k0 : Fin 4, decode Y.2.1 hp = .ok (.astore_n k0, 1) ∧ (k0 : Nat) = i ∧ nx = hp + 1)
/-- what follows a call -/
theorem g_fin {G : gG} {Y : gY} {d pc : Nat} {al : List (Option Value)} {st : List Value} {kc ks kc1 ks1 : Nat} {Q Q1 : gQ} {p : Program} {l : Launch} {e : Env} {R : Room} {s : State} {m : MethodId} {args a : Array Value} {below : List Frame} {meth : Method} {c : Code} {QS : State → Prop} {mc ms : Nat} {ad0 ad : List Nat} {ls : Array Slot} {sk0 sk : List Value} {H : Heap} {locs : List Loc} {cells slots : Nat}
    (C : gCtx G Y d p l R s m args meth c mc ms) (E : gEnd G Y p l e R s m args below meth c mc ms ad0 QS Q) (ha : ad0 <+: ad) (hL : gLoc ad al ls Y.2.2.1) (hs : st.map (gV ad) = sk.map some) (hV : va_S (fun q => G.2.2.1 ≤ q) s.heap H locs) (h1 : cells + kc ≤ mc) (h2 : slots + ks ≤ ms) (hb : kc1 ≤ kc ∧ ks1 ≤ ks)
    (hr : vx_Run p l e R s m args below meth c H locs cells slots kc1 ks1 (F0 m pc ls sk0) sk (gQc G ad Q1 a) (gXc G ad Q1) (fun q => G.2.2.1 ≤ q))
    (kk : ∀ v h', gPrim v → Q1 (.inl v) h' → gGo G Y d (pc + 3) al (v.toList ++ st) h' (kc - kc1) (ks - ks1) Q)
    (kx : ∀ X h', Q1 (.inr X) h' → ∃ hp i nx, gHd Y pc X hp ∧ gHs Y hp i nx ∧ gGo G Y d nx (gKl al i) [] h' (kc - kc1) (ks - ks1) Q) :
    W p l e R s m args below meth c H locs cells slots QS (F0 m pc ls sk0) := by
  intro T hT X
  rcases hr T hT X with ⟨v, st₀, t, T', L', h0, X', hLq, e1, e2, ⟨v', h', ad', hv, hp, hq, hpre, hR', hF⟩, stp⟩ | ⟨q, st₀, t, T', L', E1, ce, h0, X', hLq, e1, e2, ⟨h', ad', hq, hpre, hR', hF⟩, hce, hcv, hcl, stp⟩
  · cases Outcome.returned.inj hv
    obtain ⟨k1, k2, k3⟩ := vx_keep h0 e1 hV (fun q _ h => h) (fun q h => h) hLq hF
    obtain ⟨t2, a1, b1⟩ := kk v h' hp hq p l e R s m args below meth c QS mc ms ad0 C E ad' ls (v.toList ++ sk) T'.heap (locs ++ L') (cells + kc1) (slots + ks1) (ha.trans hpre) (gLoc_up hpre hL) (gPrim_st hp (gSk_up hpre hs)) (by rw [e1]; exact hR') k3 (by omega) (by omega) T' rfl X'
    exact ⟨t2, stp t2 a1, b1⟩
  · obtain ⟨k1, k2, k3⟩ := vx_keep h0 e1 hV (fun q _ h => h) (fun q h => h) hLq hF
    obtain ⟨hp, i, nx, ⟨g0, pre, x, suf, nm, g1, g2, g3, g4, g5, g6, g7⟩, ⟨hi, hst⟩, hgo⟩ := kx E1 h' hq
    have hal := X'.warmed.alike
    have hgo' : ∀ ls' : Array Slot, gLoc ad' (gKl al i) ls' Y.2.2.1 → W p l e R s m args below meth c T'.heap (locs ++ L') (cells + kc1) (slots + ks1) QS (F0 m nx ls' []) := fun ls' hl' =>
      hgo p l e R s m args below meth c QS mc ms ad0 C E ad' ls' [] T'.heap (locs ++ L') (cells + kc1) (slots + ks1) (ha.trans hpre) hl' rfl (by rw [e1]; exact hR') k3 (by omega) (by omega)
    have hL' := gLoc_up hpre hL
    have hW : W p l e R s m args below meth c T'.heap (locs ++ L') (cells + kc1) (slots + ks1) QS (F0 m x.handlerPc ls [.ref q]) := by
      rw [g7]
      rcases hst with ⟨d1, d2⟩ | ⟨k0, d1, d2, d3⟩
      · exact lv_astore C.1 C.2.1 d1 (gLoc_has hL') hi rfl (fun ls' hl' => by rw [← d2]; exact hgo' ls' (gLoc_kl hl' (gLoc_val hL')))
      · exact lv_astore_n C.1 C.2.1 d1 d2 (gLoc_has hL') hi rfl (fun ls' hl' => by rw [← d3]; exact hgo' ls' (gLoc_kl hl' (gLoc_val hL')))
    obtain ⟨t2, a1, b1⟩ := vx_catch (rest := sk) (pc := pc) C.2.2.2.1 pre x suf ((C.2.2.2.2.2.2.2.2.2.2.1 g0).trans g1) (fun z hz => (g2 z hz).imp id (fun ⟨w1, nm2, w2, w3⟩ => ⟨w1, nm2, C.2.2.2.2.1 _ w2, C.2.2.2.2.2.1.2.2.2.2.2.2.1 _ w3⟩)) g3 g4 (C.2.2.2.2.1 _ g5) (C.2.2.2.2.1 _ g6) (by rw [e1]; exact hce) hcv hcl hW T' rfl X'
    exact ⟨t2, stp.trans a1, b1⟩

theorem gSk_app {ad : List Nat} : ∀ {a b sk : List Value}, (a ++ b).map (gV ad) = sk.map some → ∃ s1 s2, sk = s1 ++ s2 ∧ a.map (gV ad) = s1.map some ∧ b.map (gV ad) = s2.map some
  | [], b, sk, h => ⟨[], sk, rfl, rfl, h⟩
  | v :: a, b, sk, h => by
    obtain ⟨w, sk', h1, rfl, h3⟩ := gSk_cons (st := a ++ b) h
    obtain ⟨s1, s2, rfl, h4, h5⟩ := gSk_app h3
    exact ⟨w :: s1, s2, rfl, gSk_in h1 h4, h5⟩
theorem gSk_rev {ad : List Nat} {av s1 : List Value} (h : av.reverse.map (gV ad) = s1.map some) : av.map (gV ad) = s1.reverse.map some := by
  have := congrArg List.reverse h
  rw [← List.map_reverse, ← List.map_reverse, List.reverse_reverse] at this
  exact this
theorem g_callS {G : gG} {Y Z : gY} {d pc ix : Nat} {al : List (Option Value)} {av st st0 : List Value} {h : gH} {kc ks kc1 ks1 : Nat} {Q Q1 : gQ} (dg : decode Y.2.1 pc = .ok (.invokestatic ix, 3)) (hZ : gMt Z) (hl : gLk Y.1.cls ix Z.1) (hstc : Cond.static Z.1 ∈ gW) (hst0 : st0 = av.reverse ++ st) (hn : gNp Z.1 = some av.length) (hcat : ∀ v ∈ av, v.category = 1) (hnl : av.length ≤ Z.2.2.1) (hrest : (st.map fun v => v.category).sum ≤ 8) (hb : kc1 ≤ kc ∧ ks1 ≤ ks) (he : gEv G Z d av h kc1 ks1 Q1)
    (kk : ∀ v h', gPrim v → Q1 (.inl v) h' → gGo G Y (d + 1) (pc + 3) al (v.toList ++ st) h' (kc - kc1) (ks - ks1) Q)
    (kx : ∀ X h', Q1 (.inr X) h' → ∃ hp i nx, gHd Y pc X hp ∧ gHs Y hp i nx ∧ gGo G Y (d + 1) nx (gKl al i) [] h' (kc - kc1) (ks - ks1) Q) : gGo G Y (d + 1) pc al st0 h kc ks Q := by
  subst hst0
  intro p l e R s m args below meth c QS mc ms ad0 C E ad ls sk H locs cells slots ha hL hs hR hV h1 h2
  obtain ⟨s1, s2, rfl, hs1, hs2⟩ := gSk_app hs
  have hsa := gSk_rev hs1
  obtain ⟨z1, z2, z3, z4, z5, z6⟩ := hZ
  obtain ⟨r1, r2⟩ := C.2.2.2.2.2.2.2.2.2.2.2.1
  have hM := gMet (ad := ad) (aw := s1.reverse) C.2.2.2.2.2.2.2.2.1 z3 z6 he hsa hcat hnl
  have hp : PreS s H (gPc G ad h s1.reverse) s1.reverse := ⟨gPc_blind, fun U hU hW => ⟨rfl, by rw [hU]; exact C.2.2.2.2.2.1.moved hW hV.1 hV.2.1, by rw [hU]; exact hR⟩⟩
  have hlen : ∀ sig, parseMethodDescriptor Z.1.desc = some sig → s1.reverse.length = sig.parameters.length := fun sig hsig => by rw [← gSk_len hsa]; exact gNp_len hn sig hsig
  have hW8 : 2 * (F0 m pc ls (s1 ++ s2)).monitorRoom + (s2.map fun v => v.category).sum ≤ 8 := lv_room (by rw [gSk_cat hs2]; exact hrest)
  have hrt : (gRm d kc1 ks1).frames + 1 ≤ R.frames ∧ 8 + (Z.2.2.1 + 11) + (gRm d kc1 ks1).locals ≤ R.locals := gRt r1 r2 z5
  obtain ⟨hmc, hms⟩ := C.2.2.2.2.2.2.2.2.2.2.2.2
  have hcw : gCw Z ∈ gCw Z :: gW := List.mem_cons_self
  refine g_fin (a := s1.reverse.toArray) C E ha hL hs2 hV h1 h2 hb ?_ kk kx
  rcases hl with hl | ⟨host, hl⟩
  · exact vx_runS (ret := Z.2.2.2.1) (bytes := Z.2.1) (maxL := Z.2.2.1) (n := s1.reverse.length) ⟨C.1, C.2.1, C.2.2.1, C.2.2.2.1, C.2.2.2.2.1⟩ hM ⟨⟨rfl, rfl, hrt.1, hrt.2, gPays C.2.2.2.2.1 z1, hcw, C.2.2.2.2.1 _ z1, C.2.2.2.2.1 _ z2, z4, hlen, C.2.2.2.2.1 _ hl⟩, C.2.2.2.2.1 _ hstc⟩ hp rfl rfl hL.1 (by rw [List.reverse_reverse]) hW8 dg ⟨by omega, by omega⟩
  · exact vx_runSN (ret := Z.2.2.2.1) (bytes := Z.2.1) (maxL := Z.2.2.1) (host := host) (n := s1.reverse.length) ⟨C.1, C.2.1, C.2.2.1, C.2.2.2.1, C.2.2.2.2.1⟩ hM ⟨⟨⟨rfl, rfl, hrt.1, hrt.2, gPays C.2.2.2.2.1 z1, hcw⟩, C.2.2.2.2.1 _ z1, C.2.2.2.2.1 _ z2, z4, hlen, C.2.2.2.2.1 _ hl⟩, C.2.2.2.2.1 _ hstc, trivial⟩ hp rfl rfl hL.1 (by rw [List.reverse_reverse]) hW8 dg ⟨by omega, by omega⟩
theorem g_callH {G : gG} {Y Z : gY} {d pc ix : Nat} {al : List (Option Value)} {av st st0 : List Value} {h : gH} {kc ks kc1 ks1 : Nat} {Q Q1 : gQ} (dg : decode Y.2.1 pc = .ok (.invokestatic ix, 3)) (hZ : gMh Z) (hl : Cond.methodLink Y.1.cls ix Z.1 ∈ gW) (hstc : Cond.static Z.1 ∈ gW) (hst0 : st0 = av.reverse ++ st) (hn : gNp Z.1 = some av.length) (hcat : ∀ v ∈ av, v.category = 1) (hnl : av.length ≤ Z.2.2.1) (hrest : (st.map fun v => v.category).sum ≤ 8) (hb : kc1 ≤ kc ∧ ks1 ≤ ks) (he : gEv G Z d av h kc1 ks1 Q1)
    (kk : ∀ v h', gPrim v → Q1 (.inl v) h' → gGo G Y (d + 1) (pc + 3) al (v.toList ++ st) h' (kc - kc1) (ks - ks1) Q)
    (kx : ∀ X h', Q1 (.inr X) h' → ∃ hp i nx, gHd Y pc X hp ∧ gHs Y hp i nx ∧ gGo G Y (d + 1) nx (gKl al i) [] h' (kc - kc1) (ks - ks1) Q) : gGo G Y (d + 1) pc al st0 h kc ks Q := by
  subst hst0
  intro p l e R s m args below meth c QS mc ms ad0 C E ad ls sk H locs cells slots ha hL hs hR hV h1 h2
  obtain ⟨s1, s2, rfl, hs1, hs2⟩ := gSk_app hs
  have hsa := gSk_rev hs1
  obtain ⟨z1, z2, z3, z4, z5⟩ := hZ
  obtain ⟨r1, r2⟩ := C.2.2.2.2.2.2.2.2.2.2.2.1
  have hM := gMetH (ad := ad) (aw := s1.reverse) C.2.2.2.2.2.2.2.2.1 z3 he hsa hcat hnl
  have hp : PreS s H (gPc G ad h s1.reverse) s1.reverse := ⟨gPc_blind, fun U hU hW => ⟨rfl, by rw [hU]; exact C.2.2.2.2.2.1.moved hW hV.1 hV.2.1, by rw [hU]; exact hR⟩⟩
  have hlen : ∀ sig, parseMethodDescriptor Z.1.desc = some sig → s1.reverse.length = sig.parameters.length := fun sig hsig => by rw [← gSk_len hsa]; exact gNp_len hn sig hsig
  have hW8 : 2 * (F0 m pc ls (s1 ++ s2)).monitorRoom + (s2.map fun v => v.category).sum ≤ 8 := lv_room (by rw [gSk_cat hs2]; exact hrest)
  have hrt : (gRm d kc1 ks1).frames + 1 ≤ R.frames ∧ 8 + (Z.2.2.1 + 11) + (gRm d kc1 ks1).locals ≤ R.locals := gRt r1 r2 z5
  obtain ⟨hmc, hms⟩ := C.2.2.2.2.2.2.2.2.2.2.2.2
  refine g_fin (a := s1.reverse.toArray) C E ha hL hs2 hV h1 h2 hb ?_ kk kx
  exact vx_runSX (hh := Z.2.2.2.2) (ret := Z.2.2.2.1) (bytes := Z.2.1) (maxL := Z.2.2.1) (n := s1.reverse.length) ⟨C.1, C.2.1, C.2.2.1, C.2.2.2.1, C.2.2.2.2.1⟩ hM ⟨⟨rfl, rfl, hrt.1, hrt.2, gPays C.2.2.2.2.1 z1, List.mem_cons_self⟩, C.2.2.2.2.1 _ z1, C.2.2.2.2.1 _ z2, z4, hlen, C.2.2.2.2.1 _ hl, C.2.2.2.2.1 _ hstc⟩ hp rfl rfl hL.1 (by rw [List.reverse_reverse]) hW8 dg ⟨by omega, by omega⟩
theorem g_callV {G : gG} {Y Z : gY} {d pc ix : Nat} {al : List (Option Value)} {av st st0 : List Value} {h : gH} {kc ks kc1 ks1 : Nat} {Q Q1 : gQ} {r ci n0 : Nat} (dg : decode Y.2.1 pc = .ok (.invokevirtual ix, 3)) (hZ : gMt Z) (hl : gLk Y.1.cls ix Z.1) (hin : Cond.instanceMethod Z.1 ∈ gW) (hsel : Cond.selects (gRx ci) Z.1 Z.1 ∈ gW) (hci : ci < 4) (hS : h.1[r]? = some (1, ci, n0)) (h3 : 3 ≤ r) (hst0 : st0 = av.reverse ++ .ref r :: st) (hn : gNp Z.1 = some av.length) (hcat : ∀ v ∈ av, v.category = 1) (hnl : av.length + 1 ≤ Z.2.2.1) (hrest : (st.map fun v => v.category).sum ≤ 8) (hb : kc1 ≤ kc ∧ ks1 ≤ ks) (he : gEv G Z d (.ref r :: av) h kc1 ks1 Q1)
    (kk : ∀ v h', gPrim v → Q1 (.inl v) h' → gGo G Y (d + 1) (pc + 3) al (v.toList ++ st) h' (kc - kc1) (ks - ks1) Q)
    (kx : ∀ X h', Q1 (.inr X) h' → ∃ hp i nx, gHd Y pc X hp ∧ gHs Y hp i nx ∧ gGo G Y (d + 1) nx (gKl al i) [] h' (kc - kc1) (ks - ks1) Q) : gGo G Y (d + 1) pc al st0 h kc ks Q := by
  subst hst0
  intro p l e R s m args below meth c QS mc ms ad0 C E ad ls sk H locs cells slots ha hL hs hR hV h1 h2
  obtain ⟨s1, s2, rfl, hs1, hs2⟩ := gSk_app hs
  obtain ⟨a, s3, hq, rfl, hs3⟩ := gSk_ref hs2
  have hsa := gSk_rev hs1
  obtain ⟨z1, z2, z3, z4, z5, z6⟩ := hZ
  obtain ⟨r1, r2⟩ := C.2.2.2.2.2.2.2.2.2.2.2.1
  have hM := gMet (ad := ad) (aw := .ref a :: s1.reverse) C.2.2.2.2.2.2.2.2.1 z3 z6 he (gSk_in (gV_at hq) hsa) (fun v hv => (List.mem_cons.mp hv).elim (fun e9 => by rw [e9]; rfl) (hcat v)) (by simpa using hnl)
  have hlt : r < h.1.length := (List.getElem?_eq_some_iff.mp hS).1
  have hew := gWs_at (ca := G.2.1) (ad := ad) (h := h) h3 hlt
  rw [g_adr hq, gCe_obj hS] at hew
  have hp : PreV s H (gRx ci) a (gPc G ad h (.ref a :: s1.reverse)) s1.reverse := ⟨gPc_blind, va_recv C.2.2.2.2.2.1.2.1 hR.2.2.2.1 (gK_at hci) hew, fun U hU hW => ⟨rfl, by rw [hU]; exact C.2.2.2.2.2.1.moved hW hV.1 hV.2.1, by rw [hU]; exact hR⟩⟩
  have hlen : ∀ sig, parseMethodDescriptor Z.1.desc = some sig → s1.reverse.length = sig.parameters.length := fun sig hsig => by rw [← gSk_len hsa]; exact gNp_len hn sig hsig
  have hW8 : 2 * (F0 m pc ls (s1 ++ .ref a :: s3)).monitorRoom + (s3.map fun v => v.category).sum ≤ 8 := lv_room (by rw [gSk_cat hs3]; exact hrest)
  have hrt : (gRm d kc1 ks1).frames + 1 ≤ R.frames ∧ 8 + (Z.2.2.1 + 11) + (gRm d kc1 ks1).locals ≤ R.locals := gRt r1 r2 z5
  obtain ⟨hmc, hms⟩ := C.2.2.2.2.2.2.2.2.2.2.2.2
  have hcw : gCw Z ∈ gCw Z :: gW := List.mem_cons_self
  refine g_fin (a := (Value.ref a :: s1.reverse).toArray) C E ha hL hs3 hV h1 h2 hb ?_ kk kx
  rcases hl with hl | ⟨host, hl⟩
  · exact vx_runV (ret := Z.2.2.2.1) (bytes := Z.2.1) (maxL := Z.2.2.1) (n := s1.reverse.length) ⟨C.1, C.2.1, C.2.2.1, C.2.2.2.1, C.2.2.2.2.1⟩ hM ⟨⟨rfl, rfl, hrt.1, hrt.2, gPays C.2.2.2.2.1 z1, hcw, C.2.2.2.2.1 _ z1, C.2.2.2.2.1 _ z2, z4, hlen, C.2.2.2.2.1 _ hl⟩, C.2.2.2.2.1 _ hin, C.2.2.2.2.1 _ hsel⟩ hp rfl rfl hL.1 (by rw [List.reverse_reverse]) hW8 dg ⟨by omega, by omega⟩
  · exact vx_runVN (ret := Z.2.2.2.1) (bytes := Z.2.1) (maxL := Z.2.2.1) (host := host) (n := s1.reverse.length) ⟨C.1, C.2.1, C.2.2.1, C.2.2.2.1, C.2.2.2.2.1⟩ hM ⟨⟨⟨rfl, rfl, hrt.1, hrt.2, gPays C.2.2.2.2.1 z1, hcw⟩, C.2.2.2.2.1 _ z1, C.2.2.2.2.1 _ z2, z4, hlen, C.2.2.2.2.1 _ hl⟩, C.2.2.2.2.1 _ hin, C.2.2.2.2.1 _ hsel⟩ hp rfl rfl hL.1 (by rw [List.reverse_reverse]) hW8 dg ⟨by omega, by omega⟩
theorem g_callI {G : gG} {Y Z : gY} {d pc ix : Nat} {al : List (Option Value)} {av st st0 : List Value} {h : gH} {kc ks kc1 ks1 : Nat} {Q Q1 : gQ} {r : Nat} (dg : decode Y.2.1 pc = .ok (.invokespecial ix, 3)) (hZ : gMt Z) (hl : gLk Y.1.cls ix Z.1) (hin : Cond.instanceMethod Z.1 ∈ gW) (hnm : Z.1.name = "<init>") (hrt0 : Z.2.2.2.1 = none) (hst0 : st0 = av.reverse ++ .ref r :: st) (hn : gNp Z.1 = some av.length) (hcat : ∀ v ∈ av, v.category = 1) (hnl : av.length + 1 ≤ Z.2.2.1) (hrest : (st.map fun v => v.category).sum ≤ 8) (hb : kc1 ≤ kc ∧ ks1 ≤ ks) (he : gEv G Z d (.ref r :: av) h kc1 ks1 Q1)
    (kk : ∀ v h', gPrim v → Q1 (.inl v) h' → gGo G Y (d + 1) (pc + 3) al (v.toList ++ st) h' (kc - kc1) (ks - ks1) Q)
    (kx : ∀ X h', Q1 (.inr X) h' → ∃ hp i nx, gHd Y pc X hp ∧ gHs Y hp i nx ∧ gGo G Y (d + 1) nx (gKl al i) [] h' (kc - kc1) (ks - ks1) Q) : gGo G Y (d + 1) pc al st0 h kc ks Q := by
  subst hst0
  intro p l e R s m args below meth c QS mc ms ad0 C E ad ls sk H locs cells slots ha hL hs hR hV h1 h2
  obtain ⟨s1, s2, rfl, hs1, hs2⟩ := gSk_app hs
  obtain ⟨a, s3, hq, rfl, hs3⟩ := gSk_ref hs2
  have hsa := gSk_rev hs1
  obtain ⟨z1, z2, z3, z4, z5, z6⟩ := hZ
  obtain ⟨r1, r2⟩ := C.2.2.2.2.2.2.2.2.2.2.2.1
  have hM := gMet (ad := ad) (aw := .ref a :: s1.reverse) C.2.2.2.2.2.2.2.2.1 z3 z6 he (gSk_in (gV_at hq) hsa) (fun v hv => (List.mem_cons.mp hv).elim (fun e9 => by rw [e9]; rfl) (hcat v)) (by simpa using hnl)
  have hp : PreS s H (gPc G ad h (.ref a :: s1.reverse)) (.ref a :: s1.reverse) := ⟨gPc_blind, fun U hU hW => ⟨rfl, by rw [hU]; exact C.2.2.2.2.2.1.moved hW hV.1 hV.2.1, by rw [hU]; exact hR⟩⟩
  have hlen : ∀ sig, parseMethodDescriptor Z.1.desc = some sig → s1.reverse.length = sig.parameters.length := fun sig hsig => by rw [← gSk_len hsa]; exact gNp_len hn sig hsig
  have hW8 : 2 * (F0 m pc ls (s1 ++ .ref a :: s3)).monitorRoom + (s3.map fun v => v.category).sum ≤ 8 := lv_room (by rw [gSk_cat hs3]; exact hrest)
  have hrt : (gRm d kc1 ks1).frames + 1 ≤ R.frames ∧ 8 + (Z.2.2.1 + 11) + (gRm d kc1 ks1).locals ≤ R.locals := gRt r1 r2 z5
  obtain ⟨hmc, hms⟩ := C.2.2.2.2.2.2.2.2.2.2.2.2
  unfold gCw at z1 hM
  rw [hrt0] at z1 hM
  refine g_fin (a := (Value.ref a :: s1.reverse).toArray) C E ha hL hs3 hV h1 h2 hb ?_ kk kx
  rcases hl with hl | ⟨host, hl⟩
  · exact vx_runI (bytes := Z.2.1) (maxL := Z.2.2.1) (n := s1.reverse.length) ⟨C.1, C.2.1, C.2.2.1, C.2.2.2.1, C.2.2.2.2.1⟩ hM ⟨⟨rfl, rfl, hrt.1, hrt.2, gPays C.2.2.2.2.1 z1, List.mem_cons_self, C.2.2.2.2.1 _ z1, C.2.2.2.2.1 _ z2, z4, hlen, C.2.2.2.2.1 _ hl⟩, hnm, C.2.2.2.2.1 _ hin⟩ hp rfl rfl hL.1 (by rw [List.reverse_reverse]) hW8 dg ⟨by omega, by omega⟩
  · exact vx_runIN (bytes := Z.2.1) (maxL := Z.2.2.1) (host := host) (n := s1.reverse.length) ⟨C.1, C.2.1, C.2.2.1, C.2.2.2.1, C.2.2.2.2.1⟩ hM ⟨⟨⟨rfl, rfl, hrt.1, hrt.2, gPays C.2.2.2.2.1 z1, List.mem_cons_self⟩, C.2.2.2.2.1 _ z1, C.2.2.2.2.1 _ z2, z4, hlen, C.2.2.2.2.1 _ hl⟩, hnm, C.2.2.2.2.1 _ hin⟩ hp rfl rfl hL.1 (by rw [List.reverse_reverse]) hW8 dg ⟨by omega, by omega⟩
end
section
/-! ===== cells that are made; references that are put; rows that are copied ===== -/
theorem gAcl0 : Cond.arrayClass (newarray.typeOf .int) ∈ gW := by decide +kernel
theorem gAcl1 : Cond.arrayClass (newarray.typeOf .char) ∈ gW := by decide +kernel
theorem gAcl2 : Cond.arrayClass (newarray.typeOf .long) ∈ gW := by decide +kernel
theorem gAcl3 : Cond.arrayClass (newarray.typeOf .double) ∈ gW := by decide +kernel
theorem gObj1 : Cond.instanceMethod Lib.objectInit ∈ gW := by decide +kernel
theorem gObj2 : Cond.code Lib.objectInit ⟨#[0xb1]⟩ 1 none ∈ gW := by decide +kernel
theorem gCpy1 : Cond.native arraycopyName ∈ gW := by decide +kernel
theorem gCpy2 : Cond.static arraycopyName ∈ gW := by decide +kernel
theorem gCpy3 : Cond.initialized "java/lang/System" ∈ gW := by decide +kernel
def gNw {α : Type} (f : Nat → Nat → α) (k : Nat) (x : α) : Nat → Nat → α := fun a b => if a = k then x else f a b
theorem gNw_ne {α : Type} {f : Nat → Nat → α} {k j : Nat} {x : α} (h : j ≠ k) : gNw f k x j = f j := by
  funext b
  simp [gNw, h]
theorem gNw_at {α : Type} {f : Nat → Nat → α} {k : Nat} {x : α} : gNw f k x k = fun _ => x := by
  funext b
  simp [gNw]
/-- a heap with one more cell -/
def gNew (h : gH) (s : Nat × Nat × Nat) : gH := (h.1 ++ [s], gNw h.2.1 h.1.length none, gNw h.2.2.1 h.1.length 0, gNw h.2.2.2.1 h.1.length 0, gNw h.2.2.2.2 h.1.length 0)
theorem gCe_new {ca : Nat → ClassId} {ad : List Nat} {h : gH} {s : Nat × Nat × Nat} {q k : Nat} (hk : k < h.1.length) (ha : ad.length = h.1.length) (hv : ∀ k j r, h.2.1 k j = some r → r < ad.length) : gCe ca (ad ++ [q]) (gNew h s) k = gCe ca ad h k := by
  have hne : k ≠ h.1.length := by omega
  have hr : ∀ j, ((h.2.1 k j).map (fun r => (ad ++ [q]).getD r 0)) = (h.2.1 k j).map (fun r => ad.getD r 0) := fun j => by
    cases hj : h.2.1 k j with
    | none => rfl
    | some r =>
      have := hv k j r hj
      simp only [Option.map_some, List.getD_eq_getElem?_getD, List.getElem?_append_left this]
  have a1 : ∀ ci, gFc (ad ++ [q]) (gNew h s) k ci = gFc ad h k ci := fun ci => by
    funext j
    simp only [gFc, gNew, gNw_ne hne, hr]
  have a2 : ∀ t n, gAr (ad ++ [q]) (gNew h s) k t n = gAr ad h k t n := fun t n => by
    simp only [gAr, gNew, gNw_ne hne, hr]
  simp only [gCe, a1, a2]
  have e1 : (gNew h s).1[k]? = h.1[k]? := List.getElem?_append_left hk
  rw [e1]
theorem gWs_new {ca : Nat → ClassId} {ad : List Nat} {h : gH} {s : Nat × Nat × Nat} {q : Nat} (ha : ad.length = h.1.length) (h3 : 3 ≤ ad.length) (hv : ∀ k j r, h.2.1 k j = some r → r < ad.length) : gWs ca (ad ++ [q]) (gNew h s) = gWs ca ad h ++ [(q, gCe ca (ad ++ [q]) (gNew h s) h.1.length)] := by
  unfold gWs
  have e1 : (gNew h s).1.length - 3 = (h.1.length - 3) + 1 := by
    show (h.1 ++ [s]).length - 3 = _
    rw [List.length_append, List.length_singleton]
    omega
  rw [e1, List.range_succ, List.map_append, List.map_singleton]
  have e2 : h.1.length - 3 + 3 = h.1.length := by omega
  congr 1
  · apply List.map_congr_left
    intro i hi
    have hi := List.mem_range.mp hi
    rw [gCe_new (by omega) ha hv]
    simp only [List.getD_eq_getElem?_getD]
    rw [List.getElem?_append_left (by omega)]
  · rw [e2]
    simp only [List.getD_eq_getElem?_getD]
    rw [List.getElem?_append_right (by omega), ← ha]
    simp
theorem gRep_new {G : gG} {ad : List Nat} {h : gH} {s : Nat × Nat × Nat} {q : Nat} {H H1 : Heap} {e : va_E} (hR : gRep G ad h H) (he : gCe G.2.1 (ad ++ [q]) (gNew h s) h.1.length = e) (hP : va_P G.1 gK (gWs G.2.1 ad h ++ [(q, e)]) H1) (hD : va_D (fun q => G.2.2.1 ≤ q) (gWs G.2.1 ad h ++ [(q, e)])) : gRep G (ad ++ [q]) (gNew h s) H1 := by
  subst he
  obtain ⟨⟨r1, r2⟩, r3, r4, -, -⟩ := hR
  rw [← gWs_new r1 r2 r4] at hP hD
  refine ⟨⟨?_, ?_⟩, fun j hj => ⟨?_, ?_, ?_⟩, fun k j r hr => ?_, hP, hD⟩
  · show (ad ++ [q]).length = (h.1 ++ [s]).length
    rw [List.length_append, List.length_append, r1]
    rfl
  · rw [List.length_append]
    omega
  · rw [List.getElem?_append_left (by omega)]
    exact (r3 j hj).1
  · show (h.1 ++ [s])[j]? = _
    rw [List.getElem?_append_left (by omega)]
    exact (r3 j hj).2.1
  · show gNw h.2.2.1 h.1.length 0 j = _
    rw [gNw_ne (by omega)]
    exact (r3 j hj).2.2
  · have hr : gNw h.2.1 h.1.length none k j = some r := hr
    unfold gNw at hr
    split at hr
    · cases hr
    · rw [List.length_append]
      exact Nat.lt_of_lt_of_le (r4 k j r hr) (Nat.le_add_right _ _)
theorem gV_new {ad : List Nat} {h : gH} {q : Nat} (ha : ad.length = h.1.length) : gV (ad ++ [q]) (.ref h.1.length) = some (.ref q) := by
  apply gV_at
  rw [← ha]
  simp
/-- the class ci can be made, by the constant ix of the class own -/
def gMk (own : String) (ix ci : Nat) : Prop := ci < 4 ∧ Cond.classLink own ix (gRx ci) ∈ gW ∧ Cond.instantiable (gRx ci) (gN ci) ∈ gW ∧ Cond.initialized (gRx ci) ∈ gW

theorem gDef_ok : ∀ ci, ci < 4 → ∀ j, j < gN ci → defaultValue (gTy ci j) = (if gIsR ci j then .null else .int 0) := by decide +kernel
theorem gFc_new {ad : List Nat} {h : gH} {s : Nat × Nat × Nat} {ci : Nat} : gFc ad (gNew h s) h.1.length ci = fun j => if gIsR ci j then .null else .int 0 := by
  funext j
  simp only [gFc, gNew, gNw_at]
  rfl
theorem gCe_newO {ca : Nat → ClassId} {ad : List Nat} {h : gH} {ci n : Nat} : gCe ca ad (gNew h (1, ci, n)) h.1.length = .inr (ci, (List.range (gN ci)).map (fun j => if gIsR ci j then .null else .int 0)) := by
  rw [gCe_obj (h := gNew h (1, ci, n)) (n := n) (ci := ci) (by show (h.1 ++ [(1, ci, n)])[h.1.length]? = _; simp), gFc_new]
theorem g_new {G : gG} {Y : gY} {d pc ix ci : Nat} {al : List (Option Value)} {st : List Value} {h : gH} {kc ks : Nat} {Q : gQ} (dg : decode Y.2.1 pc = .ok (.new ix, 3)) (hm : gMk Y.1.cls ix ci) (hc : 1 ≤ kc) (hk : gN ci ≤ ks) (k : gGo G Y d (pc + 3) al (.ref h.1.length :: st) (gNew h (1, ci, gN ci)) (kc - 1) (ks - gN ci) Q) : gGo G Y d pc al st h kc ks Q := by
  intro p l e R s m args below meth c QS mc ms ad0 C E ad ls sk H locs cells slots ha hL hs hR hV h1 h2
  obtain ⟨m1, m2, m3, m4⟩ := hm
  obtain ⟨hmc, hms⟩ := C.2.2.2.2.2.2.2.2.2.2.2.2
  have hA : ∀ q : Nat, s.heap.size ≤ q → (fun q => G.2.2.1 ≤ q) q := fun q h => Nat.le_trans C.2.2.2.2.2.1.1 h
  have hfs : ∀ j, j < gN ci → defaultValue (gTy ci j) = vp_V ((List.range (gN ci)).map (fun j => if gIsR ci j then .null else .int 0)) j := fun j hj => by
    unfold vp_V
    rw [List.getD_eq_getElem?_getD, List.getElem?_map, List.getElem?_range hj]
    exact gDef_ok ci m1 j hj
  refine va_new C.1 C.2.1 C.2.2.2.2.1 (gLays m1) (gTy ci) (gTx_ty ci m1) C.2.2.2.1 (C.2.2.2.2.1 _ m2) (C.2.2.2.2.1 _ m3) (C.2.2.2.2.1 _ m4) C.2.2.2.2.2.1.2.1 hR.2.2.2.1 hR.2.2.2.2 hV hA (gK_at m1) hfs (by omega) (by omega) dg (fun q H1 hP hD hS1 => ?_)
  have hpre : ad <+: ad ++ [q] := List.prefix_append _ _
  exact k p l e R s m args below meth c QS mc ms ad0 C E (ad ++ [q]) ls _ H1 locs (cells + 1) (slots + gN ci) (ha.trans hpre) (gLoc_up hpre hL) (gSk_in (gV_new hR.1.1) (gSk_up hpre hs)) (gRep_new hR gCe_newO hP hD) hS1 (by omega) (by omega)
theorem gCe_newA {ca : Nat → ClassId} {ad : List Nat} {h : gH} {t n : Nat} : gCe ca ad (gNew h (2, t, n)) h.1.length = .inl (ca t, gAr ad (gNew h (2, t, n)) h.1.length t n) := gCe_arr (h := gNew h (2, t, n)) (by show (h.1 ++ [(2, t, n)])[h.1.length]? = _; simp)
theorem gTs_cls {G : gG} {s : State} {t : Nat} {ty : FieldType} {cA : ClassId} (hK : va_K G.1 gK (gTs G.2.1) s) (ht : (gTs G.2.1)[t]? = some (G.2.1 t, ty)) (hc : s.vm.findClass ("[" ++ ty.toString) = some cA) : cA = G.2.1 t := by
  have h1 := (hK.2 t _ ht).2
  cases ty with
  | object C =>
    obtain ⟨kA, comp, h2, h3, h4, h5⟩ := h1
    exact Option.some.inj (hc.symm.trans h5)
  | _ => exact Option.some.inj (hc.symm.trans h1)
theorem g_newI {G : gG} {Y : gY} {d pc N : Nat} {al : List (Option Value)} {st : List Value} {h : gH} {n : Int32} {kc ks : Nat} {Q : gQ} (dg : decode Y.2.1 pc = .ok (.newarray .int, 2)) (hn : n = Int32.ofNat N) (hN : N < 100000) (hc : 1 ≤ kc) (hk : N ≤ ks) (k : gGo G Y d (pc + 2) al (.ref h.1.length :: st) (gNew h (2, 0, N)) (kc - 1) (ks - N) Q) : gGo G Y d pc al (.int n :: st) h kc ks Q := by
  intro p l e R s m args below meth c QS mc ms ad0 C E ad ls sk H locs cells slots ha hL hs hR hV h1 h2
  obtain ⟨sk1, rfl, hz1⟩ := gSk_int hs
  obtain ⟨hmc, hms⟩ := C.2.2.2.2.2.2.2.2.2.2.2.2
  have hA : ∀ q : Nat, s.heap.size ≤ q → (fun q => G.2.2.1 ≤ q) q := fun q h => Nat.le_trans C.2.2.2.2.2.1.1 h
  have hnN : n = nI N := hn
  have h31 : N < 2 ^ 31 := Nat.lt_trans hN (by decide)
  refine va_newa (atype := .int) (ty := .int) (N' := N) (a0 := gAr ad (gNew h (2, 0, N)) h.1.length 0 N) C.1 C.2.1 (C.2.2.2.2.1 _ gAcl0) rfl C.2.2.2.2.2.1.2.1 hR.2.2.2.1 hR.2.2.2.2 hV hA (fun cA => ?_) (by rw [hnN]; exact nI_pos h31) (by rw [hnN]; exact nI_clamp h31) ?_ (by omega) (by omega) dg (fun q cA H1 hK1 hP hD hS1 => ?_)
  · simp only [gAr, gNew, gNw_at]
    rfl
  · show N * 4 ≤ 536870912
    omega
  · have hca : cA = G.2.1 0 := gTs_cls C.2.2.2.2.2.1.2.1 rfl (hK1.2 6 (cA, .int) rfl).2
    subst hca
    have hpre : ad <+: ad ++ [q] := List.prefix_append _ _
    have ear : gAr (ad ++ [q]) (gNew h (2, 0, N)) h.1.length 0 N = gAr ad (gNew h (2, 0, N)) h.1.length 0 N := rfl
    exact k p l e R s m args below meth c QS mc ms ad0 C E (ad ++ [q]) ls _ H1 locs (cells + 1) (slots + N) (ha.trans hpre) (gLoc_up hpre hL) (gSk_in (gV_new hR.1.1) (gSk_up hpre hz1)) (gRep_new hR (by rw [gCe_newA, ear]) hP hD) hS1 (by omega) (by omega)
theorem g_newC {G : gG} {Y : gY} {d pc N : Nat} {al : List (Option Value)} {st : List Value} {h : gH} {n : Int32} {kc ks : Nat} {Q : gQ} (dg : decode Y.2.1 pc = .ok (.newarray .char, 2)) (hn : n = Int32.ofNat N) (hN : N < 100000) (hc : 1 ≤ kc) (hk : N ≤ ks) (k : gGo G Y d (pc + 2) al (.ref h.1.length :: st) (gNew h (2, 1, N)) (kc - 1) (ks - N) Q) : gGo G Y d pc al (.int n :: st) h kc ks Q := by
  intro p l e R s m args below meth c QS mc ms ad0 C E ad ls sk H locs cells slots ha hL hs hR hV h1 h2
  obtain ⟨sk1, rfl, hz1⟩ := gSk_int hs
  obtain ⟨hmc, hms⟩ := C.2.2.2.2.2.2.2.2.2.2.2.2
  have hA : ∀ q : Nat, s.heap.size ≤ q → (fun q => G.2.2.1 ≤ q) q := fun q h => Nat.le_trans C.2.2.2.2.2.1.1 h
  have hnN : n = nI N := hn
  have h31 : N < 2 ^ 31 := Nat.lt_trans hN (by decide)
  refine va_newa (atype := .char) (ty := .char) (N' := N) (a0 := gAr ad (gNew h (2, 1, N)) h.1.length 1 N) C.1 C.2.1 (C.2.2.2.2.1 _ gAcl1) rfl C.2.2.2.2.2.1.2.1 hR.2.2.2.1 hR.2.2.2.2 hV hA (fun cA => ?_) (by rw [hnN]; exact nI_pos h31) (by rw [hnN]; exact nI_clamp h31) ?_ (by omega) (by omega) dg (fun q cA H1 hK1 hP hD hS1 => ?_)
  · simp only [gAr, gNew, gNw_at]
    rfl
  · show N * 2 ≤ 536870912
    omega
  · have hca : cA = G.2.1 1 := gTs_cls C.2.2.2.2.2.1.2.1 rfl (hK1.2 6 (cA, .char) rfl).2
    subst hca
    have hpre : ad <+: ad ++ [q] := List.prefix_append _ _
    have ear : gAr (ad ++ [q]) (gNew h (2, 1, N)) h.1.length 1 N = gAr ad (gNew h (2, 1, N)) h.1.length 1 N := rfl
    exact k p l e R s m args below meth c QS mc ms ad0 C E (ad ++ [q]) ls _ H1 locs (cells + 1) (slots + N) (ha.trans hpre) (gLoc_up hpre hL) (gSk_in (gV_new hR.1.1) (gSk_up hpre hz1)) (gRep_new hR (by rw [gCe_newA, ear]) hP hD) hS1 (by omega) (by omega)
theorem g_newL {G : gG} {Y : gY} {d pc N : Nat} {al : List (Option Value)} {st : List Value} {h : gH} {n : Int32} {kc ks : Nat} {Q : gQ} (dg : decode Y.2.1 pc = .ok (.newarray .long, 2)) (hn : n = Int32.ofNat N) (hN : N < 100000) (hc : 1 ≤ kc) (hk : N ≤ ks) (k : gGo G Y d (pc + 2) al (.ref h.1.length :: st) (gNew h (2, 2, N)) (kc - 1) (ks - N) Q) : gGo G Y d pc al (.int n :: st) h kc ks Q := by
  intro p l e R s m args below meth c QS mc ms ad0 C E ad ls sk H locs cells slots ha hL hs hR hV h1 h2
  obtain ⟨sk1, rfl, hz1⟩ := gSk_int hs
  obtain ⟨hmc, hms⟩ := C.2.2.2.2.2.2.2.2.2.2.2.2
  have hA : ∀ q : Nat, s.heap.size ≤ q → (fun q => G.2.2.1 ≤ q) q := fun q h => Nat.le_trans C.2.2.2.2.2.1.1 h
  have hnN : n = nI N := hn
  have h31 : N < 2 ^ 31 := Nat.lt_trans hN (by decide)
  refine va_newa (atype := .long) (ty := .long) (N' := N) (a0 := gAr ad (gNew h (2, 2, N)) h.1.length 2 N) C.1 C.2.1 (C.2.2.2.2.1 _ gAcl2) rfl C.2.2.2.2.2.1.2.1 hR.2.2.2.1 hR.2.2.2.2 hV hA (fun cA => ?_) (by rw [hnN]; exact nI_pos h31) (by rw [hnN]; exact nI_clamp h31) ?_ (by omega) (by omega) dg (fun q cA H1 hK1 hP hD hS1 => ?_)
  · simp only [gAr, gNew, gNw_at]
    rfl
  · show N * 8 ≤ 536870912
    omega
  · have hca : cA = G.2.1 2 := gTs_cls C.2.2.2.2.2.1.2.1 rfl (hK1.2 6 (cA, .long) rfl).2
    subst hca
    have hpre : ad <+: ad ++ [q] := List.prefix_append _ _
    have ear : gAr (ad ++ [q]) (gNew h (2, 2, N)) h.1.length 2 N = gAr ad (gNew h (2, 2, N)) h.1.length 2 N := rfl
    exact k p l e R s m args below meth c QS mc ms ad0 C E (ad ++ [q]) ls _ H1 locs (cells + 1) (slots + N) (ha.trans hpre) (gLoc_up hpre hL) (gSk_in (gV_new hR.1.1) (gSk_up hpre hz1)) (gRep_new hR (by rw [gCe_newA, ear]) hP hD) hS1 (by omega) (by omega)
theorem g_newD {G : gG} {Y : gY} {d pc N : Nat} {al : List (Option Value)} {st : List Value} {h : gH} {n : Int32} {kc ks : Nat} {Q : gQ} (dg : decode Y.2.1 pc = .ok (.newarray .double, 2)) (hn : n = Int32.ofNat N) (hN : N < 100000) (hc : 1 ≤ kc) (hk : N ≤ ks) (k : gGo G Y d (pc + 2) al (.ref h.1.length :: st) (gNew h (2, 3, N)) (kc - 1) (ks - N) Q) : gGo G Y d pc al (.int n :: st) h kc ks Q := by
  intro p l e R s m args below meth c QS mc ms ad0 C E ad ls sk H locs cells slots ha hL hs hR hV h1 h2
  obtain ⟨sk1, rfl, hz1⟩ := gSk_int hs
  obtain ⟨hmc, hms⟩ := C.2.2.2.2.2.2.2.2.2.2.2.2
  have hA : ∀ q : Nat, s.heap.size ≤ q → (fun q => G.2.2.1 ≤ q) q := fun q h => Nat.le_trans C.2.2.2.2.2.1.1 h
  have hnN : n = nI N := hn
  have h31 : N < 2 ^ 31 := Nat.lt_trans hN (by decide)
  refine va_newa (atype := .double) (ty := .double) (N' := N) (a0 := gAr ad (gNew h (2, 3, N)) h.1.length 3 N) C.1 C.2.1 (C.2.2.2.2.1 _ gAcl3) rfl C.2.2.2.2.2.1.2.1 hR.2.2.2.1 hR.2.2.2.2 hV hA (fun cA => ?_) (by rw [hnN]; exact nI_pos h31) (by rw [hnN]; exact nI_clamp h31) ?_ (by omega) (by omega) dg (fun q cA H1 hK1 hP hD hS1 => ?_)
  · simp only [gAr, gNew, gNw_at]
    rfl
  · show N * 8 ≤ 536870912
    omega
  · have hca : cA = G.2.1 3 := gTs_cls C.2.2.2.2.2.1.2.1 rfl (hK1.2 6 (cA, .double) rfl).2
    subst hca
    have hpre : ad <+: ad ++ [q] := List.prefix_append _ _
    have ear : gAr (ad ++ [q]) (gNew h (2, 3, N)) h.1.length 3 N = gAr ad (gNew h (2, 3, N)) h.1.length 3 N := rfl
    exact k p l e R s m args below meth c QS mc ms ad0 C E (ad ++ [q]) ls _ H1 locs (cells + 1) (slots + N) (ha.trans hpre) (gLoc_up hpre hL) (gSk_in (gV_new hR.1.1) (gSk_up hpre hz1)) (gRep_new hR (by rw [gCe_newA, ear]) hP hD) hS1 (by omega) (by omega)
theorem g_newS {G : gG} {Y : gY} {d pc ix N : Nat} {al : List (Option Value)} {st : List Value} {h : gH} {n : Int32} {kc ks : Nat} {Q : gQ} (dg : decode Y.2.1 pc = .ok (.anewarray ix, 3)) (hl : Cond.classLink Y.1.cls ix RX1 ∈ gW) (hn : n = Int32.ofNat N) (hN : N < 100000) (hc : 1 ≤ kc) (hk : N ≤ ks) (k : gGo G Y d (pc + 3) al (.ref h.1.length :: st) (gNew h (2, 5, N)) (kc - 1) (ks - N) Q) : gGo G Y d pc al (.int n :: st) h kc ks Q := by
  intro p l e R s m args below meth c QS mc ms ad0 C E ad ls sk H locs cells slots ha hL hs hR hV h1 h2
  obtain ⟨sk1, rfl, hz1⟩ := gSk_int hs
  obtain ⟨hmc, hms⟩ := C.2.2.2.2.2.2.2.2.2.2.2.2
  have hA : ∀ q : Nat, s.heap.size ≤ q → (fun q => G.2.2.1 ≤ q) q := fun q h => Nat.le_trans C.2.2.2.2.2.1.1 h
  have hnN : n = nI N := hn
  have h31 : N < 2 ^ 31 := Nat.lt_trans hN (by decide)
  refine va_newq (N' := N) C.1 C.2.1 C.2.2.2.1 (C.2.2.2.2.1 _ hl) C.2.2.2.2.2.1.2.2.2.2.2.2.2.1 C.2.2.2.2.2.1.2.1 hR.2.2.2.1 hR.2.2.2.2 hV hA (by rw [hnN]; exact nI_pos h31) (by rw [hnN]; exact nI_clamp h31) (by omega) (by omega) (by omega) dg (fun q cA H1 hK1 hP hD hS1 => ?_)
  have hca : cA = G.2.1 5 := by
    obtain ⟨kA, comp, h2, h3, h4, h5⟩ := (hK1.2 6 (cA, .object RX1) rfl).2
    exact gTs_cls C.2.2.2.2.2.1.2.1 (t := 5) (ty := .object RX1) rfl h5
  subst hca
  have hpre : ad <+: ad ++ [q] := List.prefix_append _ _
  refine k p l e R s m args below meth c QS mc ms ad0 C E (ad ++ [q]) ls _ H1 locs (cells + 1) (slots + N) (ha.trans hpre) (gLoc_up hpre hL) (gSk_in (gV_new hR.1.1) (gSk_up hpre hz1)) (gRep_new hR ?_ hP hD) hS1 (by omega) (by omega)
  rw [gCe_newA]
  simp only [gAr, gNew, gNw_at]
  rfl
theorem gFs_ref {ad : List Nat} {S : List (Nat × Nat × Nat)} {T : Nat → Nat → Option Nat} {I : Nat → Nat → Int32} {L : Nat → Nat → Int64} {D : Nat → Nat → UInt64} {k ci j N q a : Nat} (ht : gIsR ci j = true) (hq : ad[q]? = some a) : ((List.range N).map (gFc ad (S, T, I, L, D) k ci)).set j (.ref a) = (List.range N).map (gFc ad (S, gUp T k j (some q), I, L, D) k ci) := by
  apply List.ext_getElem?
  intro i
  by_cases hi : i = j
  · subst hi
    by_cases hN : i < N
    · rw [List.getElem?_set_self (by simpa using hN), List.getElem?_map, List.getElem?_range hN]
      simp only [gFc, ht, gUp, if_true, Option.map_some, and_self, g_adr hq]
      rfl
    · rw [List.getElem?_eq_none (by simp; omega), List.getElem?_eq_none (by simp; omega)]
  · rw [List.getElem?_set_ne (Ne.symm hi), List.getElem?_map, List.getElem?_map]
    by_cases hN : i < N
    · rw [List.getElem?_range hN]
      simp [gFc, gUp, hi]
    · rw [List.getElem?_eq_none (by simp; omega)]
      rfl
theorem g_putR {G : gG} {Y : gY} {d pc : Nat} {al : List (Option Value)} {st : List Value} {S : List (Nat × Nat × Nat)} {T : Nat → Nat → Option Nat} {I : Nat → Nat → Int32} {L : Nat → Nat → Int64} {D : Nat → Nat → UInt64} {kc ks : Nat} {Q : gQ} {ix r ci j n0 q : Nat} (dg : decode Y.2.1 pc = .ok (.putfield ix, 3)) (hf : gFl Y.1.cls ix ci j) (hno : ∀ host, Cond.fieldLinkNest Y.1.cls ix (gRx ci) (gTx ci j).2.1 (gTx ci j).2.2.1 host ∉ gW) (hS : S[r]? = some (1, ci, n0)) (h3 : 3 ≤ r) (hty : gIsR ci j = true) (hfin : (gTx ci j).2.2.2 = true) (hnm : Y.1.name = "<init>") (hown : gRx ci = Y.1.cls) (k : gGo G Y d (pc + 3) al (st) (S, gUp T r j (some q), I, L, D) (kc) (ks) Q) : gGo G Y d pc al (.ref q :: .ref r :: st) (S, T, I, L, D) kc ks Q := by
  intro p l e R s m args below meth c QS mc ms ad0 C E ad ls sk H locs cells slots ha hL hs hR hV h1 h2
  obtain ⟨a0, sk0, hq0, rfl, hz0⟩ := gSk_ref hs
  obtain ⟨a, sk1, hq, rfl, hz1⟩ := gSk_ref hz0
  have hl : r < S.length := (List.getElem?_eq_some_iff.mp hS).1
  have haq : ad.getD r 0 = a := g_adr hq
  have he := gWs_at (ca := G.2.1) (ad := ad) (h := (S, T, I, L, D)) h3 hl
  rw [haq, gCe_obj (h := (S, T, I, L, D)) hS] at he
  obtain ⟨⟨hc4, hjN⟩, hlk⟩ := hf
  have hsm : ∀ x, s.fieldFound? (gTx ci j).1 (gTx ci j).2.1 (gTx ci j).2.2.1 = some x → s.fieldFound? (gRx ci) (gTx ci j).2.1 (gTx ci j).2.2.1 = some x := fun x hx => by rw [gTx_own ci hc4 j hjN] at hx; exact hx
  have hk9 : ∀ (H1 : Heap) (locs1 : List Loc), va_P G.1 gK ((gWs G.2.1 ad (S, T, I, L, D)).set (r - 3) (a, .inr (ci, ((List.range (gN ci)).map (gFc ad (S, T, I, L, D) r ci)).set j (.ref a0)))) H1 → va_D (fun q => G.2.2.1 ≤ q) ((gWs G.2.1 ad (S, T, I, L, D)).set (r - 3) (a, .inr (ci, ((List.range (gN ci)).map (gFc ad (S, T, I, L, D) r ci)).set j (.ref a0)))) → va_S (fun q => G.2.2.1 ≤ q) s.heap H1 locs1 → W p l e R s m args below meth c H1 locs1 cells slots QS (F0 m (pc + 3) ls sk1) := fun H1 locs1 hP hD hS1 => by
    rw [← haq, gFs_ref hty hq0] at hP hD
    refine k p l e R s m args below meth c QS mc ms ad0 C E ad ls sk1 H1 locs1 cells slots ha hL hz1 (gRep_set (h' := (S, gUp T r j (some q), I, L, D)) hR h3 hl rfl (fun j9 hj9 => gCe_congr rfl (gUp_ne hj9) rfl rfl rfl) (fun j9 hj9 => rfl) (fun k9 j9 r9 hr9 => ?_) (gCe_obj (h := (S, gUp T r j (some q), I, L, D)) hS) hP hD) hS1 h1 h2
    have hr9 : gUp T r j (some q) k9 j9 = some r9 := hr9
    unfold gUp at hr9
    split at hr9
    · cases hr9
      exact (List.getElem?_eq_some_iff.mp hq0).1
    · exact hR.2.2.1 k9 j9 r9 hr9
  have hnf : narrow (gTy ci j) (.ref a0) = .ref a0 ∧ fits (gTy ci j) (.ref a0) = true := by
    unfold gIsR at hty
    split at hty <;> first | (rename_i hh; rw [hh]; exact ⟨rfl, rfl⟩) | cases hty
  rcases hlk with hlk | ⟨host, hlk⟩
  · exact va_putF C.1 C.2.1 C.2.2.2.2.1 (gLays hc4) (gTy ci) (gTx_ty ci hc4) (gTx_nm ci hc4) C.2.2.2.1 C.2.2.2.2.2.1.2.1 hR.2.2.2.1 hR.2.2.2.2 hV (r - 3) he (gK_at hc4) j hjN (C.2.2.2.2.1 _ hlk) hsm hfin ((C.2.2.2.2.2.2.2.2.2.1 (fun q9 => by rw [q9] at hnm; revert hnm; decide)).trans hnm) ((gTx_own ci hc4 j hjN).trans hown) (gTx_ty ci hc4 j hjN) hnf.1 hnf.2 (by simpa using hjN) dg hk9
  · exact absurd hlk (hno host)
theorem g_aastore {G : gG} {Y : gY} {d pc : Nat} {al : List (Option Value)} {st : List Value} {S : List (Nat × Nat × Nat)} {T : Nat → Nat → Option Nat} {I : Nat → Nat → Int32} {L : Nat → Nat → Int64} {D : Nat → Nat → UInt64} {kc ks : Nat} {Q : gQ} {r q n n0 : Nat} {i : Int32} (dg : decode Y.2.1 pc = .ok (.aastore, 1)) (hS : S[r]? = some (2, 5, n)) (h3 : 3 ≤ r) (hSq : S[q]? = some (1, 1, n0)) (h3q : 3 ≤ q) (hin : vp_in i n) (k : gGo G Y d (pc + 1) al (st) (S, gUp T r i.toNatClampNeg (some q), I, L, D) (kc) (ks) Q) : gGo G Y d pc al (.ref q :: .int i :: .ref r :: st) (S, T, I, L, D) kc ks Q := by
  intro p l e R s m args below meth c QS mc ms ad0 C E ad ls sk H locs cells slots ha hL hs hR hV h1 h2
  obtain ⟨a0, sk9, hq0, rfl, hz9⟩ := gSk_ref hs
  obtain ⟨sk0, rfl, hz0⟩ := gSk_int hz9
  obtain ⟨a, sk1, hq, rfl, hz1⟩ := gSk_ref hz0
  have hl : r < S.length := (List.getElem?_eq_some_iff.mp hS).1
  have haq : ad.getD r 0 = a := g_adr hq
  have he := gWs_at (ca := G.2.1) (ad := ad) (h := (S, T, I, L, D)) h3 hl
  rw [haq, gCe_arr (h := (S, T, I, L, D)) hS] at he
  have hlq : q < S.length := (List.getElem?_eq_some_iff.mp hSq).1
  have heq := gWs_at (ca := G.2.1) (ad := ad) (h := (S, T, I, L, D)) h3q hlq
  rw [g_adr hq0, gCe_obj (h := (S, T, I, L, D)) hSq] at heq
  refine va_astq C.1 C.2.1 C.2.2.2.2.2.1.2.1 hR.2.2.2.1 hR.2.2.2.2 hV (r - 3) 5 (q - 3) 1 he rfl heq rfl hin dg (fun H1 locs1 hP hD hS1 => ?_)
  rw [← haq] at hP hD
  refine k p l e R s m args below meth c QS mc ms ad0 C E ad ls sk1 H1 locs1 cells slots ha hL hz1 (gRep_set (h' := (S, gUp T r i.toNatClampNeg (some q), I, L, D)) hR h3 hl rfl (fun j9 hj9 => gCe_congr rfl (gUp_ne hj9) rfl rfl rfl) (fun j9 hj9 => rfl) (fun k9 j9 r9 hr9 => ?_) ?_ hP hD) hS1 h1 h2
  · have hr9 : gUp T r i.toNatClampNeg (some q) k9 j9 = some r9 := hr9
    unfold gUp at hr9
    split at hr9
    · cases hr9
      exact (List.getElem?_eq_some_iff.mp hq0).1
    · exact hR.2.2.1 k9 j9 r9 hr9
  · rw [gCe_arr (h := (S, gUp T r i.toNatClampNeg (some q), I, L, D)) hS]
    have ef : (fun j => (gUp T r i.toNatClampNeg (some q) r j).map (fun z => ad.getD z 0)) = va_up (fun j => (T r j).map (fun z => ad.getD z 0)) i.toNatClampNeg (some a0) := by
      funext j
      simp only [gUp, va_up, true_and]
      split
      · simp only [Option.map_some, g_adr hq0]
      · rfl
    simp only [gAr, ef]
theorem g_objInit {G : gG} {Y : gY} {d pc ix r : Nat} {al : List (Option Value)} {st : List Value} {h : gH} {kc ks : Nat} {Q : gQ} (dg : decode Y.2.1 pc = .ok (.invokespecial ix, 3)) (hl : Cond.methodLink Y.1.cls ix Lib.objectInit ∈ gW) (hrest : (st.map fun v => v.category).sum ≤ 8) (k : gGo G Y d (pc + 3) al st h kc ks Q) : gGo G Y d pc al (.ref r :: st) h kc ks Q := by
  intro p l e R s m args below meth c QS mc ms ad0 C E ad ls sk H locs cells slots ha hL hs hR hV h1 h2
  obtain ⟨a, sk1, hq, rfl, hz1⟩ := gSk_ref hs
  obtain ⟨r1, r2⟩ := C.2.2.2.2.2.2.2.2.2.2.2.1
  have h8 : 2 * (F0 m pc ls (.ref a :: sk1)).monitorRoom + (sk1.map fun v => v.category).sum ≤ 8 := lv_room (by rw [gSk_cat hz1]; exact hrest)
  exact W.objInit C.1 C.2.1 C.2.2.2.1 (C.2.2.2.2.1 _ hl) (C.2.2.2.2.1 _ gObj1) (C.2.2.2.2.1 _ gObj2) rfl (hL.1.trans C.2.2.1.symm) rfl dg (by omega) (by omega) (k p l e R s m args below meth c QS mc ms ad0 C E ad ls sk1 H locs cells slots ha hL hz1 hR hV h1 h2)
theorem g_copy {G : gG} {Y : gY} {d pc : Nat} {al : List (Option Value)} {st : List Value} {S : List (Nat × Nat × Nat)} {T : Nat → Nat → Option Nat} {I : Nat → Nat → Int32} {L : Nat → Nat → Int64} {D : Nat → Nat → UInt64} {kc ks : Nat} {Q : gQ} {ix r q n0 n1 : Nat} {x y n : Int32} (dg : decode Y.2.1 pc = .ok (.invokestatic ix, 3)) (hlk : Cond.methodLink Y.1.cls ix arraycopyName ∈ gW) (hS : S[r]? = some (2, 0, n1)) (h3 : 3 ≤ r) (hSq : S[q]? = some (2, 0, n0)) (h3q : 3 ≤ q) (p1 : ¬ x < 0) (p2 : ¬ y < 0) (p3 : ¬ n < 0) (p4 : x.toNatClampNeg + n.toNatClampNeg ≤ n0) (p5 : y.toNatClampNeg + n.toNatClampNeg ≤ n1) (hrest : (st.map fun v => v.category).sum ≤ 8) (k : gGo G Y d (pc + 3) al (st) (S, T, (fun a b => if a = r then va_cpy (I q) (I r) x.toNatClampNeg y.toNatClampNeg n.toNatClampNeg b else I a b), L, D) (kc) (ks) Q) : gGo G Y d pc al (.int n :: .int y :: .ref r :: .int x :: .ref q :: st) (S, T, I, L, D) kc ks Q := by
  intro p l e R s m args below meth c QS mc ms ad0 C E ad ls sk H locs cells slots ha hL hs hR hV h1 h2
  obtain ⟨s1, rfl, z1⟩ := gSk_int hs
  obtain ⟨s2, rfl, z2⟩ := gSk_int z1
  obtain ⟨a, s3, hq, rfl, z3⟩ := gSk_ref z2
  obtain ⟨s4, rfl, z4⟩ := gSk_int z3
  obtain ⟨a0, s5, hq0, rfl, z5⟩ := gSk_ref z4
  obtain ⟨r1, r2⟩ := C.2.2.2.2.2.2.2.2.2.2.2.1
  have hl : r < S.length := (List.getElem?_eq_some_iff.mp hS).1
  have he := gWs_at (ca := G.2.1) (ad := ad) (h := (S, T, I, L, D)) h3 hl
  rw [g_adr hq, gCe_arr (h := (S, T, I, L, D)) hS] at he
  have hl0 : q < S.length := (List.getElem?_eq_some_iff.mp hSq).1
  have he0 := gWs_at (ca := G.2.1) (ad := ad) (h := (S, T, I, L, D)) h3q hl0
  rw [g_adr hq0, gCe_arr (h := (S, T, I, L, D)) hSq] at he0
  have hcs : (s5.map fun v => v.category).sum ≤ 8 := by rw [gSk_cat z5]; exact hrest
  have hnf : nativeFrameWords "java/lang/System" "arraycopy" 5 ≤ 100 := by decide
  refine va_copyi C.1 C.2.1 (C.2.2.1.trans hL.1.symm) C.2.2.2.1 (C.2.2.2.2.1 _ hlk) (C.2.2.2.2.1 _ gCpy1) (C.2.2.2.2.1 _ gCpy2) (C.2.2.2.2.1 _ gCpy3) C.2.2.2.2.2.1.2.1 hR.2.2.2.1 hR.2.2.2.2 hV (q - 3) (r - 3) 0 0 he0 he rfl rfl rfl p1 p2 p3 p4 p5 (fun i _ => rfl) (by omega) (by omega) dg (fun H1 locs1 hP hD hS1 => ?_)
  rw [← g_adr hq] at hP hD
  refine k p l e R s m args below meth c QS mc ms ad0 C E ad ls s5 H1 locs1 cells slots ha hL z5 (gRep_set (h' := (S, T, (fun a b => if a = r then va_cpy (I q) (I r) x.toNatClampNeg y.toNatClampNeg n.toNatClampNeg b else I a b), L, D)) hR h3 hl rfl (fun j9 hj9 => gCe_congr rfl rfl (by funext b; simp only [if_neg hj9]) rfl rfl) (fun j9 hj9 => by funext b; simp only [if_neg (show j9 ≠ r by omega)]) hR.2.2.1 ?_ hP hD) hS1 h1 h2
  rw [gCe_arr (h := (S, T, (fun a b => if a = r then va_cpy (I q) (I r) x.toNatClampNeg y.toNatClampNeg n.toNatClampNeg b else I a b), L, D)) hS]
  simp only [gAr, if_true]
end
section
/-! ===== rows of rows; the law's start ===== -/
/-- a heap with one more cell, that holds references -/
def gNewR (h : gH) (s : Nat × Nat × Nat) (f : Nat → Option Nat) : gH := (h.1 ++ [s], (fun a => if a = h.1.length then f else h.2.1 a), gNw h.2.2.1 h.1.length 0, gNw h.2.2.2.1 h.1.length 0, gNw h.2.2.2.2 h.1.length 0)
theorem gCe_newR {ca : Nat → ClassId} {ad : List Nat} {h : gH} {s : Nat × Nat × Nat} {f : Nat → Option Nat} {q k : Nat} (hk : k < h.1.length) (ha : ad.length = h.1.length) (hv : ∀ k j r, h.2.1 k j = some r → r < ad.length) : gCe ca (ad ++ [q]) (gNewR h s f) k = gCe ca ad h k := by
  have hne : k ≠ h.1.length := by omega
  have hr : ∀ j, ((h.2.1 k j).map (fun r => (ad ++ [q]).getD r 0)) = (h.2.1 k j).map (fun r => ad.getD r 0) := fun j => by
    cases hj : h.2.1 k j with
    | none => rfl
    | some r =>
      have := hv k j r hj
      simp only [Option.map_some, List.getD_eq_getElem?_getD, List.getElem?_append_left this]
  have a1 : ∀ ci, gFc (ad ++ [q]) (gNewR h s f) k ci = gFc ad h k ci := fun ci => by
    funext j
    simp only [gFc, gNewR, gNw_ne hne, if_neg hne, hr]
  have a2 : ∀ t n, gAr (ad ++ [q]) (gNewR h s f) k t n = gAr ad h k t n := fun t n => by
    simp only [gAr, gNewR, gNw_ne hne, if_neg hne, hr]
  simp only [gCe, a1, a2]
  have e1 : (gNewR h s f).1[k]? = h.1[k]? := List.getElem?_append_left hk
  rw [e1]
theorem gWs_newR {ca : Nat → ClassId} {ad : List Nat} {h : gH} {s : Nat × Nat × Nat} {f : Nat → Option Nat} {q : Nat} (ha : ad.length = h.1.length) (h3 : 3 ≤ ad.length) (hv : ∀ k j r, h.2.1 k j = some r → r < ad.length) : gWs ca (ad ++ [q]) (gNewR h s f) = gWs ca ad h ++ [(q, gCe ca (ad ++ [q]) (gNewR h s f) h.1.length)] := by
  unfold gWs
  have e1 : (gNewR h s f).1.length - 3 = (h.1.length - 3) + 1 := by
    show (h.1 ++ [s]).length - 3 = _
    rw [List.length_append, List.length_singleton]
    omega
  rw [e1, List.range_succ, List.map_append, List.map_singleton]
  have e2 : h.1.length - 3 + 3 = h.1.length := by omega
  congr 1
  · apply List.map_congr_left
    intro i hi
    have hi := List.mem_range.mp hi
    rw [gCe_newR (by omega) ha hv]
    simp only [List.getD_eq_getElem?_getD]
    rw [List.getElem?_append_left (by omega)]
  · rw [e2]
    simp only [List.getD_eq_getElem?_getD]
    rw [List.getElem?_append_right (by omega), ← ha]
    simp
theorem gRep_newR {G : gG} {ad : List Nat} {h : gH} {s : Nat × Nat × Nat} {f : Nat → Option Nat} {q : Nat} {H H1 : Heap} {e : va_E} (hR : gRep G ad h H) (hf : ∀ j r, f j = some r → r < ad.length) (he : gCe G.2.1 (ad ++ [q]) (gNewR h s f) h.1.length = e) (hP : va_P G.1 gK (gWs G.2.1 ad h ++ [(q, e)]) H1) (hD : va_D (fun q => G.2.2.1 ≤ q) (gWs G.2.1 ad h ++ [(q, e)])) : gRep G (ad ++ [q]) (gNewR h s f) H1 := by
  subst he
  obtain ⟨⟨r1, r2⟩, r3, r4, -, -⟩ := hR
  rw [← gWs_newR r1 r2 r4] at hP hD
  refine ⟨⟨?_, ?_⟩, fun j hj => ⟨?_, ?_, ?_⟩, fun k j r hr => ?_, hP, hD⟩
  · show (ad ++ [q]).length = (h.1 ++ [s]).length
    rw [List.length_append, List.length_append, r1]
    rfl
  · rw [List.length_append]
    omega
  · rw [List.getElem?_append_left (by omega)]
    exact (r3 j hj).1
  · show (h.1 ++ [s])[j]? = _
    rw [List.getElem?_append_left (by omega)]
    exact (r3 j hj).2.1
  · show gNw h.2.2.1 h.1.length 0 j = _
    rw [gNw_ne (by omega)]
    exact (r3 j hj).2.2
  · have hr : (if k = h.1.length then f else h.2.1 k) j = some r := hr
    rw [List.length_append]
    split at hr
    · exact Nat.lt_of_lt_of_le (hf j r hr) (Nat.le_add_right _ _)
    · exact Nat.lt_of_lt_of_le (r4 k j r hr) (Nat.le_add_right _ _)
/-- four rows of six ints, and the row of them behind -/
def gM4 (h : gH) : gH := gNewR (gNew (gNew (gNew (gNew h (2, 0, 6)) (2, 0, 6)) (2, 0, 6)) (2, 0, 6)) (2, 4, 4) (fun j => if j < 4 then some (h.1.length + j) else none)
theorem gRep_P {G : gG} {ad : List Nat} {h : gH} {H H1 : Heap} (hR : gRep G ad h H) (hP : va_P G.1 gK (gWs G.2.1 ad h) H1) : gRep G ad h H1 := ⟨hR.1, hR.2.1, hR.2.2.1, hP, hR.2.2.2.2⟩
theorem va_P_fst {D : va_G} {cl : List vw_C} {a b : va_W} {H : Heap} (h : va_P D cl (a ++ b) H) : va_P D cl a H := fun k q hk => h k q (by rw [List.getElem?_append_left (List.getElem?_eq_some_iff.mp hk).1]; exact hk)
theorem va_D_fst {A : Nat → Prop} {a b : va_W} (h : va_D A (a ++ b)) : va_D A a := ⟨fun i j p q hi hj e => h.1 i j p q (by rw [List.getElem?_append_left (List.getElem?_eq_some_iff.mp hi).1]; exact hi) (by rw [List.getElem?_append_left (List.getElem?_eq_some_iff.mp hj).1]; exact hj) e, fun k q hk => h.2 k q (by rw [List.getElem?_append_left (List.getElem?_eq_some_iff.mp hk).1]; exact hk)⟩
theorem g_mna {G : gG} {Y : gY} {d pc ix : Nat} {al : List (Option Value)} {st : List Value} {h : gH} {kc ks : Nat} {Q : gQ} (dg : decode Y.2.1 pc = .ok (.multianewarray ix 2, 4)) (hl : Cond.classLink Y.1.cls ix ("[" ++ (FieldType.array .int).toString) ∈ gW) (hc : 5 ≤ kc) (hk : 28 ≤ ks) (k : gGo G Y d (pc + 4) al (.ref (h.1.length + 4) :: st) (gM4 h) (kc - 5) (ks - 28) Q) : gGo G Y d pc al (.int 6 :: .int 4 :: st) h kc ks Q := by
  intro p l e R s m args below meth c QS mc ms ad0 C E ad ls sk H locs cells slots ha hL hs hR hV h1 h2
  obtain ⟨sk0, rfl, hz0⟩ := gSk_int hs
  obtain ⟨sk1, rfl, hz1⟩ := gSk_int hz0
  obtain ⟨hmc, hms⟩ := C.2.2.2.2.2.2.2.2.2.2.2.2
  have hA : ∀ q : Nat, s.heap.size ≤ q → (fun q => G.2.2.1 ≤ q) q := fun q h => Nat.le_trans C.2.2.2.2.2.1.1 h
  have hcy : s.vm.findClass (FieldType.array .int).toString = some (G.2.1 0) := (C.2.2.2.2.2.1.2.1.2 0 _ rfl).2
  have eL : gWs G.2.1 ad h ++ va_pl [] (fun _ => (Sum.inr (0, []) : va_E)) = gWs G.2.1 ad h := List.append_nil _
  refine va_mna (X := gWs G.2.1 ad h) (L := []) (f := fun _ => .inr (0, [])) (ty := .int) (N' := 4) (K' := 6) (z := (6, .inl (fun _ => 0))) C.1 C.2.1 C.2.2.2.1 (C.2.2.2.2.1 _ hl) C.2.2.2.2.2.1.2.2.2.2.2.2.2.2 (C.2.2.2.2.1 _ gAcl0) hcy C.2.2.2.2.2.1.2.1 (by rw [eL]; exact hR.2.2.2.1) (by rw [eL]; exact hR.2.2.2.2) hV hA (by decide) (by decide) rfl rfl (by decide) (by decide) (by decide) rfl rfl (by omega) (by omega) (fun c => rfl) dg (fun q r cA H1 hinj _ hK1 hP hD hS1 => ?_)
  have hca : cA = G.2.1 4 := by
    have h9 : s.vm.findClass ("[" ++ (FieldType.array .int).toString) = some cA := (hK1.2 6 (cA, .array .int) rfl).2
    exact gTs_cls C.2.2.2.2.2.1.2.1 (t := 4) (ty := .array .int) rfl h9
  subst hca
  have hP := va_P.swap hP
  have hD := va_D.swap hD
  have er : va_pl ([] ++ (List.range 4).map r) (vr_up (fun _ => (Sum.inr (0, []) : va_E)) ((List.range 4).map r) (.inl (G.2.1 0, (6, .inl (fun _ => 0))))) = [(r 0, .inl (G.2.1 0, (6, .inl (fun _ => 0))))] ++ [(r 1, .inl (G.2.1 0, (6, .inl (fun _ => 0))))] ++ [(r 2, .inl (G.2.1 0, (6, .inl (fun _ => 0))))] ++ [(r 3, .inl (G.2.1 0, (6, .inl (fun _ => 0))))] := by
    simp [va_pl, vr_up, List.range_succ]
  rw [er] at hP hD
  have eo : (fun i => if i < 4 then some (r i) else none) = (fun j => ((fun j => if j < 4 then some (h.1.length + j) else none) j).map (fun z => (ad ++ [r 0] ++ [r 1] ++ [r 2] ++ [r 3] ++ [q]).getD z 0)) := by
    funext j
    have hl9 := hR.1.1
    by_cases hj : j < 4
    · simp only [if_pos hj, Option.map_some]
      congr 1
      simp only [List.append_assoc, List.getD_eq_getElem?_getD]
      rw [List.getElem?_append_right (by omega), show h.1.length + j - ad.length = j by omega]
      match j, hj with
      | 0, _ => rfl
      | 1, _ => rfl
      | 2, _ => rfl
      | 3, _ => rfl
    · simp only [if_neg hj, Option.map_none]
  simp only [← List.append_assoc] at hP hD
  have ez : ∀ (ad : List Nat) (h : gH), gCe G.2.1 ad (gNew h (2, 0, 6)) h.1.length = .inl (G.2.1 0, (6, .inl (fun _ => 0))) := fun ad h => by
    rw [gCe_newA]
    simp only [gAr, gNew, gNw_at]
  have R1 := gRep_new (s := (2, 0, 6)) hR (ez _ _) (va_P_fst (va_P_fst (va_P_fst (va_P_fst hP)))) (va_D_fst (va_D_fst (va_D_fst (va_D_fst hD))))
  have w1 := gWs_new (ca := G.2.1) (s := (2, 0, 6)) (q := r 0) hR.1.1 hR.1.2 hR.2.2.1
  rw [ez] at w1
  rw [← w1] at hP hD
  have R2 := gRep_new (s := (2, 0, 6)) (q := r 1) R1 (ez _ _) (va_P_fst (va_P_fst (va_P_fst hP))) (va_D_fst (va_D_fst (va_D_fst hD)))
  have w2 := gWs_new (ca := G.2.1) (s := (2, 0, 6)) (q := r 1) R1.1.1 R1.1.2 R1.2.2.1
  rw [ez] at w2
  rw [← w2] at hP hD
  have R3 := gRep_new (s := (2, 0, 6)) (q := r 2) R2 (ez _ _) (va_P_fst (va_P_fst hP)) (va_D_fst (va_D_fst hD))
  have w3 := gWs_new (ca := G.2.1) (s := (2, 0, 6)) (q := r 2) R2.1.1 R2.1.2 R2.2.2.1
  rw [ez] at w3
  rw [← w3] at hP hD
  have R4 := gRep_new (s := (2, 0, 6)) (q := r 3) R3 (ez _ _) (va_P_fst hP) (va_D_fst hD)
  have w4 := gWs_new (ca := G.2.1) (s := (2, 0, 6)) (q := r 3) R3.1.1 R3.1.2 R3.2.2.1
  rw [ez] at w4
  rw [← w4] at hP hD
  have hlen : (gNew (gNew (gNew (gNew h (2, 0, 6)) (2, 0, 6)) (2, 0, 6)) (2, 0, 6)).1.length = h.1.length + 4 := by
    show ((((h.1 ++ [_]) ++ [_]) ++ [_]) ++ [_]).length = _
    simp only [List.length_append, List.length_singleton]
  have R5 := gRep_newR (s := (2, 4, 4)) (q := q) (f := fun j => if j < 4 then some (h.1.length + j) else none) R4 (fun j z hz => by
    have hl9 := R4.1.1
    rw [hlen] at hl9
    split at hz
    · cases hz
      omega
    · cases hz) (by
      rw [gCe_arr (h := gNewR _ _ _) (t := 4) (n := 4) (by show (_ ++ [_])[_]? = _; simp)]
      simp only [gAr, gNewR, if_true]
      rw [← eo]) hP hD
  have hpre : ad <+: ad ++ [r 0] ++ [r 1] ++ [r 2] ++ [r 3] ++ [q] := by
    simp only [List.append_assoc]
    exact List.prefix_append _ _
  have hv : gV (ad ++ [r 0] ++ [r 1] ++ [r 2] ++ [r 3] ++ [q]) (.ref (h.1.length + 4)) = some (.ref q) := by
    apply gV_at
    have hl9 := hR.1.1
    simp only [List.append_assoc]
    rw [List.getElem?_append_right (by omega), show h.1.length + 4 - ad.length = 4 by omega]
    rfl
  have hk9 := k p l e R s m args below meth c QS mc ms ad0 C E _ ls (.ref q :: sk1) H1 locs (cells + 5) (slots + 28) (ha.trans hpre) (gLoc_up hpre hL) (gSk_in hv (gSk_up hpre hz1)) R5 hS1 (by omega) (by omega)
  exact hk9
end
section
/-! THE CLAIM OUT OF ONE WALK OF THE LAW'S BODY. Your part is whole_start (and what it stands on); all else here is the same for every law, but numbers. -/
def R_law : String := "InterleavedArchiveLaw"
def lw_P (b : Addr) (xs : List Int32) (args : Array Value) (s : State) : Prop := args = #[.ref b] ∧ s.IntsAt b xs ∧ xs.length ≤ 2048 ∧ (Jvm.Cond.and given_1 narrow_1).before args s = true
/-- what a walk over the start with the record d0 says of its end, said of the start itself -/
theorem lw_closed {s t : State} {o : Outcome} {d0 : Drawn} {L : List Loc} {k n : Nat} (hd0 : s.drawn.sameBut d0 lw_cs) (hv : ∃ v, o = .returned v) (hW : (s.setDrawn d0).WarmedH t.vm) (hs : (s.setDrawn d0).sameButNew ({ t with vm := s.vm } : State) L k n) : State.butDraws s t lw_cs (fun t1 => Framed s o t1 L k n) := by
  have h2 : t.drawn = d0 := congrArg State.drawn hs.1
  refine ⟨⟨hv, hW, State.sameButNew.setDrawn hs s.drawn⟩, ?_, by decide⟩
  rw [h2]
  exact hd0
def lw_Q (_ : Array Value) (s : State) (o : Outcome) (t : State) : Prop := o = .returned (some (.int 1)) ∧ State.butDraws s t lw_cs (fun t1 => Framed s o t1 [] 603072 7182441)
def lw_Z (below : List Frame) (a : Array Value) (s : State) : State → Prop := fun t => ∃ o, t.status = .running ∧ Ended t below o ∧ lw_Q a s o t
/-- the law's own end, with 1 on the stack, nothing written that was there before, its room as the claim has it; d0: the record of draws at this point (at the entry s.drawn: begin with 'refine W.base ?_' and 'have hd0 := Drawn.sameBut.refl s.drawn lw_cs') -/
theorem lw_ret {p : Program} {l : Launch} {e : Env} {s : State} {m : MethodId} {below : List Frame} {meth : Method} {c : Code} {b : Nat} {d0 : Drawn} (hd0 : s.drawn.sameBut d0 lw_cs) (hx : p.tables.exec = Jvm.exec) (hb : c.code = code) (hr : meth.sig.returnType = ret) (hlocks : meth.locks = false) {pc : Nat} {H : Heap} {ls : Array Slot} (hdg : decode code pc = .ok (.ireturn, 1)) : W p l e room_1 (s.setDrawn d0) m #[Value.ref b] below meth c H [] 603072 7182441 (lw_Z below #[Value.ref b] s) (F0 m pc ls [.int 1]) := by
  intro T hT X
  obtain ⟨fs, hret, hrun, hended, hW, hframe⟩ := X.leave (v := some (.int 1)) (hlocks := hlocks) (fun h => by rw [hr] at h; cases h)
  have hmeth' : T.vm.method? m = some meth := X.method'
  refine ⟨T.setFrames fs, ?_, .returned (some (.int 1)), hrun, hended, rfl, lw_closed hd0 ⟨_, rfl⟩ hW hframe⟩
  jvm_step X.here [X.here.top, hx, hb, hdg, hmeth', hr, ret, narrow_b1]
  (try refine ⟨rfl, ?_⟩); (try refine ⟨rfl, ?_⟩)
  first | (intro acts; rw [hret _ acts rfl rfl rfl]) | rw [hret _ _ rfl rfl rfl]
  exact Steps.refl _
/-- what holds at the law's entry: the machine, the code, the tables' words (any of lw_tbl by 'hts w (by decide +kernel)'), the script of L ints xs at the cell b, what the Statement gives of the start (any of its parts by flat_of_before) -/
def lw_At (p : Program) (s : State) (m : MethodId) (meth : Method) (c : Code) (b L : Nat) (xs : Nat → Int32) : Prop :=
  p.tables.exec = Jvm.exec ∧ c.code = code ∧ meth.sig.returnType = ret ∧ c.maxLocals = 9 ∧ s.vm.findClass R_law = some m.cls ∧ (∀ w ∈ lw_tbl, w.before #[Value.ref b] s = true) ∧ va_X b L xs s s.heap ∧ b < s.heap.size ∧ meth.locks = false ∧ (Jvm.Cond.and given_1 narrow_1).before #[Value.ref b] s = true
/-! ===== from the law's walk over numbered cells to whole_start ===== -/
def gPow (j : Nat) : Int32 := ([1, 2, 4, 8, 3, 6, 12, 11, 5, 10, 7, 14, 15, 13, 9] : List Int32).getD j 0
def gLog (j : Nat) : Int32 := ([0, 0, 1, 4, 2, 8, 5, 10, 3, 14, 9, 7, 6, 13, 11, 12] : List Int32).getD j 0
def gYlaw : gY := (gLaw, code, 9, ret, [])
/-- the heap at the law's entry: the script, the two constant rows -/
def gH0 (n : Nat) (xs : Nat → Int32) : gH := ([(0, 0, n), (0, 0, 15), (0, 0, 16)], fun _ _ => none, fun k => if k = 0 then xs else if k = 1 then gPow else if k = 2 then gLog else fun _ => 0, fun _ _ => 0, fun _ _ => 0)
theorem gSt_str : ∀ q ∈ gStr, Cond.stringRef RX2 q.1 q.2 ∈ lw_tbl := by decide +kernel
theorem gSt_exa : ∀ q ∈ gStr, Cond.exactly (Term.string RX2 q.1) "java/lang/String" ∈ flatC (Jvm.Cond.and given_1 narrow_1) := by decide +kernel
theorem gSt_nc : ∀ q ∈ gNc, Cond.not (Cond.castable q.1 q.2) ∈ flatC (Jvm.Cond.and given_1 narrow_1) := by decide +kernel
theorem gSt_pow : ∀ j, j < 15 → Cond.eq (.elem (.static RX2 "POWERS" "[I") (.int (Int32.ofNat j))) (.int (gPow j)) ∈ flatC (Jvm.Cond.and given_1 narrow_1) := by decide +kernel
theorem gSt_log : ∀ j, j < 16 → Cond.eq (.elem (.static RX2 "LOGARITHMS" "[I") (.int (Int32.ofNat j))) (.int (gLog j)) ∈ flatC (Jvm.Cond.and given_1 narrow_1) := by decide +kernel
theorem gSt_rest : (Cond.arrayOf (.static RX2 "POWERS" "[I") .int ∈ flatC (Jvm.Cond.and given_1 narrow_1) ∧ Cond.eq (.length (.static RX2 "POWERS" "[I")) (.int (Int32.ofNat 15)) ∈ flatC (Jvm.Cond.and given_1 narrow_1)) ∧ (Cond.arrayOf (.static RX2 "LOGARITHMS" "[I") .int ∈ flatC (Jvm.Cond.and given_1 narrow_1) ∧ Cond.eq (.length (.static RX2 "LOGARITHMS" "[I")) (.int (Int32.ofNat 16)) ∈ flatC (Jvm.Cond.and given_1 narrow_1)) ∧
  Cond.isRef (.static Bundle.tN "UNASSIGNED_STACK" Bundle.steD) ∈ flatC (Jvm.Cond.and given_1 narrow_1) ∧ Cond.isRef (.static Bundle.tN "SUPPRESSED_SENTINEL" Bundle.listD) ∈ flatC (Jvm.Cond.and given_1 narrow_1) := by decide +kernel
theorem gSt_words : (Cond.laysStatic RX2 "POWERS" "[I" ∈ lw_tbl ∧ Cond.laysStatic RX2 "LOGARITHMS" "[I" ∈ lw_tbl) ∧ (Cond.initialized RX2 ∈ lw_tbl ∧ Cond.initialized Bundle.tN ∈ lw_tbl) ∧ (Cond.laysStatic Bundle.tN "UNASSIGNED_STACK" Bundle.steD ∈ lw_tbl ∧ Cond.laysStatic Bundle.tN "SUPPRESSED_SENTINEL" Bundle.listD ∈ lw_tbl) ∧ (Cond.arrayOver (.object RX1) ∈ lw_tbl ∧ Cond.arrayOver (.array .int) ∈ lw_tbl) ∧
  (Cond.instantiable RX0 9 ∈ lw_tbl ∧ Cond.instantiable RX1 12 ∈ lw_tbl ∧ Cond.instantiable RX2 13 ∈ lw_tbl ∧ Cond.instantiable RX3 31 ∈ lw_tbl) ∧ (Cond.arrayClass .int ∈ lw_tbl ∧ Cond.arrayClass .char ∈ lw_tbl ∧ Cond.arrayClass .long ∈ lw_tbl ∧ Cond.arrayClass .double ∈ lw_tbl) := by decide +kernel
theorem gW_sub {w : Cond} (h : w ∈ gW) : w ∈ lw_tbl := (List.mem_filter.mp h).1
/-- an array class that the tables name -/
theorem gArrP {s : State} {ty : FieldType} (h : (Cond.arrayClass ty).before #[] s = true) (hty : ∀ C, ty ≠ .object C) : ∃ cA, ArrOfT s cA ty ∧ va_RA s cA ty := by
  obtain ⟨c, k, comp, h1, h2, h3⟩ := Cond.arrayClass_spec h
  refine ⟨c, fun n z => ⟨fun k h => (by cases h), k, h2, comp, h3⟩, ?_⟩
  cases ty with
  | object C => exact absurd rfl (hty C)
  | _ => exact h1
theorem gArrS {s : State} (h : va_AO RX1 s) : ∃ cA, ArrOfT s cA (.object RX1) ∧ va_RA s cA (.object RX1) := by
  obtain ⟨comp, c, k, h1, h2, h3, h4, h5⟩ := Cond.arrayOver_spec h
  exact ⟨c, fun n z => ⟨fun k h => (by cases h), k, h3, comp, h4⟩, k, comp, h3, h4, h1, h5⟩
theorem gArrA {s : State} (h : va_AOA .int s) : ∃ cA, ArrOfT s cA (.array .int) ∧ va_RA s cA (.array .int) := by
  obtain ⟨comp, c, k, h1, h2, h3, h4, h5⟩ := va_AOA.spec h
  exact ⟨c, fun n z => ⟨fun k h => (by cases h), k, h3, comp, h4⟩, h5⟩
set_option maxHeartbeats 4000000 in
theorem gStart {p : Program} {e : Env} {s : State} {m : MethodId} {below : List Frame} {meth : Method} {c : Code} (l : Launch) (hflags : l.flags = flags0) {b L : Nat} {xs : Nat → Int32} (hL : L ≤ 2048) (C0 : lw_At p s m meth c b L xs)
    (hgo : ∀ G : gG, gGo G gYlaw 40 0 (gIn 9 [.ref 0]) [] (gH0 L xs) 603072 7182441 (fun o _ => o = .inl (some (.int 1)))) : W p l e room_1 s m #[Value.ref b] below meth c s.heap [] 0 0 (lw_Z below #[Value.ref b] s) (entryFrame m ([Value.ref b] : List Value).toArray 9) := by
  obtain ⟨hx, hb, hr, hml, hown, hts, hX, hbl, hlocks, hgv⟩ := id C0
  have hfl := flat_of_before _ hgv
  have hA : ∀ a : Nat, a < s.heap.size → ¬ (fun q : Nat => s.heap.size ≤ q) a := fun a h => Nat.not_le.mpr h
  obtain ⟨⟨q1, q2⟩, ⟨q3, q4⟩, q5, q6⟩ := gSt_rest
  obtain ⟨⟨w1, w2⟩, ⟨w3, w4⟩, ⟨w5, w6⟩, ⟨w7, w8⟩, ⟨w9, w10, w11, w12⟩, w13, w14, w15, w16⟩ := gSt_words
  obtain ⟨b1, hb1, hT1⟩ := va_Tof (N := 15) (f := fun j => .int (gPow j)) (by decide) (hfl _ q1) (va_eqt (hfl _ q2)) (fun j hj => va_eqt (hfl _ (gSt_pow j hj))) hA
  obtain ⟨b2, hb2, hT2⟩ := va_Tof (N := 16) (f := fun j => .int (gLog j)) (by decide) (hfl _ q3) (va_eqt (hfl _ q4)) (fun j hj => va_eqt (hfl _ (gSt_log j hj))) hA
  have hT0 : va_T .int b L (fun j => .int (xs j)) (fun q : Nat => s.heap.size ≤ q) s s.heap := by
    obtain ⟨scr, h1, h2, h3, h4, h5⟩ := hX
    exact ⟨scr, h1, h2, h3, Nat.le_of_eq h4.symm, congrArg Nat.toInt32 h4, h5, hA b hbl⟩
  have tl : ∀ {w : Cond}, w ∈ lw_tbl → w.before #[] s = w.before #[Value.ref b] s → w.before #[] s = true := fun h e9 => e9.trans (hts _ h)
  obtain ⟨c0, iS0, hKn0⟩ := u_known (C := RX0) (T := TX0) (N := 9) (n := 9) hts (fun w hw => gW_sub (gLays0 w hw)) (hts _ w9)
  obtain ⟨c1, iS1, hKn1⟩ := u_known (C := RX1) (T := TX1) (N := 12) (n := 12) hts (fun w hw => gW_sub (gLays1 w hw)) (hts _ w10)
  obtain ⟨c2, iS2, hKn2⟩ := u_known (C := RX2) (T := TX2) (N := 13) (n := 13) hts (fun w hw => gW_sub (gLays2 w hw)) (hts _ w11)
  obtain ⟨c3, iS3, hKn3⟩ := u_known (C := RX3) (T := TX3) (N := 31) (n := 31) hts (fun w hw => gW_sub (gLays3 w hw)) (hts _ w12)
  obtain ⟨a0, t0⟩ := gArrP (ty := .int) (hts _ w13) (fun C h => by cases h)
  obtain ⟨a1, t1⟩ := gArrP (ty := .char) (hts _ w14) (fun C h => by cases h)
  obtain ⟨a2, t2⟩ := gArrP (ty := .long) (hts _ w15) (fun C h => by cases h)
  obtain ⟨a3, t3⟩ := gArrP (ty := .double) (hts _ w16) (fun C h => by cases h)
  have hAO : va_AO RX1 s := va_AO.of (hts _ w7)
  have hAOA : va_AOA .int s := va_AOA.of (hts _ w8)
  obtain ⟨a4, t4⟩ := gArrA hAOA
  obtain ⟨a5, t5⟩ := gArrS hAO
  have hG : ∃ G : gG, gGlob G s s.heap ∧ G.2.2.1 = s.heap.size ∧ G.2.2.2.1 0 = b ∧ G.2.2.2.1 1 = b1 ∧ G.2.2.2.1 2 = b2 ∧ (∀ j, j < 3 → (gH0 L xs).1[j]? = some (0, 0, G.2.2.2.2.1 j) ∧ (gH0 L xs).2.2.1 j = G.2.2.2.2.2 j) := by
    refine ⟨((fun k => if k = 0 then c0 else if k = 1 then c1 else if k = 2 then c2 else c3, fun k => if k = 0 then iS0 else if k = 1 then iS1 else if k = 2 then iS2 else iS3), (fun k => if k = 0 then a0 else if k = 1 then a1 else if k = 2 then a2 else if k = 3 then a3 else if k = 4 then a4 else a5), s.heap.size, (fun j => if j = 0 then b else if j = 1 then b1 else b2), (fun j => if j = 0 then L else if j = 1 then 15 else 16), (gH0 L xs).2.2.1), ⟨Nat.le_refl _, ⟨?_, ?_⟩, ?_, ⟨va_Zof (hts _ w1) (hts _ w3) hb1 hA, va_Zof (hts _ w2) (hts _ w3) hb2 hA⟩, ⟨vx_Zqof (hts _ w5) (hts _ w4) (hfl _ q5) hA, vx_Zqof (hts _ w6) (hts _ w4) (hfl _ q6) hA⟩, ?_, ?_, hAO, hAOA⟩, rfl, rfl, rfl, rfl, ?_⟩
    · intro k q hq
      match k, hq with
      | 0, hq => cases hq; exact hKn0
      | 1, hq => cases hq; exact hKn1
      | 2, hq => cases hq; exact hKn2
      | 3, hq => cases hq; exact hKn3
      | k + 4, hq => simp [gK] at hq
    · intro k q hq
      match k, hq with
      | 0, hq => cases hq; exact t0
      | 1, hq => cases hq; exact t1
      | 2, hq => cases hq; exact t2
      | 3, hq => cases hq; exact t3
      | 4, hq => cases hq; exact t4
      | 5, hq => cases hq; exact t5
      | k + 6, hq => simp [gTs] at hq
    · intro j hj
      match j, hj with
      | 0, _ => exact hT0
      | 1, _ => exact hT1
      | 2, _ => exact hT2
    · intro q hq
      obtain ⟨a, c9, cA, kA, e1, -⟩ := Cond.exactly_spec (args := #[Value.ref b]) (first := s) (o := none) (s := s) (idx := []) (hfl _ (gSt_exa q hq))
      exact ⟨a, vk_R.of (hts _ (gSt_str q hq)) e1⟩
    · intro q hq
      exact va_Nc.of (hfl _ (gSt_nc q hq))
    · intro j hj
      match j, hj with
      | 0, _ => exact ⟨rfl, rfl⟩
      | 1, _ => exact ⟨rfl, rfl⟩
      | 2, _ => exact ⟨rfl, rfl⟩
  obtain ⟨G, hG, hB, e0, e1, e2, eh⟩ := hG
  have hl : l.stackTraces = false := by
    unfold Launch.stackTraces
    rw [hflags]
    decide
  have C : gCtx G gYlaw 40 p l room_1 s m #[Value.ref b] meth c 603072 7182441 :=
    ⟨hx, hb, hml, hown, fun w hw => hts w (gW_sub hw), hG, hlocks, hr, hl, fun h => absurd rfl h, fun h => absurd rfl h, ⟨by decide, by decide⟩, Nat.le_refl _, Nat.le_refl _⟩
  have E : gEnd G gYlaw p l e room_1 s m #[Value.ref b] below meth c 603072 7182441 [b, b1, b2] (lw_Z below #[Value.ref b] s) (fun o _ => o = .inl (some (.int 1))) := by
    intro ad h H locs cells slots ls pc hp hR hV hz
    refine ⟨fun v hc hk hq hret => ?_, fun X hc hk hq ht => by cases hq⟩
    cases hq
    refine W.widen hc hk (va_forget (fun q hq => by rw [← hB]; exact hV.2.2 q hq) ?_)
    exact lw_ret (d0 := s.drawn) (Drawn.sameBut.refl s.drawn lw_cs) hx hb hr hlocks hret.1
  have hR : gRep G [b, b1, b2] (gH0 L xs) s.heap := by
    refine ⟨⟨rfl, Nat.le_refl _⟩, fun j hj => ⟨?_, (eh j hj).1, (eh j hj).2⟩, (fun k j r hr => by cases hr), (fun k q hq => by simp [gWs, gH0] at hq), (fun i j p q hi => by simp [gWs, gH0] at hi), (fun k q hq => by simp [gWs, gH0] at hq)⟩
    match j, hj with
    | 0, _ => rw [e0]; rfl
    | 1, _ => rw [e1]; rfl
    | 2, _ => rw [e2]; rfl
  rw [lg_entry_eq]
  exact hgo G p l e room_1 s m #[Value.ref b] below meth c _ 603072 7182441 [b, b1, b2] C E [b, b1, b2] _ [] s.heap [] 0 0 (List.prefix_refl _) (gLoc_in (av := [.ref 0]) (aw := [.ref b]) rfl (fun v hv => by rw [List.mem_singleton.mp hv]; rfl) (by decide)) rfl hR va_S.rf (by decide) (by decide)
end
section
/-! ===== the methods, their words, the constants of the classes: printed by program out of the tables ===== -/
theorem gIn0 {w : Cond} (h : w ∈ k2_sels lw_privs) : w ∈ lw_tbl := List.mem_append_left _ h
theorem gInT {w : Cond} (h : w ∈ tables_1) : w ∈ lw_tbl := List.mem_append_right _ h
theorem gIn1 {w : Cond} (h : w ∈ tables_1_1) : w ∈ lw_tbl := gInT (List.mem_append_left _ h)
theorem gIn2 {w : Cond} (h : w ∈ tables_1_2) : w ∈ lw_tbl := gInT (List.mem_append_right _ (List.mem_append_left _ h))
theorem gIn3 {w : Cond} (h : w ∈ tables_1_3) : w ∈ lw_tbl := gInT (List.mem_append_right _ (List.mem_append_right _ (List.mem_append_left _ h)))
theorem gIn4 {w : Cond} (h : w ∈ tables_1_4) : w ∈ lw_tbl := gInT (List.mem_append_right _ (List.mem_append_right _ (List.mem_append_right _ (List.mem_append_left _ h))))
theorem gIn5 {w : Cond} (h : w ∈ tables_1_5) : w ∈ lw_tbl := gInT (List.mem_append_right _ (List.mem_append_right _ (List.mem_append_right _ (List.mem_append_right _ (List.mem_append_left _ h)))))
theorem gIn6 {w : Cond} (h : w ∈ tables_1_6) : w ∈ lw_tbl := gInT (List.mem_append_right _ (List.mem_append_right _ (List.mem_append_right _ (List.mem_append_right _ (List.mem_append_right _ (h))))))
def YX0_init : gY := (yX0_init, cX0_init, 1, none, [])
theorem mt_X0_init : gMt YX0_init := ⟨gW_in (gIn1 (List.mem_of_getElem? (i := 91) rfl)) rfl, gW_in (gIn1 (List.mem_of_getElem? (i := 3) (by decide +kernel))) rfl, by decide +kernel, by decide +kernel, by decide +kernel, rfl⟩
theorem im_X0_init : Cond.instanceMethod YX0_init.1 ∈ gW := gW_in (gIn1 (List.mem_of_getElem? (i := 90) (by decide +kernel))) rfl
theorem np_X0_init : gNp YX0_init.1 = some 0 := by decide +kernel
def YX0_clearBlock : gY := (yX0_clearBlock, cX0_clearBlock, 3, none, [])
theorem mt_X0_clearBlock : gMt YX0_clearBlock := ⟨gW_in (gIn2 (List.mem_of_getElem? (i := 12) rfl)) rfl, gW_in (gIn1 (List.mem_of_getElem? (i := 3) (by decide +kernel))) rfl, by decide +kernel, by decide +kernel, by decide +kernel, rfl⟩
theorem im_X0_clearBlock : Cond.instanceMethod YX0_clearBlock.1 ∈ gW := gW_in (gIn2 (List.mem_of_getElem? (i := 11) (by decide +kernel))) rfl
theorem se_X0_clearBlock : Cond.selects (gRx 0) YX0_clearBlock.1 YX0_clearBlock.1 ∈ gW := gW_in (gIn0 (List.mem_of_getElem? (i := 14) (by decide +kernel))) rfl
theorem np_X0_clearBlock : gNp YX0_clearBlock.1 = some 1 := by decide +kernel
def YX0_load : gY := (yX0_load, cX0_load, 6, none, [])
theorem mt_X0_load : gMt YX0_load := ⟨gW_in (gIn2 (List.mem_of_getElem? (i := 8) rfl)) rfl, gW_in (gIn1 (List.mem_of_getElem? (i := 3) (by decide +kernel))) rfl, by decide +kernel, by decide +kernel, by decide +kernel, rfl⟩
theorem im_X0_load : Cond.instanceMethod YX0_load.1 ∈ gW := gW_in (gIn2 (List.mem_of_getElem? (i := 7) (by decide +kernel))) rfl
theorem se_X0_load : Cond.selects (gRx 0) YX0_load.1 YX0_load.1 ∈ gW := gW_in (gIn0 (List.mem_of_getElem? (i := 13) (by decide +kernel))) rfl
theorem np_X0_load : gNp YX0_load.1 = some 3 := by decide +kernel
def YX0_decode : gY := (yX0_decode, cX0_decode, 7, some .boolean, [])
theorem mt_X0_decode : gMt YX0_decode := ⟨gW_in (gIn2 (List.mem_of_getElem? (i := 4) rfl)) rfl, gW_in (gIn1 (List.mem_of_getElem? (i := 3) (by decide +kernel))) rfl, by decide +kernel, by decide +kernel, by decide +kernel, rfl⟩
theorem im_X0_decode : Cond.instanceMethod YX0_decode.1 ∈ gW := gW_in (gIn2 (List.mem_of_getElem? (i := 3) (by decide +kernel))) rfl
theorem se_X0_decode : Cond.selects (gRx 0) YX0_decode.1 YX0_decode.1 ∈ gW := gW_in (gIn0 (List.mem_of_getElem? (i := 12) (by decide +kernel))) rfl
theorem np_X0_decode : gNp YX0_decode.1 = some 3 := by decide +kernel
def YX0_encode : gY := (yX0_encode, cX0_encode, 1, none, [])
theorem mt_X0_encode : gMt YX0_encode := ⟨gW_in (gIn2 (List.mem_of_getElem? (i := 238) rfl)) rfl, gW_in (gIn1 (List.mem_of_getElem? (i := 3) (by decide +kernel))) rfl, by decide +kernel, by decide +kernel, by decide +kernel, rfl⟩
theorem im_X0_encode : Cond.instanceMethod YX0_encode.1 ∈ gW := gW_in (gIn2 (List.mem_of_getElem? (i := 237) (by decide +kernel))) rfl
theorem se_X0_encode : Cond.selects (gRx 0) YX0_encode.1 YX0_encode.1 ∈ gW := gW_in (gIn0 (List.mem_of_getElem? (i := 30) (by decide +kernel))) rfl
theorem np_X0_encode : gNp YX0_encode.1 = some 0 := by decide +kernel
def YX0_damageCount : gY := (yX0_damageCount, cX0_damageCount, 1, some .int, [])
theorem mt_X0_damageCount : gMt YX0_damageCount := ⟨gW_in (gIn2 (List.mem_of_getElem? (i := 74) rfl)) rfl, gW_in (gIn1 (List.mem_of_getElem? (i := 3) (by decide +kernel))) rfl, by decide +kernel, by decide +kernel, by decide +kernel, rfl⟩
theorem im_X0_damageCount : Cond.instanceMethod YX0_damageCount.1 ∈ gW := gW_in (gIn2 (List.mem_of_getElem? (i := 73) (by decide +kernel))) rfl
theorem se_X0_damageCount : Cond.selects (gRx 0) YX0_damageCount.1 YX0_damageCount.1 ∈ gW := gW_in (gIn0 (List.mem_of_getElem? (i := 21) (by decide +kernel))) rfl
theorem np_X0_damageCount : gNp YX0_damageCount.1 = some 0 := by decide +kernel
def YX0_addSums : gY := (yX0_addSums, cX0_addSums, 4, none, [])
theorem mt_X0_addSums : gMt YX0_addSums := ⟨gW_in (gIn2 (List.mem_of_getElem? (i := 29) rfl)) rfl, gW_in (gIn1 (List.mem_of_getElem? (i := 3) (by decide +kernel))) rfl, by decide +kernel, by decide +kernel, by decide +kernel, rfl⟩
theorem im_X0_addSums : Cond.instanceMethod YX0_addSums.1 ∈ gW := gW_in (gIn2 (List.mem_of_getElem? (i := 28) (by decide +kernel))) rfl
theorem se_X0_addSums : Cond.selects (gRx 0) YX0_addSums.1 YX0_addSums.1 ∈ gW := gW_in (gIn0 (List.mem_of_getElem? (i := 17) (by decide +kernel))) rfl
theorem np_X0_addSums : gNp YX0_addSums.1 = some 0 := by decide +kernel
def YX0_errorSet : gY := (yX0_errorSet, cX0_errorSet, 9, some .int, [])
theorem mt_X0_errorSet : gMt YX0_errorSet := ⟨gW_in (gIn2 (List.mem_of_getElem? (i := 56) rfl)) rfl, gW_in (gIn1 (List.mem_of_getElem? (i := 3) (by decide +kernel))) rfl, by decide +kernel, by decide +kernel, by decide +kernel, rfl⟩
theorem sf_X0_errorSet : Cond.static YX0_errorSet.1 ∈ gW := gW_in (gIn2 (List.mem_of_getElem? (i := 55) (by decide +kernel))) rfl
theorem np_X0_errorSet : gNp YX0_errorSet.1 = some 7 := by decide +kernel
def YX0_isZero : gY := (yX0_isZero, cX0_isZero, 3, some .boolean, [])
theorem mt_X0_isZero : gMt YX0_isZero := ⟨gW_in (gIn2 (List.mem_of_getElem? (i := 59) rfl)) rfl, gW_in (gIn1 (List.mem_of_getElem? (i := 3) (by decide +kernel))) rfl, by decide +kernel, by decide +kernel, by decide +kernel, rfl⟩
theorem sf_X0_isZero : Cond.static YX0_isZero.1 ∈ gW := gW_in (gIn2 (List.mem_of_getElem? (i := 58) (by decide +kernel))) rfl
theorem np_X0_isZero : gNp YX0_isZero.1 = some 2 := by decide +kernel
def YX0_cancel : gY := (yX0_cancel, cX0_cancel, 5, none, [])
theorem mt_X0_cancel : gMt YX0_cancel := ⟨gW_in (gIn2 (List.mem_of_getElem? (i := 53) rfl)) rfl, gW_in (gIn1 (List.mem_of_getElem? (i := 3) (by decide +kernel))) rfl, by decide +kernel, by decide +kernel, by decide +kernel, rfl⟩
theorem sf_X0_cancel : Cond.static YX0_cancel.1 ∈ gW := gW_in (gIn2 (List.mem_of_getElem? (i := 52) (by decide +kernel))) rfl
theorem np_X0_cancel : gNp YX0_cancel.1 = some 4 := by decide +kernel
def YX0_cancelErasures : gY := (yX0_cancelErasures, cX0_cancelErasures, 3, none, [])
theorem mt_X0_cancelErasures : gMt YX0_cancelErasures := ⟨gW_in (gIn2 (List.mem_of_getElem? (i := 47) rfl)) rfl, gW_in (gIn1 (List.mem_of_getElem? (i := 3) (by decide +kernel))) rfl, by decide +kernel, by decide +kernel, by decide +kernel, rfl⟩
theorem im_X0_cancelErasures : Cond.instanceMethod YX0_cancelErasures.1 ∈ gW := gW_in (gIn2 (List.mem_of_getElem? (i := 46) (by decide +kernel))) rfl
theorem se_X0_cancelErasures : Cond.selects (gRx 0) YX0_cancelErasures.1 YX0_cancelErasures.1 ∈ gW := gW_in (gIn0 (List.mem_of_getElem? (i := 18) (by decide +kernel))) rfl
theorem np_X0_cancelErasures : gNp YX0_cancelErasures.1 = some 0 := by decide +kernel
def YX0_solve : gY := (yX0_solve, cX0_solve, 3, none, [])
theorem mt_X0_solve : gMt YX0_solve := ⟨gW_in (gIn2 (List.mem_of_getElem? (i := 63) rfl)) rfl, gW_in (gIn1 (List.mem_of_getElem? (i := 3) (by decide +kernel))) rfl, by decide +kernel, by decide +kernel, by decide +kernel, rfl⟩
theorem im_X0_solve : Cond.instanceMethod YX0_solve.1 ∈ gW := gW_in (gIn2 (List.mem_of_getElem? (i := 62) (by decide +kernel))) rfl
theorem se_X0_solve : Cond.selects (gRx 0) YX0_solve.1 YX0_solve.1 ∈ gW := gW_in (gIn0 (List.mem_of_getElem? (i := 19) (by decide +kernel))) rfl
theorem np_X0_solve : gNp YX0_solve.1 = some 1 := by decide +kernel
def YX0_difference : gY := (yX0_difference, cX0_difference, 6, some .int, [])
theorem mt_X0_difference : gMt YX0_difference := ⟨gW_in (gIn2 (List.mem_of_getElem? (i := 67) rfl)) rfl, gW_in (gIn1 (List.mem_of_getElem? (i := 3) (by decide +kernel))) rfl, by decide +kernel, by decide +kernel, by decide +kernel, rfl⟩
theorem im_X0_difference : Cond.instanceMethod YX0_difference.1 ∈ gW := gW_in (gIn2 (List.mem_of_getElem? (i := 66) (by decide +kernel))) rfl
theorem se_X0_difference : Cond.selects (gRx 0) YX0_difference.1 YX0_difference.1 ∈ gW := gW_in (gIn0 (List.mem_of_getElem? (i := 20) (by decide +kernel))) rfl
theorem np_X0_difference : gNp YX0_difference.1 = some 2 := by decide +kernel
def YX1_init : gY := (yX1_init, cX1_init, 1, none, [])
theorem mt_X1_init : gMt YX1_init := ⟨gW_in (gIn1 (List.mem_of_getElem? (i := 31) rfl)) rfl, gW_in (gIn1 (List.mem_of_getElem? (i := 2) (by decide +kernel))) rfl, by decide +kernel, by decide +kernel, by decide +kernel, rfl⟩
theorem im_X1_init : Cond.instanceMethod YX1_init.1 ∈ gW := gW_in (gIn1 (List.mem_of_getElem? (i := 30) (by decide +kernel))) rfl
theorem np_X1_init : gNp YX1_init.1 = some 0 := by decide +kernel
def YX1_takeOver : gY := (yX1_takeOver, cX1_takeOver, 2, none, [])
theorem mt_X1_takeOver : gMt YX1_takeOver := ⟨gW_in (gIn2 (List.mem_of_getElem? (i := 86) rfl)) rfl, gW_in (gIn1 (List.mem_of_getElem? (i := 2) (by decide +kernel))) rfl, by decide +kernel, by decide +kernel, by decide +kernel, rfl⟩
theorem im_X1_takeOver : Cond.instanceMethod YX1_takeOver.1 ∈ gW := gW_in (gIn2 (List.mem_of_getElem? (i := 85) (by decide +kernel))) rfl
theorem se_X1_takeOver : Cond.selects (gRx 1) YX1_takeOver.1 YX1_takeOver.1 ∈ gW := gW_in (gIn0 (List.mem_of_getElem? (i := 22) (by decide +kernel))) rfl
theorem np_X1_takeOver : gNp YX1_takeOver.1 = some 1 := by decide +kernel
def YX1_reset : gY := (yX1_reset, cX1_reset, 2, none, [])
theorem mt_X1_reset : gMt YX1_reset := ⟨gW_in (gIn1 (List.mem_of_getElem? (i := 184) rfl)) rfl, gW_in (gIn1 (List.mem_of_getElem? (i := 2) (by decide +kernel))) rfl, by decide +kernel, by decide +kernel, by decide +kernel, rfl⟩
theorem im_X1_reset : Cond.instanceMethod YX1_reset.1 ∈ gW := gW_in (gIn1 (List.mem_of_getElem? (i := 183) (by decide +kernel))) rfl
theorem se_X1_reset : Cond.selects (gRx 1) YX1_reset.1 YX1_reset.1 ∈ gW := gW_in (gIn0 (List.mem_of_getElem? (i := 2) (by decide +kernel))) rfl
theorem np_X1_reset : gNp YX1_reset.1 = some 0 := by decide +kernel
def YX1_hasFile : gY := (yX1_hasFile, cX1_hasFile, 2, some .boolean, [])
theorem mt_X1_hasFile : gMt YX1_hasFile := ⟨gW_in (gIn1 (List.mem_of_getElem? (i := 180) rfl)) rfl, gW_in (gIn1 (List.mem_of_getElem? (i := 2) (by decide +kernel))) rfl, by decide +kernel, by decide +kernel, by decide +kernel, rfl⟩
theorem im_X1_hasFile : Cond.instanceMethod YX1_hasFile.1 ∈ gW := gW_in (gIn1 (List.mem_of_getElem? (i := 179) (by decide +kernel))) rfl
theorem se_X1_hasFile : Cond.selects (gRx 1) YX1_hasFile.1 YX1_hasFile.1 ∈ gW := gW_in (gIn0 (List.mem_of_getElem? (i := 1) (by decide +kernel))) rfl
theorem np_X1_hasFile : gNp YX1_hasFile.1 = some 1 := by decide +kernel
def YX1_hasBlock : gY := (yX1_hasBlock, cX1_hasBlock, 3, some .boolean, [])
theorem mt_X1_hasBlock : gMt YX1_hasBlock := ⟨gW_in (gIn3 (List.mem_of_getElem? (i := 105) rfl)) rfl, gW_in (gIn1 (List.mem_of_getElem? (i := 2) (by decide +kernel))) rfl, by decide +kernel, by decide +kernel, by decide +kernel, rfl⟩
theorem im_X1_hasBlock : Cond.instanceMethod YX1_hasBlock.1 ∈ gW := gW_in (gIn3 (List.mem_of_getElem? (i := 104) (by decide +kernel))) rfl
theorem se_X1_hasBlock : Cond.selects (gRx 1) YX1_hasBlock.1 YX1_hasBlock.1 ∈ gW := gW_in (gIn0 (List.mem_of_getElem? (i := 35) (by decide +kernel))) rfl
theorem np_X1_hasBlock : gNp YX1_hasBlock.1 = some 2 := by decide +kernel
def YX1_hasPosition : gY := (yX1_hasPosition, cX1_hasPosition, 4, some .boolean, [])
theorem mt_X1_hasPosition : gMt YX1_hasPosition := ⟨gW_in (gIn3 (List.mem_of_getElem? (i := 101) rfl)) rfl, gW_in (gIn1 (List.mem_of_getElem? (i := 2) (by decide +kernel))) rfl, by decide +kernel, by decide +kernel, by decide +kernel, rfl⟩
theorem im_X1_hasPosition : Cond.instanceMethod YX1_hasPosition.1 ∈ gW := gW_in (gIn3 (List.mem_of_getElem? (i := 100) (by decide +kernel))) rfl
theorem se_X1_hasPosition : Cond.selects (gRx 1) YX1_hasPosition.1 YX1_hasPosition.1 ∈ gW := gW_in (gIn0 (List.mem_of_getElem? (i := 34) (by decide +kernel))) rfl
theorem np_X1_hasPosition : gNp YX1_hasPosition.1 = some 3 := by decide +kernel
def YX1_fileCount : gY := (yX1_fileCount, cX1_fileCount, 3, some .int, [])
theorem mt_X1_fileCount : gMt YX1_fileCount := ⟨gW_in (gIn1 (List.mem_of_getElem? (i := 176) rfl)) rfl, gW_in (gIn1 (List.mem_of_getElem? (i := 2) (by decide +kernel))) rfl, by decide +kernel, by decide +kernel, by decide +kernel, rfl⟩
theorem im_X1_fileCount : Cond.instanceMethod YX1_fileCount.1 ∈ gW := gW_in (gIn1 (List.mem_of_getElem? (i := 175) (by decide +kernel))) rfl
theorem se_X1_fileCount : Cond.selects (gRx 1) YX1_fileCount.1 YX1_fileCount.1 ∈ gW := gW_in (gIn0 (List.mem_of_getElem? (i := 0) (by decide +kernel))) rfl
theorem np_X1_fileCount : gNp YX1_fileCount.1 = some 0 := by decide +kernel
def YX1_freeFile : gY := (yX1_freeFile, cX1_freeFile, 2, some .int, [])
theorem mt_X1_freeFile : gMt YX1_freeFile := ⟨gW_in (gIn2 (List.mem_of_getElem? (i := 205) rfl)) rfl, gW_in (gIn1 (List.mem_of_getElem? (i := 2) (by decide +kernel))) rfl, by decide +kernel, by decide +kernel, by decide +kernel, rfl⟩
theorem im_X1_freeFile : Cond.instanceMethod YX1_freeFile.1 ∈ gW := gW_in (gIn2 (List.mem_of_getElem? (i := 204) (by decide +kernel))) rfl
theorem se_X1_freeFile : Cond.selects (gRx 1) YX1_freeFile.1 YX1_freeFile.1 ∈ gW := gW_in (gIn0 (List.mem_of_getElem? (i := 24) (by decide +kernel))) rfl
theorem np_X1_freeFile : gNp YX1_freeFile.1 = some 0 := by decide +kernel
def YX1_enter : gY := (yX1_enter, cX1_enter, 7, none, [])
theorem mt_X1_enter : gMt YX1_enter := ⟨gW_in (gIn2 (List.mem_of_getElem? (i := 221) rfl)) rfl, gW_in (gIn1 (List.mem_of_getElem? (i := 2) (by decide +kernel))) rfl, by decide +kernel, by decide +kernel, by decide +kernel, rfl⟩
theorem im_X1_enter : Cond.instanceMethod YX1_enter.1 ∈ gW := gW_in (gIn2 (List.mem_of_getElem? (i := 220) (by decide +kernel))) rfl
theorem se_X1_enter : Cond.selects (gRx 1) YX1_enter.1 YX1_enter.1 ∈ gW := gW_in (gIn0 (List.mem_of_getElem? (i := 27) (by decide +kernel))) rfl
theorem np_X1_enter : gNp YX1_enter.1 = some 5 := by decide +kernel
def YX1_drop : gY := (yX1_drop, cX1_drop, 2, none, [])
theorem mt_X1_drop : gMt YX1_drop := ⟨gW_in (gIn1 (List.mem_of_getElem? (i := 188) rfl)) rfl, gW_in (gIn1 (List.mem_of_getElem? (i := 2) (by decide +kernel))) rfl, by decide +kernel, by decide +kernel, by decide +kernel, rfl⟩
theorem im_X1_drop : Cond.instanceMethod YX1_drop.1 ∈ gW := gW_in (gIn1 (List.mem_of_getElem? (i := 187) (by decide +kernel))) rfl
theorem se_X1_drop : Cond.selects (gRx 1) YX1_drop.1 YX1_drop.1 ∈ gW := gW_in (gIn0 (List.mem_of_getElem? (i := 3) (by decide +kernel))) rfl
theorem np_X1_drop : gNp YX1_drop.1 = some 1 := by decide +kernel
def YX1_blockSize : gY := (yX1_blockSize, cX1_blockSize, 2, some .int, [])
theorem mt_X1_blockSize : gMt YX1_blockSize := ⟨gW_in (gIn1 (List.mem_of_getElem? (i := 225) rfl)) rfl, gW_in (gIn1 (List.mem_of_getElem? (i := 2) (by decide +kernel))) rfl, by decide +kernel, by decide +kernel, by decide +kernel, rfl⟩
theorem im_X1_blockSize : Cond.instanceMethod YX1_blockSize.1 ∈ gW := gW_in (gIn1 (List.mem_of_getElem? (i := 224) (by decide +kernel))) rfl
theorem se_X1_blockSize : Cond.selects (gRx 1) YX1_blockSize.1 YX1_blockSize.1 ∈ gW := gW_in (gIn0 (List.mem_of_getElem? (i := 10) (by decide +kernel))) rfl
theorem np_X1_blockSize : gNp YX1_blockSize.1 = some 1 := by decide +kernel
def YX1_areaSize : gY := (yX1_areaSize, cX1_areaSize, 2, some .int, [])
theorem mt_X1_areaSize : gMt YX1_areaSize := ⟨gW_in (gIn1 (List.mem_of_getElem? (i := 221) rfl)) rfl, gW_in (gIn1 (List.mem_of_getElem? (i := 2) (by decide +kernel))) rfl, by decide +kernel, by decide +kernel, by decide +kernel, rfl⟩
theorem im_X1_areaSize : Cond.instanceMethod YX1_areaSize.1 ∈ gW := gW_in (gIn1 (List.mem_of_getElem? (i := 220) (by decide +kernel))) rfl
theorem se_X1_areaSize : Cond.selects (gRx 1) YX1_areaSize.1 YX1_areaSize.1 ∈ gW := gW_in (gIn0 (List.mem_of_getElem? (i := 9) (by decide +kernel))) rfl
theorem np_X1_areaSize : gNp YX1_areaSize.1 = some 1 := by decide +kernel
def YX1_areaStart : gY := (yX1_areaStart, cX1_areaStart, 2, some .int, [])
theorem mt_X1_areaStart : gMt YX1_areaStart := ⟨gW_in (gIn1 (List.mem_of_getElem? (i := 213) rfl)) rfl, gW_in (gIn1 (List.mem_of_getElem? (i := 2) (by decide +kernel))) rfl, by decide +kernel, by decide +kernel, by decide +kernel, rfl⟩
theorem im_X1_areaStart : Cond.instanceMethod YX1_areaStart.1 ∈ gW := gW_in (gIn1 (List.mem_of_getElem? (i := 212) (by decide +kernel))) rfl
theorem se_X1_areaStart : Cond.selects (gRx 1) YX1_areaStart.1 YX1_areaStart.1 ∈ gW := gW_in (gIn0 (List.mem_of_getElem? (i := 7) (by decide +kernel))) rfl
theorem np_X1_areaStart : gNp YX1_areaStart.1 = some 1 := by decide +kernel
def YX1_areaEnd : gY := (yX1_areaEnd, cX1_areaEnd, 2, some .int, [])
theorem mt_X1_areaEnd : gMt YX1_areaEnd := ⟨gW_in (gIn1 (List.mem_of_getElem? (i := 217) rfl)) rfl, gW_in (gIn1 (List.mem_of_getElem? (i := 2) (by decide +kernel))) rfl, by decide +kernel, by decide +kernel, by decide +kernel, rfl⟩
theorem im_X1_areaEnd : Cond.instanceMethod YX1_areaEnd.1 ∈ gW := gW_in (gIn1 (List.mem_of_getElem? (i := 216) (by decide +kernel))) rfl
theorem se_X1_areaEnd : Cond.selects (gRx 1) YX1_areaEnd.1 YX1_areaEnd.1 ∈ gW := gW_in (gIn0 (List.mem_of_getElem? (i := 8) (by decide +kernel))) rfl
theorem np_X1_areaEnd : gNp YX1_areaEnd.1 = some 1 := by decide +kernel
def YX1_groupSize : gY := (yX1_groupSize, cX1_groupSize, 3, some .int, [])
theorem mt_X1_groupSize : gMt YX1_groupSize := ⟨gW_in (gIn2 (List.mem_of_getElem? (i := 24) rfl)) rfl, gW_in (gIn1 (List.mem_of_getElem? (i := 2) (by decide +kernel))) rfl, by decide +kernel, by decide +kernel, by decide +kernel, rfl⟩
theorem im_X1_groupSize : Cond.instanceMethod YX1_groupSize.1 ∈ gW := gW_in (gIn2 (List.mem_of_getElem? (i := 23) (by decide +kernel))) rfl
theorem se_X1_groupSize : Cond.selects (gRx 1) YX1_groupSize.1 YX1_groupSize.1 ∈ gW := gW_in (gIn0 (List.mem_of_getElem? (i := 16) (by decide +kernel))) rfl
theorem np_X1_groupSize : gNp YX1_groupSize.1 = some 2 := by decide +kernel
def YX1_cellAt : gY := (yX1_cellAt, cX1_cellAt, 6, some .int, [])
theorem mt_X1_cellAt : gMt YX1_cellAt := ⟨gW_in (gIn2 (List.mem_of_getElem? (i := 20) rfl)) rfl, gW_in (gIn1 (List.mem_of_getElem? (i := 2) (by decide +kernel))) rfl, by decide +kernel, by decide +kernel, by decide +kernel, rfl⟩
theorem im_X1_cellAt : Cond.instanceMethod YX1_cellAt.1 ∈ gW := gW_in (gIn2 (List.mem_of_getElem? (i := 19) (by decide +kernel))) rfl
theorem se_X1_cellAt : Cond.selects (gRx 1) YX1_cellAt.1 YX1_cellAt.1 ∈ gW := gW_in (gIn0 (List.mem_of_getElem? (i := 15) (by decide +kernel))) rfl
theorem np_X1_cellAt : gNp YX1_cellAt.1 = some 3 := by decide +kernel
def YX1_placeInFile : gY := (yX1_placeInFile, cX1_placeInFile, 8, some .int, [])
theorem mt_X1_placeInFile : gMt YX1_placeInFile := ⟨gW_in (gIn3 (List.mem_of_getElem? (i := 130) rfl)) rfl, gW_in (gIn1 (List.mem_of_getElem? (i := 2) (by decide +kernel))) rfl, by decide +kernel, by decide +kernel, by decide +kernel, rfl⟩
theorem im_X1_placeInFile : Cond.instanceMethod YX1_placeInFile.1 ∈ gW := gW_in (gIn3 (List.mem_of_getElem? (i := 129) (by decide +kernel))) rfl
theorem se_X1_placeInFile : Cond.selects (gRx 1) YX1_placeInFile.1 YX1_placeInFile.1 ∈ gW := gW_in (gIn0 (List.mem_of_getElem? (i := 36) (by decide +kernel))) rfl
theorem np_X1_placeInFile : gNp YX1_placeInFile.1 = some 2 := by decide +kernel
def YX1_fileAt : gY := (yX1_fileAt, cX1_fileAt, 3, some .int, [])
theorem mt_X1_fileAt : gMt YX1_fileAt := ⟨gW_in (gIn1 (List.mem_of_getElem? (i := 209) rfl)) rfl, gW_in (gIn1 (List.mem_of_getElem? (i := 2) (by decide +kernel))) rfl, by decide +kernel, by decide +kernel, by decide +kernel, rfl⟩
theorem im_X1_fileAt : Cond.instanceMethod YX1_fileAt.1 ∈ gW := gW_in (gIn1 (List.mem_of_getElem? (i := 208) (by decide +kernel))) rfl
theorem se_X1_fileAt : Cond.selects (gRx 1) YX1_fileAt.1 YX1_fileAt.1 ∈ gW := gW_in (gIn0 (List.mem_of_getElem? (i := 6) (by decide +kernel))) rfl
theorem np_X1_fileAt : gNp YX1_fileAt.1 = some 1 := by decide +kernel
def YX1_freeArea : gY := (yX1_freeArea, cX1_freeArea, 4, some .int, [])
theorem mt_X1_freeArea : gMt YX1_freeArea := ⟨gW_in (gIn2 (List.mem_of_getElem? (i := 212) rfl)) rfl, gW_in (gIn1 (List.mem_of_getElem? (i := 2) (by decide +kernel))) rfl, by decide +kernel, by decide +kernel, by decide +kernel, rfl⟩
theorem im_X1_freeArea : Cond.instanceMethod YX1_freeArea.1 ∈ gW := gW_in (gIn2 (List.mem_of_getElem? (i := 211) (by decide +kernel))) rfl
theorem se_X1_freeArea : Cond.selects (gRx 1) YX1_freeArea.1 YX1_freeArea.1 ∈ gW := gW_in (gIn0 (List.mem_of_getElem? (i := 25) (by decide +kernel))) rfl
theorem np_X1_freeArea : gNp YX1_freeArea.1 = some 1 := by decide +kernel
def YX1_greatestFreeArea : gY := (yX1_greatestFreeArea, cX1_greatestFreeArea, 4, some .int, [])
theorem mt_X1_greatestFreeArea : gMt YX1_greatestFreeArea := ⟨gW_in (gIn1 (List.mem_of_getElem? (i := 205) rfl)) rfl, gW_in (gIn1 (List.mem_of_getElem? (i := 2) (by decide +kernel))) rfl, by decide +kernel, by decide +kernel, by decide +kernel, rfl⟩
theorem im_X1_greatestFreeArea : Cond.instanceMethod YX1_greatestFreeArea.1 ∈ gW := gW_in (gIn1 (List.mem_of_getElem? (i := 204) (by decide +kernel))) rfl
theorem se_X1_greatestFreeArea : Cond.selects (gRx 1) YX1_greatestFreeArea.1 YX1_greatestFreeArea.1 ∈ gW := gW_in (gIn0 (List.mem_of_getElem? (i := 5) (by decide +kernel))) rfl
theorem np_X1_greatestFreeArea : gNp YX1_greatestFreeArea.1 = some 0 := by decide +kernel
def YX1_write : gY := (yX1_write, cX1_write, 3, none, [])
theorem mt_X1_write : gMt YX1_write := ⟨gW_in (gIn3 (List.mem_of_getElem? (i := 11) rfl)) rfl, gW_in (gIn1 (List.mem_of_getElem? (i := 2) (by decide +kernel))) rfl, by decide +kernel, by decide +kernel, by decide +kernel, rfl⟩
theorem im_X1_write : Cond.instanceMethod YX1_write.1 ∈ gW := gW_in (gIn3 (List.mem_of_getElem? (i := 10) (by decide +kernel))) rfl
theorem se_X1_write : Cond.selects (gRx 1) YX1_write.1 YX1_write.1 ∈ gW := gW_in (gIn0 (List.mem_of_getElem? (i := 33) (by decide +kernel))) rfl
theorem np_X1_write : gNp YX1_write.1 = some 2 := by decide +kernel
def YX1_damage : gY := (yX1_damage, cX1_damage, 3, none, [])
theorem mt_X1_damage : gMt YX1_damage := ⟨gW_in (gIn3 (List.mem_of_getElem? (i := 156) rfl)) rfl, gW_in (gIn1 (List.mem_of_getElem? (i := 2) (by decide +kernel))) rfl, by decide +kernel, by decide +kernel, by decide +kernel, rfl⟩
theorem im_X1_damage : Cond.instanceMethod YX1_damage.1 ∈ gW := gW_in (gIn3 (List.mem_of_getElem? (i := 155) (by decide +kernel))) rfl
theorem se_X1_damage : Cond.selects (gRx 1) YX1_damage.1 YX1_damage.1 ∈ gW := gW_in (gIn0 (List.mem_of_getElem? (i := 37) (by decide +kernel))) rfl
theorem np_X1_damage : gNp YX1_damage.1 = some 2 := by decide +kernel
def YX1_isDue : gY := (yX1_isDue, cX1_isDue, 3, some .boolean, [])
theorem mt_X1_isDue : gMt YX1_isDue := ⟨gW_in (gIn2 (List.mem_of_getElem? (i := 0) rfl)) rfl, gW_in (gIn1 (List.mem_of_getElem? (i := 2) (by decide +kernel))) rfl, by decide +kernel, by decide +kernel, by decide +kernel, rfl⟩
theorem im_X1_isDue : Cond.instanceMethod YX1_isDue.1 ∈ gW := gW_in (gIn1 (List.mem_of_getElem? (i := 239) (by decide +kernel))) rfl
theorem se_X1_isDue : Cond.selects (gRx 1) YX1_isDue.1 YX1_isDue.1 ∈ gW := gW_in (gIn0 (List.mem_of_getElem? (i := 11) (by decide +kernel))) rfl
theorem np_X1_isDue : gNp YX1_isDue.1 = some 2 := by decide +kernel
def YX1_blockToCheck : gY := (yX1_blockToCheck, cX1_blockToCheck, 5, some .int, [])
theorem mt_X1_blockToCheck : gMt YX1_blockToCheck := ⟨gW_in (gIn4 (List.mem_of_getElem? (i := 39) rfl)) rfl, gW_in (gIn1 (List.mem_of_getElem? (i := 2) (by decide +kernel))) rfl, by decide +kernel, by decide +kernel, by decide +kernel, rfl⟩
theorem im_X1_blockToCheck : Cond.instanceMethod YX1_blockToCheck.1 ∈ gW := gW_in (gIn4 (List.mem_of_getElem? (i := 38) (by decide +kernel))) rfl
theorem se_X1_blockToCheck : Cond.selects (gRx 1) YX1_blockToCheck.1 YX1_blockToCheck.1 ∈ gW := gW_in (gIn0 (List.mem_of_getElem? (i := 40) (by decide +kernel))) rfl
theorem np_X1_blockToCheck : gNp YX1_blockToCheck.1 = some 0 := by decide +kernel
def YX2_init : gY := (yX2_init, cX2_init, 2, none, [])
theorem mt_X2_init : gMt YX2_init := ⟨gW_in (gIn1 (List.mem_of_getElem? (i := 23) rfl)) rfl, gW_in (gIn1 (List.mem_of_getElem? (i := 1) (by decide +kernel))) rfl, by decide +kernel, by decide +kernel, by decide +kernel, rfl⟩
theorem im_X2_init : Cond.instanceMethod YX2_init.1 ∈ gW := gW_in (gIn1 (List.mem_of_getElem? (i := 22) (by decide +kernel))) rfl
theorem np_X2_init : gNp YX2_init.1 = some 0 := by decide +kernel
def YX2_clear : gY := (yX2_clear, cX2_clear, 2, some .int, [])
theorem mt_X2_clear : gMt YX2_clear := ⟨gW_in (gIn1 (List.mem_of_getElem? (i := 172) rfl)) rfl, gW_in (gIn1 (List.mem_of_getElem? (i := 1) (by decide +kernel))) rfl, by decide +kernel, by decide +kernel, by decide +kernel, rfl⟩
theorem im_X2_clear : Cond.instanceMethod YX2_clear.1 ∈ gW := gW_in (gIn1 (List.mem_of_getElem? (i := 170) (by decide +kernel))) rfl
theorem se_X2_clear : Cond.selects (gRx 2) YX2_clear.1 YX2_clear.1 ∈ gW := gW_in (gIn1 (List.mem_of_getElem? (i := 171) (by decide +kernel))) rfl
theorem np_X2_clear : gNp YX2_clear.1 = some 0 := by decide +kernel
def YX2_append : gY := (yX2_append, cX2_append, 2, some .int, [])
theorem mt_X2_append : gMt YX2_append := ⟨gW_in (gIn2 (List.mem_of_getElem? (i := 96) rfl)) rfl, gW_in (gIn1 (List.mem_of_getElem? (i := 1) (by decide +kernel))) rfl, by decide +kernel, by decide +kernel, by decide +kernel, rfl⟩
theorem im_X2_append : Cond.instanceMethod YX2_append.1 ∈ gW := gW_in (gIn2 (List.mem_of_getElem? (i := 94) (by decide +kernel))) rfl
theorem se_X2_append : Cond.selects (gRx 2) YX2_append.1 YX2_append.1 ∈ gW := gW_in (gIn2 (List.mem_of_getElem? (i := 95) (by decide +kernel))) rfl
theorem np_X2_append : gNp YX2_append.1 = some 1 := by decide +kernel
def YX2_store : gY := (yX2_store, cX2_store, 7, some .int, [])
theorem mt_X2_store : gMt YX2_store := ⟨gW_in (gIn2 (List.mem_of_getElem? (i := 191) rfl)) rfl, gW_in (gIn1 (List.mem_of_getElem? (i := 1) (by decide +kernel))) rfl, by decide +kernel, by decide +kernel, by decide +kernel, rfl⟩
theorem im_X2_store : Cond.instanceMethod YX2_store.1 ∈ gW := gW_in (gIn2 (List.mem_of_getElem? (i := 189) (by decide +kernel))) rfl
theorem se_X2_store : Cond.selects (gRx 2) YX2_store.1 YX2_store.1 ∈ gW := gW_in (gIn2 (List.mem_of_getElem? (i := 190) (by decide +kernel))) rfl
theorem np_X2_store : gNp YX2_store.1 = some 0 := by decide +kernel
def YX2_errorPosition : gY := (yX2_errorPosition, cX2_errorPosition, 1, some .int, [])
theorem mt_X2_errorPosition : gMt YX2_errorPosition := ⟨gW_in (gIn3 (List.mem_of_getElem? (i := 20) rfl)) rfl, gW_in (gIn1 (List.mem_of_getElem? (i := 1) (by decide +kernel))) rfl, by decide +kernel, by decide +kernel, by decide +kernel, rfl⟩
theorem im_X2_errorPosition : Cond.instanceMethod YX2_errorPosition.1 ∈ gW := gW_in (gIn3 (List.mem_of_getElem? (i := 18) (by decide +kernel))) rfl
theorem se_X2_errorPosition : Cond.selects (gRx 2) YX2_errorPosition.1 YX2_errorPosition.1 ∈ gW := gW_in (gIn3 (List.mem_of_getElem? (i := 19) (by decide +kernel))) rfl
theorem np_X2_errorPosition : gNp YX2_errorPosition.1 = some 0 := by decide +kernel
def YX2_remove : gY := (yX2_remove, cX2_remove, 2, some .int, [])
theorem mt_X2_remove : gMt YX2_remove := ⟨gW_in (gIn3 (List.mem_of_getElem? (i := 67) rfl)) rfl, gW_in (gIn1 (List.mem_of_getElem? (i := 1) (by decide +kernel))) rfl, by decide +kernel, by decide +kernel, by decide +kernel, rfl⟩
theorem im_X2_remove : Cond.instanceMethod YX2_remove.1 ∈ gW := gW_in (gIn3 (List.mem_of_getElem? (i := 65) (by decide +kernel))) rfl
theorem se_X2_remove : Cond.selects (gRx 2) YX2_remove.1 YX2_remove.1 ∈ gW := gW_in (gIn3 (List.mem_of_getElem? (i := 66) (by decide +kernel))) rfl
theorem np_X2_remove : gNp YX2_remove.1 = some 1 := by decide +kernel
def YX2_file : gY := (yX2_file, cX2_file, 3, some .int, [])
theorem mt_X2_file : gMt YX2_file := ⟨gW_in (gIn3 (List.mem_of_getElem? (i := 88) rfl)) rfl, gW_in (gIn1 (List.mem_of_getElem? (i := 1) (by decide +kernel))) rfl, by decide +kernel, by decide +kernel, by decide +kernel, rfl⟩
theorem im_X2_file : Cond.instanceMethod YX2_file.1 ∈ gW := gW_in (gIn3 (List.mem_of_getElem? (i := 86) (by decide +kernel))) rfl
theorem se_X2_file : Cond.selects (gRx 2) YX2_file.1 YX2_file.1 ∈ gW := gW_in (gIn3 (List.mem_of_getElem? (i := 87) (by decide +kernel))) rfl
theorem np_X2_file : gNp YX2_file.1 = some 2 := by decide +kernel
def YX2_files : gY := (yX2_files, cX2_files, 3, some .int, [])
theorem mt_X2_files : gMt YX2_files := ⟨gW_in (gIn1 (List.mem_of_getElem? (i := 196) rfl)) rfl, gW_in (gIn1 (List.mem_of_getElem? (i := 1) (by decide +kernel))) rfl, by decide +kernel, by decide +kernel, by decide +kernel, rfl⟩
theorem im_X2_files : Cond.instanceMethod YX2_files.1 ∈ gW := gW_in (gIn1 (List.mem_of_getElem? (i := 194) (by decide +kernel))) rfl
theorem se_X2_files : Cond.selects (gRx 2) YX2_files.1 YX2_files.1 ∈ gW := gW_in (gIn1 (List.mem_of_getElem? (i := 195) (by decide +kernel))) rfl
theorem np_X2_files : gNp YX2_files.1 = some 0 := by decide +kernel
def YX2_cellOf : gY := (yX2_cellOf, cX2_cellOf, 4, some .int, [])
theorem mt_X2_cellOf : gMt YX2_cellOf := ⟨gW_in (gIn3 (List.mem_of_getElem? (i := 97) rfl)) rfl, gW_in (gIn1 (List.mem_of_getElem? (i := 1) (by decide +kernel))) rfl, by decide +kernel, by decide +kernel, by decide +kernel, rfl⟩
theorem im_X2_cellOf : Cond.instanceMethod YX2_cellOf.1 ∈ gW := gW_in (gIn3 (List.mem_of_getElem? (i := 95) (by decide +kernel))) rfl
theorem se_X2_cellOf : Cond.selects (gRx 2) YX2_cellOf.1 YX2_cellOf.1 ∈ gW := gW_in (gIn3 (List.mem_of_getElem? (i := 96) (by decide +kernel))) rfl
theorem np_X2_cellOf : gNp YX2_cellOf.1 = some 3 := by decide +kernel
def YX2_owner : gY := (yX2_owner, cX2_owner, 2, some .int, [])
theorem mt_X2_owner : gMt YX2_owner := ⟨gW_in (gIn3 (List.mem_of_getElem? (i := 113) rfl)) rfl, gW_in (gIn1 (List.mem_of_getElem? (i := 1) (by decide +kernel))) rfl, by decide +kernel, by decide +kernel, by decide +kernel, rfl⟩
theorem im_X2_owner : Cond.instanceMethod YX2_owner.1 ∈ gW := gW_in (gIn3 (List.mem_of_getElem? (i := 111) (by decide +kernel))) rfl
theorem se_X2_owner : Cond.selects (gRx 2) YX2_owner.1 YX2_owner.1 ∈ gW := gW_in (gIn3 (List.mem_of_getElem? (i := 112) (by decide +kernel))) rfl
theorem np_X2_owner : gNp YX2_owner.1 = some 1 := by decide +kernel
def YX2_placeOf : gY := (yX2_placeOf, cX2_placeOf, 3, some .int, [])
theorem mt_X2_placeOf : gMt YX2_placeOf := ⟨gW_in (gIn3 (List.mem_of_getElem? (i := 125) rfl)) rfl, gW_in (gIn1 (List.mem_of_getElem? (i := 1) (by decide +kernel))) rfl, by decide +kernel, by decide +kernel, by decide +kernel, rfl⟩
theorem im_X2_placeOf : Cond.instanceMethod YX2_placeOf.1 ∈ gW := gW_in (gIn3 (List.mem_of_getElem? (i := 123) (by decide +kernel))) rfl
theorem se_X2_placeOf : Cond.selects (gRx 2) YX2_placeOf.1 YX2_placeOf.1 ∈ gW := gW_in (gIn3 (List.mem_of_getElem? (i := 124) (by decide +kernel))) rfl
theorem np_X2_placeOf : gNp YX2_placeOf.1 = some 1 := by decide +kernel
def YX2_room : gY := (yX2_room, cX2_room, 1, some .int, [])
theorem mt_X2_room : gMt YX2_room := ⟨gW_in (gIn1 (List.mem_of_getElem? (i := 201) rfl)) rfl, gW_in (gIn1 (List.mem_of_getElem? (i := 1) (by decide +kernel))) rfl, by decide +kernel, by decide +kernel, by decide +kernel, rfl⟩
theorem im_X2_room : Cond.instanceMethod YX2_room.1 ∈ gW := gW_in (gIn1 (List.mem_of_getElem? (i := 199) (by decide +kernel))) rfl
theorem se_X2_room : Cond.selects (gRx 2) YX2_room.1 YX2_room.1 ∈ gW := gW_in (gIn1 (List.mem_of_getElem? (i := 200) (by decide +kernel))) rfl
theorem np_X2_room : gNp YX2_room.1 = some 0 := by decide +kernel
def YX2_symbol : gY := (yX2_symbol, cX2_symbol, 2, some .int, [])
theorem mt_X2_symbol : gMt YX2_symbol := ⟨gW_in (gIn3 (List.mem_of_getElem? (i := 137) rfl)) rfl, gW_in (gIn1 (List.mem_of_getElem? (i := 1) (by decide +kernel))) rfl, by decide +kernel, by decide +kernel, by decide +kernel, rfl⟩
theorem im_X2_symbol : Cond.instanceMethod YX2_symbol.1 ∈ gW := gW_in (gIn3 (List.mem_of_getElem? (i := 135) (by decide +kernel))) rfl
theorem se_X2_symbol : Cond.selects (gRx 2) YX2_symbol.1 YX2_symbol.1 ∈ gW := gW_in (gIn3 (List.mem_of_getElem? (i := 136) (by decide +kernel))) rfl
theorem np_X2_symbol : gNp YX2_symbol.1 = some 1 := by decide +kernel
def YX2_isErased : gY := (yX2_isErased, cX2_isErased, 2, some .boolean, [])
theorem mt_X2_isErased : gMt YX2_isErased := ⟨gW_in (gIn3 (List.mem_of_getElem? (i := 144) rfl)) rfl, gW_in (gIn1 (List.mem_of_getElem? (i := 1) (by decide +kernel))) rfl, by decide +kernel, by decide +kernel, by decide +kernel, rfl⟩
theorem im_X2_isErased : Cond.instanceMethod YX2_isErased.1 ∈ gW := gW_in (gIn3 (List.mem_of_getElem? (i := 142) (by decide +kernel))) rfl
theorem se_X2_isErased : Cond.selects (gRx 2) YX2_isErased.1 YX2_isErased.1 ∈ gW := gW_in (gIn3 (List.mem_of_getElem? (i := 143) (by decide +kernel))) rfl
theorem np_X2_isErased : gNp YX2_isErased.1 = some 1 := by decide +kernel
def YX2_flip : gY := (yX2_flip, cX2_flip, 3, some .int, [])
theorem mt_X2_flip : gMt YX2_flip := ⟨gW_in (gIn3 (List.mem_of_getElem? (i := 151) rfl)) rfl, gW_in (gIn1 (List.mem_of_getElem? (i := 1) (by decide +kernel))) rfl, by decide +kernel, by decide +kernel, by decide +kernel, rfl⟩
theorem im_X2_flip : Cond.instanceMethod YX2_flip.1 ∈ gW := gW_in (gIn3 (List.mem_of_getElem? (i := 149) (by decide +kernel))) rfl
theorem se_X2_flip : Cond.selects (gRx 2) YX2_flip.1 YX2_flip.1 ∈ gW := gW_in (gIn3 (List.mem_of_getElem? (i := 150) (by decide +kernel))) rfl
theorem np_X2_flip : gNp YX2_flip.1 = some 2 := by decide +kernel
def YX2_erase : gY := (yX2_erase, cX2_erase, 3, some .int, [])
theorem mt_X2_erase : gMt YX2_erase := ⟨gW_in (gIn3 (List.mem_of_getElem? (i := 163) rfl)) rfl, gW_in (gIn1 (List.mem_of_getElem? (i := 1) (by decide +kernel))) rfl, by decide +kernel, by decide +kernel, by decide +kernel, rfl⟩
theorem im_X2_erase : Cond.instanceMethod YX2_erase.1 ∈ gW := gW_in (gIn3 (List.mem_of_getElem? (i := 161) (by decide +kernel))) rfl
theorem se_X2_erase : Cond.selects (gRx 2) YX2_erase.1 YX2_erase.1 ∈ gW := gW_in (gIn3 (List.mem_of_getElem? (i := 162) (by decide +kernel))) rfl
theorem np_X2_erase : gNp YX2_erase.1 = some 1 := by decide +kernel
def YX2_burst : gY := (yX2_burst, cX2_burst, 6, some .int, [])
theorem mt_X2_burst : gMt YX2_burst := ⟨gW_in (gIn3 (List.mem_of_getElem? (i := 170) rfl)) rfl, gW_in (gIn1 (List.mem_of_getElem? (i := 1) (by decide +kernel))) rfl, by decide +kernel, by decide +kernel, by decide +kernel, rfl⟩
theorem im_X2_burst : Cond.instanceMethod YX2_burst.1 ∈ gW := gW_in (gIn3 (List.mem_of_getElem? (i := 168) (by decide +kernel))) rfl
theorem se_X2_burst : Cond.selects (gRx 2) YX2_burst.1 YX2_burst.1 ∈ gW := gW_in (gIn3 (List.mem_of_getElem? (i := 169) (by decide +kernel))) rfl
theorem np_X2_burst : gNp YX2_burst.1 = some 3 := by decide +kernel
def YX2_wrong : gY := (yX2_wrong, cX2_wrong, 4, some .int, [])
theorem mt_X2_wrong : gMt YX2_wrong := ⟨gW_in (gIn3 (List.mem_of_getElem? (i := 178) rfl)) rfl, gW_in (gIn1 (List.mem_of_getElem? (i := 1) (by decide +kernel))) rfl, by decide +kernel, by decide +kernel, by decide +kernel, rfl⟩
theorem im_X2_wrong : Cond.instanceMethod YX2_wrong.1 ∈ gW := gW_in (gIn3 (List.mem_of_getElem? (i := 176) (by decide +kernel))) rfl
theorem se_X2_wrong : Cond.selects (gRx 2) YX2_wrong.1 YX2_wrong.1 ∈ gW := gW_in (gIn3 (List.mem_of_getElem? (i := 177) (by decide +kernel))) rfl
theorem np_X2_wrong : gNp YX2_wrong.1 = some 1 := by decide +kernel
def YX2_erased : gY := (yX2_erased, cX2_erased, 4, some .int, [])
theorem mt_X2_erased : gMt YX2_erased := ⟨gW_in (gIn3 (List.mem_of_getElem? (i := 187) rfl)) rfl, gW_in (gIn1 (List.mem_of_getElem? (i := 1) (by decide +kernel))) rfl, by decide +kernel, by decide +kernel, by decide +kernel, rfl⟩
theorem im_X2_erased : Cond.instanceMethod YX2_erased.1 ∈ gW := gW_in (gIn3 (List.mem_of_getElem? (i := 185) (by decide +kernel))) rfl
theorem se_X2_erased : Cond.selects (gRx 2) YX2_erased.1 YX2_erased.1 ∈ gW := gW_in (gIn3 (List.mem_of_getElem? (i := 186) (by decide +kernel))) rfl
theorem np_X2_erased : gNp YX2_erased.1 = some 1 := by decide +kernel
def YX2_sum : gY := (yX2_sum, cX2_sum, 4, some .int, [])
theorem mt_X2_sum : gMt YX2_sum := ⟨gW_in (gIn3 (List.mem_of_getElem? (i := 194) rfl)) rfl, gW_in (gIn1 (List.mem_of_getElem? (i := 1) (by decide +kernel))) rfl, by decide +kernel, by decide +kernel, by decide +kernel, rfl⟩
theorem im_X2_sum : Cond.instanceMethod YX2_sum.1 ∈ gW := gW_in (gIn3 (List.mem_of_getElem? (i := 192) (by decide +kernel))) rfl
theorem se_X2_sum : Cond.selects (gRx 2) YX2_sum.1 YX2_sum.1 ∈ gW := gW_in (gIn3 (List.mem_of_getElem? (i := 193) (by decide +kernel))) rfl
theorem np_X2_sum : gNp YX2_sum.1 = some 3 := by decide +kernel
def YX2_decoded : gY := (yX2_decoded, cX2_decoded, 5, some .int, [])
theorem mt_X2_decoded : gMt YX2_decoded := ⟨gW_in (gIn3 (List.mem_of_getElem? (i := 204) rfl)) rfl, gW_in (gIn1 (List.mem_of_getElem? (i := 1) (by decide +kernel))) rfl, by decide +kernel, by decide +kernel, by decide +kernel, rfl⟩
theorem im_X2_decoded : Cond.instanceMethod YX2_decoded.1 ∈ gW := gW_in (gIn3 (List.mem_of_getElem? (i := 202) (by decide +kernel))) rfl
theorem se_X2_decoded : Cond.selects (gRx 2) YX2_decoded.1 YX2_decoded.1 ∈ gW := gW_in (gIn3 (List.mem_of_getElem? (i := 203) (by decide +kernel))) rfl
theorem np_X2_decoded : gNp YX2_decoded.1 = some 3 := by decide +kernel
def YX2_found : gY := (yX2_found, cX2_found, 4, some .int, [])
theorem mt_X2_found : gMt YX2_found := ⟨gW_in (gIn3 (List.mem_of_getElem? (i := 214) rfl)) rfl, gW_in (gIn1 (List.mem_of_getElem? (i := 1) (by decide +kernel))) rfl, by decide +kernel, by decide +kernel, by decide +kernel, rfl⟩
theorem im_X2_found : Cond.instanceMethod YX2_found.1 ∈ gW := gW_in (gIn3 (List.mem_of_getElem? (i := 212) (by decide +kernel))) rfl
theorem se_X2_found : Cond.selects (gRx 2) YX2_found.1 YX2_found.1 ∈ gW := gW_in (gIn3 (List.mem_of_getElem? (i := 213) (by decide +kernel))) rfl
theorem np_X2_found : gNp YX2_found.1 = some 3 := by decide +kernel
def YX2_read : gY := (yX2_read, cX2_read, 3, some .int, [])
theorem mt_X2_read : gMt YX2_read := ⟨gW_in (gIn3 (List.mem_of_getElem? (i := 221) rfl)) rfl, gW_in (gIn1 (List.mem_of_getElem? (i := 1) (by decide +kernel))) rfl, by decide +kernel, by decide +kernel, by decide +kernel, rfl⟩
theorem im_X2_read : Cond.instanceMethod YX2_read.1 ∈ gW := gW_in (gIn3 (List.mem_of_getElem? (i := 219) (by decide +kernel))) rfl
theorem se_X2_read : Cond.selects (gRx 2) YX2_read.1 YX2_read.1 ∈ gW := gW_in (gIn3 (List.mem_of_getElem? (i := 220) (by decide +kernel))) rfl
theorem np_X2_read : gNp YX2_read.1 = some 2 := by decide +kernel
def YX2_condition : gY := (yX2_condition, cX2_condition, 5, some .int, [])
theorem mt_X2_condition : gMt YX2_condition := ⟨gW_in (gIn3 (List.mem_of_getElem? (i := 229) rfl)) rfl, gW_in (gIn1 (List.mem_of_getElem? (i := 1) (by decide +kernel))) rfl, by decide +kernel, by decide +kernel, by decide +kernel, rfl⟩
theorem im_X2_condition : Cond.instanceMethod YX2_condition.1 ∈ gW := gW_in (gIn3 (List.mem_of_getElem? (i := 227) (by decide +kernel))) rfl
theorem se_X2_condition : Cond.selects (gRx 2) YX2_condition.1 YX2_condition.1 ∈ gW := gW_in (gIn3 (List.mem_of_getElem? (i := 228) (by decide +kernel))) rfl
theorem np_X2_condition : gNp YX2_condition.1 = some 1 := by decide +kernel
def YX2_undecodable : gY := (yX2_undecodable, cX2_undecodable, 2, some .int, [])
theorem mt_X2_undecodable : gMt YX2_undecodable := ⟨gW_in (gIn3 (List.mem_of_getElem? (i := 236) rfl)) rfl, gW_in (gIn1 (List.mem_of_getElem? (i := 1) (by decide +kernel))) rfl, by decide +kernel, by decide +kernel, by decide +kernel, rfl⟩
theorem im_X2_undecodable : Cond.instanceMethod YX2_undecodable.1 ∈ gW := gW_in (gIn3 (List.mem_of_getElem? (i := 234) (by decide +kernel))) rfl
theorem se_X2_undecodable : Cond.selects (gRx 2) YX2_undecodable.1 YX2_undecodable.1 ∈ gW := gW_in (gIn3 (List.mem_of_getElem? (i := 235) (by decide +kernel))) rfl
theorem np_X2_undecodable : gNp YX2_undecodable.1 = some 1 := by decide +kernel
def YX2_margin : gY := (yX2_margin, cX2_margin, 3, some .int, [])
theorem mt_X2_margin : gMt YX2_margin := ⟨gW_in (gIn4 (List.mem_of_getElem? (i := 7) rfl)) rfl, gW_in (gIn1 (List.mem_of_getElem? (i := 1) (by decide +kernel))) rfl, by decide +kernel, by decide +kernel, by decide +kernel, rfl⟩
theorem im_X2_margin : Cond.instanceMethod YX2_margin.1 ∈ gW := gW_in (gIn4 (List.mem_of_getElem? (i := 5) (by decide +kernel))) rfl
theorem se_X2_margin : Cond.selects (gRx 2) YX2_margin.1 YX2_margin.1 ∈ gW := gW_in (gIn4 (List.mem_of_getElem? (i := 6) (by decide +kernel))) rfl
theorem np_X2_margin : gNp YX2_margin.1 = some 2 := by decide +kernel
def YX2_burstLimit : gY := (yX2_burstLimit, cX2_burstLimit, 4, some .int, [])
theorem mt_X2_burstLimit : gMt YX2_burstLimit := ⟨gW_in (gIn4 (List.mem_of_getElem? (i := 14) rfl)) rfl, gW_in (gIn1 (List.mem_of_getElem? (i := 1) (by decide +kernel))) rfl, by decide +kernel, by decide +kernel, by decide +kernel, rfl⟩
theorem im_X2_burstLimit : Cond.instanceMethod YX2_burstLimit.1 ∈ gW := gW_in (gIn4 (List.mem_of_getElem? (i := 12) (by decide +kernel))) rfl
theorem se_X2_burstLimit : Cond.selects (gRx 2) YX2_burstLimit.1 YX2_burstLimit.1 ∈ gW := gW_in (gIn4 (List.mem_of_getElem? (i := 13) (by decide +kernel))) rfl
theorem np_X2_burstLimit : gNp YX2_burstLimit.1 = some 1 := by decide +kernel
def YX2_advance : gY := (yX2_advance, cX2_advance, 2, some .int, [])
theorem mt_X2_advance : gMt YX2_advance := ⟨gW_in (gIn4 (List.mem_of_getElem? (i := 25) rfl)) rfl, gW_in (gIn1 (List.mem_of_getElem? (i := 1) (by decide +kernel))) rfl, by decide +kernel, by decide +kernel, by decide +kernel, rfl⟩
theorem im_X2_advance : Cond.instanceMethod YX2_advance.1 ∈ gW := gW_in (gIn4 (List.mem_of_getElem? (i := 23) (by decide +kernel))) rfl
theorem se_X2_advance : Cond.selects (gRx 2) YX2_advance.1 YX2_advance.1 ∈ gW := gW_in (gIn4 (List.mem_of_getElem? (i := 24) (by decide +kernel))) rfl
theorem np_X2_advance : gNp YX2_advance.1 = some 1 := by decide +kernel
def YX2_scrub : gY := (yX2_scrub, cX2_scrub, 7, some .int, [])
theorem mt_X2_scrub : gMt YX2_scrub := ⟨gW_in (gIn4 (List.mem_of_getElem? (i := 34) rfl)) rfl, gW_in (gIn1 (List.mem_of_getElem? (i := 1) (by decide +kernel))) rfl, by decide +kernel, by decide +kernel, by decide +kernel, rfl⟩
theorem im_X2_scrub : Cond.instanceMethod YX2_scrub.1 ∈ gW := gW_in (gIn4 (List.mem_of_getElem? (i := 32) (by decide +kernel))) rfl
theorem se_X2_scrub : Cond.selects (gRx 2) YX2_scrub.1 YX2_scrub.1 ∈ gW := gW_in (gIn4 (List.mem_of_getElem? (i := 33) (by decide +kernel))) rfl
theorem np_X2_scrub : gNp YX2_scrub.1 = some 1 := by decide +kernel
def YX2_report : gY := (yX2_report, cX2_report, 3, some .int, [])
theorem mt_X2_report : gMt YX2_report := ⟨gW_in (gIn4 (List.mem_of_getElem? (i := 54) rfl)) rfl, gW_in (gIn1 (List.mem_of_getElem? (i := 1) (by decide +kernel))) rfl, by decide +kernel, by decide +kernel, by decide +kernel, rfl⟩
theorem im_X2_report : Cond.instanceMethod YX2_report.1 ∈ gW := gW_in (gIn4 (List.mem_of_getElem? (i := 52) (by decide +kernel))) rfl
theorem se_X2_report : Cond.selects (gRx 2) YX2_report.1 YX2_report.1 ∈ gW := gW_in (gIn4 (List.mem_of_getElem? (i := 53) (by decide +kernel))) rfl
theorem np_X2_report : gNp YX2_report.1 = some 2 := by decide +kernel
def YX2_reportLines : gY := (yX2_reportLines, cX2_reportLines, 1, some .int, [])
theorem mt_X2_reportLines : gMt YX2_reportLines := ⟨gW_in (gIn1 (List.mem_of_getElem? (i := 232) rfl)) rfl, gW_in (gIn1 (List.mem_of_getElem? (i := 1) (by decide +kernel))) rfl, by decide +kernel, by decide +kernel, by decide +kernel, rfl⟩
theorem im_X2_reportLines : Cond.instanceMethod YX2_reportLines.1 ∈ gW := gW_in (gIn1 (List.mem_of_getElem? (i := 230) (by decide +kernel))) rfl
theorem se_X2_reportLines : Cond.selects (gRx 2) YX2_reportLines.1 YX2_reportLines.1 ∈ gW := gW_in (gIn1 (List.mem_of_getElem? (i := 231) (by decide +kernel))) rfl
theorem np_X2_reportLines : gNp YX2_reportLines.1 = some 0 := by decide +kernel
def YX2_repair : gY := (yX2_repair, cX2_repair, 3, some .int, [])
theorem mt_X2_repair : gMt YX2_repair := ⟨gW_in (gIn4 (List.mem_of_getElem? (i := 64) rfl)) rfl, gW_in (gIn1 (List.mem_of_getElem? (i := 1) (by decide +kernel))) rfl, by decide +kernel, by decide +kernel, by decide +kernel, rfl⟩
theorem im_X2_repair : Cond.instanceMethod YX2_repair.1 ∈ gW := gW_in (gIn4 (List.mem_of_getElem? (i := 62) (by decide +kernel))) rfl
theorem se_X2_repair : Cond.selects (gRx 2) YX2_repair.1 YX2_repair.1 ∈ gW := gW_in (gIn4 (List.mem_of_getElem? (i := 63) (by decide +kernel))) rfl
theorem np_X2_repair : gNp YX2_repair.1 = some 2 := by decide +kernel
def YX2_checked : gY := (yX2_checked, cX2_checked, 3, some .int, [])
theorem mt_X2_checked : gMt YX2_checked := ⟨gW_in (gIn4 (List.mem_of_getElem? (i := 86) rfl)) rfl, gW_in (gIn1 (List.mem_of_getElem? (i := 1) (by decide +kernel))) rfl, by decide +kernel, by decide +kernel, by decide +kernel, rfl⟩
theorem im_X2_checked : Cond.instanceMethod YX2_checked.1 ∈ gW := gW_in (gIn4 (List.mem_of_getElem? (i := 84) (by decide +kernel))) rfl
theorem se_X2_checked : Cond.selects (gRx 2) YX2_checked.1 YX2_checked.1 ∈ gW := gW_in (gIn4 (List.mem_of_getElem? (i := 85) (by decide +kernel))) rfl
theorem np_X2_checked : gNp YX2_checked.1 = some 2 := by decide +kernel
def YX2_nextToCheck : gY := (yX2_nextToCheck, cX2_nextToCheck, 2, some .int, [])
theorem mt_X2_nextToCheck : gMt YX2_nextToCheck := ⟨gW_in (gIn4 (List.mem_of_getElem? (i := 93) rfl)) rfl, gW_in (gIn1 (List.mem_of_getElem? (i := 1) (by decide +kernel))) rfl, by decide +kernel, by decide +kernel, by decide +kernel, rfl⟩
theorem im_X2_nextToCheck : Cond.instanceMethod YX2_nextToCheck.1 ∈ gW := gW_in (gIn4 (List.mem_of_getElem? (i := 91) (by decide +kernel))) rfl
theorem se_X2_nextToCheck : Cond.selects (gRx 2) YX2_nextToCheck.1 YX2_nextToCheck.1 ∈ gW := gW_in (gIn4 (List.mem_of_getElem? (i := 92) (by decide +kernel))) rfl
theorem np_X2_nextToCheck : gNp YX2_nextToCheck.1 = some 0 := by decide +kernel
def YX2_needed : gY := (yX2_needed, cX2_needed, 4, some .int, [])
theorem mt_X2_needed : gMt YX2_needed := ⟨gW_in (gIn1 (List.mem_of_getElem? (i := 236) rfl)) rfl, gW_in (gIn1 (List.mem_of_getElem? (i := 1) (by decide +kernel))) rfl, by decide +kernel, by decide +kernel, by decide +kernel, rfl⟩
theorem im_X2_needed : Cond.instanceMethod YX2_needed.1 ∈ gW := gW_in (gIn1 (List.mem_of_getElem? (i := 234) (by decide +kernel))) rfl
theorem se_X2_needed : Cond.selects (gRx 2) YX2_needed.1 YX2_needed.1 ∈ gW := gW_in (gIn1 (List.mem_of_getElem? (i := 235) (by decide +kernel))) rfl
theorem np_X2_needed : gNp YX2_needed.1 = some 0 := by decide +kernel
def YX2_account : gY := (yX2_account, cX2_account, 2, some .int, [])
theorem mt_X2_account : gMt YX2_account := ⟨gW_in (gIn4 (List.mem_of_getElem? (i := 101) rfl)) rfl, gW_in (gIn1 (List.mem_of_getElem? (i := 1) (by decide +kernel))) rfl, by decide +kernel, by decide +kernel, by decide +kernel, rfl⟩
theorem im_X2_account : Cond.instanceMethod YX2_account.1 ∈ gW := gW_in (gIn4 (List.mem_of_getElem? (i := 99) (by decide +kernel))) rfl
theorem se_X2_account : Cond.selects (gRx 2) YX2_account.1 YX2_account.1 ∈ gW := gW_in (gIn4 (List.mem_of_getElem? (i := 100) (by decide +kernel))) rfl
theorem np_X2_account : gNp YX2_account.1 = some 1 := by decide +kernel
def YX2_day : gY := (yX2_day, cX2_day, 1, some .int, [])
theorem mt_X2_day : gMt YX2_day := ⟨gW_in (gIn2 (List.mem_of_getElem? (i := 78) rfl)) rfl, gW_in (gIn1 (List.mem_of_getElem? (i := 1) (by decide +kernel))) rfl, by decide +kernel, by decide +kernel, by decide +kernel, rfl⟩
theorem im_X2_day : Cond.instanceMethod YX2_day.1 ∈ gW := gW_in (gIn2 (List.mem_of_getElem? (i := 76) (by decide +kernel))) rfl
theorem se_X2_day : Cond.selects (gRx 2) YX2_day.1 YX2_day.1 ∈ gW := gW_in (gIn2 (List.mem_of_getElem? (i := 77) (by decide +kernel))) rfl
theorem np_X2_day : gNp YX2_day.1 = some 0 := by decide +kernel
def YX2_health : gY := (yX2_health, cX2_health, 4, some .double, [])
theorem mt_X2_health : gMt YX2_health := ⟨gW_in (gIn4 (List.mem_of_getElem? (i := 123) rfl)) rfl, gW_in (gIn1 (List.mem_of_getElem? (i := 1) (by decide +kernel))) rfl, by decide +kernel, by decide +kernel, by decide +kernel, rfl⟩
theorem im_X2_health : Cond.instanceMethod YX2_health.1 ∈ gW := gW_in (gIn4 (List.mem_of_getElem? (i := 121) (by decide +kernel))) rfl
theorem se_X2_health : Cond.selects (gRx 2) YX2_health.1 YX2_health.1 ∈ gW := gW_in (gIn4 (List.mem_of_getElem? (i := 122) (by decide +kernel))) rfl
theorem np_X2_health : gNp YX2_health.1 = some 0 := by decide +kernel
def YX2_describe : gY := (yX2_describe, cX2_describe, 4, some .int, [])
theorem mt_X2_describe : gMt YX2_describe := ⟨gW_in (gIn4 (List.mem_of_getElem? (i := 133) rfl)) rfl, gW_in (gIn1 (List.mem_of_getElem? (i := 1) (by decide +kernel))) rfl, by decide +kernel, by decide +kernel, by decide +kernel, rfl⟩
theorem im_X2_describe : Cond.instanceMethod YX2_describe.1 ∈ gW := gW_in (gIn4 (List.mem_of_getElem? (i := 131) (by decide +kernel))) rfl
theorem se_X2_describe : Cond.selects (gRx 2) YX2_describe.1 YX2_describe.1 ∈ gW := gW_in (gIn4 (List.mem_of_getElem? (i := 132) (by decide +kernel))) rfl
theorem np_X2_describe : gNp YX2_describe.1 = some 2 := by decide +kernel
def YX2_undo : gY := (yX2_undo, cX2_undo, 1, some .int, [])
theorem mt_X2_undo : gMt YX2_undo := ⟨gW_in (gIn4 (List.mem_of_getElem? (i := 150) rfl)) rfl, gW_in (gIn1 (List.mem_of_getElem? (i := 1) (by decide +kernel))) rfl, by decide +kernel, by decide +kernel, by decide +kernel, rfl⟩
theorem im_X2_undo : Cond.instanceMethod YX2_undo.1 ∈ gW := gW_in (gIn4 (List.mem_of_getElem? (i := 148) (by decide +kernel))) rfl
theorem se_X2_undo : Cond.selects (gRx 2) YX2_undo.1 YX2_undo.1 ∈ gW := gW_in (gIn4 (List.mem_of_getElem? (i := 149) (by decide +kernel))) rfl
theorem np_X2_undo : gNp YX2_undo.1 = some 0 := by decide +kernel
def YX2_save : gY := (yX2_save, cX2_save, 1, some .int, [])
theorem mt_X2_save : gMt YX2_save := ⟨gW_in (gIn2 (List.mem_of_getElem? (i := 82) rfl)) rfl, gW_in (gIn1 (List.mem_of_getElem? (i := 1) (by decide +kernel))) rfl, by decide +kernel, by decide +kernel, by decide +kernel, rfl⟩
theorem im_X2_save : Cond.instanceMethod YX2_save.1 ∈ gW := gW_in (gIn2 (List.mem_of_getElem? (i := 80) (by decide +kernel))) rfl
theorem se_X2_save : Cond.selects (gRx 2) YX2_save.1 YX2_save.1 ∈ gW := gW_in (gIn2 (List.mem_of_getElem? (i := 81) (by decide +kernel))) rfl
theorem np_X2_save : gNp YX2_save.1 = some 0 := by decide +kernel
def YX2_restore : gY := (yX2_restore, cX2_restore, 1, some .int, [])
theorem mt_X2_restore : gMt YX2_restore := ⟨gW_in (gIn4 (List.mem_of_getElem? (i := 158) rfl)) rfl, gW_in (gIn1 (List.mem_of_getElem? (i := 1) (by decide +kernel))) rfl, by decide +kernel, by decide +kernel, by decide +kernel, rfl⟩
theorem im_X2_restore : Cond.instanceMethod YX2_restore.1 ∈ gW := gW_in (gIn4 (List.mem_of_getElem? (i := 156) (by decide +kernel))) rfl
theorem se_X2_restore : Cond.selects (gRx 2) YX2_restore.1 YX2_restore.1 ∈ gW := gW_in (gIn4 (List.mem_of_getElem? (i := 157) (by decide +kernel))) rfl
theorem np_X2_restore : gNp YX2_restore.1 = some 0 := by decide +kernel
def YX2_remember : gY := (yX2_remember, cX2_remember, 1, none, [])
theorem mt_X2_remember : gMt YX2_remember := ⟨gW_in (gIn2 (List.mem_of_getElem? (i := 217) rfl)) rfl, gW_in (gIn1 (List.mem_of_getElem? (i := 1) (by decide +kernel))) rfl, by decide +kernel, by decide +kernel, by decide +kernel, rfl⟩
theorem im_X2_remember : Cond.instanceMethod YX2_remember.1 ∈ gW := gW_in (gIn2 (List.mem_of_getElem? (i := 216) (by decide +kernel))) rfl
theorem se_X2_remember : Cond.selects (gRx 2) YX2_remember.1 YX2_remember.1 ∈ gW := gW_in (gIn0 (List.mem_of_getElem? (i := 26) (by decide +kernel))) rfl
theorem np_X2_remember : gNp YX2_remember.1 = some 0 := by decide +kernel
def YX2_forgetChanges : gY := (yX2_forgetChanges, cX2_forgetChanges, 1, none, [])
theorem mt_X2_forgetChanges : gMt YX2_forgetChanges := ⟨gW_in (gIn1 (List.mem_of_getElem? (i := 192) rfl)) rfl, gW_in (gIn1 (List.mem_of_getElem? (i := 1) (by decide +kernel))) rfl, by decide +kernel, by decide +kernel, by decide +kernel, rfl⟩
theorem im_X2_forgetChanges : Cond.instanceMethod YX2_forgetChanges.1 ∈ gW := gW_in (gIn1 (List.mem_of_getElem? (i := 191) (by decide +kernel))) rfl
theorem se_X2_forgetChanges : Cond.selects (gRx 2) YX2_forgetChanges.1 YX2_forgetChanges.1 ∈ gW := gW_in (gIn0 (List.mem_of_getElem? (i := 4) (by decide +kernel))) rfl
theorem np_X2_forgetChanges : gNp YX2_forgetChanges.1 = some 0 := by decide +kernel
def YX2_textError : gY := (yX2_textError, cX2_textError, 3, some .int, [])
theorem mt_X2_textError : gMt YX2_textError := ⟨gW_in (gIn2 (List.mem_of_getElem? (i := 194) rfl)) rfl, gW_in (gIn1 (List.mem_of_getElem? (i := 1) (by decide +kernel))) rfl, by decide +kernel, by decide +kernel, by decide +kernel, rfl⟩
theorem sf_X2_textError : Cond.static YX2_textError.1 ∈ gW := gW_in (gIn2 (List.mem_of_getElem? (i := 193) (by decide +kernel))) rfl
theorem np_X2_textError : gNp YX2_textError.1 = some 2 := by decide +kernel
def YX2_fitsText : gY := (yX2_fitsText, cX2_fitsText, 2, some .boolean, [])
theorem mt_X2_fitsText : gMt YX2_fitsText := ⟨gW_in (gIn2 (List.mem_of_getElem? (i := 197) rfl)) rfl, gW_in (gIn1 (List.mem_of_getElem? (i := 1) (by decide +kernel))) rfl, by decide +kernel, by decide +kernel, by decide +kernel, rfl⟩
theorem sf_X2_fitsText : Cond.static YX2_fitsText.1 ∈ gW := gW_in (gIn2 (List.mem_of_getElem? (i := 196) (by decide +kernel))) rfl
theorem np_X2_fitsText : gNp YX2_fitsText.1 = some 2 := by decide +kernel
def YX2_symbolOf : gY := (yX2_symbolOf, cX2_symbolOf, 1, some .int, [])
theorem mt_X2_symbolOf : gMt YX2_symbolOf := ⟨gW_in (gIn2 (List.mem_of_getElem? (i := 200) rfl)) rfl, gW_in (gIn1 (List.mem_of_getElem? (i := 1) (by decide +kernel))) rfl, by decide +kernel, by decide +kernel, by decide +kernel, rfl⟩
theorem sf_X2_symbolOf : Cond.static YX2_symbolOf.1 ∈ gW := gW_in (gIn2 (List.mem_of_getElem? (i := 199) (by decide +kernel))) rfl
theorem np_X2_symbolOf : gNp YX2_symbolOf.1 = some 1 := by decide +kernel
def YX2_headCharacter : gY := (yX2_headCharacter, cX2_headCharacter, 3, some .int, [])
theorem mt_X2_headCharacter : gMt YX2_headCharacter := ⟨gW_in (gIn4 (List.mem_of_getElem? (i := 139) rfl)) rfl, gW_in (gIn1 (List.mem_of_getElem? (i := 1) (by decide +kernel))) rfl, by decide +kernel, by decide +kernel, by decide +kernel, rfl⟩
theorem im_X2_headCharacter : Cond.instanceMethod YX2_headCharacter.1 ∈ gW := gW_in (gIn4 (List.mem_of_getElem? (i := 138) (by decide +kernel))) rfl
theorem se_X2_headCharacter : Cond.selects (gRx 2) YX2_headCharacter.1 YX2_headCharacter.1 ∈ gW := gW_in (gIn0 (List.mem_of_getElem? (i := 43) (by decide +kernel))) rfl
theorem np_X2_headCharacter : gNp YX2_headCharacter.1 = some 2 := by decide +kernel
def YX2_dataCharacter : gY := (yX2_dataCharacter, cX2_dataCharacter, 4, some .int, [])
theorem mt_X2_dataCharacter : gMt YX2_dataCharacter := ⟨gW_in (gIn4 (List.mem_of_getElem? (i := 143) rfl)) rfl, gW_in (gIn1 (List.mem_of_getElem? (i := 1) (by decide +kernel))) rfl, by decide +kernel, by decide +kernel, by decide +kernel, rfl⟩
theorem im_X2_dataCharacter : Cond.instanceMethod YX2_dataCharacter.1 ∈ gW := gW_in (gIn4 (List.mem_of_getElem? (i := 142) (by decide +kernel))) rfl
theorem se_X2_dataCharacter : Cond.selects (gRx 2) YX2_dataCharacter.1 YX2_dataCharacter.1 ∈ gW := gW_in (gIn0 (List.mem_of_getElem? (i := 44) (by decide +kernel))) rfl
theorem np_X2_dataCharacter : gNp YX2_dataCharacter.1 = some 2 := by decide +kernel
def YX2_writeFile : gY := (yX2_writeFile, cX2_writeFile, 6, none, [])
theorem mt_X2_writeFile : gMt YX2_writeFile := ⟨gW_in (gIn2 (List.mem_of_getElem? (i := 226) rfl)) rfl, gW_in (gIn1 (List.mem_of_getElem? (i := 1) (by decide +kernel))) rfl, by decide +kernel, by decide +kernel, by decide +kernel, rfl⟩
theorem im_X2_writeFile : Cond.instanceMethod YX2_writeFile.1 ∈ gW := gW_in (gIn2 (List.mem_of_getElem? (i := 225) (by decide +kernel))) rfl
theorem se_X2_writeFile : Cond.selects (gRx 2) YX2_writeFile.1 YX2_writeFile.1 ∈ gW := gW_in (gIn0 (List.mem_of_getElem? (i := 28) (by decide +kernel))) rfl
theorem np_X2_writeFile : gNp YX2_writeFile.1 = some 1 := by decide +kernel
def YX2_writeFound : gY := (yX2_writeFound, cX2_writeFound, 5, none, [])
theorem mt_X2_writeFound : gMt YX2_writeFound := ⟨gW_in (gIn3 (List.mem_of_getElem? (i := 6) rfl)) rfl, gW_in (gIn1 (List.mem_of_getElem? (i := 1) (by decide +kernel))) rfl, by decide +kernel, by decide +kernel, by decide +kernel, rfl⟩
theorem im_X2_writeFound : Cond.instanceMethod YX2_writeFound.1 ∈ gW := gW_in (gIn3 (List.mem_of_getElem? (i := 5) (by decide +kernel))) rfl
theorem se_X2_writeFound : Cond.selects (gRx 2) YX2_writeFound.1 YX2_writeFound.1 ∈ gW := gW_in (gIn0 (List.mem_of_getElem? (i := 32) (by decide +kernel))) rfl
theorem np_X2_writeFound : gNp YX2_writeFound.1 = some 3 := by decide +kernel
def YX2_sealBehind : gY := (yX2_sealBehind, cX2_sealBehind, 6, some .int, [])
theorem mt_X2_sealBehind : gMt YX2_sealBehind := ⟨gW_in (gIn3 (List.mem_of_getElem? (i := 2) rfl)) rfl, gW_in (gIn1 (List.mem_of_getElem? (i := 1) (by decide +kernel))) rfl, by decide +kernel, by decide +kernel, by decide +kernel, rfl⟩
theorem im_X2_sealBehind : Cond.instanceMethod YX2_sealBehind.1 ∈ gW := gW_in (gIn3 (List.mem_of_getElem? (i := 1) (by decide +kernel))) rfl
theorem se_X2_sealBehind : Cond.selects (gRx 2) YX2_sealBehind.1 YX2_sealBehind.1 ∈ gW := gW_in (gIn0 (List.mem_of_getElem? (i := 31) (by decide +kernel))) rfl
theorem np_X2_sealBehind : gNp YX2_sealBehind.1 = some 3 := by decide +kernel
def YX2_dataIn : gY := (yX2_dataIn, cX2_dataIn, 3, some .int, [])
theorem mt_X2_dataIn : gMt YX2_dataIn := ⟨gW_in (gIn2 (List.mem_of_getElem? (i := 232) rfl)) rfl, gW_in (gIn1 (List.mem_of_getElem? (i := 1) (by decide +kernel))) rfl, by decide +kernel, by decide +kernel, by decide +kernel, rfl⟩
theorem im_X2_dataIn : Cond.instanceMethod YX2_dataIn.1 ∈ gW := gW_in (gIn2 (List.mem_of_getElem? (i := 231) (by decide +kernel))) rfl
theorem se_X2_dataIn : Cond.selects (gRx 2) YX2_dataIn.1 YX2_dataIn.1 ∈ gW := gW_in (gIn0 (List.mem_of_getElem? (i := 29) (by decide +kernel))) rfl
theorem np_X2_dataIn : gNp YX2_dataIn.1 = some 2 := by decide +kernel
def YX2_lostBlocks : gY := (yX2_lostBlocks, cX2_lostBlocks, 4, some .int, [])
theorem mt_X2_lostBlocks : gMt YX2_lostBlocks := ⟨gW_in (gIn4 (List.mem_of_getElem? (i := 0) rfl)) rfl, gW_in (gIn1 (List.mem_of_getElem? (i := 1) (by decide +kernel))) rfl, by decide +kernel, by decide +kernel, by decide +kernel, rfl⟩
theorem im_X2_lostBlocks : Cond.instanceMethod YX2_lostBlocks.1 ∈ gW := gW_in (gIn3 (List.mem_of_getElem? (i := 239) (by decide +kernel))) rfl
theorem se_X2_lostBlocks : Cond.selects (gRx 2) YX2_lostBlocks.1 YX2_lostBlocks.1 ∈ gW := gW_in (gIn0 (List.mem_of_getElem? (i := 38) (by decide +kernel))) rfl
theorem np_X2_lostBlocks : gNp YX2_lostBlocks.1 = some 1 := by decide +kernel
def YX2_standingFrom : gY := (yX2_standingFrom, cX2_standingFrom, 6, some .int, [])
theorem mt_X2_standingFrom : gMt YX2_standingFrom := ⟨gW_in (gIn4 (List.mem_of_getElem? (i := 18) rfl)) rfl, gW_in (gIn1 (List.mem_of_getElem? (i := 1) (by decide +kernel))) rfl, by decide +kernel, by decide +kernel, by decide +kernel, rfl⟩
theorem im_X2_standingFrom : Cond.instanceMethod YX2_standingFrom.1 ∈ gW := gW_in (gIn4 (List.mem_of_getElem? (i := 17) (by decide +kernel))) rfl
theorem se_X2_standingFrom : Cond.selects (gRx 2) YX2_standingFrom.1 YX2_standingFrom.1 ∈ gW := gW_in (gIn0 (List.mem_of_getElem? (i := 39) (by decide +kernel))) rfl
theorem np_X2_standingFrom : gNp YX2_standingFrom.1 = some 3 := by decide +kernel
def YX2_scrubBlock : gY := (yX2_scrubBlock, cX2_scrubBlock, 7, some .int, [])
theorem mt_X2_scrubBlock : gMt YX2_scrubBlock := ⟨gW_in (gIn4 (List.mem_of_getElem? (i := 43) rfl)) rfl, gW_in (gIn1 (List.mem_of_getElem? (i := 1) (by decide +kernel))) rfl, by decide +kernel, by decide +kernel, by decide +kernel, rfl⟩
theorem im_X2_scrubBlock : Cond.instanceMethod YX2_scrubBlock.1 ∈ gW := gW_in (gIn4 (List.mem_of_getElem? (i := 42) (by decide +kernel))) rfl
theorem se_X2_scrubBlock : Cond.selects (gRx 2) YX2_scrubBlock.1 YX2_scrubBlock.1 ∈ gW := gW_in (gIn0 (List.mem_of_getElem? (i := 41) (by decide +kernel))) rfl
theorem np_X2_scrubBlock : gNp YX2_scrubBlock.1 = some 3 := by decide +kernel
def YX2_addLine : gY := (yX2_addLine, cX2_addLine, 6, none, [])
theorem mt_X2_addLine : gMt YX2_addLine := ⟨gW_in (gIn4 (List.mem_of_getElem? (i := 47) rfl)) rfl, gW_in (gIn1 (List.mem_of_getElem? (i := 1) (by decide +kernel))) rfl, by decide +kernel, by decide +kernel, by decide +kernel, rfl⟩
theorem im_X2_addLine : Cond.instanceMethod YX2_addLine.1 ∈ gW := gW_in (gIn4 (List.mem_of_getElem? (i := 46) (by decide +kernel))) rfl
theorem se_X2_addLine : Cond.selects (gRx 2) YX2_addLine.1 YX2_addLine.1 ∈ gW := gW_in (gIn0 (List.mem_of_getElem? (i := 42) (by decide +kernel))) rfl
theorem np_X2_addLine : gNp YX2_addLine.1 = some 4 := by decide +kernel
def YX2_isCell : gY := (yX2_isCell, cX2_isCell, 1, some .boolean, [])
theorem mt_X2_isCell : gMt YX2_isCell := ⟨gW_in (gIn3 (List.mem_of_getElem? (i := 116) rfl)) rfl, gW_in (gIn1 (List.mem_of_getElem? (i := 1) (by decide +kernel))) rfl, by decide +kernel, by decide +kernel, by decide +kernel, rfl⟩
theorem sf_X2_isCell : Cond.static YX2_isCell.1 ∈ gW := gW_in (gIn3 (List.mem_of_getElem? (i := 115) (by decide +kernel))) rfl
theorem np_X2_isCell : gNp YX2_isCell.1 = some 1 := by decide +kernel
def YX2_blocksFor : gY := (yX2_blocksFor, cX2_blocksFor, 1, some .int, [])
theorem mt_X2_blocksFor : gMt YX2_blocksFor := ⟨gW_in (gIn2 (List.mem_of_getElem? (i := 208) rfl)) rfl, gW_in (gIn1 (List.mem_of_getElem? (i := 1) (by decide +kernel))) rfl, by decide +kernel, by decide +kernel, by decide +kernel, rfl⟩
theorem sf_X2_blocksFor : Cond.static YX2_blocksFor.1 ∈ gW := gW_in (gIn2 (List.mem_of_getElem? (i := 207) (by decide +kernel))) rfl
theorem np_X2_blocksFor : gNp YX2_blocksFor.1 = some 1 := by decide +kernel
def YX2_product : gY := (yX2_product, cX2_product, 2, some .int, [])
theorem mt_X2_product : gMt YX2_product := ⟨gW_in (gIn2 (List.mem_of_getElem? (i := 34) rfl)) rfl, gW_in (gIn1 (List.mem_of_getElem? (i := 1) (by decide +kernel))) rfl, by decide +kernel, by decide +kernel, by decide +kernel, rfl⟩
theorem sf_X2_product : Cond.static YX2_product.1 ∈ gW := gW_in (gIn2 (List.mem_of_getElem? (i := 33) (by decide +kernel))) rfl
theorem np_X2_product : gNp YX2_product.1 = some 2 := by decide +kernel
def YX2_quotient : gY := (yX2_quotient, cX2_quotient, 2, some .int, [])
theorem mt_X2_quotient : gMt YX2_quotient := ⟨gW_in (gIn2 (List.mem_of_getElem? (i := 70) rfl)) rfl, gW_in (gIn1 (List.mem_of_getElem? (i := 1) (by decide +kernel))) rfl, by decide +kernel, by decide +kernel, by decide +kernel, rfl⟩
theorem sf_X2_quotient : Cond.static YX2_quotient.1 ∈ gW := gW_in (gIn2 (List.mem_of_getElem? (i := 69) (by decide +kernel))) rfl
theorem np_X2_quotient : gNp YX2_quotient.1 = some 2 := by decide +kernel
def YX3_init : gY := (yX3_init, cX3_init, 3, none, [])
theorem mt_X3_init : gMt YX3_init := ⟨gW_in (gIn4 (List.mem_of_getElem? (i := 164) rfl)) rfl, gW_in (gIn1 (List.mem_of_getElem? (i := 4) (by decide +kernel))) rfl, by decide +kernel, by decide +kernel, by decide +kernel, rfl⟩
theorem im_X3_init : Cond.instanceMethod YX3_init.1 ∈ gW := gW_in (gIn4 (List.mem_of_getElem? (i := 163) (by decide +kernel))) rfl
theorem np_X3_init : gNp YX3_init.1 = some 0 := by decide +kernel
def YX3_thrown : gY := (yX3_thrown, cX3_thrown, 1, some .int, [])
theorem mt_X3_thrown : gMt YX3_thrown := ⟨gW_in (gIn5 (List.mem_of_getElem? (i := 26) rfl)) rfl, gW_in (gIn1 (List.mem_of_getElem? (i := 4) (by decide +kernel))) rfl, by decide +kernel, by decide +kernel, by decide +kernel, rfl⟩
theorem im_X3_thrown : Cond.instanceMethod YX3_thrown.1 ∈ gW := gW_in (gIn5 (List.mem_of_getElem? (i := 24) (by decide +kernel))) rfl
theorem se_X3_thrown : Cond.selects (gRx 3) YX3_thrown.1 YX3_thrown.1 ∈ gW := gW_in (gIn5 (List.mem_of_getElem? (i := 25) (by decide +kernel))) rfl
theorem np_X3_thrown : gNp YX3_thrown.1 = some 0 := by decide +kernel
def YX3_no : gY := (yX3_no, cX3_no, 2, some .int, [])
theorem mt_X3_no : gMt YX3_no := ⟨gW_in (gIn5 (List.mem_of_getElem? (i := 72) rfl)) rfl, gW_in (gIn1 (List.mem_of_getElem? (i := 4) (by decide +kernel))) rfl, by decide +kernel, by decide +kernel, by decide +kernel, rfl⟩
theorem im_X3_no : Cond.instanceMethod YX3_no.1 ∈ gW := gW_in (gIn5 (List.mem_of_getElem? (i := 71) (by decide +kernel))) rfl
theorem se_X3_no : Cond.selects (gRx 3) YX3_no.1 YX3_no.1 ∈ gW := gW_in (gIn0 (List.mem_of_getElem? (i := 51) (by decide +kernel))) rfl
theorem np_X3_no : gNp YX3_no.1 = some 1 := by decide +kernel
def YX3_isIn : gY := (yX3_isIn, cX3_isIn, 3, some .boolean, [])
theorem mt_X3_isIn : gMt YX3_isIn := ⟨gW_in (gIn5 (List.mem_of_getElem? (i := 41) rfl)) rfl, gW_in (gIn1 (List.mem_of_getElem? (i := 4) (by decide +kernel))) rfl, by decide +kernel, by decide +kernel, by decide +kernel, rfl⟩
theorem sf_X3_isIn : Cond.static YX3_isIn.1 ∈ gW := gW_in (gIn5 (List.mem_of_getElem? (i := 40) (by decide +kernel))) rfl
theorem np_X3_isIn : gNp YX3_isIn.1 = some 3 := by decide +kernel
def YX3_keeps : gY := (yX3_keeps, cX3_keeps, 2, none, [])
theorem mt_X3_keeps : gMt YX3_keeps := ⟨gW_in (gIn5 (List.mem_of_getElem? (i := 96) rfl)) rfl, gW_in (gIn1 (List.mem_of_getElem? (i := 4) (by decide +kernel))) rfl, by decide +kernel, by decide +kernel, by decide +kernel, rfl⟩
theorem im_X3_keeps : Cond.instanceMethod YX3_keeps.1 ∈ gW := gW_in (gIn5 (List.mem_of_getElem? (i := 95) (by decide +kernel))) rfl
theorem se_X3_keeps : Cond.selects (gRx 3) YX3_keeps.1 YX3_keeps.1 ∈ gW := gW_in (gIn0 (List.mem_of_getElem? (i := 57) (by decide +kernel))) rfl
theorem np_X3_keeps : gNp YX3_keeps.1 = some 0 := by decide +kernel
def YX3_copies : gY := (yX3_copies, cX3_copies, 3, none, [])
theorem mt_X3_copies : gMt YX3_copies := ⟨gW_in (gIn6 (List.mem_of_getElem? (i := 97) rfl)) rfl, gW_in (gIn1 (List.mem_of_getElem? (i := 4) (by decide +kernel))) rfl, by decide +kernel, by decide +kernel, by decide +kernel, rfl⟩
theorem sf_X3_copies : Cond.static YX3_copies.1 ∈ gW := gW_in (gIn6 (List.mem_of_getElem? (i := 96) (by decide +kernel))) rfl
theorem np_X3_copies : gNp YX3_copies.1 = some 2 := by decide +kernel
def YX3_multiplied : gY := (yX3_multiplied, cX3_multiplied, 5, some .int, [])
theorem mt_X3_multiplied : gMt YX3_multiplied := ⟨gW_in (gIn4 (List.mem_of_getElem? (i := 168) rfl)) rfl, gW_in (gIn1 (List.mem_of_getElem? (i := 4) (by decide +kernel))) rfl, by decide +kernel, by decide +kernel, by decide +kernel, rfl⟩
theorem sf_X3_multiplied : Cond.static YX3_multiplied.1 ∈ gW := gW_in (gIn4 (List.mem_of_getElem? (i := 167) (by decide +kernel))) rfl
theorem np_X3_multiplied : gNp YX3_multiplied.1 = some 2 := by decide +kernel
def YX3_times : gY := (yX3_times, cX3_times, 3, some .int, [])
theorem mt_X3_times : gMt YX3_times := ⟨gW_in (gIn5 (List.mem_of_getElem? (i := 115) rfl)) rfl, gW_in (gIn1 (List.mem_of_getElem? (i := 4) (by decide +kernel))) rfl, by decide +kernel, by decide +kernel, by decide +kernel, rfl⟩
theorem im_X3_times : Cond.instanceMethod YX3_times.1 ∈ gW := gW_in (gIn5 (List.mem_of_getElem? (i := 114) (by decide +kernel))) rfl
theorem se_X3_times : Cond.selects (gRx 3) YX3_times.1 YX3_times.1 ∈ gW := gW_in (gIn0 (List.mem_of_getElem? (i := 61) (by decide +kernel))) rfl
theorem np_X3_times : gNp YX3_times.1 = some 2 := by decide +kernel
def YX3_power : gY := (yX3_power, cX3_power, 2, some .int, [])
theorem mt_X3_power : gMt YX3_power := ⟨gW_in (gIn5 (List.mem_of_getElem? (i := 111) rfl)) rfl, gW_in (gIn1 (List.mem_of_getElem? (i := 4) (by decide +kernel))) rfl, by decide +kernel, by decide +kernel, by decide +kernel, rfl⟩
theorem im_X3_power : Cond.instanceMethod YX3_power.1 ∈ gW := gW_in (gIn5 (List.mem_of_getElem? (i := 110) (by decide +kernel))) rfl
theorem se_X3_power : Cond.selects (gRx 3) YX3_power.1 YX3_power.1 ∈ gW := gW_in (gIn0 (List.mem_of_getElem? (i := 60) (by decide +kernel))) rfl
theorem np_X3_power : gNp YX3_power.1 = some 1 := by decide +kernel
def YX3_of : gY := (yX3_of, cX3_of, 3, some .int, [])
theorem mt_X3_of : gMt YX3_of := ⟨gW_in (gIn5 (List.mem_of_getElem? (i := 45) rfl)) rfl, gW_in (gIn1 (List.mem_of_getElem? (i := 4) (by decide +kernel))) rfl, by decide +kernel, by decide +kernel, by decide +kernel, rfl⟩
theorem im_X3_of : Cond.instanceMethod YX3_of.1 ∈ gW := gW_in (gIn5 (List.mem_of_getElem? (i := 44) (by decide +kernel))) rfl
theorem se_X3_of : Cond.selects (gRx 3) YX3_of.1 YX3_of.1 ∈ gW := gW_in (gIn0 (List.mem_of_getElem? (i := 47) (by decide +kernel))) rfl
theorem np_X3_of : gNp YX3_of.1 = some 2 := by decide +kernel
def YX3_isFile : gY := (yX3_isFile, cX3_isFile, 2, some .boolean, [])
theorem mt_X3_isFile : gMt YX3_isFile := ⟨gW_in (gIn5 (List.mem_of_getElem? (i := 38) rfl)) rfl, gW_in (gIn1 (List.mem_of_getElem? (i := 4) (by decide +kernel))) rfl, by decide +kernel, by decide +kernel, by decide +kernel, rfl⟩
theorem im_X3_isFile : Cond.instanceMethod YX3_isFile.1 ∈ gW := gW_in (gIn5 (List.mem_of_getElem? (i := 37) (by decide +kernel))) rfl
theorem se_X3_isFile : Cond.selects (gRx 3) YX3_isFile.1 YX3_isFile.1 ∈ gW := gW_in (gIn0 (List.mem_of_getElem? (i := 46) (by decide +kernel))) rfl
theorem np_X3_isFile : gNp YX3_isFile.1 = some 1 := by decide +kernel
def YX3_blocks : gY := (yX3_blocks, cX3_blocks, 2, some .int, [])
theorem mt_X3_blocks : gMt YX3_blocks := ⟨gW_in (gIn5 (List.mem_of_getElem? (i := 88) rfl)) rfl, gW_in (gIn1 (List.mem_of_getElem? (i := 4) (by decide +kernel))) rfl, by decide +kernel, by decide +kernel, by decide +kernel, rfl⟩
theorem im_X3_blocks : Cond.instanceMethod YX3_blocks.1 ∈ gW := gW_in (gIn5 (List.mem_of_getElem? (i := 87) (by decide +kernel))) rfl
theorem se_X3_blocks : Cond.selects (gRx 3) YX3_blocks.1 YX3_blocks.1 ∈ gW := gW_in (gIn0 (List.mem_of_getElem? (i := 55) (by decide +kernel))) rfl
theorem np_X3_blocks : gNp YX3_blocks.1 = some 1 := by decide +kernel
def YX3_size : gY := (yX3_size, cX3_size, 2, some .int, [])
theorem mt_X3_size : gMt YX3_size := ⟨gW_in (gIn5 (List.mem_of_getElem? (i := 92) rfl)) rfl, gW_in (gIn1 (List.mem_of_getElem? (i := 4) (by decide +kernel))) rfl, by decide +kernel, by decide +kernel, by decide +kernel, rfl⟩
theorem im_X3_size : Cond.instanceMethod YX3_size.1 ∈ gW := gW_in (gIn5 (List.mem_of_getElem? (i := 91) (by decide +kernel))) rfl
theorem se_X3_size : Cond.selects (gRx 3) YX3_size.1 YX3_size.1 ∈ gW := gW_in (gIn0 (List.mem_of_getElem? (i := 56) (by decide +kernel))) rfl
theorem np_X3_size : gNp YX3_size.1 = some 1 := by decide +kernel
def YX3_cells : gY := (yX3_cells, cX3_cells, 2, some .int, [])
theorem mt_X3_cells : gMt YX3_cells := ⟨gW_in (gIn5 (List.mem_of_getElem? (i := 84) rfl)) rfl, gW_in (gIn1 (List.mem_of_getElem? (i := 4) (by decide +kernel))) rfl, by decide +kernel, by decide +kernel, by decide +kernel, rfl⟩
theorem im_X3_cells : Cond.instanceMethod YX3_cells.1 ∈ gW := gW_in (gIn5 (List.mem_of_getElem? (i := 83) (by decide +kernel))) rfl
theorem se_X3_cells : Cond.selects (gRx 3) YX3_cells.1 YX3_cells.1 ∈ gW := gW_in (gIn0 (List.mem_of_getElem? (i := 54) (by decide +kernel))) rfl
theorem np_X3_cells : gNp YX3_cells.1 = some 1 := by decide +kernel
def YX3_isBlock : gY := (yX3_isBlock, cX3_isBlock, 3, some .boolean, [])
theorem mt_X3_isBlock : gMt YX3_isBlock := ⟨gW_in (gIn5 (List.mem_of_getElem? (i := 158) rfl)) rfl, gW_in (gIn1 (List.mem_of_getElem? (i := 4) (by decide +kernel))) rfl, by decide +kernel, by decide +kernel, by decide +kernel, rfl⟩
theorem im_X3_isBlock : Cond.instanceMethod YX3_isBlock.1 ∈ gW := gW_in (gIn5 (List.mem_of_getElem? (i := 157) (by decide +kernel))) rfl
theorem se_X3_isBlock : Cond.selects (gRx 3) YX3_isBlock.1 YX3_isBlock.1 ∈ gW := gW_in (gIn0 (List.mem_of_getElem? (i := 66) (by decide +kernel))) rfl
theorem np_X3_isBlock : gNp YX3_isBlock.1 = some 2 := by decide +kernel
def YX3_cell : gY := (yX3_cell, cX3_cell, 7, some .int, [])
theorem mt_X3_cell : gMt YX3_cell := ⟨gW_in (gIn5 (List.mem_of_getElem? (i := 126) rfl)) rfl, gW_in (gIn1 (List.mem_of_getElem? (i := 4) (by decide +kernel))) rfl, by decide +kernel, by decide +kernel, by decide +kernel, rfl⟩
theorem im_X3_cell : Cond.instanceMethod YX3_cell.1 ∈ gW := gW_in (gIn5 (List.mem_of_getElem? (i := 125) (by decide +kernel))) rfl
theorem se_X3_cell : Cond.selects (gRx 3) YX3_cell.1 YX3_cell.1 ∈ gW := gW_in (gIn0 (List.mem_of_getElem? (i := 63) (by decide +kernel))) rfl
theorem np_X3_cell : gNp YX3_cell.1 = some 3 := by decide +kernel
def YX3_ownerOf : gY := (yX3_ownerOf, cX3_ownerOf, 3, some .int, [])
theorem mt_X3_ownerOf : gMt YX3_ownerOf := ⟨gW_in (gIn5 (List.mem_of_getElem? (i := 80) rfl)) rfl, gW_in (gIn1 (List.mem_of_getElem? (i := 4) (by decide +kernel))) rfl, by decide +kernel, by decide +kernel, by decide +kernel, rfl⟩
theorem im_X3_ownerOf : Cond.instanceMethod YX3_ownerOf.1 ∈ gW := gW_in (gIn5 (List.mem_of_getElem? (i := 79) (by decide +kernel))) rfl
theorem se_X3_ownerOf : Cond.selects (gRx 3) YX3_ownerOf.1 YX3_ownerOf.1 ∈ gW := gW_in (gIn0 (List.mem_of_getElem? (i := 53) (by decide +kernel))) rfl
theorem np_X3_ownerOf : gNp YX3_ownerOf.1 = some 1 := by decide +kernel
def YX3_many : gY := (yX3_many, cX3_many, 3, some .int, [])
theorem mt_X3_many : gMt YX3_many := ⟨gW_in (gIn5 (List.mem_of_getElem? (i := 34) rfl)) rfl, gW_in (gIn1 (List.mem_of_getElem? (i := 4) (by decide +kernel))) rfl, by decide +kernel, by decide +kernel, by decide +kernel, rfl⟩
theorem im_X3_many : Cond.instanceMethod YX3_many.1 ∈ gW := gW_in (gIn5 (List.mem_of_getElem? (i := 33) (by decide +kernel))) rfl
theorem se_X3_many : Cond.selects (gRx 3) YX3_many.1 YX3_many.1 ∈ gW := gW_in (gIn0 (List.mem_of_getElem? (i := 45) (by decide +kernel))) rfl
theorem np_X3_many : gNp YX3_many.1 = some 0 := by decide +kernel
def YX3_clear : gY := (yX3_clear, cX3_clear, 3, some .int, [])
theorem mt_X3_clear : gMt YX3_clear := ⟨gW_in (gIn5 (List.mem_of_getElem? (i := 30) rfl)) rfl, gW_in (gIn1 (List.mem_of_getElem? (i := 4) (by decide +kernel))) rfl, by decide +kernel, by decide +kernel, by decide +kernel, rfl⟩
theorem im_X3_clear : Cond.instanceMethod YX3_clear.1 ∈ gW := gW_in (gIn5 (List.mem_of_getElem? (i := 28) (by decide +kernel))) rfl
theorem se_X3_clear : Cond.selects (gRx 3) YX3_clear.1 YX3_clear.1 ∈ gW := gW_in (gIn5 (List.mem_of_getElem? (i := 29) (by decide +kernel))) rfl
theorem np_X3_clear : gNp YX3_clear.1 = some 0 := by decide +kernel
def YX3_append : gY := (yX3_append, cX3_append, 2, some .int, [])
theorem mt_X3_append : gMt YX3_append := ⟨gW_in (gIn5 (List.mem_of_getElem? (i := 49) rfl)) rfl, gW_in (gIn1 (List.mem_of_getElem? (i := 4) (by decide +kernel))) rfl, by decide +kernel, by decide +kernel, by decide +kernel, rfl⟩
theorem im_X3_append : Cond.instanceMethod YX3_append.1 ∈ gW := gW_in (gIn5 (List.mem_of_getElem? (i := 47) (by decide +kernel))) rfl
theorem se_X3_append : Cond.selects (gRx 3) YX3_append.1 YX3_append.1 ∈ gW := gW_in (gIn5 (List.mem_of_getElem? (i := 48) (by decide +kernel))) rfl
theorem np_X3_append : gNp YX3_append.1 = some 1 := by decide +kernel
def YX3_here : gY := (yX3_here, cX3_here, 1, some .int, [])
theorem mt_X3_here : gMt YX3_here := ⟨gW_in (gIn5 (List.mem_of_getElem? (i := 61) rfl)) rfl, gW_in (gIn1 (List.mem_of_getElem? (i := 4) (by decide +kernel))) rfl, by decide +kernel, by decide +kernel, by decide +kernel, rfl⟩
theorem im_X3_here : Cond.instanceMethod YX3_here.1 ∈ gW := gW_in (gIn5 (List.mem_of_getElem? (i := 60) (by decide +kernel))) rfl
theorem se_X3_here : Cond.selects (gRx 3) YX3_here.1 YX3_here.1 ∈ gW := gW_in (gIn0 (List.mem_of_getElem? (i := 49) (by decide +kernel))) rfl
theorem np_X3_here : gNp YX3_here.1 = some 0 := by decide +kernel
def YX3_digit : gY := (yX3_digit, cX3_digit, 3, some .int, [])
theorem mt_X3_digit : gMt YX3_digit := ⟨gW_in (gIn5 (List.mem_of_getElem? (i := 57) rfl)) rfl, gW_in (gIn1 (List.mem_of_getElem? (i := 4) (by decide +kernel))) rfl, by decide +kernel, by decide +kernel, by decide +kernel, rfl⟩
theorem im_X3_digit : Cond.instanceMethod YX3_digit.1 ∈ gW := gW_in (gIn5 (List.mem_of_getElem? (i := 56) (by decide +kernel))) rfl
theorem se_X3_digit : Cond.selects (gRx 3) YX3_digit.1 YX3_digit.1 ∈ gW := gW_in (gIn0 (List.mem_of_getElem? (i := 48) (by decide +kernel))) rfl
theorem np_X3_digit : gNp YX3_digit.1 = some 1 := by decide +kernel
def YX3_takes : gY := (yX3_takes, cX3_takes, 2, none, [])
theorem mt_X3_takes : gMt YX3_takes := ⟨gW_in (gIn5 (List.mem_of_getElem? (i := 65) rfl)) rfl, gW_in (gIn1 (List.mem_of_getElem? (i := 4) (by decide +kernel))) rfl, by decide +kernel, by decide +kernel, by decide +kernel, rfl⟩
theorem im_X3_takes : Cond.instanceMethod YX3_takes.1 ∈ gW := gW_in (gIn5 (List.mem_of_getElem? (i := 64) (by decide +kernel))) rfl
theorem se_X3_takes : Cond.selects (gRx 3) YX3_takes.1 YX3_takes.1 ∈ gW := gW_in (gIn0 (List.mem_of_getElem? (i := 50) (by decide +kernel))) rfl
theorem np_X3_takes : gNp YX3_takes.1 = some 1 := by decide +kernel
def YX3_symbolOf : gY := (yX3_symbolOf, cX3_symbolOf, 1, some .int, [])
theorem mt_X3_symbolOf : gMt YX3_symbolOf := ⟨gW_in (gIn5 (List.mem_of_getElem? (i := 68) rfl)) rfl, gW_in (gIn1 (List.mem_of_getElem? (i := 4) (by decide +kernel))) rfl, by decide +kernel, by decide +kernel, by decide +kernel, rfl⟩
theorem sf_X3_symbolOf : Cond.static YX3_symbolOf.1 ∈ gW := gW_in (gIn5 (List.mem_of_getElem? (i := 67) (by decide +kernel))) rfl
theorem np_X3_symbolOf : gNp YX3_symbolOf.1 = some 1 := by decide +kernel
def YX3_area : gY := (yX3_area, cX3_area, 4, some .int, [])
theorem mt_X3_area : gMt YX3_area := ⟨gW_in (gIn5 (List.mem_of_getElem? (i := 76) rfl)) rfl, gW_in (gIn1 (List.mem_of_getElem? (i := 4) (by decide +kernel))) rfl, by decide +kernel, by decide +kernel, by decide +kernel, rfl⟩
theorem im_X3_area : Cond.instanceMethod YX3_area.1 ∈ gW := gW_in (gIn5 (List.mem_of_getElem? (i := 75) (by decide +kernel))) rfl
theorem se_X3_area : Cond.selects (gRx 3) YX3_area.1 YX3_area.1 ∈ gW := gW_in (gIn0 (List.mem_of_getElem? (i := 52) (by decide +kernel))) rfl
theorem np_X3_area : gNp YX3_area.1 = some 1 := by decide +kernel
def YX3_writes : gY := (yX3_writes, cX3_writes, 3, none, [])
theorem mt_X3_writes : gMt YX3_writes := ⟨gW_in (gIn5 (List.mem_of_getElem? (i := 130) rfl)) rfl, gW_in (gIn1 (List.mem_of_getElem? (i := 4) (by decide +kernel))) rfl, by decide +kernel, by decide +kernel, by decide +kernel, rfl⟩
theorem im_X3_writes : Cond.instanceMethod YX3_writes.1 ∈ gW := gW_in (gIn5 (List.mem_of_getElem? (i := 129) (by decide +kernel))) rfl
theorem se_X3_writes : Cond.selects (gRx 3) YX3_writes.1 YX3_writes.1 ∈ gW := gW_in (gIn0 (List.mem_of_getElem? (i := 64) (by decide +kernel))) rfl
theorem np_X3_writes : gNp YX3_writes.1 = some 2 := by decide +kernel
def YX3_store : gY := (yX3_store, cX3_store, 11, some .int, [])
theorem mt_X3_store : gMt YX3_store := ⟨gW_in (gIn5 (List.mem_of_getElem? (i := 53) rfl)) rfl, gW_in (gIn1 (List.mem_of_getElem? (i := 4) (by decide +kernel))) rfl, by decide +kernel, by decide +kernel, by decide +kernel, rfl⟩
theorem im_X3_store : Cond.instanceMethod YX3_store.1 ∈ gW := gW_in (gIn5 (List.mem_of_getElem? (i := 51) (by decide +kernel))) rfl
theorem se_X3_store : Cond.selects (gRx 3) YX3_store.1 YX3_store.1 ∈ gW := gW_in (gIn5 (List.mem_of_getElem? (i := 52) (by decide +kernel))) rfl
theorem np_X3_store : gNp YX3_store.1 = some 0 := by decide +kernel
def YX3_errorPosition : gY := (yX3_errorPosition, cX3_errorPosition, 1, some .int, [])
theorem mt_X3_errorPosition : gMt YX3_errorPosition := ⟨gW_in (gIn5 (List.mem_of_getElem? (i := 134) rfl)) rfl, gW_in (gIn1 (List.mem_of_getElem? (i := 4) (by decide +kernel))) rfl, by decide +kernel, by decide +kernel, by decide +kernel, rfl⟩
theorem im_X3_errorPosition : Cond.instanceMethod YX3_errorPosition.1 ∈ gW := gW_in (gIn5 (List.mem_of_getElem? (i := 132) (by decide +kernel))) rfl
theorem se_X3_errorPosition : Cond.selects (gRx 3) YX3_errorPosition.1 YX3_errorPosition.1 ∈ gW := gW_in (gIn5 (List.mem_of_getElem? (i := 133) (by decide +kernel))) rfl
theorem np_X3_errorPosition : gNp YX3_errorPosition.1 = some 0 := by decide +kernel
def YX3_remove : gY := (yX3_remove, cX3_remove, 3, some .int, [])
theorem mt_X3_remove : gMt YX3_remove := ⟨gW_in (gIn5 (List.mem_of_getElem? (i := 138) rfl)) rfl, gW_in (gIn1 (List.mem_of_getElem? (i := 4) (by decide +kernel))) rfl, by decide +kernel, by decide +kernel, by decide +kernel, rfl⟩
theorem im_X3_remove : Cond.instanceMethod YX3_remove.1 ∈ gW := gW_in (gIn5 (List.mem_of_getElem? (i := 136) (by decide +kernel))) rfl
theorem se_X3_remove : Cond.selects (gRx 3) YX3_remove.1 YX3_remove.1 ∈ gW := gW_in (gIn5 (List.mem_of_getElem? (i := 137) (by decide +kernel))) rfl
theorem np_X3_remove : gNp YX3_remove.1 = some 1 := by decide +kernel
def YX3_file : gY := (yX3_file, cX3_file, 3, some .int, [])
theorem mt_X3_file : gMt YX3_file := ⟨gW_in (gIn5 (List.mem_of_getElem? (i := 142) rfl)) rfl, gW_in (gIn1 (List.mem_of_getElem? (i := 4) (by decide +kernel))) rfl, by decide +kernel, by decide +kernel, by decide +kernel, rfl⟩
theorem im_X3_file : Cond.instanceMethod YX3_file.1 ∈ gW := gW_in (gIn5 (List.mem_of_getElem? (i := 140) (by decide +kernel))) rfl
theorem se_X3_file : Cond.selects (gRx 3) YX3_file.1 YX3_file.1 ∈ gW := gW_in (gIn5 (List.mem_of_getElem? (i := 141) (by decide +kernel))) rfl
theorem np_X3_file : gNp YX3_file.1 = some 2 := by decide +kernel
def YX3_files : gY := (yX3_files, cX3_files, 3, some .int, [])
theorem mt_X3_files : gMt YX3_files := ⟨gW_in (gIn5 (List.mem_of_getElem? (i := 146) rfl)) rfl, gW_in (gIn1 (List.mem_of_getElem? (i := 4) (by decide +kernel))) rfl, by decide +kernel, by decide +kernel, by decide +kernel, rfl⟩
theorem im_X3_files : Cond.instanceMethod YX3_files.1 ∈ gW := gW_in (gIn5 (List.mem_of_getElem? (i := 144) (by decide +kernel))) rfl
theorem se_X3_files : Cond.selects (gRx 3) YX3_files.1 YX3_files.1 ∈ gW := gW_in (gIn5 (List.mem_of_getElem? (i := 145) (by decide +kernel))) rfl
theorem np_X3_files : gNp YX3_files.1 = some 0 := by decide +kernel
def YX3_isPlace : gY := (yX3_isPlace, cX3_isPlace, 4, some .boolean, [])
theorem mt_X3_isPlace : gMt YX3_isPlace := ⟨gW_in (gIn5 (List.mem_of_getElem? (i := 154) rfl)) rfl, gW_in (gIn1 (List.mem_of_getElem? (i := 4) (by decide +kernel))) rfl, by decide +kernel, by decide +kernel, by decide +kernel, rfl⟩
theorem im_X3_isPlace : Cond.instanceMethod YX3_isPlace.1 ∈ gW := gW_in (gIn5 (List.mem_of_getElem? (i := 153) (by decide +kernel))) rfl
theorem se_X3_isPlace : Cond.selects (gRx 3) YX3_isPlace.1 YX3_isPlace.1 ∈ gW := gW_in (gIn0 (List.mem_of_getElem? (i := 65) (by decide +kernel))) rfl
theorem np_X3_isPlace : gNp YX3_isPlace.1 = some 3 := by decide +kernel
def YX3_cellOf : gY := (yX3_cellOf, cX3_cellOf, 4, some .int, [])
theorem mt_X3_cellOf : gMt YX3_cellOf := ⟨gW_in (gIn5 (List.mem_of_getElem? (i := 150) rfl)) rfl, gW_in (gIn1 (List.mem_of_getElem? (i := 4) (by decide +kernel))) rfl, by decide +kernel, by decide +kernel, by decide +kernel, rfl⟩
theorem im_X3_cellOf : Cond.instanceMethod YX3_cellOf.1 ∈ gW := gW_in (gIn5 (List.mem_of_getElem? (i := 148) (by decide +kernel))) rfl
theorem se_X3_cellOf : Cond.selects (gRx 3) YX3_cellOf.1 YX3_cellOf.1 ∈ gW := gW_in (gIn5 (List.mem_of_getElem? (i := 149) (by decide +kernel))) rfl
theorem np_X3_cellOf : gNp YX3_cellOf.1 = some 3 := by decide +kernel
def YX3_isCell : gY := (yX3_isCell, cX3_isCell, 2, some .boolean, [])
theorem mt_X3_isCell : gMt YX3_isCell := ⟨gW_in (gIn5 (List.mem_of_getElem? (i := 166) rfl)) rfl, gW_in (gIn1 (List.mem_of_getElem? (i := 4) (by decide +kernel))) rfl, by decide +kernel, by decide +kernel, by decide +kernel, rfl⟩
theorem im_X3_isCell : Cond.instanceMethod YX3_isCell.1 ∈ gW := gW_in (gIn5 (List.mem_of_getElem? (i := 165) (by decide +kernel))) rfl
theorem se_X3_isCell : Cond.selects (gRx 3) YX3_isCell.1 YX3_isCell.1 ∈ gW := gW_in (gIn0 (List.mem_of_getElem? (i := 67) (by decide +kernel))) rfl
theorem np_X3_isCell : gNp YX3_isCell.1 = some 1 := by decide +kernel
def YX3_owner : gY := (yX3_owner, cX3_owner, 2, some .int, [])
theorem mt_X3_owner : gMt YX3_owner := ⟨gW_in (gIn5 (List.mem_of_getElem? (i := 162) rfl)) rfl, gW_in (gIn1 (List.mem_of_getElem? (i := 4) (by decide +kernel))) rfl, by decide +kernel, by decide +kernel, by decide +kernel, rfl⟩
theorem im_X3_owner : Cond.instanceMethod YX3_owner.1 ∈ gW := gW_in (gIn5 (List.mem_of_getElem? (i := 160) (by decide +kernel))) rfl
theorem se_X3_owner : Cond.selects (gRx 3) YX3_owner.1 YX3_owner.1 ∈ gW := gW_in (gIn5 (List.mem_of_getElem? (i := 161) (by decide +kernel))) rfl
theorem np_X3_owner : gNp YX3_owner.1 = some 1 := by decide +kernel
def YX3_placeOf : gY := (yX3_placeOf, cX3_placeOf, 5, some .int, [])
theorem mt_X3_placeOf : gMt YX3_placeOf := ⟨gW_in (gIn5 (List.mem_of_getElem? (i := 170) rfl)) rfl, gW_in (gIn1 (List.mem_of_getElem? (i := 4) (by decide +kernel))) rfl, by decide +kernel, by decide +kernel, by decide +kernel, rfl⟩
theorem im_X3_placeOf : Cond.instanceMethod YX3_placeOf.1 ∈ gW := gW_in (gIn5 (List.mem_of_getElem? (i := 168) (by decide +kernel))) rfl
theorem se_X3_placeOf : Cond.selects (gRx 3) YX3_placeOf.1 YX3_placeOf.1 ∈ gW := gW_in (gIn5 (List.mem_of_getElem? (i := 169) (by decide +kernel))) rfl
theorem np_X3_placeOf : gNp YX3_placeOf.1 = some 1 := by decide +kernel
def YX3_room : gY := (yX3_room, cX3_room, 4, some .int, [])
theorem mt_X3_room : gMt YX3_room := ⟨gW_in (gIn5 (List.mem_of_getElem? (i := 174) rfl)) rfl, gW_in (gIn1 (List.mem_of_getElem? (i := 4) (by decide +kernel))) rfl, by decide +kernel, by decide +kernel, by decide +kernel, rfl⟩
theorem im_X3_room : Cond.instanceMethod YX3_room.1 ∈ gW := gW_in (gIn5 (List.mem_of_getElem? (i := 172) (by decide +kernel))) rfl
theorem se_X3_room : Cond.selects (gRx 3) YX3_room.1 YX3_room.1 ∈ gW := gW_in (gIn5 (List.mem_of_getElem? (i := 173) (by decide +kernel))) rfl
theorem np_X3_room : gNp YX3_room.1 = some 0 := by decide +kernel
def YX3_symbol : gY := (yX3_symbol, cX3_symbol, 2, some .int, [])
theorem mt_X3_symbol : gMt YX3_symbol := ⟨gW_in (gIn5 (List.mem_of_getElem? (i := 178) rfl)) rfl, gW_in (gIn1 (List.mem_of_getElem? (i := 4) (by decide +kernel))) rfl, by decide +kernel, by decide +kernel, by decide +kernel, rfl⟩
theorem im_X3_symbol : Cond.instanceMethod YX3_symbol.1 ∈ gW := gW_in (gIn5 (List.mem_of_getElem? (i := 176) (by decide +kernel))) rfl
theorem se_X3_symbol : Cond.selects (gRx 3) YX3_symbol.1 YX3_symbol.1 ∈ gW := gW_in (gIn5 (List.mem_of_getElem? (i := 177) (by decide +kernel))) rfl
theorem np_X3_symbol : gNp YX3_symbol.1 = some 1 := by decide +kernel
def YX3_isErased : gY := (yX3_isErased, cX3_isErased, 2, some .boolean, [])
theorem mt_X3_isErased : gMt YX3_isErased := ⟨gW_in (gIn5 (List.mem_of_getElem? (i := 182) rfl)) rfl, gW_in (gIn1 (List.mem_of_getElem? (i := 4) (by decide +kernel))) rfl, by decide +kernel, by decide +kernel, by decide +kernel, rfl⟩
theorem im_X3_isErased : Cond.instanceMethod YX3_isErased.1 ∈ gW := gW_in (gIn5 (List.mem_of_getElem? (i := 180) (by decide +kernel))) rfl
theorem se_X3_isErased : Cond.selects (gRx 3) YX3_isErased.1 YX3_isErased.1 ∈ gW := gW_in (gIn5 (List.mem_of_getElem? (i := 181) (by decide +kernel))) rfl
theorem np_X3_isErased : gNp YX3_isErased.1 = some 1 := by decide +kernel
def YX3_flip : gY := (yX3_flip, cX3_flip, 3, some .int, [])
theorem mt_X3_flip : gMt YX3_flip := ⟨gW_in (gIn5 (List.mem_of_getElem? (i := 186) rfl)) rfl, gW_in (gIn1 (List.mem_of_getElem? (i := 4) (by decide +kernel))) rfl, by decide +kernel, by decide +kernel, by decide +kernel, rfl⟩
theorem im_X3_flip : Cond.instanceMethod YX3_flip.1 ∈ gW := gW_in (gIn5 (List.mem_of_getElem? (i := 184) (by decide +kernel))) rfl
theorem se_X3_flip : Cond.selects (gRx 3) YX3_flip.1 YX3_flip.1 ∈ gW := gW_in (gIn5 (List.mem_of_getElem? (i := 185) (by decide +kernel))) rfl
theorem np_X3_flip : gNp YX3_flip.1 = some 2 := by decide +kernel
def YX3_erase : gY := (yX3_erase, cX3_erase, 3, some .int, [])
theorem mt_X3_erase : gMt YX3_erase := ⟨gW_in (gIn5 (List.mem_of_getElem? (i := 190) rfl)) rfl, gW_in (gIn1 (List.mem_of_getElem? (i := 4) (by decide +kernel))) rfl, by decide +kernel, by decide +kernel, by decide +kernel, rfl⟩
theorem im_X3_erase : Cond.instanceMethod YX3_erase.1 ∈ gW := gW_in (gIn5 (List.mem_of_getElem? (i := 188) (by decide +kernel))) rfl
theorem se_X3_erase : Cond.selects (gRx 3) YX3_erase.1 YX3_erase.1 ∈ gW := gW_in (gIn5 (List.mem_of_getElem? (i := 189) (by decide +kernel))) rfl
theorem np_X3_erase : gNp YX3_erase.1 = some 1 := by decide +kernel
def YX3_burst : gY := (yX3_burst, cX3_burst, 6, some .int, [])
theorem mt_X3_burst : gMt YX3_burst := ⟨gW_in (gIn5 (List.mem_of_getElem? (i := 194) rfl)) rfl, gW_in (gIn1 (List.mem_of_getElem? (i := 4) (by decide +kernel))) rfl, by decide +kernel, by decide +kernel, by decide +kernel, rfl⟩
theorem im_X3_burst : Cond.instanceMethod YX3_burst.1 ∈ gW := gW_in (gIn5 (List.mem_of_getElem? (i := 192) (by decide +kernel))) rfl
theorem se_X3_burst : Cond.selects (gRx 3) YX3_burst.1 YX3_burst.1 ∈ gW := gW_in (gIn5 (List.mem_of_getElem? (i := 193) (by decide +kernel))) rfl
theorem np_X3_burst : gNp YX3_burst.1 = some 3 := by decide +kernel
def YX3_isWrong : gY := (yX3_isWrong, cX3_isWrong, 2, some .boolean, [])
theorem mt_X3_isWrong : gMt YX3_isWrong := ⟨gW_in (gIn5 (List.mem_of_getElem? (i := 206) rfl)) rfl, gW_in (gIn1 (List.mem_of_getElem? (i := 4) (by decide +kernel))) rfl, by decide +kernel, by decide +kernel, by decide +kernel, rfl⟩
theorem im_X3_isWrong : Cond.instanceMethod YX3_isWrong.1 ∈ gW := gW_in (gIn5 (List.mem_of_getElem? (i := 205) (by decide +kernel))) rfl
theorem se_X3_isWrong : Cond.selects (gRx 3) YX3_isWrong.1 YX3_isWrong.1 ∈ gW := gW_in (gIn0 (List.mem_of_getElem? (i := 69) (by decide +kernel))) rfl
theorem np_X3_isWrong : gNp YX3_isWrong.1 = some 1 := by decide +kernel
def YX3_isFileOrAll : gY := (yX3_isFileOrAll, cX3_isFileOrAll, 2, some .boolean, [])
theorem mt_X3_isFileOrAll : gMt YX3_isFileOrAll := ⟨gW_in (gIn5 (List.mem_of_getElem? (i := 202) rfl)) rfl, gW_in (gIn1 (List.mem_of_getElem? (i := 4) (by decide +kernel))) rfl, by decide +kernel, by decide +kernel, by decide +kernel, rfl⟩
theorem im_X3_isFileOrAll : Cond.instanceMethod YX3_isFileOrAll.1 ∈ gW := gW_in (gIn5 (List.mem_of_getElem? (i := 201) (by decide +kernel))) rfl
theorem se_X3_isFileOrAll : Cond.selects (gRx 3) YX3_isFileOrAll.1 YX3_isFileOrAll.1 ∈ gW := gW_in (gIn0 (List.mem_of_getElem? (i := 68) (by decide +kernel))) rfl
theorem np_X3_isFileOrAll : gNp YX3_isFileOrAll.1 = some 1 := by decide +kernel
def YX3_wrong : gY := (yX3_wrong, cX3_wrong, 4, some .int, [])
theorem mt_X3_wrong : gMt YX3_wrong := ⟨gW_in (gIn5 (List.mem_of_getElem? (i := 198) rfl)) rfl, gW_in (gIn1 (List.mem_of_getElem? (i := 4) (by decide +kernel))) rfl, by decide +kernel, by decide +kernel, by decide +kernel, rfl⟩
theorem im_X3_wrong : Cond.instanceMethod YX3_wrong.1 ∈ gW := gW_in (gIn5 (List.mem_of_getElem? (i := 196) (by decide +kernel))) rfl
theorem se_X3_wrong : Cond.selects (gRx 3) YX3_wrong.1 YX3_wrong.1 ∈ gW := gW_in (gIn5 (List.mem_of_getElem? (i := 197) (by decide +kernel))) rfl
theorem np_X3_wrong : gNp YX3_wrong.1 = some 1 := by decide +kernel
def YX3_erased : gY := (yX3_erased, cX3_erased, 4, some .int, [])
theorem mt_X3_erased : gMt YX3_erased := ⟨gW_in (gIn5 (List.mem_of_getElem? (i := 210) rfl)) rfl, gW_in (gIn1 (List.mem_of_getElem? (i := 4) (by decide +kernel))) rfl, by decide +kernel, by decide +kernel, by decide +kernel, rfl⟩
theorem im_X3_erased : Cond.instanceMethod YX3_erased.1 ∈ gW := gW_in (gIn5 (List.mem_of_getElem? (i := 208) (by decide +kernel))) rfl
theorem se_X3_erased : Cond.selects (gRx 3) YX3_erased.1 YX3_erased.1 ∈ gW := gW_in (gIn5 (List.mem_of_getElem? (i := 209) (by decide +kernel))) rfl
theorem np_X3_erased : gNp YX3_erased.1 = some 1 := by decide +kernel
def YX3_looks : gY := (yX3_looks, cX3_looks, 5, none, [])
theorem mt_X3_looks : gMt YX3_looks := ⟨gW_in (gIn5 (List.mem_of_getElem? (i := 218) rfl)) rfl, gW_in (gIn1 (List.mem_of_getElem? (i := 4) (by decide +kernel))) rfl, by decide +kernel, by decide +kernel, by decide +kernel, rfl⟩
theorem im_X3_looks : Cond.instanceMethod YX3_looks.1 ∈ gW := gW_in (gIn5 (List.mem_of_getElem? (i := 217) (by decide +kernel))) rfl
theorem se_X3_looks : Cond.selects (gRx 3) YX3_looks.1 YX3_looks.1 ∈ gW := gW_in (gIn0 (List.mem_of_getElem? (i := 70) (by decide +kernel))) rfl
theorem np_X3_looks : gNp YX3_looks.1 = some 2 := by decide +kernel
def YX3_sumOf : gY := (yX3_sumOf, cX3_sumOf, 4, some .int, [])
theorem mt_X3_sumOf : gMt YX3_sumOf := ⟨gW_in (gIn5 (List.mem_of_getElem? (i := 107) rfl)) rfl, gW_in (gIn1 (List.mem_of_getElem? (i := 4) (by decide +kernel))) rfl, by decide +kernel, by decide +kernel, by decide +kernel, rfl⟩
theorem im_X3_sumOf : Cond.instanceMethod YX3_sumOf.1 ∈ gW := gW_in (gIn5 (List.mem_of_getElem? (i := 106) (by decide +kernel))) rfl
theorem se_X3_sumOf : Cond.selects (gRx 3) YX3_sumOf.1 YX3_sumOf.1 ∈ gW := gW_in (gIn0 (List.mem_of_getElem? (i := 59) (by decide +kernel))) rfl
theorem np_X3_sumOf : gNp YX3_sumOf.1 = some 1 := by decide +kernel
def YX3_bits : gY := (yX3_bits, cX3_bits, 3, some .int, [])
theorem mt_X3_bits : gMt YX3_bits := ⟨gW_in (gIn5 (List.mem_of_getElem? (i := 103) rfl)) rfl, gW_in (gIn1 (List.mem_of_getElem? (i := 4) (by decide +kernel))) rfl, by decide +kernel, by decide +kernel, by decide +kernel, rfl⟩
theorem sf_X3_bits : Cond.static YX3_bits.1 ∈ gW := gW_in (gIn5 (List.mem_of_getElem? (i := 102) (by decide +kernel))) rfl
theorem np_X3_bits : gNp YX3_bits.1 = some 1 := by decide +kernel
def YX3_isSolved : gY := (yX3_isSolved, cX3_isSolved, 9, some .boolean, [])
theorem mt_X3_isSolved : gMt YX3_isSolved := ⟨gW_in (gIn5 (List.mem_of_getElem? (i := 119) rfl)) rfl, gW_in (gIn1 (List.mem_of_getElem? (i := 4) (by decide +kernel))) rfl, by decide +kernel, by decide +kernel, by decide +kernel, rfl⟩
theorem im_X3_isSolved : Cond.instanceMethod YX3_isSolved.1 ∈ gW := gW_in (gIn5 (List.mem_of_getElem? (i := 118) (by decide +kernel))) rfl
theorem se_X3_isSolved : Cond.selects (gRx 3) YX3_isSolved.1 YX3_isSolved.1 ∈ gW := gW_in (gIn0 (List.mem_of_getElem? (i := 62) (by decide +kernel))) rfl
theorem np_X3_isSolved : gNp YX3_isSolved.1 = some 1 := by decide +kernel
def YX3_isDecoded : gY := (yX3_isDecoded, cX3_isDecoded, 2, some .boolean, [])
theorem mt_X3_isDecoded : gMt YX3_isDecoded := ⟨gW_in (gIn5 (List.mem_of_getElem? (i := 100) rfl)) rfl, gW_in (gIn1 (List.mem_of_getElem? (i := 4) (by decide +kernel))) rfl, by decide +kernel, by decide +kernel, by decide +kernel, rfl⟩
theorem im_X3_isDecoded : Cond.instanceMethod YX3_isDecoded.1 ∈ gW := gW_in (gIn5 (List.mem_of_getElem? (i := 99) (by decide +kernel))) rfl
theorem se_X3_isDecoded : Cond.selects (gRx 3) YX3_isDecoded.1 YX3_isDecoded.1 ∈ gW := gW_in (gIn0 (List.mem_of_getElem? (i := 58) (by decide +kernel))) rfl
theorem np_X3_isDecoded : gNp YX3_isDecoded.1 = some 0 := by decide +kernel
def YX3_behind : gY := (yX3_behind, cX3_behind, 4, some .int, [])
theorem mt_X3_behind : gMt YX3_behind := ⟨gW_in (gIn5 (List.mem_of_getElem? (i := 122) rfl)) rfl, gW_in (gIn1 (List.mem_of_getElem? (i := 4) (by decide +kernel))) rfl, by decide +kernel, by decide +kernel, by decide +kernel, rfl⟩
theorem sf_X3_behind : Cond.static YX3_behind.1 ∈ gW := gW_in (gIn5 (List.mem_of_getElem? (i := 121) (by decide +kernel))) rfl
theorem np_X3_behind : gNp YX3_behind.1 = some 2 := by decide +kernel
def YX3_isDecoded_ : gY := (yX3_isDecoded_, cX3_isDecoded_, 3, some .boolean, [])
theorem mt_X3_isDecoded_ : gMt YX3_isDecoded_ := ⟨gW_in (gIn5 (List.mem_of_getElem? (i := 230) rfl)) rfl, gW_in (gIn1 (List.mem_of_getElem? (i := 4) (by decide +kernel))) rfl, by decide +kernel, by decide +kernel, by decide +kernel, rfl⟩
theorem im_X3_isDecoded_ : Cond.instanceMethod YX3_isDecoded_.1 ∈ gW := gW_in (gIn5 (List.mem_of_getElem? (i := 229) (by decide +kernel))) rfl
theorem se_X3_isDecoded_ : Cond.selects (gRx 3) YX3_isDecoded_.1 YX3_isDecoded_.1 ∈ gW := gW_in (gIn0 (List.mem_of_getElem? (i := 72) (by decide +kernel))) rfl
theorem np_X3_isDecoded_ : gNp YX3_isDecoded_.1 = some 2 := by decide +kernel
def YX3_isClean : gY := (yX3_isClean, cX3_isClean, 1, some .boolean, [])
theorem mt_X3_isClean : gMt YX3_isClean := ⟨gW_in (gIn6 (List.mem_of_getElem? (i := 10) rfl)) rfl, gW_in (gIn1 (List.mem_of_getElem? (i := 4) (by decide +kernel))) rfl, by decide +kernel, by decide +kernel, by decide +kernel, rfl⟩
theorem im_X3_isClean : Cond.instanceMethod YX3_isClean.1 ∈ gW := gW_in (gIn6 (List.mem_of_getElem? (i := 9) (by decide +kernel))) rfl
theorem se_X3_isClean : Cond.selects (gRx 3) YX3_isClean.1 YX3_isClean.1 ∈ gW := gW_in (gIn0 (List.mem_of_getElem? (i := 74) (by decide +kernel))) rfl
theorem np_X3_isClean : gNp YX3_isClean.1 = some 0 := by decide +kernel
def YX3_isThere : gY := (yX3_isThere, cX3_isThere, 3, some .boolean, [])
theorem mt_X3_isThere : gMt YX3_isThere := ⟨gW_in (gIn5 (List.mem_of_getElem? (i := 226) rfl)) rfl, gW_in (gIn1 (List.mem_of_getElem? (i := 4) (by decide +kernel))) rfl, by decide +kernel, by decide +kernel, by decide +kernel, rfl⟩
theorem im_X3_isThere : Cond.instanceMethod YX3_isThere.1 ∈ gW := gW_in (gIn5 (List.mem_of_getElem? (i := 225) (by decide +kernel))) rfl
theorem se_X3_isThere : Cond.selects (gRx 3) YX3_isThere.1 YX3_isThere.1 ∈ gW := gW_in (gIn0 (List.mem_of_getElem? (i := 71) (by decide +kernel))) rfl
theorem np_X3_isThere : gNp YX3_isThere.1 = some 2 := by decide +kernel
def YX3_sum : gY := (yX3_sum, cX3_sum, 4, some .int, [])
theorem mt_X3_sum : gMt YX3_sum := ⟨gW_in (gIn5 (List.mem_of_getElem? (i := 214) rfl)) rfl, gW_in (gIn1 (List.mem_of_getElem? (i := 4) (by decide +kernel))) rfl, by decide +kernel, by decide +kernel, by decide +kernel, rfl⟩
theorem im_X3_sum : Cond.instanceMethod YX3_sum.1 ∈ gW := gW_in (gIn5 (List.mem_of_getElem? (i := 212) (by decide +kernel))) rfl
theorem se_X3_sum : Cond.selects (gRx 3) YX3_sum.1 YX3_sum.1 ∈ gW := gW_in (gIn5 (List.mem_of_getElem? (i := 213) (by decide +kernel))) rfl
theorem np_X3_sum : gNp YX3_sum.1 = some 3 := by decide +kernel
def YX3_decoded : gY := (yX3_decoded, cX3_decoded, 5, some .int, [])
theorem mt_X3_decoded : gMt YX3_decoded := ⟨gW_in (gIn5 (List.mem_of_getElem? (i := 222) rfl)) rfl, gW_in (gIn1 (List.mem_of_getElem? (i := 4) (by decide +kernel))) rfl, by decide +kernel, by decide +kernel, by decide +kernel, rfl⟩
theorem im_X3_decoded : Cond.instanceMethod YX3_decoded.1 ∈ gW := gW_in (gIn5 (List.mem_of_getElem? (i := 220) (by decide +kernel))) rfl
theorem se_X3_decoded : Cond.selects (gRx 3) YX3_decoded.1 YX3_decoded.1 ∈ gW := gW_in (gIn5 (List.mem_of_getElem? (i := 221) (by decide +kernel))) rfl
theorem np_X3_decoded : gNp YX3_decoded.1 = some 3 := by decide +kernel
def YX3_found : gY := (yX3_found, cX3_found, 4, some .int, [])
theorem mt_X3_found : gMt YX3_found := ⟨gW_in (gIn5 (List.mem_of_getElem? (i := 234) rfl)) rfl, gW_in (gIn1 (List.mem_of_getElem? (i := 4) (by decide +kernel))) rfl, by decide +kernel, by decide +kernel, by decide +kernel, rfl⟩
theorem im_X3_found : Cond.instanceMethod YX3_found.1 ∈ gW := gW_in (gIn5 (List.mem_of_getElem? (i := 232) (by decide +kernel))) rfl
theorem se_X3_found : Cond.selects (gRx 3) YX3_found.1 YX3_found.1 ∈ gW := gW_in (gIn5 (List.mem_of_getElem? (i := 233) (by decide +kernel))) rfl
theorem np_X3_found : gNp YX3_found.1 = some 3 := by decide +kernel
def YX3_read : gY := (yX3_read, cX3_read, 3, some .int, [])
theorem mt_X3_read : gMt YX3_read := ⟨gW_in (gIn5 (List.mem_of_getElem? (i := 238) rfl)) rfl, gW_in (gIn1 (List.mem_of_getElem? (i := 4) (by decide +kernel))) rfl, by decide +kernel, by decide +kernel, by decide +kernel, rfl⟩
theorem im_X3_read : Cond.instanceMethod YX3_read.1 ∈ gW := gW_in (gIn5 (List.mem_of_getElem? (i := 236) (by decide +kernel))) rfl
theorem se_X3_read : Cond.selects (gRx 3) YX3_read.1 YX3_read.1 ∈ gW := gW_in (gIn5 (List.mem_of_getElem? (i := 237) (by decide +kernel))) rfl
theorem np_X3_read : gNp YX3_read.1 = some 2 := by decide +kernel
def YX3_isWhole : gY := (yX3_isWhole, cX3_isWhole, 4, some .boolean, [])
theorem mt_X3_isWhole : gMt YX3_isWhole := ⟨gW_in (gIn6 (List.mem_of_getElem? (i := 6) rfl)) rfl, gW_in (gIn1 (List.mem_of_getElem? (i := 4) (by decide +kernel))) rfl, by decide +kernel, by decide +kernel, by decide +kernel, rfl⟩
theorem im_X3_isWhole : Cond.instanceMethod YX3_isWhole.1 ∈ gW := gW_in (gIn6 (List.mem_of_getElem? (i := 5) (by decide +kernel))) rfl
theorem se_X3_isWhole : Cond.selects (gRx 3) YX3_isWhole.1 YX3_isWhole.1 ∈ gW := gW_in (gIn0 (List.mem_of_getElem? (i := 73) (by decide +kernel))) rfl
theorem np_X3_isWhole : gNp YX3_isWhole.1 = some 1 := by decide +kernel
def YX3_condition : gY := (yX3_condition, cX3_condition, 4, some .int, [])
theorem mt_X3_condition : gMt YX3_condition := ⟨gW_in (gIn6 (List.mem_of_getElem? (i := 2) rfl)) rfl, gW_in (gIn1 (List.mem_of_getElem? (i := 4) (by decide +kernel))) rfl, by decide +kernel, by decide +kernel, by decide +kernel, rfl⟩
theorem im_X3_condition : Cond.instanceMethod YX3_condition.1 ∈ gW := gW_in (gIn6 (List.mem_of_getElem? (i := 0) (by decide +kernel))) rfl
theorem se_X3_condition : Cond.selects (gRx 3) YX3_condition.1 YX3_condition.1 ∈ gW := gW_in (gIn6 (List.mem_of_getElem? (i := 1) (by decide +kernel))) rfl
theorem np_X3_condition : gNp YX3_condition.1 = some 1 := by decide +kernel
def YX3_undecodable : gY := (yX3_undecodable, cX3_undecodable, 4, some .int, [])
theorem mt_X3_undecodable : gMt YX3_undecodable := ⟨gW_in (gIn6 (List.mem_of_getElem? (i := 14) rfl)) rfl, gW_in (gIn1 (List.mem_of_getElem? (i := 4) (by decide +kernel))) rfl, by decide +kernel, by decide +kernel, by decide +kernel, rfl⟩
theorem im_X3_undecodable : Cond.instanceMethod YX3_undecodable.1 ∈ gW := gW_in (gIn6 (List.mem_of_getElem? (i := 12) (by decide +kernel))) rfl
theorem se_X3_undecodable : Cond.selects (gRx 3) YX3_undecodable.1 YX3_undecodable.1 ∈ gW := gW_in (gIn6 (List.mem_of_getElem? (i := 13) (by decide +kernel))) rfl
theorem np_X3_undecodable : gNp YX3_undecodable.1 = some 1 := by decide +kernel
def YX3_margin : gY := (yX3_margin, cX3_margin, 3, some .int, [])
theorem mt_X3_margin : gMt YX3_margin := ⟨gW_in (gIn6 (List.mem_of_getElem? (i := 18) rfl)) rfl, gW_in (gIn1 (List.mem_of_getElem? (i := 4) (by decide +kernel))) rfl, by decide +kernel, by decide +kernel, by decide +kernel, rfl⟩
theorem im_X3_margin : Cond.instanceMethod YX3_margin.1 ∈ gW := gW_in (gIn6 (List.mem_of_getElem? (i := 16) (by decide +kernel))) rfl
theorem se_X3_margin : Cond.selects (gRx 3) YX3_margin.1 YX3_margin.1 ∈ gW := gW_in (gIn6 (List.mem_of_getElem? (i := 17) (by decide +kernel))) rfl
theorem np_X3_margin : gNp YX3_margin.1 = some 2 := by decide +kernel
def YX3_isStood : gY := (yX3_isStood, cX3_isStood, 7, some .boolean, [])
theorem mt_X3_isStood : gMt YX3_isStood := ⟨gW_in (gIn6 (List.mem_of_getElem? (i := 26) rfl)) rfl, gW_in (gIn1 (List.mem_of_getElem? (i := 4) (by decide +kernel))) rfl, by decide +kernel, by decide +kernel, by decide +kernel, rfl⟩
theorem im_X3_isStood : Cond.instanceMethod YX3_isStood.1 ∈ gW := gW_in (gIn6 (List.mem_of_getElem? (i := 25) (by decide +kernel))) rfl
theorem se_X3_isStood : Cond.selects (gRx 3) YX3_isStood.1 YX3_isStood.1 ∈ gW := gW_in (gIn0 (List.mem_of_getElem? (i := 75) (by decide +kernel))) rfl
theorem np_X3_isStood : gNp YX3_isStood.1 = some 3 := by decide +kernel
def YX3_burstLimit : gY := (yX3_burstLimit, cX3_burstLimit, 5, some .int, [])
theorem mt_X3_burstLimit : gMt YX3_burstLimit := ⟨gW_in (gIn6 (List.mem_of_getElem? (i := 22) rfl)) rfl, gW_in (gIn1 (List.mem_of_getElem? (i := 4) (by decide +kernel))) rfl, by decide +kernel, by decide +kernel, by decide +kernel, rfl⟩
theorem im_X3_burstLimit : Cond.instanceMethod YX3_burstLimit.1 ∈ gW := gW_in (gIn6 (List.mem_of_getElem? (i := 20) (by decide +kernel))) rfl
theorem se_X3_burstLimit : Cond.selects (gRx 3) YX3_burstLimit.1 YX3_burstLimit.1 ∈ gW := gW_in (gIn6 (List.mem_of_getElem? (i := 21) (by decide +kernel))) rfl
theorem np_X3_burstLimit : gNp YX3_burstLimit.1 = some 1 := by decide +kernel
def YX3_advance : gY := (yX3_advance, cX3_advance, 2, some .int, [])
theorem mt_X3_advance : gMt YX3_advance := ⟨gW_in (gIn6 (List.mem_of_getElem? (i := 30) rfl)) rfl, gW_in (gIn1 (List.mem_of_getElem? (i := 4) (by decide +kernel))) rfl, by decide +kernel, by decide +kernel, by decide +kernel, rfl⟩
theorem im_X3_advance : Cond.instanceMethod YX3_advance.1 ∈ gW := gW_in (gIn6 (List.mem_of_getElem? (i := 28) (by decide +kernel))) rfl
theorem se_X3_advance : Cond.selects (gRx 3) YX3_advance.1 YX3_advance.1 ∈ gW := gW_in (gIn6 (List.mem_of_getElem? (i := 29) (by decide +kernel))) rfl
theorem np_X3_advance : gNp YX3_advance.1 = some 1 := by decide +kernel
def YX3_next : gY := (yX3_next, cX3_next, 5, some .int, [])
theorem mt_X3_next : gMt YX3_next := ⟨gW_in (gIn6 (List.mem_of_getElem? (i := 38) rfl)) rfl, gW_in (gIn1 (List.mem_of_getElem? (i := 4) (by decide +kernel))) rfl, by decide +kernel, by decide +kernel, by decide +kernel, rfl⟩
theorem im_X3_next : Cond.instanceMethod YX3_next.1 ∈ gW := gW_in (gIn6 (List.mem_of_getElem? (i := 37) (by decide +kernel))) rfl
theorem se_X3_next : Cond.selects (gRx 3) YX3_next.1 YX3_next.1 ∈ gW := gW_in (gIn0 (List.mem_of_getElem? (i := 76) (by decide +kernel))) rfl
theorem np_X3_next : gNp YX3_next.1 = some 0 := by decide +kernel
def YX3_tells : gY := (yX3_tells, cX3_tells, 5, none, [])
theorem mt_X3_tells : gMt YX3_tells := ⟨gW_in (gIn6 (List.mem_of_getElem? (i := 42) rfl)) rfl, gW_in (gIn1 (List.mem_of_getElem? (i := 4) (by decide +kernel))) rfl, by decide +kernel, by decide +kernel, by decide +kernel, rfl⟩
theorem im_X3_tells : Cond.instanceMethod YX3_tells.1 ∈ gW := gW_in (gIn6 (List.mem_of_getElem? (i := 41) (by decide +kernel))) rfl
theorem se_X3_tells : Cond.selects (gRx 3) YX3_tells.1 YX3_tells.1 ∈ gW := gW_in (gIn0 (List.mem_of_getElem? (i := 77) (by decide +kernel))) rfl
theorem np_X3_tells : gNp YX3_tells.1 = some 4 := by decide +kernel
def YX3_mends : gY := (yX3_mends, cX3_mends, 5, some .int, [])
theorem mt_X3_mends : gMt YX3_mends := ⟨gW_in (gIn6 (List.mem_of_getElem? (i := 46) rfl)) rfl, gW_in (gIn1 (List.mem_of_getElem? (i := 4) (by decide +kernel))) rfl, by decide +kernel, by decide +kernel, by decide +kernel, rfl⟩
theorem im_X3_mends : Cond.instanceMethod YX3_mends.1 ∈ gW := gW_in (gIn6 (List.mem_of_getElem? (i := 45) (by decide +kernel))) rfl
theorem se_X3_mends : Cond.selects (gRx 3) YX3_mends.1 YX3_mends.1 ∈ gW := gW_in (gIn0 (List.mem_of_getElem? (i := 78) (by decide +kernel))) rfl
theorem np_X3_mends : gNp YX3_mends.1 = some 2 := by decide +kernel
def YX3_scrub : gY := (yX3_scrub, cX3_scrub, 9, some .int, [])
theorem mt_X3_scrub : gMt YX3_scrub := ⟨gW_in (gIn6 (List.mem_of_getElem? (i := 34) rfl)) rfl, gW_in (gIn1 (List.mem_of_getElem? (i := 4) (by decide +kernel))) rfl, by decide +kernel, by decide +kernel, by decide +kernel, rfl⟩
theorem im_X3_scrub : Cond.instanceMethod YX3_scrub.1 ∈ gW := gW_in (gIn6 (List.mem_of_getElem? (i := 32) (by decide +kernel))) rfl
theorem se_X3_scrub : Cond.selects (gRx 3) YX3_scrub.1 YX3_scrub.1 ∈ gW := gW_in (gIn6 (List.mem_of_getElem? (i := 33) (by decide +kernel))) rfl
theorem np_X3_scrub : gNp YX3_scrub.1 = some 1 := by decide +kernel
def YX3_report : gY := (yX3_report, cX3_report, 3, some .int, [])
theorem mt_X3_report : gMt YX3_report := ⟨gW_in (gIn6 (List.mem_of_getElem? (i := 50) rfl)) rfl, gW_in (gIn1 (List.mem_of_getElem? (i := 4) (by decide +kernel))) rfl, by decide +kernel, by decide +kernel, by decide +kernel, rfl⟩
theorem im_X3_report : Cond.instanceMethod YX3_report.1 ∈ gW := gW_in (gIn6 (List.mem_of_getElem? (i := 48) (by decide +kernel))) rfl
theorem se_X3_report : Cond.selects (gRx 3) YX3_report.1 YX3_report.1 ∈ gW := gW_in (gIn6 (List.mem_of_getElem? (i := 49) (by decide +kernel))) rfl
theorem np_X3_report : gNp YX3_report.1 = some 2 := by decide +kernel
def YX3_reportLines : gY := (yX3_reportLines, cX3_reportLines, 1, some .int, [])
theorem mt_X3_reportLines : gMt YX3_reportLines := ⟨gW_in (gIn6 (List.mem_of_getElem? (i := 54) rfl)) rfl, gW_in (gIn1 (List.mem_of_getElem? (i := 4) (by decide +kernel))) rfl, by decide +kernel, by decide +kernel, by decide +kernel, rfl⟩
theorem im_X3_reportLines : Cond.instanceMethod YX3_reportLines.1 ∈ gW := gW_in (gIn6 (List.mem_of_getElem? (i := 52) (by decide +kernel))) rfl
theorem se_X3_reportLines : Cond.selects (gRx 3) YX3_reportLines.1 YX3_reportLines.1 ∈ gW := gW_in (gIn6 (List.mem_of_getElem? (i := 53) (by decide +kernel))) rfl
theorem np_X3_reportLines : gNp YX3_reportLines.1 = some 0 := by decide +kernel
def YX3_repair : gY := (yX3_repair, cX3_repair, 3, some .int, [])
theorem mt_X3_repair : gMt YX3_repair := ⟨gW_in (gIn6 (List.mem_of_getElem? (i := 58) rfl)) rfl, gW_in (gIn1 (List.mem_of_getElem? (i := 4) (by decide +kernel))) rfl, by decide +kernel, by decide +kernel, by decide +kernel, rfl⟩
theorem im_X3_repair : Cond.instanceMethod YX3_repair.1 ∈ gW := gW_in (gIn6 (List.mem_of_getElem? (i := 56) (by decide +kernel))) rfl
theorem se_X3_repair : Cond.selects (gRx 3) YX3_repair.1 YX3_repair.1 ∈ gW := gW_in (gIn6 (List.mem_of_getElem? (i := 57) (by decide +kernel))) rfl
theorem np_X3_repair : gNp YX3_repair.1 = some 2 := by decide +kernel
def YX3_checked : gY := (yX3_checked, cX3_checked, 3, some .int, [])
theorem mt_X3_checked : gMt YX3_checked := ⟨gW_in (gIn6 (List.mem_of_getElem? (i := 62) rfl)) rfl, gW_in (gIn1 (List.mem_of_getElem? (i := 4) (by decide +kernel))) rfl, by decide +kernel, by decide +kernel, by decide +kernel, rfl⟩
theorem im_X3_checked : Cond.instanceMethod YX3_checked.1 ∈ gW := gW_in (gIn6 (List.mem_of_getElem? (i := 60) (by decide +kernel))) rfl
theorem se_X3_checked : Cond.selects (gRx 3) YX3_checked.1 YX3_checked.1 ∈ gW := gW_in (gIn6 (List.mem_of_getElem? (i := 61) (by decide +kernel))) rfl
theorem np_X3_checked : gNp YX3_checked.1 = some 2 := by decide +kernel
def YX3_nextToCheck : gY := (yX3_nextToCheck, cX3_nextToCheck, 2, some .int, [])
theorem mt_X3_nextToCheck : gMt YX3_nextToCheck := ⟨gW_in (gIn6 (List.mem_of_getElem? (i := 66) rfl)) rfl, gW_in (gIn1 (List.mem_of_getElem? (i := 4) (by decide +kernel))) rfl, by decide +kernel, by decide +kernel, by decide +kernel, rfl⟩
theorem im_X3_nextToCheck : Cond.instanceMethod YX3_nextToCheck.1 ∈ gW := gW_in (gIn6 (List.mem_of_getElem? (i := 64) (by decide +kernel))) rfl
theorem se_X3_nextToCheck : Cond.selects (gRx 3) YX3_nextToCheck.1 YX3_nextToCheck.1 ∈ gW := gW_in (gIn6 (List.mem_of_getElem? (i := 65) (by decide +kernel))) rfl
theorem np_X3_nextToCheck : gNp YX3_nextToCheck.1 = some 0 := by decide +kernel
def YX3_needed : gY := (yX3_needed, cX3_needed, 4, some .int, [])
theorem mt_X3_needed : gMt YX3_needed := ⟨gW_in (gIn6 (List.mem_of_getElem? (i := 70) rfl)) rfl, gW_in (gIn1 (List.mem_of_getElem? (i := 4) (by decide +kernel))) rfl, by decide +kernel, by decide +kernel, by decide +kernel, rfl⟩
theorem im_X3_needed : Cond.instanceMethod YX3_needed.1 ∈ gW := gW_in (gIn6 (List.mem_of_getElem? (i := 68) (by decide +kernel))) rfl
theorem se_X3_needed : Cond.selects (gRx 3) YX3_needed.1 YX3_needed.1 ∈ gW := gW_in (gIn6 (List.mem_of_getElem? (i := 69) (by decide +kernel))) rfl
theorem np_X3_needed : gNp YX3_needed.1 = some 0 := by decide +kernel
def YX3_account : gY := (yX3_account, cX3_account, 2, some .int, [])
theorem mt_X3_account : gMt YX3_account := ⟨gW_in (gIn6 (List.mem_of_getElem? (i := 74) rfl)) rfl, gW_in (gIn1 (List.mem_of_getElem? (i := 4) (by decide +kernel))) rfl, by decide +kernel, by decide +kernel, by decide +kernel, rfl⟩
theorem im_X3_account : Cond.instanceMethod YX3_account.1 ∈ gW := gW_in (gIn6 (List.mem_of_getElem? (i := 72) (by decide +kernel))) rfl
theorem se_X3_account : Cond.selects (gRx 3) YX3_account.1 YX3_account.1 ∈ gW := gW_in (gIn6 (List.mem_of_getElem? (i := 73) (by decide +kernel))) rfl
theorem np_X3_account : gNp YX3_account.1 = some 1 := by decide +kernel
def YX3_day : gY := (yX3_day, cX3_day, 1, some .int, [])
theorem mt_X3_day : gMt YX3_day := ⟨gW_in (gIn6 (List.mem_of_getElem? (i := 78) rfl)) rfl, gW_in (gIn1 (List.mem_of_getElem? (i := 4) (by decide +kernel))) rfl, by decide +kernel, by decide +kernel, by decide +kernel, rfl⟩
theorem im_X3_day : Cond.instanceMethod YX3_day.1 ∈ gW := gW_in (gIn6 (List.mem_of_getElem? (i := 76) (by decide +kernel))) rfl
theorem se_X3_day : Cond.selects (gRx 3) YX3_day.1 YX3_day.1 ∈ gW := gW_in (gIn6 (List.mem_of_getElem? (i := 77) (by decide +kernel))) rfl
theorem np_X3_day : gNp YX3_day.1 = some 0 := by decide +kernel
def YX3_health : gY := (yX3_health, cX3_health, 4, some .double, [])
theorem mt_X3_health : gMt YX3_health := ⟨gW_in (gIn6 (List.mem_of_getElem? (i := 82) rfl)) rfl, gW_in (gIn1 (List.mem_of_getElem? (i := 4) (by decide +kernel))) rfl, by decide +kernel, by decide +kernel, by decide +kernel, rfl⟩
theorem im_X3_health : Cond.instanceMethod YX3_health.1 ∈ gW := gW_in (gIn6 (List.mem_of_getElem? (i := 80) (by decide +kernel))) rfl
theorem se_X3_health : Cond.selects (gRx 3) YX3_health.1 YX3_health.1 ∈ gW := gW_in (gIn6 (List.mem_of_getElem? (i := 81) (by decide +kernel))) rfl
theorem np_X3_health : gNp YX3_health.1 = some 0 := by decide +kernel
def YX3_describe : gY := (yX3_describe, cX3_describe, 4, some .int, [])
theorem mt_X3_describe : gMt YX3_describe := ⟨gW_in (gIn6 (List.mem_of_getElem? (i := 86) rfl)) rfl, gW_in (gIn1 (List.mem_of_getElem? (i := 4) (by decide +kernel))) rfl, by decide +kernel, by decide +kernel, by decide +kernel, rfl⟩
theorem im_X3_describe : Cond.instanceMethod YX3_describe.1 ∈ gW := gW_in (gIn6 (List.mem_of_getElem? (i := 84) (by decide +kernel))) rfl
theorem se_X3_describe : Cond.selects (gRx 3) YX3_describe.1 YX3_describe.1 ∈ gW := gW_in (gIn6 (List.mem_of_getElem? (i := 85) (by decide +kernel))) rfl
theorem np_X3_describe : gNp YX3_describe.1 = some 2 := by decide +kernel
def YX3_undo : gY := (yX3_undo, cX3_undo, 2, some .int, [])
theorem mt_X3_undo : gMt YX3_undo := ⟨gW_in (gIn6 (List.mem_of_getElem? (i := 90) rfl)) rfl, gW_in (gIn1 (List.mem_of_getElem? (i := 4) (by decide +kernel))) rfl, by decide +kernel, by decide +kernel, by decide +kernel, rfl⟩
theorem im_X3_undo : Cond.instanceMethod YX3_undo.1 ∈ gW := gW_in (gIn6 (List.mem_of_getElem? (i := 88) (by decide +kernel))) rfl
theorem se_X3_undo : Cond.selects (gRx 3) YX3_undo.1 YX3_undo.1 ∈ gW := gW_in (gIn6 (List.mem_of_getElem? (i := 89) (by decide +kernel))) rfl
theorem np_X3_undo : gNp YX3_undo.1 = some 0 := by decide +kernel
def YX3_save : gY := (yX3_save, cX3_save, 1, some .int, [])
theorem mt_X3_save : gMt YX3_save := ⟨gW_in (gIn6 (List.mem_of_getElem? (i := 94) rfl)) rfl, gW_in (gIn1 (List.mem_of_getElem? (i := 4) (by decide +kernel))) rfl, by decide +kernel, by decide +kernel, by decide +kernel, rfl⟩
theorem im_X3_save : Cond.instanceMethod YX3_save.1 ∈ gW := gW_in (gIn6 (List.mem_of_getElem? (i := 92) (by decide +kernel))) rfl
theorem se_X3_save : Cond.selects (gRx 3) YX3_save.1 YX3_save.1 ∈ gW := gW_in (gIn6 (List.mem_of_getElem? (i := 93) (by decide +kernel))) rfl
theorem np_X3_save : gNp YX3_save.1 = some 0 := by decide +kernel
def YX3_restore : gY := (yX3_restore, cX3_restore, 1, some .int, [])
theorem mt_X3_restore : gMt YX3_restore := ⟨gW_in (gIn6 (List.mem_of_getElem? (i := 101) rfl)) rfl, gW_in (gIn1 (List.mem_of_getElem? (i := 4) (by decide +kernel))) rfl, by decide +kernel, by decide +kernel, by decide +kernel, rfl⟩
theorem im_X3_restore : Cond.instanceMethod YX3_restore.1 ∈ gW := gW_in (gIn6 (List.mem_of_getElem? (i := 99) (by decide +kernel))) rfl
theorem se_X3_restore : Cond.selects (gRx 3) YX3_restore.1 YX3_restore.1 ∈ gW := gW_in (gIn6 (List.mem_of_getElem? (i := 100) (by decide +kernel))) rfl
theorem np_X3_restore : gNp YX3_restore.1 = some 0 := by decide +kernel
def YJx00060_init_a7421 : gY := (yJx00060_init_a7421, cJx00060_init_a7421, 2, none, [])
theorem mt_Jx00060_init_a7421 : gMt YJx00060_init_a7421 := ⟨gW_in (gIn3 (List.mem_of_getElem? (i := 43) rfl)) rfl, gW_in (gIn1 (List.mem_of_getElem? (i := 15) (by decide +kernel))) rfl, by decide +kernel, by decide +kernel, by decide +kernel, rfl⟩
theorem im_Jx00060_init_a7421 : Cond.instanceMethod YJx00060_init_a7421.1 ∈ gW := gW_in (gIn3 (List.mem_of_getElem? (i := 42) (by decide +kernel))) rfl
theorem np_Jx00060_init_a7421 : gNp YJx00060_init_a7421.1 = some 1 := by decide +kernel
def YJ6_bitCount_0f7a4 : gY := (yJ6_bitCount_0f7a4, cJ6_bitCount_0f7a4, 1, some .int, [])
theorem mt_J6_bitCount_0f7a4 : gMt YJ6_bitCount_0f7a4 := ⟨gW_in (gIn2 (List.mem_of_getElem? (i := 40) rfl)) rfl, gW_in (gIn1 (List.mem_of_getElem? (i := 12) (by decide +kernel))) rfl, by decide +kernel, by decide +kernel, by decide +kernel, rfl⟩
theorem sf_J6_bitCount_0f7a4 : Cond.static YJ6_bitCount_0f7a4.1 ∈ gW := gW_in (gIn2 (List.mem_of_getElem? (i := 39) (by decide +kernel))) rfl
theorem np_J6_bitCount_0f7a4 : gNp YJ6_bitCount_0f7a4.1 = some 1 := by decide +kernel
def YL_append : gY := (yL_append, cL_append, 4, some .int, [(0, 9, 12, 13), (0, 9, 15, 15)])
theorem mh_L_append : gMh YL_append := ⟨gW_in (gIn2 (List.mem_of_getElem? (i := 90) rfl)) rfl, gW_in (gIn1 (List.mem_of_getElem? (i := 0) (by decide +kernel))) rfl, by decide +kernel, by decide +kernel, by decide +kernel⟩
theorem sf_L_append : Cond.static YL_append.1 ∈ gW := gW_in (gIn2 (List.mem_of_getElem? (i := 89) (by decide +kernel))) rfl
theorem np_L_append : gNp YL_append.1 = some 3 := by decide +kernel
def YL_store : gY := (yL_store, cL_store, 3, some .int, [(0, 8, 11, 13), (0, 8, 14, 15)])
theorem mh_L_store : gMh YL_store := ⟨gW_in (gIn2 (List.mem_of_getElem? (i := 187) rfl)) rfl, gW_in (gIn1 (List.mem_of_getElem? (i := 0) (by decide +kernel))) rfl, by decide +kernel, by decide +kernel, by decide +kernel⟩
theorem sf_L_store : Cond.static YL_store.1 ∈ gW := gW_in (gIn2 (List.mem_of_getElem? (i := 186) (by decide +kernel))) rfl
theorem np_L_store : gNp YL_store.1 = some 2 := by decide +kernel
def YL_errorPosition : gY := (yL_errorPosition, cL_errorPosition, 3, some .int, [(0, 8, 11, 24)])
theorem mh_L_errorPosition : gMh YL_errorPosition := ⟨gW_in (gIn3 (List.mem_of_getElem? (i := 15) rfl)) rfl, gW_in (gIn1 (List.mem_of_getElem? (i := 0) (by decide +kernel))) rfl, by decide +kernel, by decide +kernel, by decide +kernel⟩
theorem sf_L_errorPosition : Cond.static YL_errorPosition.1 ∈ gW := gW_in (gIn3 (List.mem_of_getElem? (i := 14) (by decide +kernel))) rfl
theorem np_L_errorPosition : gNp YL_errorPosition.1 = some 2 := by decide +kernel
def YL_remove : gY := (yL_remove, cL_remove, 4, some .int, [(0, 9, 12, 30)])
theorem mh_L_remove : gMh YL_remove := ⟨gW_in (gIn3 (List.mem_of_getElem? (i := 39) rfl)) rfl, gW_in (gIn1 (List.mem_of_getElem? (i := 0) (by decide +kernel))) rfl, by decide +kernel, by decide +kernel, by decide +kernel⟩
theorem sf_L_remove : Cond.static YL_remove.1 ∈ gW := gW_in (gIn3 (List.mem_of_getElem? (i := 38) (by decide +kernel))) rfl
theorem np_L_remove : gNp YL_remove.1 = some 3 := by decide +kernel
def YL_file : gY := (yL_file, cL_file, 5, some .int, [(0, 10, 13, 30), (0, 10, 17, 13)])
theorem mh_L_file : gMh YL_file := ⟨gW_in (gIn3 (List.mem_of_getElem? (i := 84) rfl)) rfl, gW_in (gIn1 (List.mem_of_getElem? (i := 0) (by decide +kernel))) rfl, by decide +kernel, by decide +kernel, by decide +kernel⟩
theorem sf_L_file : Cond.static YL_file.1 ∈ gW := gW_in (gIn3 (List.mem_of_getElem? (i := 83) (by decide +kernel))) rfl
theorem np_L_file : gNp YL_file.1 = some 4 := by decide +kernel
def YL_cellOf : gY := (yL_cellOf, cL_cellOf, 6, some .int, [(0, 12, 15, 30)])
theorem mh_L_cellOf : gMh YL_cellOf := ⟨gW_in (gIn3 (List.mem_of_getElem? (i := 93) rfl)) rfl, gW_in (gIn1 (List.mem_of_getElem? (i := 0) (by decide +kernel))) rfl, by decide +kernel, by decide +kernel, by decide +kernel⟩
theorem sf_L_cellOf : Cond.static YL_cellOf.1 ∈ gW := gW_in (gIn3 (List.mem_of_getElem? (i := 92) (by decide +kernel))) rfl
theorem np_L_cellOf : gNp YL_cellOf.1 = some 5 := by decide +kernel
def YL_owner : gY := (yL_owner, cL_owner, 4, some .int, [(0, 9, 12, 30)])
theorem mh_L_owner : gMh YL_owner := ⟨gW_in (gIn3 (List.mem_of_getElem? (i := 109) rfl)) rfl, gW_in (gIn1 (List.mem_of_getElem? (i := 0) (by decide +kernel))) rfl, by decide +kernel, by decide +kernel, by decide +kernel⟩
theorem sf_L_owner : Cond.static YL_owner.1 ∈ gW := gW_in (gIn3 (List.mem_of_getElem? (i := 108) (by decide +kernel))) rfl
theorem np_L_owner : gNp YL_owner.1 = some 3 := by decide +kernel
def YL_placeOf : gY := (yL_placeOf, cL_placeOf, 4, some .int, [(0, 9, 12, 30), (0, 9, 15, 24)])
theorem mh_L_placeOf : gMh YL_placeOf := ⟨gW_in (gIn3 (List.mem_of_getElem? (i := 121) rfl)) rfl, gW_in (gIn1 (List.mem_of_getElem? (i := 0) (by decide +kernel))) rfl, by decide +kernel, by decide +kernel, by decide +kernel⟩
theorem sf_L_placeOf : Cond.static YL_placeOf.1 ∈ gW := gW_in (gIn3 (List.mem_of_getElem? (i := 120) (by decide +kernel))) rfl
theorem np_L_placeOf : gNp YL_placeOf.1 = some 3 := by decide +kernel
def YL_symbol : gY := (yL_symbol, cL_symbol, 4, some .int, [(0, 9, 12, 30)])
theorem mh_L_symbol : gMh YL_symbol := ⟨gW_in (gIn3 (List.mem_of_getElem? (i := 133) rfl)) rfl, gW_in (gIn1 (List.mem_of_getElem? (i := 0) (by decide +kernel))) rfl, by decide +kernel, by decide +kernel, by decide +kernel⟩
theorem sf_L_symbol : Cond.static YL_symbol.1 ∈ gW := gW_in (gIn3 (List.mem_of_getElem? (i := 132) (by decide +kernel))) rfl
theorem np_L_symbol : gNp YL_symbol.1 = some 3 := by decide +kernel
def YL_isErased : gY := (yL_isErased, cL_isErased, 4, some .int, [(0, 16, 19, 30)])
theorem mh_L_isErased : gMh YL_isErased := ⟨gW_in (gIn3 (List.mem_of_getElem? (i := 140) rfl)) rfl, gW_in (gIn1 (List.mem_of_getElem? (i := 0) (by decide +kernel))) rfl, by decide +kernel, by decide +kernel, by decide +kernel⟩
theorem sf_L_isErased : Cond.static YL_isErased.1 ∈ gW := gW_in (gIn3 (List.mem_of_getElem? (i := 139) (by decide +kernel))) rfl
theorem np_L_isErased : gNp YL_isErased.1 = some 3 := by decide +kernel
def YL_flip : gY := (yL_flip, cL_flip, 5, some .int, [(0, 10, 13, 30), (0, 10, 17, 13)])
theorem mh_L_flip : gMh YL_flip := ⟨gW_in (gIn3 (List.mem_of_getElem? (i := 147) rfl)) rfl, gW_in (gIn1 (List.mem_of_getElem? (i := 0) (by decide +kernel))) rfl, by decide +kernel, by decide +kernel, by decide +kernel⟩
theorem sf_L_flip : Cond.static YL_flip.1 ∈ gW := gW_in (gIn3 (List.mem_of_getElem? (i := 146) (by decide +kernel))) rfl
theorem np_L_flip : gNp YL_flip.1 = some 4 := by decide +kernel
def YL_erase : gY := (yL_erase, cL_erase, 4, some .int, [(0, 9, 12, 30)])
theorem mh_L_erase : gMh YL_erase := ⟨gW_in (gIn3 (List.mem_of_getElem? (i := 159) rfl)) rfl, gW_in (gIn1 (List.mem_of_getElem? (i := 0) (by decide +kernel))) rfl, by decide +kernel, by decide +kernel, by decide +kernel⟩
theorem sf_L_erase : Cond.static YL_erase.1 ∈ gW := gW_in (gIn3 (List.mem_of_getElem? (i := 158) (by decide +kernel))) rfl
theorem np_L_erase : gNp YL_erase.1 = some 3 := by decide +kernel
def YL_burst : gY := (yL_burst, cL_burst, 6, some .int, [(0, 12, 15, 30), (0, 12, 19, 13)])
theorem mh_L_burst : gMh YL_burst := ⟨gW_in (gIn3 (List.mem_of_getElem? (i := 166) rfl)) rfl, gW_in (gIn1 (List.mem_of_getElem? (i := 0) (by decide +kernel))) rfl, by decide +kernel, by decide +kernel, by decide +kernel⟩
theorem sf_L_burst : Cond.static YL_burst.1 ∈ gW := gW_in (gIn3 (List.mem_of_getElem? (i := 165) (by decide +kernel))) rfl
theorem np_L_burst : gNp YL_burst.1 = some 5 := by decide +kernel
def YL_wrong : gY := (yL_wrong, cL_wrong, 4, some .int, [(0, 9, 12, 30)])
theorem mh_L_wrong : gMh YL_wrong := ⟨gW_in (gIn3 (List.mem_of_getElem? (i := 174) rfl)) rfl, gW_in (gIn1 (List.mem_of_getElem? (i := 0) (by decide +kernel))) rfl, by decide +kernel, by decide +kernel, by decide +kernel⟩
theorem sf_L_wrong : Cond.static YL_wrong.1 ∈ gW := gW_in (gIn3 (List.mem_of_getElem? (i := 173) (by decide +kernel))) rfl
theorem np_L_wrong : gNp YL_wrong.1 = some 3 := by decide +kernel
def YL_erased : gY := (yL_erased, cL_erased, 4, some .int, [(0, 9, 12, 30)])
theorem mh_L_erased : gMh YL_erased := ⟨gW_in (gIn3 (List.mem_of_getElem? (i := 183) rfl)) rfl, gW_in (gIn1 (List.mem_of_getElem? (i := 0) (by decide +kernel))) rfl, by decide +kernel, by decide +kernel, by decide +kernel⟩
theorem sf_L_erased : Cond.static YL_erased.1 ∈ gW := gW_in (gIn3 (List.mem_of_getElem? (i := 182) (by decide +kernel))) rfl
theorem np_L_erased : gNp YL_erased.1 = some 3 := by decide +kernel
def YL_sum : gY := (yL_sum, cL_sum, 6, some .int, [(0, 12, 15, 30)])
theorem mh_L_sum : gMh YL_sum := ⟨gW_in (gIn3 (List.mem_of_getElem? (i := 190) rfl)) rfl, gW_in (gIn1 (List.mem_of_getElem? (i := 0) (by decide +kernel))) rfl, by decide +kernel, by decide +kernel, by decide +kernel⟩
theorem sf_L_sum : Cond.static YL_sum.1 ∈ gW := gW_in (gIn3 (List.mem_of_getElem? (i := 189) (by decide +kernel))) rfl
theorem np_L_sum : gNp YL_sum.1 = some 5 := by decide +kernel
def YL_decoded : gY := (yL_decoded, cL_decoded, 6, some .int, [(0, 12, 15, 30), (0, 12, 19, 13), (0, 12, 23, 24)])
theorem mh_L_decoded : gMh YL_decoded := ⟨gW_in (gIn3 (List.mem_of_getElem? (i := 200) rfl)) rfl, gW_in (gIn1 (List.mem_of_getElem? (i := 0) (by decide +kernel))) rfl, by decide +kernel, by decide +kernel, by decide +kernel⟩
theorem sf_L_decoded : Cond.static YL_decoded.1 ∈ gW := gW_in (gIn3 (List.mem_of_getElem? (i := 199) (by decide +kernel))) rfl
theorem np_L_decoded : gNp YL_decoded.1 = some 5 := by decide +kernel
def YL_found : gY := (yL_found, cL_found, 6, some .int, [(0, 12, 15, 30), (0, 12, 19, 24)])
theorem mh_L_found : gMh YL_found := ⟨gW_in (gIn3 (List.mem_of_getElem? (i := 210) rfl)) rfl, gW_in (gIn1 (List.mem_of_getElem? (i := 0) (by decide +kernel))) rfl, by decide +kernel, by decide +kernel, by decide +kernel⟩
theorem sf_L_found : Cond.static YL_found.1 ∈ gW := gW_in (gIn3 (List.mem_of_getElem? (i := 209) (by decide +kernel))) rfl
theorem np_L_found : gNp YL_found.1 = some 5 := by decide +kernel
def YL_read : gY := (yL_read, cL_read, 5, some .int, [(0, 10, 13, 30), (0, 10, 17, 24)])
theorem mh_L_read : gMh YL_read := ⟨gW_in (gIn3 (List.mem_of_getElem? (i := 217) rfl)) rfl, gW_in (gIn1 (List.mem_of_getElem? (i := 0) (by decide +kernel))) rfl, by decide +kernel, by decide +kernel, by decide +kernel⟩
theorem sf_L_read : Cond.static YL_read.1 ∈ gW := gW_in (gIn3 (List.mem_of_getElem? (i := 216) (by decide +kernel))) rfl
theorem np_L_read : gNp YL_read.1 = some 4 := by decide +kernel
def YL_condition : gY := (yL_condition, cL_condition, 4, some .int, [(0, 9, 12, 30)])
theorem mh_L_condition : gMh YL_condition := ⟨gW_in (gIn3 (List.mem_of_getElem? (i := 225) rfl)) rfl, gW_in (gIn1 (List.mem_of_getElem? (i := 0) (by decide +kernel))) rfl, by decide +kernel, by decide +kernel, by decide +kernel⟩
theorem sf_L_condition : Cond.static YL_condition.1 ∈ gW := gW_in (gIn3 (List.mem_of_getElem? (i := 224) (by decide +kernel))) rfl
theorem np_L_condition : gNp YL_condition.1 = some 3 := by decide +kernel
def YL_undecodable : gY := (yL_undecodable, cL_undecodable, 4, some .int, [(0, 9, 12, 30)])
theorem mh_L_undecodable : gMh YL_undecodable := ⟨gW_in (gIn3 (List.mem_of_getElem? (i := 232) rfl)) rfl, gW_in (gIn1 (List.mem_of_getElem? (i := 0) (by decide +kernel))) rfl, by decide +kernel, by decide +kernel, by decide +kernel⟩
theorem sf_L_undecodable : Cond.static YL_undecodable.1 ∈ gW := gW_in (gIn3 (List.mem_of_getElem? (i := 231) (by decide +kernel))) rfl
theorem np_L_undecodable : gNp YL_undecodable.1 = some 3 := by decide +kernel
def YL_margin : gY := (yL_margin, cL_margin, 5, some .int, [(0, 10, 13, 30), (0, 10, 17, 24)])
theorem mh_L_margin : gMh YL_margin := ⟨gW_in (gIn4 (List.mem_of_getElem? (i := 3) rfl)) rfl, gW_in (gIn1 (List.mem_of_getElem? (i := 0) (by decide +kernel))) rfl, by decide +kernel, by decide +kernel, by decide +kernel⟩
theorem sf_L_margin : Cond.static YL_margin.1 ∈ gW := gW_in (gIn4 (List.mem_of_getElem? (i := 2) (by decide +kernel))) rfl
theorem np_L_margin : gNp YL_margin.1 = some 4 := by decide +kernel
def YL_burstLimit : gY := (yL_burstLimit, cL_burstLimit, 4, some .int, [(0, 9, 12, 30)])
theorem mh_L_burstLimit : gMh YL_burstLimit := ⟨gW_in (gIn4 (List.mem_of_getElem? (i := 10) rfl)) rfl, gW_in (gIn1 (List.mem_of_getElem? (i := 0) (by decide +kernel))) rfl, by decide +kernel, by decide +kernel, by decide +kernel⟩
theorem sf_L_burstLimit : Cond.static YL_burstLimit.1 ∈ gW := gW_in (gIn4 (List.mem_of_getElem? (i := 9) (by decide +kernel))) rfl
theorem np_L_burstLimit : gNp YL_burstLimit.1 = some 3 := by decide +kernel
def YL_advance : gY := (yL_advance, cL_advance, 4, some .int, [(0, 9, 12, 13), (0, 9, 15, 15)])
theorem mh_L_advance : gMh YL_advance := ⟨gW_in (gIn4 (List.mem_of_getElem? (i := 21) rfl)) rfl, gW_in (gIn1 (List.mem_of_getElem? (i := 0) (by decide +kernel))) rfl, by decide +kernel, by decide +kernel, by decide +kernel⟩
theorem sf_L_advance : Cond.static YL_advance.1 ∈ gW := gW_in (gIn4 (List.mem_of_getElem? (i := 20) (by decide +kernel))) rfl
theorem np_L_advance : gNp YL_advance.1 = some 3 := by decide +kernel
def YL_scrub : gY := (yL_scrub, cL_scrub, 4, some .int, [(0, 9, 12, 13)])
theorem mh_L_scrub : gMh YL_scrub := ⟨gW_in (gIn4 (List.mem_of_getElem? (i := 30) rfl)) rfl, gW_in (gIn1 (List.mem_of_getElem? (i := 0) (by decide +kernel))) rfl, by decide +kernel, by decide +kernel, by decide +kernel⟩
theorem sf_L_scrub : Cond.static YL_scrub.1 ∈ gW := gW_in (gIn4 (List.mem_of_getElem? (i := 29) (by decide +kernel))) rfl
theorem np_L_scrub : gNp YL_scrub.1 = some 3 := by decide +kernel
def YL_report : gY := (yL_report, cL_report, 5, some .int, [(0, 10, 13, 30), (0, 10, 17, 13)])
theorem mh_L_report : gMh YL_report := ⟨gW_in (gIn4 (List.mem_of_getElem? (i := 50) rfl)) rfl, gW_in (gIn1 (List.mem_of_getElem? (i := 0) (by decide +kernel))) rfl, by decide +kernel, by decide +kernel, by decide +kernel⟩
theorem sf_L_report : Cond.static YL_report.1 ∈ gW := gW_in (gIn4 (List.mem_of_getElem? (i := 49) (by decide +kernel))) rfl
theorem np_L_report : gNp YL_report.1 = some 4 := by decide +kernel
def YL_repair : gY := (yL_repair, cL_repair, 5, some .int, [(0, 10, 13, 30), (0, 10, 17, 104)])
theorem mh_L_repair : gMh YL_repair := ⟨gW_in (gIn4 (List.mem_of_getElem? (i := 59) rfl)) rfl, gW_in (gIn1 (List.mem_of_getElem? (i := 0) (by decide +kernel))) rfl, by decide +kernel, by decide +kernel, by decide +kernel⟩
theorem sf_L_repair : Cond.static YL_repair.1 ∈ gW := gW_in (gIn4 (List.mem_of_getElem? (i := 58) (by decide +kernel))) rfl
theorem np_L_repair : gNp YL_repair.1 = some 4 := by decide +kernel
def YL_checked : gY := (yL_checked, cL_checked, 5, some .int, [(0, 10, 13, 30)])
theorem mh_L_checked : gMh YL_checked := ⟨gW_in (gIn4 (List.mem_of_getElem? (i := 82) rfl)) rfl, gW_in (gIn1 (List.mem_of_getElem? (i := 0) (by decide +kernel))) rfl, by decide +kernel, by decide +kernel, by decide +kernel⟩
theorem sf_L_checked : Cond.static YL_checked.1 ∈ gW := gW_in (gIn4 (List.mem_of_getElem? (i := 81) (by decide +kernel))) rfl
theorem np_L_checked : gNp YL_checked.1 = some 4 := by decide +kernel
def YL_nextToCheck : gY := (yL_nextToCheck, cL_nextToCheck, 3, some .int, [(0, 8, 11, 24)])
theorem mh_L_nextToCheck : gMh YL_nextToCheck := ⟨gW_in (gIn4 (List.mem_of_getElem? (i := 89) rfl)) rfl, gW_in (gIn1 (List.mem_of_getElem? (i := 0) (by decide +kernel))) rfl, by decide +kernel, by decide +kernel, by decide +kernel⟩
theorem sf_L_nextToCheck : Cond.static YL_nextToCheck.1 ∈ gW := gW_in (gIn4 (List.mem_of_getElem? (i := 88) (by decide +kernel))) rfl
theorem np_L_nextToCheck : gNp YL_nextToCheck.1 = some 2 := by decide +kernel
def YL_account : gY := (yL_account, cL_account, 4, some .int, [(0, 9, 12, 13)])
theorem mh_L_account : gMh YL_account := ⟨gW_in (gIn4 (List.mem_of_getElem? (i := 97) rfl)) rfl, gW_in (gIn1 (List.mem_of_getElem? (i := 0) (by decide +kernel))) rfl, by decide +kernel, by decide +kernel, by decide +kernel⟩
theorem sf_L_account : Cond.static YL_account.1 ∈ gW := gW_in (gIn4 (List.mem_of_getElem? (i := 96) (by decide +kernel))) rfl
theorem np_L_account : gNp YL_account.1 = some 3 := by decide +kernel
def YL_health : gY := (yL_health, cL_health, 3, some .int, [(0, 7, 10, 119)])
theorem mh_L_health : gMh YL_health := ⟨gW_in (gIn4 (List.mem_of_getElem? (i := 105) rfl)) rfl, gW_in (gIn1 (List.mem_of_getElem? (i := 0) (by decide +kernel))) rfl, by decide +kernel, by decide +kernel, by decide +kernel⟩
theorem sf_L_health : Cond.static YL_health.1 ∈ gW := gW_in (gIn4 (List.mem_of_getElem? (i := 104) (by decide +kernel))) rfl
theorem np_L_health : gNp YL_health.1 = some 2 := by decide +kernel
def YL_describe : gY := (yL_describe, cL_describe, 5, some .int, [(0, 10, 13, 30), (0, 10, 17, 15), (0, 10, 21, 24)])
theorem mh_L_describe : gMh YL_describe := ⟨gW_in (gIn4 (List.mem_of_getElem? (i := 129) rfl)) rfl, gW_in (gIn1 (List.mem_of_getElem? (i := 0) (by decide +kernel))) rfl, by decide +kernel, by decide +kernel, by decide +kernel⟩
theorem sf_L_describe : Cond.static YL_describe.1 ∈ gW := gW_in (gIn4 (List.mem_of_getElem? (i := 128) (by decide +kernel))) rfl
theorem np_L_describe : gNp YL_describe.1 = some 4 := by decide +kernel
def YL_undo : gY := (yL_undo, cL_undo, 3, some .int, [(0, 8, 11, 24)])
theorem mh_L_undo : gMh YL_undo := ⟨gW_in (gIn4 (List.mem_of_getElem? (i := 146) rfl)) rfl, gW_in (gIn1 (List.mem_of_getElem? (i := 0) (by decide +kernel))) rfl, by decide +kernel, by decide +kernel, by decide +kernel⟩
theorem sf_L_undo : Cond.static YL_undo.1 ∈ gW := gW_in (gIn4 (List.mem_of_getElem? (i := 145) (by decide +kernel))) rfl
theorem np_L_undo : gNp YL_undo.1 = some 2 := by decide +kernel
def YL_restore : gY := (yL_restore, cL_restore, 3, some .int, [(0, 8, 11, 15)])
theorem mh_L_restore : gMh YL_restore := ⟨gW_in (gIn4 (List.mem_of_getElem? (i := 154) rfl)) rfl, gW_in (gIn1 (List.mem_of_getElem? (i := 0) (by decide +kernel))) rfl, by decide +kernel, by decide +kernel, by decide +kernel⟩
theorem sf_L_restore : Cond.static YL_restore.1 ∈ gW := gW_in (gIn4 (List.mem_of_getElem? (i := 153) (by decide +kernel))) rfl
theorem np_L_restore : gNp YL_restore.1 = some 2 := by decide +kernel
theorem lk_X0_103 : gLk RX0 103 YX0_cancel.1 := Or.inl (gW_in (gIn2 (List.mem_of_getElem? (i := 51) (by decide +kernel))) rfl)
theorem lk_X0_113 : gLk RX0 113 YX0_difference.1 := Or.inl (gW_in (gIn2 (List.mem_of_getElem? (i := 64) (by decide +kernel))) rfl)
theorem lk_X0_56 : gLk RX0 56 YX0_clearBlock.1 := Or.inl (gW_in (gIn2 (List.mem_of_getElem? (i := 9) (by decide +kernel))) rfl)
theorem lk_X0_70 : gLk RX0 70 YX0_addSums.1 := Or.inl (gW_in (gIn2 (List.mem_of_getElem? (i := 26) (by decide +kernel))) rfl)
theorem lk_X0_73 : gLk RX0 73 YX0_load.1 := Or.inl (gW_in (gIn2 (List.mem_of_getElem? (i := 5) (by decide +kernel))) rfl)
theorem lk_X0_77 : gLk RX0 77 YJ6_bitCount_0f7a4.1 := Or.inl (gW_in (gIn2 (List.mem_of_getElem? (i := 38) (by decide +kernel))) rfl)
theorem lk_X0_83 : gLk RX0 83 YX0_cancelErasures.1 := Or.inl (gW_in (gIn2 (List.mem_of_getElem? (i := 44) (by decide +kernel))) rfl)
theorem lk_X0_86 : gLk RX0 86 YX0_errorSet.1 := Or.inl (gW_in (gIn2 (List.mem_of_getElem? (i := 54) (by decide +kernel))) rfl)
theorem lk_X0_90 : gLk RX0 90 YX0_solve.1 := Or.inl (gW_in (gIn2 (List.mem_of_getElem? (i := 60) (by decide +kernel))) rfl)
theorem lk_X0_99 : gLk RX0 99 YX0_isZero.1 := Or.inl (gW_in (gIn2 (List.mem_of_getElem? (i := 57) (by decide +kernel))) rfl)
theorem lk_X1_55 : gLk RX1 55 YX1_drop.1 := Or.inl (gW_in (gIn1 (List.mem_of_getElem? (i := 185) (by decide +kernel))) rfl)
theorem lk_X1_59 : gLk RX1 59 YX1_hasFile.1 := Or.inl (gW_in (gIn1 (List.mem_of_getElem? (i := 177) (by decide +kernel))) rfl)
theorem lk_X1_63 : gLk RX1 63 YX1_hasBlock.1 := Or.inl (gW_in (gIn3 (List.mem_of_getElem? (i := 102) (by decide +kernel))) rfl)
theorem lk_X1_67 : gLk RX1 67 YX1_blockSize.1 := Or.inl (gW_in (gIn1 (List.mem_of_getElem? (i := 222) (by decide +kernel))) rfl)
theorem lk_X1_74 : gLk RX1 74 YX1_areaSize.1 := Or.inl (gW_in (gIn1 (List.mem_of_getElem? (i := 218) (by decide +kernel))) rfl)
theorem lk_X1_86 : gLk RX1 86 YX1_groupSize.1 := Or.inl (gW_in (gIn2 (List.mem_of_getElem? (i := 21) (by decide +kernel))) rfl)
theorem lk_X1_89 : gLk RX1 89 YX1_areaStart.1 := Or.inl (gW_in (gIn1 (List.mem_of_getElem? (i := 210) (by decide +kernel))) rfl)
theorem lk_X1_92 : gLk RX1 92 YX1_areaEnd.1 := Or.inl (gW_in (gIn1 (List.mem_of_getElem? (i := 214) (by decide +kernel))) rfl)
theorem lk_X1_95 : gLk RX1 95 YX1_fileAt.1 := Or.inl (gW_in (gIn1 (List.mem_of_getElem? (i := 206) (by decide +kernel))) rfl)
theorem lk_X2_101 : gLk RX2 101 YX2_remember.1 := Or.inl (gW_in (gIn2 (List.mem_of_getElem? (i := 214) (by decide +kernel))) rfl)
theorem lk_X2_108 : gLk RX2 108 YX2_writeFile.1 := Or.inl (gW_in (gIn2 (List.mem_of_getElem? (i := 223) (by decide +kernel))) rfl)
theorem lk_X2_162 : gLk RX2 162 YX2_isCell.1 := Or.inl (gW_in (gIn3 (List.mem_of_getElem? (i := 114) (by decide +kernel))) rfl)
theorem lk_X2_226 : gLk RX2 226 YJ6_bitCount_0f7a4.1 := Or.inl (gW_in (gIn3 (List.mem_of_getElem? (i := 12) (by decide +kernel))) rfl)
theorem lk_X2_244 : gLk RX2 244 YX2_sealBehind.1 := Or.inl (gW_in (gIn2 (List.mem_of_getElem? (i := 239) (by decide +kernel))) rfl)
theorem lk_X2_247 : gLk RX2 247 YX2_lostBlocks.1 := Or.inl (gW_in (gIn3 (List.mem_of_getElem? (i := 237) (by decide +kernel))) rfl)
theorem lk_X2_250 : gLk RX2 250 YX2_standingFrom.1 := Or.inl (gW_in (gIn4 (List.mem_of_getElem? (i := 15) (by decide +kernel))) rfl)
theorem lk_X2_265 : gLk RX2 265 YX2_scrubBlock.1 := Or.inl (gW_in (gIn4 (List.mem_of_getElem? (i := 40) (by decide +kernel))) rfl)
theorem lk_X2_278 : gLk RX2 278 YX2_writeFound.1 := Or.inl (gW_in (gIn3 (List.mem_of_getElem? (i := 3) (by decide +kernel))) rfl)
theorem lk_X2_301 : gLk RX2 301 YX2_headCharacter.1 := Or.inl (gW_in (gIn4 (List.mem_of_getElem? (i := 136) (by decide +kernel))) rfl)
theorem lk_X2_304 : gLk RX2 304 YX2_dataCharacter.1 := Or.inl (gW_in (gIn4 (List.mem_of_getElem? (i := 140) (by decide +kernel))) rfl)
theorem lk_X2_315 : gLk RX2 315 YX2_fitsText.1 := Or.inl (gW_in (gIn2 (List.mem_of_getElem? (i := 195) (by decide +kernel))) rfl)
theorem lk_X2_319 : gLk RX2 319 YX2_symbolOf.1 := Or.inl (gW_in (gIn2 (List.mem_of_getElem? (i := 198) (by decide +kernel))) rfl)
theorem lk_X2_329 : gLk RX2 329 YX2_dataIn.1 := Or.inl (gW_in (gIn2 (List.mem_of_getElem? (i := 229) (by decide +kernel))) rfl)
theorem lk_X2_349 : gLk RX2 349 YX2_addLine.1 := Or.inl (gW_in (gIn4 (List.mem_of_getElem? (i := 44) (by decide +kernel))) rfl)
theorem lk_X2_68 : gLk RX2 68 YX2_forgetChanges.1 := Or.inl (gW_in (gIn1 (List.mem_of_getElem? (i := 189) (by decide +kernel))) rfl)
theorem lk_X2_83 : gLk RX2 83 YX2_textError.1 := Or.inl (gW_in (gIn2 (List.mem_of_getElem? (i := 192) (by decide +kernel))) rfl)
theorem lk_X2_92 : gLk RX2 92 YX2_blocksFor.1 := Or.inl (gW_in (gIn2 (List.mem_of_getElem? (i := 206) (by decide +kernel))) rfl)
theorem lk_L_101 : gLk RL 101 YX2_repair.1 := Or.inl (gW_in (gIn4 (List.mem_of_getElem? (i := 61) (by decide +kernel))) rfl)
theorem lk_L_101p : Cond.methodLink RL 101 YX2_repair.1 ∈ gW := gW_in (gIn4 (List.mem_of_getElem? (i := 61) (by decide +kernel))) rfl
theorem lk_L_106 : gLk RL 106 YX2_checked.1 := Or.inl (gW_in (gIn4 (List.mem_of_getElem? (i := 83) (by decide +kernel))) rfl)
theorem lk_L_106p : Cond.methodLink RL 106 YX2_checked.1 ∈ gW := gW_in (gIn4 (List.mem_of_getElem? (i := 83) (by decide +kernel))) rfl
theorem lk_L_109 : gLk RL 109 YX2_nextToCheck.1 := Or.inl (gW_in (gIn4 (List.mem_of_getElem? (i := 90) (by decide +kernel))) rfl)
theorem lk_L_109p : Cond.methodLink RL 109 YX2_nextToCheck.1 ∈ gW := gW_in (gIn4 (List.mem_of_getElem? (i := 90) (by decide +kernel))) rfl
theorem lk_L_112 : gLk RL 112 YX2_account.1 := Or.inl (gW_in (gIn4 (List.mem_of_getElem? (i := 98) (by decide +kernel))) rfl)
theorem lk_L_112p : Cond.methodLink RL 112 YX2_account.1 ∈ gW := gW_in (gIn4 (List.mem_of_getElem? (i := 98) (by decide +kernel))) rfl
theorem lk_L_115 : gLk RL 115 YX2_health.1 := Or.inl (gW_in (gIn4 (List.mem_of_getElem? (i := 120) (by decide +kernel))) rfl)
theorem lk_L_115p : Cond.methodLink RL 115 YX2_health.1 ∈ gW := gW_in (gIn4 (List.mem_of_getElem? (i := 120) (by decide +kernel))) rfl
theorem lk_L_121 : gLk RL 121 YX2_describe.1 := Or.inl (gW_in (gIn4 (List.mem_of_getElem? (i := 130) (by decide +kernel))) rfl)
theorem lk_L_121p : Cond.methodLink RL 121 YX2_describe.1 ∈ gW := gW_in (gIn4 (List.mem_of_getElem? (i := 130) (by decide +kernel))) rfl
theorem lk_L_124 : gLk RL 124 YX2_undo.1 := Or.inl (gW_in (gIn4 (List.mem_of_getElem? (i := 147) (by decide +kernel))) rfl)
theorem lk_L_124p : Cond.methodLink RL 124 YX2_undo.1 ∈ gW := gW_in (gIn4 (List.mem_of_getElem? (i := 147) (by decide +kernel))) rfl
theorem lk_L_127 : gLk RL 127 YX2_restore.1 := Or.inl (gW_in (gIn4 (List.mem_of_getElem? (i := 155) (by decide +kernel))) rfl)
theorem lk_L_127p : Cond.methodLink RL 127 YX2_restore.1 ∈ gW := gW_in (gIn4 (List.mem_of_getElem? (i := 155) (by decide +kernel))) rfl
theorem lk_L_130 : gLk RL 130 YX2_init.1 := Or.inl (gW_in (gIn1 (List.mem_of_getElem? (i := 21) (by decide +kernel))) rfl)
theorem lk_L_130p : Cond.methodLink RL 130 YX2_init.1 ∈ gW := gW_in (gIn1 (List.mem_of_getElem? (i := 21) (by decide +kernel))) rfl
theorem lk_L_133 : gLk RL 133 YX3_init.1 := Or.inl (gW_in (gIn4 (List.mem_of_getElem? (i := 162) (by decide +kernel))) rfl)
theorem lk_L_133p : Cond.methodLink RL 133 YX3_init.1 ∈ gW := gW_in (gIn4 (List.mem_of_getElem? (i := 162) (by decide +kernel))) rfl
theorem lk_L_134 : gLk RL 134 YX2_clear.1 := Or.inl (gW_in (gIn1 (List.mem_of_getElem? (i := 169) (by decide +kernel))) rfl)
theorem lk_L_134p : Cond.methodLink RL 134 YX2_clear.1 ∈ gW := gW_in (gIn1 (List.mem_of_getElem? (i := 169) (by decide +kernel))) rfl
theorem lk_L_137 : gLk RL 137 YX3_clear.1 := Or.inl (gW_in (gIn5 (List.mem_of_getElem? (i := 27) (by decide +kernel))) rfl)
theorem lk_L_137p : Cond.methodLink RL 137 YX3_clear.1 ∈ gW := gW_in (gIn5 (List.mem_of_getElem? (i := 27) (by decide +kernel))) rfl
theorem lk_L_138 : gLk RL 138 YL_append.1 := Or.inl (gW_in (gIn2 (List.mem_of_getElem? (i := 88) (by decide +kernel))) rfl)
theorem lk_L_138p : Cond.methodLink RL 138 YL_append.1 ∈ gW := gW_in (gIn2 (List.mem_of_getElem? (i := 88) (by decide +kernel))) rfl
theorem lk_L_143 : gLk RL 143 YX3_append.1 := Or.inl (gW_in (gIn5 (List.mem_of_getElem? (i := 46) (by decide +kernel))) rfl)
theorem lk_L_143p : Cond.methodLink RL 143 YX3_append.1 ∈ gW := gW_in (gIn5 (List.mem_of_getElem? (i := 46) (by decide +kernel))) rfl
theorem lk_L_144 : gLk RL 144 YX3_thrown.1 := Or.inl (gW_in (gIn5 (List.mem_of_getElem? (i := 23) (by decide +kernel))) rfl)
theorem lk_L_144p : Cond.methodLink RL 144 YX3_thrown.1 ∈ gW := gW_in (gIn5 (List.mem_of_getElem? (i := 23) (by decide +kernel))) rfl
theorem lk_L_147 : gLk RL 147 YL_store.1 := Or.inl (gW_in (gIn2 (List.mem_of_getElem? (i := 185) (by decide +kernel))) rfl)
theorem lk_L_147p : Cond.methodLink RL 147 YL_store.1 ∈ gW := gW_in (gIn2 (List.mem_of_getElem? (i := 185) (by decide +kernel))) rfl
theorem lk_L_150 : gLk RL 150 YX3_store.1 := Or.inl (gW_in (gIn5 (List.mem_of_getElem? (i := 50) (by decide +kernel))) rfl)
theorem lk_L_150p : Cond.methodLink RL 150 YX3_store.1 ∈ gW := gW_in (gIn5 (List.mem_of_getElem? (i := 50) (by decide +kernel))) rfl
theorem lk_L_151 : gLk RL 151 YL_errorPosition.1 := Or.inl (gW_in (gIn3 (List.mem_of_getElem? (i := 13) (by decide +kernel))) rfl)
theorem lk_L_151p : Cond.methodLink RL 151 YL_errorPosition.1 ∈ gW := gW_in (gIn3 (List.mem_of_getElem? (i := 13) (by decide +kernel))) rfl
theorem lk_L_153 : gLk RL 153 YX3_errorPosition.1 := Or.inl (gW_in (gIn5 (List.mem_of_getElem? (i := 131) (by decide +kernel))) rfl)
theorem lk_L_153p : Cond.methodLink RL 153 YX3_errorPosition.1 ∈ gW := gW_in (gIn5 (List.mem_of_getElem? (i := 131) (by decide +kernel))) rfl
theorem lk_L_154 : gLk RL 154 YL_remove.1 := Or.inl (gW_in (gIn3 (List.mem_of_getElem? (i := 37) (by decide +kernel))) rfl)
theorem lk_L_154p : Cond.methodLink RL 154 YL_remove.1 ∈ gW := gW_in (gIn3 (List.mem_of_getElem? (i := 37) (by decide +kernel))) rfl
theorem lk_L_157 : gLk RL 157 YX3_remove.1 := Or.inl (gW_in (gIn5 (List.mem_of_getElem? (i := 135) (by decide +kernel))) rfl)
theorem lk_L_157p : Cond.methodLink RL 157 YX3_remove.1 ∈ gW := gW_in (gIn5 (List.mem_of_getElem? (i := 135) (by decide +kernel))) rfl
theorem lk_L_158 : gLk RL 158 YL_file.1 := Or.inl (gW_in (gIn3 (List.mem_of_getElem? (i := 82) (by decide +kernel))) rfl)
theorem lk_L_158p : Cond.methodLink RL 158 YL_file.1 ∈ gW := gW_in (gIn3 (List.mem_of_getElem? (i := 82) (by decide +kernel))) rfl
theorem lk_L_161 : gLk RL 161 YX3_file.1 := Or.inl (gW_in (gIn5 (List.mem_of_getElem? (i := 139) (by decide +kernel))) rfl)
theorem lk_L_161p : Cond.methodLink RL 161 YX3_file.1 ∈ gW := gW_in (gIn5 (List.mem_of_getElem? (i := 139) (by decide +kernel))) rfl
theorem lk_L_162 : gLk RL 162 YX2_files.1 := Or.inl (gW_in (gIn1 (List.mem_of_getElem? (i := 193) (by decide +kernel))) rfl)
theorem lk_L_162p : Cond.methodLink RL 162 YX2_files.1 ∈ gW := gW_in (gIn1 (List.mem_of_getElem? (i := 193) (by decide +kernel))) rfl
theorem lk_L_165 : gLk RL 165 YX3_files.1 := Or.inl (gW_in (gIn5 (List.mem_of_getElem? (i := 143) (by decide +kernel))) rfl)
theorem lk_L_165p : Cond.methodLink RL 165 YX3_files.1 ∈ gW := gW_in (gIn5 (List.mem_of_getElem? (i := 143) (by decide +kernel))) rfl
theorem lk_L_166 : gLk RL 166 YL_cellOf.1 := Or.inl (gW_in (gIn3 (List.mem_of_getElem? (i := 91) (by decide +kernel))) rfl)
theorem lk_L_166p : Cond.methodLink RL 166 YL_cellOf.1 ∈ gW := gW_in (gIn3 (List.mem_of_getElem? (i := 91) (by decide +kernel))) rfl
theorem lk_L_169 : gLk RL 169 YX3_cellOf.1 := Or.inl (gW_in (gIn5 (List.mem_of_getElem? (i := 147) (by decide +kernel))) rfl)
theorem lk_L_169p : Cond.methodLink RL 169 YX3_cellOf.1 ∈ gW := gW_in (gIn5 (List.mem_of_getElem? (i := 147) (by decide +kernel))) rfl
theorem lk_L_17 : gLk RL 17 YX2_store.1 := Or.inl (gW_in (gIn2 (List.mem_of_getElem? (i := 188) (by decide +kernel))) rfl)
theorem lk_L_17p : Cond.methodLink RL 17 YX2_store.1 ∈ gW := gW_in (gIn2 (List.mem_of_getElem? (i := 188) (by decide +kernel))) rfl
theorem lk_L_170 : gLk RL 170 YL_owner.1 := Or.inl (gW_in (gIn3 (List.mem_of_getElem? (i := 107) (by decide +kernel))) rfl)
theorem lk_L_170p : Cond.methodLink RL 170 YL_owner.1 ∈ gW := gW_in (gIn3 (List.mem_of_getElem? (i := 107) (by decide +kernel))) rfl
theorem lk_L_172 : gLk RL 172 YX3_owner.1 := Or.inl (gW_in (gIn5 (List.mem_of_getElem? (i := 159) (by decide +kernel))) rfl)
theorem lk_L_172p : Cond.methodLink RL 172 YX3_owner.1 ∈ gW := gW_in (gIn5 (List.mem_of_getElem? (i := 159) (by decide +kernel))) rfl
theorem lk_L_173 : gLk RL 173 YL_placeOf.1 := Or.inl (gW_in (gIn3 (List.mem_of_getElem? (i := 119) (by decide +kernel))) rfl)
theorem lk_L_173p : Cond.methodLink RL 173 YL_placeOf.1 ∈ gW := gW_in (gIn3 (List.mem_of_getElem? (i := 119) (by decide +kernel))) rfl
theorem lk_L_175 : gLk RL 175 YX3_placeOf.1 := Or.inl (gW_in (gIn5 (List.mem_of_getElem? (i := 167) (by decide +kernel))) rfl)
theorem lk_L_175p : Cond.methodLink RL 175 YX3_placeOf.1 ∈ gW := gW_in (gIn5 (List.mem_of_getElem? (i := 167) (by decide +kernel))) rfl
theorem lk_L_176 : gLk RL 176 YX2_room.1 := Or.inl (gW_in (gIn1 (List.mem_of_getElem? (i := 198) (by decide +kernel))) rfl)
theorem lk_L_176p : Cond.methodLink RL 176 YX2_room.1 ∈ gW := gW_in (gIn1 (List.mem_of_getElem? (i := 198) (by decide +kernel))) rfl
theorem lk_L_179 : gLk RL 179 YX3_room.1 := Or.inl (gW_in (gIn5 (List.mem_of_getElem? (i := 171) (by decide +kernel))) rfl)
theorem lk_L_179p : Cond.methodLink RL 179 YX3_room.1 ∈ gW := gW_in (gIn5 (List.mem_of_getElem? (i := 171) (by decide +kernel))) rfl
theorem lk_L_180 : gLk RL 180 YL_symbol.1 := Or.inl (gW_in (gIn3 (List.mem_of_getElem? (i := 131) (by decide +kernel))) rfl)
theorem lk_L_180p : Cond.methodLink RL 180 YL_symbol.1 ∈ gW := gW_in (gIn3 (List.mem_of_getElem? (i := 131) (by decide +kernel))) rfl
theorem lk_L_182 : gLk RL 182 YX3_symbol.1 := Or.inl (gW_in (gIn5 (List.mem_of_getElem? (i := 175) (by decide +kernel))) rfl)
theorem lk_L_182p : Cond.methodLink RL 182 YX3_symbol.1 ∈ gW := gW_in (gIn5 (List.mem_of_getElem? (i := 175) (by decide +kernel))) rfl
theorem lk_L_183 : gLk RL 183 YL_isErased.1 := Or.inl (gW_in (gIn3 (List.mem_of_getElem? (i := 138) (by decide +kernel))) rfl)
theorem lk_L_183p : Cond.methodLink RL 183 YL_isErased.1 ∈ gW := gW_in (gIn3 (List.mem_of_getElem? (i := 138) (by decide +kernel))) rfl
theorem lk_L_185 : gLk RL 185 YX3_isErased.1 := Or.inl (gW_in (gIn5 (List.mem_of_getElem? (i := 179) (by decide +kernel))) rfl)
theorem lk_L_185p : Cond.methodLink RL 185 YX3_isErased.1 ∈ gW := gW_in (gIn5 (List.mem_of_getElem? (i := 179) (by decide +kernel))) rfl
theorem lk_L_186 : gLk RL 186 YL_flip.1 := Or.inl (gW_in (gIn3 (List.mem_of_getElem? (i := 145) (by decide +kernel))) rfl)
theorem lk_L_186p : Cond.methodLink RL 186 YL_flip.1 ∈ gW := gW_in (gIn3 (List.mem_of_getElem? (i := 145) (by decide +kernel))) rfl
theorem lk_L_188 : gLk RL 188 YX3_flip.1 := Or.inl (gW_in (gIn5 (List.mem_of_getElem? (i := 183) (by decide +kernel))) rfl)
theorem lk_L_188p : Cond.methodLink RL 188 YX3_flip.1 ∈ gW := gW_in (gIn5 (List.mem_of_getElem? (i := 183) (by decide +kernel))) rfl
theorem lk_L_189 : gLk RL 189 YL_erase.1 := Or.inl (gW_in (gIn3 (List.mem_of_getElem? (i := 157) (by decide +kernel))) rfl)
theorem lk_L_189p : Cond.methodLink RL 189 YL_erase.1 ∈ gW := gW_in (gIn3 (List.mem_of_getElem? (i := 157) (by decide +kernel))) rfl
theorem lk_L_191 : gLk RL 191 YX3_erase.1 := Or.inl (gW_in (gIn5 (List.mem_of_getElem? (i := 187) (by decide +kernel))) rfl)
theorem lk_L_191p : Cond.methodLink RL 191 YX3_erase.1 ∈ gW := gW_in (gIn5 (List.mem_of_getElem? (i := 187) (by decide +kernel))) rfl
theorem lk_L_192 : gLk RL 192 YL_burst.1 := Or.inl (gW_in (gIn3 (List.mem_of_getElem? (i := 164) (by decide +kernel))) rfl)
theorem lk_L_192p : Cond.methodLink RL 192 YL_burst.1 ∈ gW := gW_in (gIn3 (List.mem_of_getElem? (i := 164) (by decide +kernel))) rfl
theorem lk_L_194 : gLk RL 194 YX3_burst.1 := Or.inl (gW_in (gIn5 (List.mem_of_getElem? (i := 191) (by decide +kernel))) rfl)
theorem lk_L_194p : Cond.methodLink RL 194 YX3_burst.1 ∈ gW := gW_in (gIn5 (List.mem_of_getElem? (i := 191) (by decide +kernel))) rfl
theorem lk_L_195 : gLk RL 195 YL_wrong.1 := Or.inl (gW_in (gIn3 (List.mem_of_getElem? (i := 172) (by decide +kernel))) rfl)
theorem lk_L_195p : Cond.methodLink RL 195 YL_wrong.1 ∈ gW := gW_in (gIn3 (List.mem_of_getElem? (i := 172) (by decide +kernel))) rfl
theorem lk_L_197 : gLk RL 197 YX3_wrong.1 := Or.inl (gW_in (gIn5 (List.mem_of_getElem? (i := 195) (by decide +kernel))) rfl)
theorem lk_L_197p : Cond.methodLink RL 197 YX3_wrong.1 ∈ gW := gW_in (gIn5 (List.mem_of_getElem? (i := 195) (by decide +kernel))) rfl
theorem lk_L_198 : gLk RL 198 YL_erased.1 := Or.inl (gW_in (gIn3 (List.mem_of_getElem? (i := 181) (by decide +kernel))) rfl)
theorem lk_L_198p : Cond.methodLink RL 198 YL_erased.1 ∈ gW := gW_in (gIn3 (List.mem_of_getElem? (i := 181) (by decide +kernel))) rfl
theorem lk_L_200 : gLk RL 200 YX3_erased.1 := Or.inl (gW_in (gIn5 (List.mem_of_getElem? (i := 207) (by decide +kernel))) rfl)
theorem lk_L_200p : Cond.methodLink RL 200 YX3_erased.1 ∈ gW := gW_in (gIn5 (List.mem_of_getElem? (i := 207) (by decide +kernel))) rfl
theorem lk_L_201 : gLk RL 201 YL_sum.1 := Or.inl (gW_in (gIn3 (List.mem_of_getElem? (i := 188) (by decide +kernel))) rfl)
theorem lk_L_201p : Cond.methodLink RL 201 YL_sum.1 ∈ gW := gW_in (gIn3 (List.mem_of_getElem? (i := 188) (by decide +kernel))) rfl
theorem lk_L_203 : gLk RL 203 YX3_sum.1 := Or.inl (gW_in (gIn5 (List.mem_of_getElem? (i := 211) (by decide +kernel))) rfl)
theorem lk_L_203p : Cond.methodLink RL 203 YX3_sum.1 ∈ gW := gW_in (gIn5 (List.mem_of_getElem? (i := 211) (by decide +kernel))) rfl
theorem lk_L_204 : gLk RL 204 YL_decoded.1 := Or.inl (gW_in (gIn3 (List.mem_of_getElem? (i := 198) (by decide +kernel))) rfl)
theorem lk_L_204p : Cond.methodLink RL 204 YL_decoded.1 ∈ gW := gW_in (gIn3 (List.mem_of_getElem? (i := 198) (by decide +kernel))) rfl
theorem lk_L_206 : gLk RL 206 YX3_decoded.1 := Or.inl (gW_in (gIn5 (List.mem_of_getElem? (i := 219) (by decide +kernel))) rfl)
theorem lk_L_206p : Cond.methodLink RL 206 YX3_decoded.1 ∈ gW := gW_in (gIn5 (List.mem_of_getElem? (i := 219) (by decide +kernel))) rfl
theorem lk_L_207 : gLk RL 207 YL_found.1 := Or.inl (gW_in (gIn3 (List.mem_of_getElem? (i := 208) (by decide +kernel))) rfl)
theorem lk_L_207p : Cond.methodLink RL 207 YL_found.1 ∈ gW := gW_in (gIn3 (List.mem_of_getElem? (i := 208) (by decide +kernel))) rfl
theorem lk_L_209 : gLk RL 209 YX3_found.1 := Or.inl (gW_in (gIn5 (List.mem_of_getElem? (i := 231) (by decide +kernel))) rfl)
theorem lk_L_209p : Cond.methodLink RL 209 YX3_found.1 ∈ gW := gW_in (gIn5 (List.mem_of_getElem? (i := 231) (by decide +kernel))) rfl
theorem lk_L_21 : gLk RL 21 YX2_errorPosition.1 := Or.inl (gW_in (gIn3 (List.mem_of_getElem? (i := 17) (by decide +kernel))) rfl)
theorem lk_L_21p : Cond.methodLink RL 21 YX2_errorPosition.1 ∈ gW := gW_in (gIn3 (List.mem_of_getElem? (i := 17) (by decide +kernel))) rfl
theorem lk_L_210 : gLk RL 210 YL_read.1 := Or.inl (gW_in (gIn3 (List.mem_of_getElem? (i := 215) (by decide +kernel))) rfl)
theorem lk_L_210p : Cond.methodLink RL 210 YL_read.1 ∈ gW := gW_in (gIn3 (List.mem_of_getElem? (i := 215) (by decide +kernel))) rfl
theorem lk_L_212 : gLk RL 212 YX3_read.1 := Or.inl (gW_in (gIn5 (List.mem_of_getElem? (i := 235) (by decide +kernel))) rfl)
theorem lk_L_212p : Cond.methodLink RL 212 YX3_read.1 ∈ gW := gW_in (gIn5 (List.mem_of_getElem? (i := 235) (by decide +kernel))) rfl
theorem lk_L_213 : gLk RL 213 YL_condition.1 := Or.inl (gW_in (gIn3 (List.mem_of_getElem? (i := 223) (by decide +kernel))) rfl)
theorem lk_L_213p : Cond.methodLink RL 213 YL_condition.1 ∈ gW := gW_in (gIn3 (List.mem_of_getElem? (i := 223) (by decide +kernel))) rfl
theorem lk_L_215 : gLk RL 215 YX3_condition.1 := Or.inl (gW_in (gIn5 (List.mem_of_getElem? (i := 239) (by decide +kernel))) rfl)
theorem lk_L_215p : Cond.methodLink RL 215 YX3_condition.1 ∈ gW := gW_in (gIn5 (List.mem_of_getElem? (i := 239) (by decide +kernel))) rfl
theorem lk_L_216 : gLk RL 216 YL_undecodable.1 := Or.inl (gW_in (gIn3 (List.mem_of_getElem? (i := 230) (by decide +kernel))) rfl)
theorem lk_L_216p : Cond.methodLink RL 216 YL_undecodable.1 ∈ gW := gW_in (gIn3 (List.mem_of_getElem? (i := 230) (by decide +kernel))) rfl
theorem lk_L_218 : gLk RL 218 YX3_undecodable.1 := Or.inl (gW_in (gIn6 (List.mem_of_getElem? (i := 11) (by decide +kernel))) rfl)
theorem lk_L_218p : Cond.methodLink RL 218 YX3_undecodable.1 ∈ gW := gW_in (gIn6 (List.mem_of_getElem? (i := 11) (by decide +kernel))) rfl
theorem lk_L_219 : gLk RL 219 YL_margin.1 := Or.inl (gW_in (gIn4 (List.mem_of_getElem? (i := 1) (by decide +kernel))) rfl)
theorem lk_L_219p : Cond.methodLink RL 219 YL_margin.1 ∈ gW := gW_in (gIn4 (List.mem_of_getElem? (i := 1) (by decide +kernel))) rfl
theorem lk_L_221 : gLk RL 221 YX3_margin.1 := Or.inl (gW_in (gIn6 (List.mem_of_getElem? (i := 15) (by decide +kernel))) rfl)
theorem lk_L_221p : Cond.methodLink RL 221 YX3_margin.1 ∈ gW := gW_in (gIn6 (List.mem_of_getElem? (i := 15) (by decide +kernel))) rfl
theorem lk_L_222 : gLk RL 222 YL_burstLimit.1 := Or.inl (gW_in (gIn4 (List.mem_of_getElem? (i := 8) (by decide +kernel))) rfl)
theorem lk_L_222p : Cond.methodLink RL 222 YL_burstLimit.1 ∈ gW := gW_in (gIn4 (List.mem_of_getElem? (i := 8) (by decide +kernel))) rfl
theorem lk_L_224 : gLk RL 224 YX3_burstLimit.1 := Or.inl (gW_in (gIn6 (List.mem_of_getElem? (i := 19) (by decide +kernel))) rfl)
theorem lk_L_224p : Cond.methodLink RL 224 YX3_burstLimit.1 ∈ gW := gW_in (gIn6 (List.mem_of_getElem? (i := 19) (by decide +kernel))) rfl
theorem lk_L_225 : gLk RL 225 YL_advance.1 := Or.inl (gW_in (gIn4 (List.mem_of_getElem? (i := 19) (by decide +kernel))) rfl)
theorem lk_L_225p : Cond.methodLink RL 225 YL_advance.1 ∈ gW := gW_in (gIn4 (List.mem_of_getElem? (i := 19) (by decide +kernel))) rfl
theorem lk_L_227 : gLk RL 227 YX3_advance.1 := Or.inl (gW_in (gIn6 (List.mem_of_getElem? (i := 27) (by decide +kernel))) rfl)
theorem lk_L_227p : Cond.methodLink RL 227 YX3_advance.1 ∈ gW := gW_in (gIn6 (List.mem_of_getElem? (i := 27) (by decide +kernel))) rfl
theorem lk_L_228 : gLk RL 228 YL_scrub.1 := Or.inl (gW_in (gIn4 (List.mem_of_getElem? (i := 28) (by decide +kernel))) rfl)
theorem lk_L_228p : Cond.methodLink RL 228 YL_scrub.1 ∈ gW := gW_in (gIn4 (List.mem_of_getElem? (i := 28) (by decide +kernel))) rfl
theorem lk_L_230 : gLk RL 230 YX3_scrub.1 := Or.inl (gW_in (gIn6 (List.mem_of_getElem? (i := 31) (by decide +kernel))) rfl)
theorem lk_L_230p : Cond.methodLink RL 230 YX3_scrub.1 ∈ gW := gW_in (gIn6 (List.mem_of_getElem? (i := 31) (by decide +kernel))) rfl
theorem lk_L_231 : gLk RL 231 YL_report.1 := Or.inl (gW_in (gIn4 (List.mem_of_getElem? (i := 48) (by decide +kernel))) rfl)
theorem lk_L_231p : Cond.methodLink RL 231 YL_report.1 ∈ gW := gW_in (gIn4 (List.mem_of_getElem? (i := 48) (by decide +kernel))) rfl
theorem lk_L_233 : gLk RL 233 YX3_report.1 := Or.inl (gW_in (gIn6 (List.mem_of_getElem? (i := 47) (by decide +kernel))) rfl)
theorem lk_L_233p : Cond.methodLink RL 233 YX3_report.1 ∈ gW := gW_in (gIn6 (List.mem_of_getElem? (i := 47) (by decide +kernel))) rfl
theorem lk_L_234 : gLk RL 234 YX2_reportLines.1 := Or.inl (gW_in (gIn1 (List.mem_of_getElem? (i := 229) (by decide +kernel))) rfl)
theorem lk_L_234p : Cond.methodLink RL 234 YX2_reportLines.1 ∈ gW := gW_in (gIn1 (List.mem_of_getElem? (i := 229) (by decide +kernel))) rfl
theorem lk_L_237 : gLk RL 237 YX3_reportLines.1 := Or.inl (gW_in (gIn6 (List.mem_of_getElem? (i := 51) (by decide +kernel))) rfl)
theorem lk_L_237p : Cond.methodLink RL 237 YX3_reportLines.1 ∈ gW := gW_in (gIn6 (List.mem_of_getElem? (i := 51) (by decide +kernel))) rfl
theorem lk_L_238 : gLk RL 238 YL_repair.1 := Or.inl (gW_in (gIn4 (List.mem_of_getElem? (i := 57) (by decide +kernel))) rfl)
theorem lk_L_238p : Cond.methodLink RL 238 YL_repair.1 ∈ gW := gW_in (gIn4 (List.mem_of_getElem? (i := 57) (by decide +kernel))) rfl
theorem lk_L_240 : gLk RL 240 YX3_repair.1 := Or.inl (gW_in (gIn6 (List.mem_of_getElem? (i := 55) (by decide +kernel))) rfl)
theorem lk_L_240p : Cond.methodLink RL 240 YX3_repair.1 ∈ gW := gW_in (gIn6 (List.mem_of_getElem? (i := 55) (by decide +kernel))) rfl
theorem lk_L_241 : gLk RL 241 YL_checked.1 := Or.inl (gW_in (gIn4 (List.mem_of_getElem? (i := 80) (by decide +kernel))) rfl)
theorem lk_L_241p : Cond.methodLink RL 241 YL_checked.1 ∈ gW := gW_in (gIn4 (List.mem_of_getElem? (i := 80) (by decide +kernel))) rfl
theorem lk_L_243 : gLk RL 243 YX3_checked.1 := Or.inl (gW_in (gIn6 (List.mem_of_getElem? (i := 59) (by decide +kernel))) rfl)
theorem lk_L_243p : Cond.methodLink RL 243 YX3_checked.1 ∈ gW := gW_in (gIn6 (List.mem_of_getElem? (i := 59) (by decide +kernel))) rfl
theorem lk_L_244 : gLk RL 244 YL_nextToCheck.1 := Or.inl (gW_in (gIn4 (List.mem_of_getElem? (i := 87) (by decide +kernel))) rfl)
theorem lk_L_244p : Cond.methodLink RL 244 YL_nextToCheck.1 ∈ gW := gW_in (gIn4 (List.mem_of_getElem? (i := 87) (by decide +kernel))) rfl
theorem lk_L_246 : gLk RL 246 YX3_nextToCheck.1 := Or.inl (gW_in (gIn6 (List.mem_of_getElem? (i := 63) (by decide +kernel))) rfl)
theorem lk_L_246p : Cond.methodLink RL 246 YX3_nextToCheck.1 ∈ gW := gW_in (gIn6 (List.mem_of_getElem? (i := 63) (by decide +kernel))) rfl
theorem lk_L_247 : gLk RL 247 YX2_needed.1 := Or.inl (gW_in (gIn1 (List.mem_of_getElem? (i := 233) (by decide +kernel))) rfl)
theorem lk_L_247p : Cond.methodLink RL 247 YX2_needed.1 ∈ gW := gW_in (gIn1 (List.mem_of_getElem? (i := 233) (by decide +kernel))) rfl
theorem lk_L_250 : gLk RL 250 YX3_needed.1 := Or.inl (gW_in (gIn6 (List.mem_of_getElem? (i := 67) (by decide +kernel))) rfl)
theorem lk_L_250p : Cond.methodLink RL 250 YX3_needed.1 ∈ gW := gW_in (gIn6 (List.mem_of_getElem? (i := 67) (by decide +kernel))) rfl
theorem lk_L_251 : gLk RL 251 YL_account.1 := Or.inl (gW_in (gIn4 (List.mem_of_getElem? (i := 95) (by decide +kernel))) rfl)
theorem lk_L_251p : Cond.methodLink RL 251 YL_account.1 ∈ gW := gW_in (gIn4 (List.mem_of_getElem? (i := 95) (by decide +kernel))) rfl
theorem lk_L_253 : gLk RL 253 YX3_account.1 := Or.inl (gW_in (gIn6 (List.mem_of_getElem? (i := 71) (by decide +kernel))) rfl)
theorem lk_L_253p : Cond.methodLink RL 253 YX3_account.1 ∈ gW := gW_in (gIn6 (List.mem_of_getElem? (i := 71) (by decide +kernel))) rfl
theorem lk_L_254 : gLk RL 254 YX2_day.1 := Or.inl (gW_in (gIn2 (List.mem_of_getElem? (i := 75) (by decide +kernel))) rfl)
theorem lk_L_254p : Cond.methodLink RL 254 YX2_day.1 ∈ gW := gW_in (gIn2 (List.mem_of_getElem? (i := 75) (by decide +kernel))) rfl
theorem lk_L_257 : gLk RL 257 YX3_day.1 := Or.inl (gW_in (gIn6 (List.mem_of_getElem? (i := 75) (by decide +kernel))) rfl)
theorem lk_L_257p : Cond.methodLink RL 257 YX3_day.1 ∈ gW := gW_in (gIn6 (List.mem_of_getElem? (i := 75) (by decide +kernel))) rfl
theorem lk_L_258 : gLk RL 258 YL_health.1 := Or.inl (gW_in (gIn4 (List.mem_of_getElem? (i := 103) (by decide +kernel))) rfl)
theorem lk_L_258p : Cond.methodLink RL 258 YL_health.1 ∈ gW := gW_in (gIn4 (List.mem_of_getElem? (i := 103) (by decide +kernel))) rfl
theorem lk_L_26 : gLk RL 26 YX2_remove.1 := Or.inl (gW_in (gIn3 (List.mem_of_getElem? (i := 64) (by decide +kernel))) rfl)
theorem lk_L_26p : Cond.methodLink RL 26 YX2_remove.1 ∈ gW := gW_in (gIn3 (List.mem_of_getElem? (i := 64) (by decide +kernel))) rfl
theorem lk_L_261 : gLk RL 261 YX3_health.1 := Or.inl (gW_in (gIn6 (List.mem_of_getElem? (i := 79) (by decide +kernel))) rfl)
theorem lk_L_261p : Cond.methodLink RL 261 YX3_health.1 ∈ gW := gW_in (gIn6 (List.mem_of_getElem? (i := 79) (by decide +kernel))) rfl
theorem lk_L_262 : gLk RL 262 YL_describe.1 := Or.inl (gW_in (gIn4 (List.mem_of_getElem? (i := 127) (by decide +kernel))) rfl)
theorem lk_L_262p : Cond.methodLink RL 262 YL_describe.1 ∈ gW := gW_in (gIn4 (List.mem_of_getElem? (i := 127) (by decide +kernel))) rfl
theorem lk_L_264 : gLk RL 264 YX3_describe.1 := Or.inl (gW_in (gIn6 (List.mem_of_getElem? (i := 83) (by decide +kernel))) rfl)
theorem lk_L_264p : Cond.methodLink RL 264 YX3_describe.1 ∈ gW := gW_in (gIn6 (List.mem_of_getElem? (i := 83) (by decide +kernel))) rfl
theorem lk_L_265 : gLk RL 265 YL_undo.1 := Or.inl (gW_in (gIn4 (List.mem_of_getElem? (i := 144) (by decide +kernel))) rfl)
theorem lk_L_265p : Cond.methodLink RL 265 YL_undo.1 ∈ gW := gW_in (gIn4 (List.mem_of_getElem? (i := 144) (by decide +kernel))) rfl
theorem lk_L_267 : gLk RL 267 YX3_undo.1 := Or.inl (gW_in (gIn6 (List.mem_of_getElem? (i := 87) (by decide +kernel))) rfl)
theorem lk_L_267p : Cond.methodLink RL 267 YX3_undo.1 ∈ gW := gW_in (gIn6 (List.mem_of_getElem? (i := 87) (by decide +kernel))) rfl
theorem lk_L_268 : gLk RL 268 YX2_save.1 := Or.inl (gW_in (gIn2 (List.mem_of_getElem? (i := 79) (by decide +kernel))) rfl)
theorem lk_L_268p : Cond.methodLink RL 268 YX2_save.1 ∈ gW := gW_in (gIn2 (List.mem_of_getElem? (i := 79) (by decide +kernel))) rfl
theorem lk_L_271 : gLk RL 271 YX3_save.1 := Or.inl (gW_in (gIn6 (List.mem_of_getElem? (i := 91) (by decide +kernel))) rfl)
theorem lk_L_271p : Cond.methodLink RL 271 YX3_save.1 ∈ gW := gW_in (gIn6 (List.mem_of_getElem? (i := 91) (by decide +kernel))) rfl
theorem lk_L_272 : gLk RL 272 YL_restore.1 := Or.inl (gW_in (gIn4 (List.mem_of_getElem? (i := 152) (by decide +kernel))) rfl)
theorem lk_L_272p : Cond.methodLink RL 272 YL_restore.1 ∈ gW := gW_in (gIn4 (List.mem_of_getElem? (i := 152) (by decide +kernel))) rfl
theorem lk_L_274 : gLk RL 274 YX3_restore.1 := Or.inl (gW_in (gIn6 (List.mem_of_getElem? (i := 98) (by decide +kernel))) rfl)
theorem lk_L_274p : Cond.methodLink RL 274 YX3_restore.1 ∈ gW := gW_in (gIn6 (List.mem_of_getElem? (i := 98) (by decide +kernel))) rfl
theorem lk_L_32 : gLk RL 32 YX2_file.1 := Or.inl (gW_in (gIn3 (List.mem_of_getElem? (i := 85) (by decide +kernel))) rfl)
theorem lk_L_32p : Cond.methodLink RL 32 YX2_file.1 ∈ gW := gW_in (gIn3 (List.mem_of_getElem? (i := 85) (by decide +kernel))) rfl
theorem lk_L_36 : gLk RL 36 YX2_cellOf.1 := Or.inl (gW_in (gIn3 (List.mem_of_getElem? (i := 94) (by decide +kernel))) rfl)
theorem lk_L_36p : Cond.methodLink RL 36 YX2_cellOf.1 ∈ gW := gW_in (gIn3 (List.mem_of_getElem? (i := 94) (by decide +kernel))) rfl
theorem lk_L_40 : gLk RL 40 YX2_owner.1 := Or.inl (gW_in (gIn3 (List.mem_of_getElem? (i := 110) (by decide +kernel))) rfl)
theorem lk_L_40p : Cond.methodLink RL 40 YX2_owner.1 ∈ gW := gW_in (gIn3 (List.mem_of_getElem? (i := 110) (by decide +kernel))) rfl
theorem lk_L_43 : gLk RL 43 YX2_placeOf.1 := Or.inl (gW_in (gIn3 (List.mem_of_getElem? (i := 122) (by decide +kernel))) rfl)
theorem lk_L_43p : Cond.methodLink RL 43 YX2_placeOf.1 ∈ gW := gW_in (gIn3 (List.mem_of_getElem? (i := 122) (by decide +kernel))) rfl
theorem lk_L_46 : gLk RL 46 YX2_symbol.1 := Or.inl (gW_in (gIn3 (List.mem_of_getElem? (i := 134) (by decide +kernel))) rfl)
theorem lk_L_46p : Cond.methodLink RL 46 YX2_symbol.1 ∈ gW := gW_in (gIn3 (List.mem_of_getElem? (i := 134) (by decide +kernel))) rfl
theorem lk_L_49 : gLk RL 49 YX2_isErased.1 := Or.inl (gW_in (gIn3 (List.mem_of_getElem? (i := 141) (by decide +kernel))) rfl)
theorem lk_L_49p : Cond.methodLink RL 49 YX2_isErased.1 ∈ gW := gW_in (gIn3 (List.mem_of_getElem? (i := 141) (by decide +kernel))) rfl
theorem lk_L_53 : gLk RL 53 YX2_flip.1 := Or.inl (gW_in (gIn3 (List.mem_of_getElem? (i := 148) (by decide +kernel))) rfl)
theorem lk_L_53p : Cond.methodLink RL 53 YX2_flip.1 ∈ gW := gW_in (gIn3 (List.mem_of_getElem? (i := 148) (by decide +kernel))) rfl
theorem lk_L_56 : gLk RL 56 YX2_erase.1 := Or.inl (gW_in (gIn3 (List.mem_of_getElem? (i := 160) (by decide +kernel))) rfl)
theorem lk_L_56p : Cond.methodLink RL 56 YX2_erase.1 ∈ gW := gW_in (gIn3 (List.mem_of_getElem? (i := 160) (by decide +kernel))) rfl
theorem lk_L_59 : gLk RL 59 YX2_burst.1 := Or.inl (gW_in (gIn3 (List.mem_of_getElem? (i := 167) (by decide +kernel))) rfl)
theorem lk_L_59p : Cond.methodLink RL 59 YX2_burst.1 ∈ gW := gW_in (gIn3 (List.mem_of_getElem? (i := 167) (by decide +kernel))) rfl
theorem lk_L_62 : gLk RL 62 YX2_wrong.1 := Or.inl (gW_in (gIn3 (List.mem_of_getElem? (i := 175) (by decide +kernel))) rfl)
theorem lk_L_62p : Cond.methodLink RL 62 YX2_wrong.1 ∈ gW := gW_in (gIn3 (List.mem_of_getElem? (i := 175) (by decide +kernel))) rfl
theorem lk_L_65 : gLk RL 65 YX2_erased.1 := Or.inl (gW_in (gIn3 (List.mem_of_getElem? (i := 184) (by decide +kernel))) rfl)
theorem lk_L_65p : Cond.methodLink RL 65 YX2_erased.1 ∈ gW := gW_in (gIn3 (List.mem_of_getElem? (i := 184) (by decide +kernel))) rfl
theorem lk_L_68 : gLk RL 68 YX2_sum.1 := Or.inl (gW_in (gIn3 (List.mem_of_getElem? (i := 191) (by decide +kernel))) rfl)
theorem lk_L_68p : Cond.methodLink RL 68 YX2_sum.1 ∈ gW := gW_in (gIn3 (List.mem_of_getElem? (i := 191) (by decide +kernel))) rfl
theorem lk_L_7 : gLk RL 7 YX2_append.1 := Or.inl (gW_in (gIn2 (List.mem_of_getElem? (i := 93) (by decide +kernel))) rfl)
theorem lk_L_7p : Cond.methodLink RL 7 YX2_append.1 ∈ gW := gW_in (gIn2 (List.mem_of_getElem? (i := 93) (by decide +kernel))) rfl
theorem lk_L_71 : gLk RL 71 YX2_decoded.1 := Or.inl (gW_in (gIn3 (List.mem_of_getElem? (i := 201) (by decide +kernel))) rfl)
theorem lk_L_71p : Cond.methodLink RL 71 YX2_decoded.1 ∈ gW := gW_in (gIn3 (List.mem_of_getElem? (i := 201) (by decide +kernel))) rfl
theorem lk_L_74 : gLk RL 74 YX2_found.1 := Or.inl (gW_in (gIn3 (List.mem_of_getElem? (i := 211) (by decide +kernel))) rfl)
theorem lk_L_74p : Cond.methodLink RL 74 YX2_found.1 ∈ gW := gW_in (gIn3 (List.mem_of_getElem? (i := 211) (by decide +kernel))) rfl
theorem lk_L_77 : gLk RL 77 YX2_read.1 := Or.inl (gW_in (gIn3 (List.mem_of_getElem? (i := 218) (by decide +kernel))) rfl)
theorem lk_L_77p : Cond.methodLink RL 77 YX2_read.1 ∈ gW := gW_in (gIn3 (List.mem_of_getElem? (i := 218) (by decide +kernel))) rfl
theorem lk_L_80 : gLk RL 80 YX2_condition.1 := Or.inl (gW_in (gIn3 (List.mem_of_getElem? (i := 226) (by decide +kernel))) rfl)
theorem lk_L_80p : Cond.methodLink RL 80 YX2_condition.1 ∈ gW := gW_in (gIn3 (List.mem_of_getElem? (i := 226) (by decide +kernel))) rfl
theorem lk_L_83 : gLk RL 83 YX2_undecodable.1 := Or.inl (gW_in (gIn3 (List.mem_of_getElem? (i := 233) (by decide +kernel))) rfl)
theorem lk_L_83p : Cond.methodLink RL 83 YX2_undecodable.1 ∈ gW := gW_in (gIn3 (List.mem_of_getElem? (i := 233) (by decide +kernel))) rfl
theorem lk_L_86 : gLk RL 86 YX2_margin.1 := Or.inl (gW_in (gIn4 (List.mem_of_getElem? (i := 4) (by decide +kernel))) rfl)
theorem lk_L_86p : Cond.methodLink RL 86 YX2_margin.1 ∈ gW := gW_in (gIn4 (List.mem_of_getElem? (i := 4) (by decide +kernel))) rfl
theorem lk_L_89 : gLk RL 89 YX2_burstLimit.1 := Or.inl (gW_in (gIn4 (List.mem_of_getElem? (i := 11) (by decide +kernel))) rfl)
theorem lk_L_89p : Cond.methodLink RL 89 YX2_burstLimit.1 ∈ gW := gW_in (gIn4 (List.mem_of_getElem? (i := 11) (by decide +kernel))) rfl
theorem lk_L_92 : gLk RL 92 YX2_advance.1 := Or.inl (gW_in (gIn4 (List.mem_of_getElem? (i := 22) (by decide +kernel))) rfl)
theorem lk_L_92p : Cond.methodLink RL 92 YX2_advance.1 ∈ gW := gW_in (gIn4 (List.mem_of_getElem? (i := 22) (by decide +kernel))) rfl
theorem lk_L_95 : gLk RL 95 YX2_scrub.1 := Or.inl (gW_in (gIn4 (List.mem_of_getElem? (i := 31) (by decide +kernel))) rfl)
theorem lk_L_95p : Cond.methodLink RL 95 YX2_scrub.1 ∈ gW := gW_in (gIn4 (List.mem_of_getElem? (i := 31) (by decide +kernel))) rfl
theorem lk_L_98 : gLk RL 98 YX2_report.1 := Or.inl (gW_in (gIn4 (List.mem_of_getElem? (i := 51) (by decide +kernel))) rfl)
theorem lk_L_98p : Cond.methodLink RL 98 YX2_report.1 ∈ gW := gW_in (gIn4 (List.mem_of_getElem? (i := 51) (by decide +kernel))) rfl
theorem lk_X3_104 : gLk RX3 104 YX3_here.1 := Or.inl (gW_in (gIn5 (List.mem_of_getElem? (i := 58) (by decide +kernel))) rfl)
theorem lk_X3_111 : gLk RX3 111 YX3_ownerOf.1 := Or.inl (gW_in (gIn5 (List.mem_of_getElem? (i := 77) (by decide +kernel))) rfl)
theorem lk_X3_114 : gLk RX3 114 YX3_digit.1 := Or.inl (gW_in (gIn5 (List.mem_of_getElem? (i := 54) (by decide +kernel))) rfl)
theorem lk_X3_117 : gLk RX3 117 YX3_takes.1 := Or.inl (gW_in (gIn5 (List.mem_of_getElem? (i := 62) (by decide +kernel))) rfl)
theorem lk_X3_121 : gLk RX3 121 YX3_symbolOf.1 := Or.inl (gW_in (gIn5 (List.mem_of_getElem? (i := 66) (by decide +kernel))) rfl)
theorem lk_X3_124 : gLk RX3 124 YX3_no.1 := Or.inl (gW_in (gIn5 (List.mem_of_getElem? (i := 69) (by decide +kernel))) rfl)
theorem lk_X3_127 : gLk RX3 127 YX3_area.1 := Or.inl (gW_in (gIn5 (List.mem_of_getElem? (i := 73) (by decide +kernel))) rfl)
theorem lk_X3_130 : gLk RX3 130 YX3_keeps.1 := Or.inl (gW_in (gIn5 (List.mem_of_getElem? (i := 93) (by decide +kernel))) rfl)
theorem lk_X3_141 : gLk RX3 141 YX3_isDecoded.1 := Or.inl (gW_in (gIn5 (List.mem_of_getElem? (i := 97) (by decide +kernel))) rfl)
theorem lk_X3_145 : gLk RX3 145 YX3_cell.1 := Or.inl (gW_in (gIn5 (List.mem_of_getElem? (i := 123) (by decide +kernel))) rfl)
theorem lk_X3_149 : gLk RX3 149 YX3_writes.1 := Or.inl (gW_in (gIn5 (List.mem_of_getElem? (i := 127) (by decide +kernel))) rfl)
theorem lk_X3_153 : gLk RX3 153 YX3_isBlock.1 := Or.inl (gW_in (gIn5 (List.mem_of_getElem? (i := 155) (by decide +kernel))) rfl)
theorem lk_X3_157 : gLk RX3 157 YX3_isPlace.1 := Or.inl (gW_in (gIn5 (List.mem_of_getElem? (i := 151) (by decide +kernel))) rfl)
theorem lk_X3_160 : gLk RX3 160 YX3_isCell.1 := Or.inl (gW_in (gIn5 (List.mem_of_getElem? (i := 163) (by decide +kernel))) rfl)
theorem lk_X3_163 : gLk RX3 163 YX3_isFileOrAll.1 := Or.inl (gW_in (gIn5 (List.mem_of_getElem? (i := 199) (by decide +kernel))) rfl)
theorem lk_X3_166 : gLk RX3 166 YX3_isWrong.1 := Or.inl (gW_in (gIn5 (List.mem_of_getElem? (i := 203) (by decide +kernel))) rfl)
theorem lk_X3_169 : gLk RX3 169 YX3_power.1 := Or.inl (gW_in (gIn5 (List.mem_of_getElem? (i := 108) (by decide +kernel))) rfl)
theorem lk_X3_172 : gLk RX3 172 YX3_times.1 := Or.inl (gW_in (gIn5 (List.mem_of_getElem? (i := 112) (by decide +kernel))) rfl)
theorem lk_X3_175 : gLk RX3 175 YX3_bits.1 := Or.inl (gW_in (gIn5 (List.mem_of_getElem? (i := 101) (by decide +kernel))) rfl)
theorem lk_X3_181 : gLk RX3 181 YX3_sumOf.1 := Or.inl (gW_in (gIn5 (List.mem_of_getElem? (i := 104) (by decide +kernel))) rfl)
theorem lk_X3_190 : gLk RX3 190 YX3_isSolved.1 := Or.inl (gW_in (gIn5 (List.mem_of_getElem? (i := 116) (by decide +kernel))) rfl)
theorem lk_X3_193 : gLk RX3 193 YX3_behind.1 := Or.inl (gW_in (gIn5 (List.mem_of_getElem? (i := 120) (by decide +kernel))) rfl)
theorem lk_X3_196 : gLk RX3 196 YX3_looks.1 := Or.inl (gW_in (gIn5 (List.mem_of_getElem? (i := 215) (by decide +kernel))) rfl)
theorem lk_X3_199 : gLk RX3 199 YX3_isThere.1 := Or.inl (gW_in (gIn5 (List.mem_of_getElem? (i := 223) (by decide +kernel))) rfl)
theorem lk_X3_202 : gLk RX3 202 YX3_isDecoded_.1 := Or.inl (gW_in (gIn5 (List.mem_of_getElem? (i := 227) (by decide +kernel))) rfl)
theorem lk_X3_207 : gLk RX3 207 YX3_isClean.1 := Or.inl (gW_in (gIn6 (List.mem_of_getElem? (i := 7) (by decide +kernel))) rfl)
theorem lk_X3_210 : gLk RX3 210 YX3_isWhole.1 := Or.inl (gW_in (gIn6 (List.mem_of_getElem? (i := 3) (by decide +kernel))) rfl)
theorem lk_X3_213 : gLk RX3 213 YX3_isStood.1 := Or.inl (gW_in (gIn6 (List.mem_of_getElem? (i := 23) (by decide +kernel))) rfl)
theorem lk_X3_219 : gLk RX3 219 YX3_next.1 := Or.inl (gW_in (gIn6 (List.mem_of_getElem? (i := 35) (by decide +kernel))) rfl)
theorem lk_X3_222 : gLk RX3 222 YX3_tells.1 := Or.inl (gW_in (gIn6 (List.mem_of_getElem? (i := 39) (by decide +kernel))) rfl)
theorem lk_X3_226 : gLk RX3 226 YX3_mends.1 := Or.inl (gW_in (gIn6 (List.mem_of_getElem? (i := 43) (by decide +kernel))) rfl)
theorem lk_X3_229 : gLk RX3 229 YX3_copies.1 := Or.inl (gW_in (gIn6 (List.mem_of_getElem? (i := 95) (by decide +kernel))) rfl)
theorem lk_X3_63 : gLk RX3 63 YX3_multiplied.1 := Or.inl (gW_in (gIn4 (List.mem_of_getElem? (i := 166) (by decide +kernel))) rfl)
theorem lk_X3_73 : gLk RX3 73 YX3_isIn.1 := Or.inl (gW_in (gIn5 (List.mem_of_getElem? (i := 39) (by decide +kernel))) rfl)
theorem lk_X3_77 : gLk RX3 77 YX3_of.1 := Or.inl (gW_in (gIn5 (List.mem_of_getElem? (i := 42) (by decide +kernel))) rfl)
theorem lk_X3_80 : gLk RX3 80 YX3_blocks.1 := Or.inl (gW_in (gIn5 (List.mem_of_getElem? (i := 85) (by decide +kernel))) rfl)
theorem lk_X3_84 : gLk RX3 84 YX3_size.1 := Or.inl (gW_in (gIn5 (List.mem_of_getElem? (i := 89) (by decide +kernel))) rfl)
theorem lk_X3_87 : gLk RX3 87 YX3_isFile.1 := Or.inl (gW_in (gIn5 (List.mem_of_getElem? (i := 35) (by decide +kernel))) rfl)
theorem lk_X3_91 : gLk RX3 91 YX3_cells.1 := Or.inl (gW_in (gIn5 (List.mem_of_getElem? (i := 81) (by decide +kernel))) rfl)
theorem lk_X3_94 : gLk RX3 94 YX3_many.1 := Or.inl (gW_in (gIn5 (List.mem_of_getElem? (i := 31) (by decide +kernel))) rfl)
theorem lk_X0_116 : gLk RX0 116 YX2_quotient.1 := Or.inr ⟨"InterleavedArchive", gW_in (gIn2 (List.mem_of_getElem? (i := 68) (by decide +kernel))) rfl⟩
theorem lk_X0_60 : gLk RX0 60 YX1_cellAt.1 := Or.inr ⟨"InterleavedArchive", gW_in (gIn2 (List.mem_of_getElem? (i := 17) (by decide +kernel))) rfl⟩
theorem lk_X0_96 : gLk RX0 96 YX2_product.1 := Or.inr ⟨"InterleavedArchive", gW_in (gIn2 (List.mem_of_getElem? (i := 32) (by decide +kernel))) rfl⟩
theorem lk_X1_71 : gLk RX1 71 YX2_blocksFor.1 := Or.inr ⟨"InterleavedArchive", gW_in (gIn2 (List.mem_of_getElem? (i := 222) (by decide +kernel))) rfl⟩
theorem lk_X2_104 : gLk RX2 104 YX1_enter.1 := Or.inr ⟨"InterleavedArchive", gW_in (gIn2 (List.mem_of_getElem? (i := 218) (by decide +kernel))) rfl⟩
theorem lk_X2_11 : gLk RX2 11 YX1_init.1 := Or.inr ⟨"InterleavedArchive", gW_in (gIn1 (List.mem_of_getElem? (i := 29) (by decide +kernel))) rfl⟩
theorem lk_X2_117 : gLk RX2 117 YX1_hasFile.1 := Or.inr ⟨"InterleavedArchive", gW_in (gIn1 (List.mem_of_getElem? (i := 197) (by decide +kernel))) rfl⟩
theorem lk_X2_126 : gLk RX2 126 YX1_drop.1 := Or.inr ⟨"InterleavedArchive", gW_in (gIn3 (List.mem_of_getElem? (i := 81) (by decide +kernel))) rfl⟩
theorem lk_X2_147 : gLk RX2 147 YX1_areaSize.1 := Or.inr ⟨"InterleavedArchive", gW_in (gIn3 (List.mem_of_getElem? (i := 89) (by decide +kernel))) rfl⟩
theorem lk_X2_152 : gLk RX2 152 YX1_hasPosition.1 := Or.inr ⟨"InterleavedArchive", gW_in (gIn3 (List.mem_of_getElem? (i := 98) (by decide +kernel))) rfl⟩
theorem lk_X2_158 : gLk RX2 158 YX1_cellAt.1 := Or.inr ⟨"InterleavedArchive", gW_in (gIn3 (List.mem_of_getElem? (i := 7) (by decide +kernel))) rfl⟩
theorem lk_X2_167 : gLk RX2 167 YX1_fileAt.1 := Or.inr ⟨"InterleavedArchive", gW_in (gIn3 (List.mem_of_getElem? (i := 118) (by decide +kernel))) rfl⟩
theorem lk_X2_172 : gLk RX2 172 YX1_placeInFile.1 := Or.inr ⟨"InterleavedArchive", gW_in (gIn3 (List.mem_of_getElem? (i := 127) (by decide +kernel))) rfl⟩
theorem lk_X2_176 : gLk RX2 176 YX1_greatestFreeArea.1 := Or.inr ⟨"InterleavedArchive", gW_in (gIn1 (List.mem_of_getElem? (i := 202) (by decide +kernel))) rfl⟩
theorem lk_X2_187 : gLk RX2 187 YX1_damage.1 := Or.inr ⟨"InterleavedArchive", gW_in (gIn3 (List.mem_of_getElem? (i := 153) (by decide +kernel))) rfl⟩
theorem lk_X2_193 : gLk RX2 193 YX1_areaStart.1 := Or.inr ⟨"InterleavedArchive", gW_in (gIn3 (List.mem_of_getElem? (i := 179) (by decide +kernel))) rfl⟩
theorem lk_X2_196 : gLk RX2 196 YX1_areaEnd.1 := Or.inr ⟨"InterleavedArchive", gW_in (gIn3 (List.mem_of_getElem? (i := 180) (by decide +kernel))) rfl⟩
theorem lk_X2_202 : gLk RX2 202 YX1_hasBlock.1 := Or.inr ⟨"InterleavedArchive", gW_in (gIn3 (List.mem_of_getElem? (i := 195) (by decide +kernel))) rfl⟩
theorem lk_X2_208 : gLk RX2 208 YX0_load.1 := Or.inr ⟨"InterleavedArchive", gW_in (gIn3 (List.mem_of_getElem? (i := 197) (by decide +kernel))) rfl⟩
theorem lk_X2_219 : gLk RX2 219 YX0_decode.1 := Or.inr ⟨"InterleavedArchive", gW_in (gIn2 (List.mem_of_getElem? (i := 1) (by decide +kernel))) rfl⟩
theorem lk_X2_241 : gLk RX2 241 YX0_damageCount.1 := Or.inr ⟨"InterleavedArchive", gW_in (gIn2 (List.mem_of_getElem? (i := 71) (by decide +kernel))) rfl⟩
theorem lk_X2_25 : gLk RX2 25 YX0_init.1 := Or.inr ⟨"InterleavedArchive", gW_in (gIn1 (List.mem_of_getElem? (i := 89) (by decide +kernel))) rfl⟩
theorem lk_X2_262 : gLk RX2 262 YX1_blockToCheck.1 := Or.inr ⟨"InterleavedArchive", gW_in (gIn4 (List.mem_of_getElem? (i := 36) (by decide +kernel))) rfl⟩
theorem lk_X2_287 : gLk RX2 287 YX1_isDue.1 := Or.inr ⟨"InterleavedArchive", gW_in (gIn1 (List.mem_of_getElem? (i := 237) (by decide +kernel))) rfl⟩
theorem lk_X2_309 : gLk RX2 309 YX1_takeOver.1 := Or.inr ⟨"InterleavedArchive", gW_in (gIn2 (List.mem_of_getElem? (i := 83) (by decide +kernel))) rfl⟩
theorem lk_X2_323 : gLk RX2 323 YX1_blockSize.1 := Or.inr ⟨"InterleavedArchive", gW_in (gIn2 (List.mem_of_getElem? (i := 227) (by decide +kernel))) rfl⟩
theorem lk_X2_326 : gLk RX2 326 YX0_clearBlock.1 := Or.inr ⟨"InterleavedArchive", gW_in (gIn2 (List.mem_of_getElem? (i := 228) (by decide +kernel))) rfl⟩
theorem lk_X2_340 : gLk RX2 340 YX0_encode.1 := Or.inr ⟨"InterleavedArchive", gW_in (gIn2 (List.mem_of_getElem? (i := 235) (by decide +kernel))) rfl⟩
theorem lk_X2_343 : gLk RX2 343 YX1_write.1 := Or.inr ⟨"InterleavedArchive", gW_in (gIn3 (List.mem_of_getElem? (i := 8) (by decide +kernel))) rfl⟩
theorem lk_X2_61 : gLk RX2 61 YX1_fileCount.1 := Or.inr ⟨"InterleavedArchive", gW_in (gIn1 (List.mem_of_getElem? (i := 173) (by decide +kernel))) rfl⟩
theorem lk_X2_65 : gLk RX2 65 YX1_reset.1 := Or.inr ⟨"InterleavedArchive", gW_in (gIn1 (List.mem_of_getElem? (i := 181) (by decide +kernel))) rfl⟩
theorem lk_X2_89 : gLk RX2 89 YX1_freeFile.1 := Or.inr ⟨"InterleavedArchive", gW_in (gIn2 (List.mem_of_getElem? (i := 202) (by decide +kernel))) rfl⟩
theorem lk_X2_96 : gLk RX2 96 YX1_freeArea.1 := Or.inr ⟨"InterleavedArchive", gW_in (gIn2 (List.mem_of_getElem? (i := 209) (by decide +kernel))) rfl⟩
theorem fl_X0_15 : gFl RX0 15 0 1 := ⟨by decide +kernel, Or.inl (gW_in (gIn1 (List.mem_of_getElem? (i := 97) (by decide +kernel))) rfl)⟩
theorem fl_X0_18 : gFl RX0 18 0 2 := ⟨by decide +kernel, Or.inl (gW_in (gIn1 (List.mem_of_getElem? (i := 99) (by decide +kernel))) rfl)⟩
theorem fl_X0_21 : gFl RX0 21 0 3 := ⟨by decide +kernel, Or.inl (gW_in (gIn1 (List.mem_of_getElem? (i := 101) (by decide +kernel))) rfl)⟩
theorem fl_X0_26 : gFl RX0 26 0 4 := ⟨by decide +kernel, Or.inl (gW_in (gIn1 (List.mem_of_getElem? (i := 102) (by decide +kernel))) rfl)⟩
theorem fl_X0_29 : gFl RX0 29 0 5 := ⟨by decide +kernel, Or.inl (gW_in (gIn1 (List.mem_of_getElem? (i := 103) (by decide +kernel))) rfl)⟩
theorem fl_X0_33 : gFl RX0 33 0 6 := ⟨by decide +kernel, Or.inl (gW_in (gIn1 (List.mem_of_getElem? (i := 104) (by decide +kernel))) rfl)⟩
theorem fl_X0_36 : gFl RX0 36 0 7 := ⟨by decide +kernel, Or.inl (gW_in (gIn1 (List.mem_of_getElem? (i := 106) (by decide +kernel))) rfl)⟩
theorem fl_X0_39 : gFl RX0 39 0 8 := ⟨by decide +kernel, Or.inl (gW_in (gIn1 (List.mem_of_getElem? (i := 108) (by decide +kernel))) rfl)⟩
theorem fl_X0_9 : gFl RX0 9 0 0 := ⟨by decide +kernel, Or.inl (gW_in (gIn1 (List.mem_of_getElem? (i := 95) (by decide +kernel))) rfl)⟩
theorem fl_X1_15 : gFl RX1 15 1 1 := ⟨by decide +kernel, Or.inl (gW_in (gIn1 (List.mem_of_getElem? (i := 36) (by decide +kernel))) rfl)⟩
theorem fl_X1_18 : gFl RX1 18 1 2 := ⟨by decide +kernel, Or.inl (gW_in (gIn1 (List.mem_of_getElem? (i := 38) (by decide +kernel))) rfl)⟩
theorem fl_X1_21 : gFl RX1 21 1 3 := ⟨by decide +kernel, Or.inl (gW_in (gIn1 (List.mem_of_getElem? (i := 41) (by decide +kernel))) rfl)⟩
theorem fl_X1_24 : gFl RX1 24 1 4 := ⟨by decide +kernel, Or.inl (gW_in (gIn1 (List.mem_of_getElem? (i := 43) (by decide +kernel))) rfl)⟩
theorem fl_X1_27 : gFl RX1 27 1 5 := ⟨by decide +kernel, Or.inl (gW_in (gIn1 (List.mem_of_getElem? (i := 45) (by decide +kernel))) rfl)⟩
theorem fl_X1_30 : gFl RX1 30 1 6 := ⟨by decide +kernel, Or.inl (gW_in (gIn1 (List.mem_of_getElem? (i := 47) (by decide +kernel))) rfl)⟩
theorem fl_X1_33 : gFl RX1 33 1 7 := ⟨by decide +kernel, Or.inl (gW_in (gIn1 (List.mem_of_getElem? (i := 50) (by decide +kernel))) rfl)⟩
theorem fl_X1_36 : gFl RX1 36 1 8 := ⟨by decide +kernel, Or.inl (gW_in (gIn1 (List.mem_of_getElem? (i := 52) (by decide +kernel))) rfl)⟩
theorem fl_X1_39 : gFl RX1 39 1 9 := ⟨by decide +kernel, Or.inl (gW_in (gIn1 (List.mem_of_getElem? (i := 54) (by decide +kernel))) rfl)⟩
theorem fl_X1_42 : gFl RX1 42 1 10 := ⟨by decide +kernel, Or.inl (gW_in (gIn1 (List.mem_of_getElem? (i := 56) (by decide +kernel))) rfl)⟩
theorem fl_X1_45 : gFl RX1 45 1 11 := ⟨by decide +kernel, Or.inl (gW_in (gIn1 (List.mem_of_getElem? (i := 58) (by decide +kernel))) rfl)⟩
theorem fl_X1_9 : gFl RX1 9 1 0 := ⟨by decide +kernel, Or.inl (gW_in (gIn1 (List.mem_of_getElem? (i := 33) (by decide +kernel))) rfl)⟩
theorem fl_X2_12 : gFl RX2 12 2 0 := ⟨by decide +kernel, Or.inl (gW_in (gIn1 (List.mem_of_getElem? (i := 128) (by decide +kernel))) rfl)⟩
theorem fl_X2_16 : gFl RX2 16 2 1 := ⟨by decide +kernel, Or.inl (gW_in (gIn1 (List.mem_of_getElem? (i := 129) (by decide +kernel))) rfl)⟩
theorem fl_X2_19 : gFl RX2 19 2 2 := ⟨by decide +kernel, Or.inl (gW_in (gIn1 (List.mem_of_getElem? (i := 130) (by decide +kernel))) rfl)⟩
theorem fl_X2_26 : gFl RX2 26 2 3 := ⟨by decide +kernel, Or.inl (gW_in (gIn1 (List.mem_of_getElem? (i := 131) (by decide +kernel))) rfl)⟩
theorem fl_X2_30 : gFl RX2 30 2 4 := ⟨by decide +kernel, Or.inl (gW_in (gIn1 (List.mem_of_getElem? (i := 132) (by decide +kernel))) rfl)⟩
theorem fl_X2_34 : gFl RX2 34 2 5 := ⟨by decide +kernel, Or.inl (gW_in (gIn1 (List.mem_of_getElem? (i := 133) (by decide +kernel))) rfl)⟩
theorem fs_X2_353 : Cond.fieldLink RX2 353 RX2 "POWERS" "[I" ∈ gW := gW_in (gIn2 (List.mem_of_getElem? (i := 35) (by decide +kernel))) rfl
theorem fs_X2_356 : Cond.fieldLink RX2 356 RX2 "LOGARITHMS" "[I" ∈ gW := gW_in (gIn2 (List.mem_of_getElem? (i := 36) (by decide +kernel))) rfl
theorem fl_X2_38 : gFl RX2 38 2 6 := ⟨by decide +kernel, Or.inl (gW_in (gIn1 (List.mem_of_getElem? (i := 134) (by decide +kernel))) rfl)⟩
theorem fl_X2_41 : gFl RX2 41 2 7 := ⟨by decide +kernel, Or.inl (gW_in (gIn1 (List.mem_of_getElem? (i := 135) (by decide +kernel))) rfl)⟩
theorem fl_X2_45 : gFl RX2 45 2 8 := ⟨by decide +kernel, Or.inl (gW_in (gIn1 (List.mem_of_getElem? (i := 136) (by decide +kernel))) rfl)⟩
theorem fl_X2_48 : gFl RX2 48 2 9 := ⟨by decide +kernel, Or.inl (gW_in (gIn1 (List.mem_of_getElem? (i := 137) (by decide +kernel))) rfl)⟩
theorem fl_X2_51 : gFl RX2 51 2 10 := ⟨by decide +kernel, Or.inl (gW_in (gIn1 (List.mem_of_getElem? (i := 138) (by decide +kernel))) rfl)⟩
theorem fl_X2_55 : gFl RX2 55 2 11 := ⟨by decide +kernel, Or.inl (gW_in (gIn1 (List.mem_of_getElem? (i := 139) (by decide +kernel))) rfl)⟩
theorem fl_X2_58 : gFl RX2 58 2 12 := ⟨by decide +kernel, Or.inl (gW_in (gIn1 (List.mem_of_getElem? (i := 140) (by decide +kernel))) rfl)⟩
theorem fl_X3_101 : gFl RX3 101 3 14 := ⟨by decide +kernel, Or.inl (gW_in (gIn4 (List.mem_of_getElem? (i := 183) (by decide +kernel))) rfl)⟩
theorem fl_X3_107 : gFl RX3 107 3 15 := ⟨by decide +kernel, Or.inl (gW_in (gIn4 (List.mem_of_getElem? (i := 184) (by decide +kernel))) rfl)⟩
theorem fl_X3_13 : gFl RX3 13 3 2 := ⟨by decide +kernel, Or.inl (gW_in (gIn4 (List.mem_of_getElem? (i := 171) (by decide +kernel))) rfl)⟩
theorem fl_X3_133 : gFl RX3 133 3 23 := ⟨by decide +kernel, Or.inl (gW_in (gIn4 (List.mem_of_getElem? (i := 192) (by decide +kernel))) rfl)⟩
theorem fl_X3_135 : gFl RX3 135 3 24 := ⟨by decide +kernel, Or.inl (gW_in (gIn4 (List.mem_of_getElem? (i := 193) (by decide +kernel))) rfl)⟩
theorem fl_X3_138 : gFl RX3 138 3 25 := ⟨by decide +kernel, Or.inl (gW_in (gIn4 (List.mem_of_getElem? (i := 194) (by decide +kernel))) rfl)⟩
theorem fl_X3_16 : gFl RX3 16 3 3 := ⟨by decide +kernel, Or.inl (gW_in (gIn4 (List.mem_of_getElem? (i := 172) (by decide +kernel))) rfl)⟩
theorem fl_X3_178 : gFl RX3 178 3 28 := ⟨by decide +kernel, Or.inl (gW_in (gIn4 (List.mem_of_getElem? (i := 197) (by decide +kernel))) rfl)⟩
theorem fl_X3_184 : gFl RX3 184 3 27 := ⟨by decide +kernel, Or.inl (gW_in (gIn4 (List.mem_of_getElem? (i := 196) (by decide +kernel))) rfl)⟩
theorem fl_X3_187 : gFl RX3 187 3 26 := ⟨by decide +kernel, Or.inl (gW_in (gIn4 (List.mem_of_getElem? (i := 195) (by decide +kernel))) rfl)⟩
theorem fl_X3_19 : gFl RX3 19 3 5 := ⟨by decide +kernel, Or.inl (gW_in (gIn4 (List.mem_of_getElem? (i := 174) (by decide +kernel))) rfl)⟩
theorem fl_X3_204 : gFl RX3 204 3 30 := ⟨by decide +kernel, Or.inl (gW_in (gIn4 (List.mem_of_getElem? (i := 199) (by decide +kernel))) rfl)⟩
theorem fl_X3_216 : gFl RX3 216 3 10 := ⟨by decide +kernel, Or.inl (gW_in (gIn4 (List.mem_of_getElem? (i := 179) (by decide +kernel))) rfl)⟩
theorem fl_X3_23 : gFl RX3 23 3 7 := ⟨by decide +kernel, Or.inl (gW_in (gIn4 (List.mem_of_getElem? (i := 176) (by decide +kernel))) rfl)⟩
theorem fl_X3_233 : gFl RX3 233 3 6 := ⟨by decide +kernel, Or.inl (gW_in (gIn4 (List.mem_of_getElem? (i := 175) (by decide +kernel))) rfl)⟩
theorem fl_X3_27 : gFl RX3 27 3 9 := ⟨by decide +kernel, Or.inl (gW_in (gIn4 (List.mem_of_getElem? (i := 178) (by decide +kernel))) rfl)⟩
theorem fl_X3_30 : gFl RX3 30 3 11 := ⟨by decide +kernel, Or.inl (gW_in (gIn4 (List.mem_of_getElem? (i := 180) (by decide +kernel))) rfl)⟩
theorem fl_X3_33 : gFl RX3 33 3 12 := ⟨by decide +kernel, Or.inl (gW_in (gIn4 (List.mem_of_getElem? (i := 181) (by decide +kernel))) rfl)⟩
theorem fl_X3_36 : gFl RX3 36 3 13 := ⟨by decide +kernel, Or.inl (gW_in (gIn4 (List.mem_of_getElem? (i := 182) (by decide +kernel))) rfl)⟩
theorem fl_X3_39 : gFl RX3 39 3 16 := ⟨by decide +kernel, Or.inl (gW_in (gIn4 (List.mem_of_getElem? (i := 185) (by decide +kernel))) rfl)⟩
theorem fl_X3_42 : gFl RX3 42 3 17 := ⟨by decide +kernel, Or.inl (gW_in (gIn4 (List.mem_of_getElem? (i := 186) (by decide +kernel))) rfl)⟩
theorem fl_X3_45 : gFl RX3 45 3 18 := ⟨by decide +kernel, Or.inl (gW_in (gIn4 (List.mem_of_getElem? (i := 187) (by decide +kernel))) rfl)⟩
theorem fl_X3_48 : gFl RX3 48 3 19 := ⟨by decide +kernel, Or.inl (gW_in (gIn4 (List.mem_of_getElem? (i := 188) (by decide +kernel))) rfl)⟩
theorem fl_X3_51 : gFl RX3 51 3 20 := ⟨by decide +kernel, Or.inl (gW_in (gIn4 (List.mem_of_getElem? (i := 189) (by decide +kernel))) rfl)⟩
theorem fl_X3_54 : gFl RX3 54 3 21 := ⟨by decide +kernel, Or.inl (gW_in (gIn4 (List.mem_of_getElem? (i := 190) (by decide +kernel))) rfl)⟩
theorem fl_X3_57 : gFl RX3 57 3 22 := ⟨by decide +kernel, Or.inl (gW_in (gIn4 (List.mem_of_getElem? (i := 191) (by decide +kernel))) rfl)⟩
theorem fl_X3_60 : gFl RX3 60 3 29 := ⟨by decide +kernel, Or.inl (gW_in (gIn4 (List.mem_of_getElem? (i := 198) (by decide +kernel))) rfl)⟩
theorem fl_X3_67 : gFl RX3 67 3 0 := ⟨by decide +kernel, Or.inl (gW_in (gIn4 (List.mem_of_getElem? (i := 169) (by decide +kernel))) rfl)⟩
theorem fl_X3_70 : gFl RX3 70 3 4 := ⟨by decide +kernel, Or.inl (gW_in (gIn4 (List.mem_of_getElem? (i := 173) (by decide +kernel))) rfl)⟩
theorem fl_X3_9 : gFl RX3 9 3 1 := ⟨by decide +kernel, Or.inl (gW_in (gIn4 (List.mem_of_getElem? (i := 170) (by decide +kernel))) rfl)⟩
theorem fl_X3_98 : gFl RX3 98 3 8 := ⟨by decide +kernel, Or.inl (gW_in (gIn4 (List.mem_of_getElem? (i := 177) (by decide +kernel))) rfl)⟩
theorem fl_X0_52 : gFl RX0 52 1 6 := ⟨by decide +kernel, Or.inr ⟨"InterleavedArchive", gW_in (gIn1 (List.mem_of_getElem? (i := 48) (by decide +kernel))) rfl⟩⟩
theorem fl_X0_64 : gFl RX0 64 1 0 := ⟨by decide +kernel, Or.inr ⟨"InterleavedArchive", gW_in (gIn1 (List.mem_of_getElem? (i := 34) (by decide +kernel))) rfl⟩⟩
theorem fl_X0_67 : gFl RX0 67 1 2 := ⟨by decide +kernel, Or.inr ⟨"InterleavedArchive", gW_in (gIn1 (List.mem_of_getElem? (i := 39) (by decide +kernel))) rfl⟩⟩
theorem fs_X0_93 : Cond.fieldLinkNest RX0 93 RX2 "POWERS" "[I" "InterleavedArchive" ∈ gW := gW_in (gIn2 (List.mem_of_getElem? (i := 30) (by decide +kernel))) rfl
theorem fl_X2_129 : gFl RX2 129 1 4 := ⟨by decide +kernel, Or.inr ⟨"InterleavedArchive", gW_in (gIn1 (List.mem_of_getElem? (i := 44) (by decide +kernel))) rfl⟩⟩
theorem fl_X2_132 : gFl RX2 132 1 6 := ⟨by decide +kernel, Or.inr ⟨"InterleavedArchive", gW_in (gIn1 (List.mem_of_getElem? (i := 49) (by decide +kernel))) rfl⟩⟩
theorem fl_X2_135 : gFl RX2 135 1 7 := ⟨by decide +kernel, Or.inr ⟨"InterleavedArchive", gW_in (gIn1 (List.mem_of_getElem? (i := 51) (by decide +kernel))) rfl⟩⟩
theorem fl_X2_138 : gFl RX2 138 1 8 := ⟨by decide +kernel, Or.inr ⟨"InterleavedArchive", gW_in (gIn1 (List.mem_of_getElem? (i := 53) (by decide +kernel))) rfl⟩⟩
theorem fl_X2_141 : gFl RX2 141 1 5 := ⟨by decide +kernel, Or.inr ⟨"InterleavedArchive", gW_in (gIn1 (List.mem_of_getElem? (i := 46) (by decide +kernel))) rfl⟩⟩
theorem fl_X2_144 : gFl RX2 144 1 9 := ⟨by decide +kernel, Or.inr ⟨"InterleavedArchive", gW_in (gIn1 (List.mem_of_getElem? (i := 55) (by decide +kernel))) rfl⟩⟩
theorem fl_X2_179 : gFl RX2 179 1 0 := ⟨by decide +kernel, Or.inr ⟨"InterleavedArchive", gW_in (gIn1 (List.mem_of_getElem? (i := 35) (by decide +kernel))) rfl⟩⟩
theorem fl_X2_182 : gFl RX2 182 1 2 := ⟨by decide +kernel, Or.inr ⟨"InterleavedArchive", gW_in (gIn1 (List.mem_of_getElem? (i := 40) (by decide +kernel))) rfl⟩⟩
theorem fl_X2_199 : gFl RX2 199 1 1 := ⟨by decide +kernel, Or.inr ⟨"InterleavedArchive", gW_in (gIn1 (List.mem_of_getElem? (i := 37) (by decide +kernel))) rfl⟩⟩
theorem fl_X2_212 : gFl RX2 212 0 2 := ⟨by decide +kernel, Or.inr ⟨"InterleavedArchive", gW_in (gIn1 (List.mem_of_getElem? (i := 100) (by decide +kernel))) rfl⟩⟩
theorem fl_X2_223 : gFl RX2 223 0 6 := ⟨by decide +kernel, Or.inr ⟨"InterleavedArchive", gW_in (gIn1 (List.mem_of_getElem? (i := 105) (by decide +kernel))) rfl⟩⟩
theorem fl_X2_233 : gFl RX2 233 0 7 := ⟨by decide +kernel, Or.inr ⟨"InterleavedArchive", gW_in (gIn1 (List.mem_of_getElem? (i := 107) (by decide +kernel))) rfl⟩⟩
theorem fl_X2_236 : gFl RX2 236 0 1 := ⟨by decide +kernel, Or.inr ⟨"InterleavedArchive", gW_in (gIn1 (List.mem_of_getElem? (i := 98) (by decide +kernel))) rfl⟩⟩
theorem fl_X2_255 : gFl RX2 255 1 11 := ⟨by decide +kernel, Or.inr ⟨"InterleavedArchive", gW_in (gIn1 (List.mem_of_getElem? (i := 59) (by decide +kernel))) rfl⟩⟩
theorem fl_X2_268 : gFl RX2 268 1 3 := ⟨by decide +kernel, Or.inr ⟨"InterleavedArchive", gW_in (gIn1 (List.mem_of_getElem? (i := 42) (by decide +kernel))) rfl⟩⟩
theorem fl_X2_282 : gFl RX2 282 1 10 := ⟨by decide +kernel, Or.inr ⟨"InterleavedArchive", gW_in (gIn1 (List.mem_of_getElem? (i := 57) (by decide +kernel))) rfl⟩⟩
theorem fl_X2_332 : gFl RX2 332 0 0 := ⟨by decide +kernel, Or.inr ⟨"InterleavedArchive", gW_in (gIn1 (List.mem_of_getElem? (i := 96) (by decide +kernel))) rfl⟩⟩
end
section
/-! ===== the cells as the law makes them; functional specifications ===== -/
def S0 (n : Nat) : List (Nat × Nat × Nat) := [(0, 0, n), (0, 0, 15), (0, 0, 16), (1, 2, 13), (1, 1, 12), (2, 0, 240), (2, 0, 240), (2, 0, 240), (2, 0, 8), (2, 0, 8), (2, 0, 8), (2, 0, 8), (2, 0, 8), (2, 0, 8), (2, 0, 8), (2, 0, 32), (1, 1, 12), (2, 0, 240), (2, 0, 240), (2, 0, 240), (2, 0, 8), (2, 0, 8), (2, 0, 8), (2, 0, 8), (2, 0, 8), (2, 0, 8), (2, 0, 8), (2, 0, 32), (2, 5, 6), (1, 0, 9), (2, 0, 14), (2, 0, 14), (2, 0, 6), (2, 0, 6), (2, 0, 6), (2, 0, 6), (2, 0, 6), (2, 0, 6), (2, 4, 4), (2, 1, 60), (2, 0, 128), (2, 0, 4), (1, 1, 12), (2, 0, 240), (2, 0, 240), (2, 0, 240), (2, 0, 8), (2, 0, 8), (2, 0, 8), (2, 0, 8), (2, 0, 8), (2, 0, 8), (2, 0, 8), (2, 0, 32), (1, 1, 12), (2, 0, 240), (2, 0, 240), (2, 0, 240), (2, 0, 8), (2, 0, 8), (2, 0, 8), (2, 0, 8), (2, 0, 8), (2, 0, 8), (2, 0, 8), (2, 0, 32), (1, 1, 12), (2, 0, 240), (2, 0, 240), (2, 0, 240), (2, 0, 8), (2, 0, 8), (2, 0, 8), (2, 0, 8), (2, 0, 8), (2, 0, 8), (2, 0, 8), (2, 0, 32), (1, 1, 12), (2, 0, 240), (2, 0, 240), (2, 0, 240), (2, 0, 8), (2, 0, 8), (2, 0, 8), (2, 0, 8), (2, 0, 8), (2, 0, 8), (2, 0, 8), (2, 0, 32), (1, 1, 12), (2, 0, 240), (2, 0, 240), (2, 0, 240), (2, 0, 8), (2, 0, 8), (2, 0, 8), (2, 0, 8), (2, 0, 8), (2, 0, 8), (2, 0, 8), (2, 0, 32), (1, 1, 12), (2, 0, 240), (2, 0, 240), (2, 0, 240), (2, 0, 8), (2, 0, 8), (2, 0, 8), (2, 0, 8), (2, 0, 8), (2, 0, 8), (2, 0, 8), (2, 0, 32), (1, 3, 31), (2, 0, 809), (2, 0, 809), (2, 0, 4854), (2, 1, 60), (2, 0, 160), (2, 0, 256), (2, 0, 15), (2, 0, 16), (2, 0, 32), (2, 0, 14), (2, 0, 14), (2, 0, 14), (2, 0, 14), (2, 0, 56), (2, 0, 6), (2, 0, 32), (2, 2, 1), (2, 3, 1)]
def gLt (tb : List (Nat × Nat × Nat)) (a b : Nat) : Option Nat := (tb.find? (fun e => e.1 == a && e.2.1 == b)).map (fun e => e.2.2)
def T0l : List (Nat × Nat × Nat) := [(4, 0, 5), (4, 1, 6), (4, 2, 7), (4, 3, 8), (4, 4, 9), (4, 5, 10), (4, 6, 11), (4, 7, 12), (4, 8, 13), (4, 9, 14), (4, 10, 15), (3, 0, 4), (16, 0, 17), (16, 1, 18), (16, 2, 19), (16, 3, 20), (16, 4, 21), (16, 5, 22), (16, 6, 23), (16, 7, 24), (16, 8, 25), (16, 9, 26), (16, 10, 27), (3, 1, 16), (3, 2, 28), (29, 0, 30), (29, 1, 31), (29, 2, 32), (29, 3, 33), (38, 0, 34), (38, 1, 35), (38, 2, 36), (38, 3, 37), (29, 4, 38), (3, 3, 29), (3, 4, 39), (3, 5, 40), (3, 6, 41), (42, 0, 43), (42, 1, 44), (42, 2, 45), (42, 3, 46), (42, 4, 47), (42, 5, 48), (42, 6, 49), (42, 7, 50), (42, 8, 51), (42, 9, 52), (42, 10, 53), (28, 0, 42), (54, 0, 55), (54, 1, 56), (54, 2, 57), (54, 3, 58), (54, 4, 59), (54, 5, 60), (54, 6, 61), (54, 7, 62), (54, 8, 63), (54, 9, 64), (54, 10, 65), (28, 1, 54), (66, 0, 67), (66, 1, 68), (66, 2, 69), (66, 3, 70), (66, 4, 71), (66, 5, 72), (66, 6, 73), (66, 7, 74), (66, 8, 75), (66, 9, 76), (66, 10, 77), (28, 2, 66), (78, 0, 79), (78, 1, 80), (78, 2, 81), (78, 3, 82), (78, 4, 83), (78, 5, 84), (78, 6, 85), (78, 7, 86), (78, 8, 87), (78, 9, 88), (78, 10, 89), (28, 3, 78), (90, 0, 91), (90, 1, 92), (90, 2, 93), (90, 3, 94), (90, 4, 95), (90, 5, 96), (90, 6, 97), (90, 7, 98), (90, 8, 99), (90, 9, 100), (90, 10, 101), (28, 4, 90), (102, 0, 103), (102, 1, 104), (102, 2, 105), (102, 3, 106), (102, 4, 107), (102, 5, 108), (102, 6, 109), (102, 7, 110), (102, 8, 111), (102, 9, 112), (102, 10, 113), (28, 5, 102), (114, 1, 115), (114, 2, 116), (114, 3, 117), (114, 7, 118), (114, 9, 119), (114, 11, 120), (114, 12, 121), (114, 13, 122), (114, 16, 123), (114, 17, 124), (114, 18, 125), (114, 19, 126), (114, 20, 127), (114, 21, 128), (114, 22, 129), (114, 29, 130)]
def T0 : Nat → Nat → Option Nat := gLt T0l
abbrev hp (n : Nat) (I : Nat → Nat → Int32) (L : Nat → Nat → Int64) (D : Nat → Nat → UInt64) : gH := (S0 n, T0, I, L, D)
theorem s_0 {n : Nat} : (S0 n)[0]? = some (0, 0, n) := rfl
theorem s_1 {n : Nat} : (S0 n)[1]? = some (0, 0, 15) := rfl
theorem s_2 {n : Nat} : (S0 n)[2]? = some (0, 0, 16) := rfl
theorem s_3 {n : Nat} : (S0 n)[3]? = some (1, 2, 13) := rfl
theorem s_4 {n : Nat} : (S0 n)[4]? = some (1, 1, 12) := rfl
theorem s_5 {n : Nat} : (S0 n)[5]? = some (2, 0, 240) := rfl
theorem s_6 {n : Nat} : (S0 n)[6]? = some (2, 0, 240) := rfl
theorem s_7 {n : Nat} : (S0 n)[7]? = some (2, 0, 240) := rfl
theorem s_8 {n : Nat} : (S0 n)[8]? = some (2, 0, 8) := rfl
theorem s_9 {n : Nat} : (S0 n)[9]? = some (2, 0, 8) := rfl
theorem s_10 {n : Nat} : (S0 n)[10]? = some (2, 0, 8) := rfl
theorem s_11 {n : Nat} : (S0 n)[11]? = some (2, 0, 8) := rfl
theorem s_12 {n : Nat} : (S0 n)[12]? = some (2, 0, 8) := rfl
theorem s_13 {n : Nat} : (S0 n)[13]? = some (2, 0, 8) := rfl
theorem s_14 {n : Nat} : (S0 n)[14]? = some (2, 0, 8) := rfl
theorem s_15 {n : Nat} : (S0 n)[15]? = some (2, 0, 32) := rfl
theorem s_16 {n : Nat} : (S0 n)[16]? = some (1, 1, 12) := rfl
theorem s_17 {n : Nat} : (S0 n)[17]? = some (2, 0, 240) := rfl
theorem s_18 {n : Nat} : (S0 n)[18]? = some (2, 0, 240) := rfl
theorem s_19 {n : Nat} : (S0 n)[19]? = some (2, 0, 240) := rfl
theorem s_20 {n : Nat} : (S0 n)[20]? = some (2, 0, 8) := rfl
theorem s_21 {n : Nat} : (S0 n)[21]? = some (2, 0, 8) := rfl
theorem s_22 {n : Nat} : (S0 n)[22]? = some (2, 0, 8) := rfl
theorem s_23 {n : Nat} : (S0 n)[23]? = some (2, 0, 8) := rfl
theorem s_24 {n : Nat} : (S0 n)[24]? = some (2, 0, 8) := rfl
theorem s_25 {n : Nat} : (S0 n)[25]? = some (2, 0, 8) := rfl
theorem s_26 {n : Nat} : (S0 n)[26]? = some (2, 0, 8) := rfl
theorem s_27 {n : Nat} : (S0 n)[27]? = some (2, 0, 32) := rfl
theorem s_28 {n : Nat} : (S0 n)[28]? = some (2, 5, 6) := rfl
theorem s_29 {n : Nat} : (S0 n)[29]? = some (1, 0, 9) := rfl
theorem s_30 {n : Nat} : (S0 n)[30]? = some (2, 0, 14) := rfl
theorem s_31 {n : Nat} : (S0 n)[31]? = some (2, 0, 14) := rfl
theorem s_32 {n : Nat} : (S0 n)[32]? = some (2, 0, 6) := rfl
theorem s_33 {n : Nat} : (S0 n)[33]? = some (2, 0, 6) := rfl
theorem s_34 {n : Nat} : (S0 n)[34]? = some (2, 0, 6) := rfl
theorem s_35 {n : Nat} : (S0 n)[35]? = some (2, 0, 6) := rfl
theorem s_36 {n : Nat} : (S0 n)[36]? = some (2, 0, 6) := rfl
theorem s_37 {n : Nat} : (S0 n)[37]? = some (2, 0, 6) := rfl
theorem s_38 {n : Nat} : (S0 n)[38]? = some (2, 4, 4) := rfl
theorem s_39 {n : Nat} : (S0 n)[39]? = some (2, 1, 60) := rfl
theorem s_40 {n : Nat} : (S0 n)[40]? = some (2, 0, 128) := rfl
theorem s_41 {n : Nat} : (S0 n)[41]? = some (2, 0, 4) := rfl
theorem s_42 {n : Nat} : (S0 n)[42]? = some (1, 1, 12) := rfl
theorem s_43 {n : Nat} : (S0 n)[43]? = some (2, 0, 240) := rfl
theorem s_44 {n : Nat} : (S0 n)[44]? = some (2, 0, 240) := rfl
theorem s_45 {n : Nat} : (S0 n)[45]? = some (2, 0, 240) := rfl
theorem s_46 {n : Nat} : (S0 n)[46]? = some (2, 0, 8) := rfl
theorem s_47 {n : Nat} : (S0 n)[47]? = some (2, 0, 8) := rfl
theorem s_48 {n : Nat} : (S0 n)[48]? = some (2, 0, 8) := rfl
theorem s_49 {n : Nat} : (S0 n)[49]? = some (2, 0, 8) := rfl
theorem s_50 {n : Nat} : (S0 n)[50]? = some (2, 0, 8) := rfl
theorem s_51 {n : Nat} : (S0 n)[51]? = some (2, 0, 8) := rfl
theorem s_52 {n : Nat} : (S0 n)[52]? = some (2, 0, 8) := rfl
theorem s_53 {n : Nat} : (S0 n)[53]? = some (2, 0, 32) := rfl
theorem s_54 {n : Nat} : (S0 n)[54]? = some (1, 1, 12) := rfl
theorem s_55 {n : Nat} : (S0 n)[55]? = some (2, 0, 240) := rfl
theorem s_56 {n : Nat} : (S0 n)[56]? = some (2, 0, 240) := rfl
theorem s_57 {n : Nat} : (S0 n)[57]? = some (2, 0, 240) := rfl
theorem s_58 {n : Nat} : (S0 n)[58]? = some (2, 0, 8) := rfl
theorem s_59 {n : Nat} : (S0 n)[59]? = some (2, 0, 8) := rfl
theorem s_60 {n : Nat} : (S0 n)[60]? = some (2, 0, 8) := rfl
theorem s_61 {n : Nat} : (S0 n)[61]? = some (2, 0, 8) := rfl
theorem s_62 {n : Nat} : (S0 n)[62]? = some (2, 0, 8) := rfl
theorem s_63 {n : Nat} : (S0 n)[63]? = some (2, 0, 8) := rfl
theorem s_64 {n : Nat} : (S0 n)[64]? = some (2, 0, 8) := rfl
theorem s_65 {n : Nat} : (S0 n)[65]? = some (2, 0, 32) := rfl
theorem s_66 {n : Nat} : (S0 n)[66]? = some (1, 1, 12) := rfl
theorem s_67 {n : Nat} : (S0 n)[67]? = some (2, 0, 240) := rfl
theorem s_68 {n : Nat} : (S0 n)[68]? = some (2, 0, 240) := rfl
theorem s_69 {n : Nat} : (S0 n)[69]? = some (2, 0, 240) := rfl
theorem s_70 {n : Nat} : (S0 n)[70]? = some (2, 0, 8) := rfl
theorem s_71 {n : Nat} : (S0 n)[71]? = some (2, 0, 8) := rfl
theorem s_72 {n : Nat} : (S0 n)[72]? = some (2, 0, 8) := rfl
theorem s_73 {n : Nat} : (S0 n)[73]? = some (2, 0, 8) := rfl
theorem s_74 {n : Nat} : (S0 n)[74]? = some (2, 0, 8) := rfl
theorem s_75 {n : Nat} : (S0 n)[75]? = some (2, 0, 8) := rfl
theorem s_76 {n : Nat} : (S0 n)[76]? = some (2, 0, 8) := rfl
theorem s_77 {n : Nat} : (S0 n)[77]? = some (2, 0, 32) := rfl
theorem s_78 {n : Nat} : (S0 n)[78]? = some (1, 1, 12) := rfl
theorem s_79 {n : Nat} : (S0 n)[79]? = some (2, 0, 240) := rfl
theorem s_80 {n : Nat} : (S0 n)[80]? = some (2, 0, 240) := rfl
theorem s_81 {n : Nat} : (S0 n)[81]? = some (2, 0, 240) := rfl
theorem s_82 {n : Nat} : (S0 n)[82]? = some (2, 0, 8) := rfl
theorem s_83 {n : Nat} : (S0 n)[83]? = some (2, 0, 8) := rfl
theorem s_84 {n : Nat} : (S0 n)[84]? = some (2, 0, 8) := rfl
theorem s_85 {n : Nat} : (S0 n)[85]? = some (2, 0, 8) := rfl
theorem s_86 {n : Nat} : (S0 n)[86]? = some (2, 0, 8) := rfl
theorem s_87 {n : Nat} : (S0 n)[87]? = some (2, 0, 8) := rfl
theorem s_88 {n : Nat} : (S0 n)[88]? = some (2, 0, 8) := rfl
theorem s_89 {n : Nat} : (S0 n)[89]? = some (2, 0, 32) := rfl
theorem s_90 {n : Nat} : (S0 n)[90]? = some (1, 1, 12) := rfl
theorem s_91 {n : Nat} : (S0 n)[91]? = some (2, 0, 240) := rfl
theorem s_92 {n : Nat} : (S0 n)[92]? = some (2, 0, 240) := rfl
theorem s_93 {n : Nat} : (S0 n)[93]? = some (2, 0, 240) := rfl
theorem s_94 {n : Nat} : (S0 n)[94]? = some (2, 0, 8) := rfl
theorem s_95 {n : Nat} : (S0 n)[95]? = some (2, 0, 8) := rfl
theorem s_96 {n : Nat} : (S0 n)[96]? = some (2, 0, 8) := rfl
theorem s_97 {n : Nat} : (S0 n)[97]? = some (2, 0, 8) := rfl
theorem s_98 {n : Nat} : (S0 n)[98]? = some (2, 0, 8) := rfl
theorem s_99 {n : Nat} : (S0 n)[99]? = some (2, 0, 8) := rfl
theorem s_100 {n : Nat} : (S0 n)[100]? = some (2, 0, 8) := rfl
theorem s_101 {n : Nat} : (S0 n)[101]? = some (2, 0, 32) := rfl
theorem s_102 {n : Nat} : (S0 n)[102]? = some (1, 1, 12) := rfl
theorem s_103 {n : Nat} : (S0 n)[103]? = some (2, 0, 240) := rfl
theorem s_104 {n : Nat} : (S0 n)[104]? = some (2, 0, 240) := rfl
theorem s_105 {n : Nat} : (S0 n)[105]? = some (2, 0, 240) := rfl
theorem s_106 {n : Nat} : (S0 n)[106]? = some (2, 0, 8) := rfl
theorem s_107 {n : Nat} : (S0 n)[107]? = some (2, 0, 8) := rfl
theorem s_108 {n : Nat} : (S0 n)[108]? = some (2, 0, 8) := rfl
theorem s_109 {n : Nat} : (S0 n)[109]? = some (2, 0, 8) := rfl
theorem s_110 {n : Nat} : (S0 n)[110]? = some (2, 0, 8) := rfl
theorem s_111 {n : Nat} : (S0 n)[111]? = some (2, 0, 8) := rfl
theorem s_112 {n : Nat} : (S0 n)[112]? = some (2, 0, 8) := rfl
theorem s_113 {n : Nat} : (S0 n)[113]? = some (2, 0, 32) := rfl
theorem s_114 {n : Nat} : (S0 n)[114]? = some (1, 3, 31) := rfl
theorem s_115 {n : Nat} : (S0 n)[115]? = some (2, 0, 809) := rfl
theorem s_116 {n : Nat} : (S0 n)[116]? = some (2, 0, 809) := rfl
theorem s_117 {n : Nat} : (S0 n)[117]? = some (2, 0, 4854) := rfl
theorem s_118 {n : Nat} : (S0 n)[118]? = some (2, 1, 60) := rfl
theorem s_119 {n : Nat} : (S0 n)[119]? = some (2, 0, 160) := rfl
theorem s_120 {n : Nat} : (S0 n)[120]? = some (2, 0, 256) := rfl
theorem s_121 {n : Nat} : (S0 n)[121]? = some (2, 0, 15) := rfl
theorem s_122 {n : Nat} : (S0 n)[122]? = some (2, 0, 16) := rfl
theorem s_123 {n : Nat} : (S0 n)[123]? = some (2, 0, 32) := rfl
theorem s_124 {n : Nat} : (S0 n)[124]? = some (2, 0, 14) := rfl
theorem s_125 {n : Nat} : (S0 n)[125]? = some (2, 0, 14) := rfl
theorem s_126 {n : Nat} : (S0 n)[126]? = some (2, 0, 14) := rfl
theorem s_127 {n : Nat} : (S0 n)[127]? = some (2, 0, 14) := rfl
theorem s_128 {n : Nat} : (S0 n)[128]? = some (2, 0, 56) := rfl
theorem s_129 {n : Nat} : (S0 n)[129]? = some (2, 0, 6) := rfl
theorem s_130 {n : Nat} : (S0 n)[130]? = some (2, 0, 32) := rfl
theorem s_131 {n : Nat} : (S0 n)[131]? = some (2, 2, 1) := rfl
theorem s_132 {n : Nat} : (S0 n)[132]? = some (2, 3, 1) := rfl
theorem t_4_0 : T0 4 0 = some 5 := by decide +kernel
theorem t_4_1 : T0 4 1 = some 6 := by decide +kernel
theorem t_4_2 : T0 4 2 = some 7 := by decide +kernel
theorem t_4_3 : T0 4 3 = some 8 := by decide +kernel
theorem t_4_4 : T0 4 4 = some 9 := by decide +kernel
theorem t_4_5 : T0 4 5 = some 10 := by decide +kernel
theorem t_4_6 : T0 4 6 = some 11 := by decide +kernel
theorem t_4_7 : T0 4 7 = some 12 := by decide +kernel
theorem t_4_8 : T0 4 8 = some 13 := by decide +kernel
theorem t_4_9 : T0 4 9 = some 14 := by decide +kernel
theorem t_4_10 : T0 4 10 = some 15 := by decide +kernel
theorem t_3_0 : T0 3 0 = some 4 := by decide +kernel
theorem t_16_0 : T0 16 0 = some 17 := by decide +kernel
theorem t_16_1 : T0 16 1 = some 18 := by decide +kernel
theorem t_16_2 : T0 16 2 = some 19 := by decide +kernel
theorem t_16_3 : T0 16 3 = some 20 := by decide +kernel
theorem t_16_4 : T0 16 4 = some 21 := by decide +kernel
theorem t_16_5 : T0 16 5 = some 22 := by decide +kernel
theorem t_16_6 : T0 16 6 = some 23 := by decide +kernel
theorem t_16_7 : T0 16 7 = some 24 := by decide +kernel
theorem t_16_8 : T0 16 8 = some 25 := by decide +kernel
theorem t_16_9 : T0 16 9 = some 26 := by decide +kernel
theorem t_16_10 : T0 16 10 = some 27 := by decide +kernel
theorem t_3_1 : T0 3 1 = some 16 := by decide +kernel
theorem t_3_2 : T0 3 2 = some 28 := by decide +kernel
theorem t_29_0 : T0 29 0 = some 30 := by decide +kernel
theorem t_29_1 : T0 29 1 = some 31 := by decide +kernel
theorem t_29_2 : T0 29 2 = some 32 := by decide +kernel
theorem t_29_3 : T0 29 3 = some 33 := by decide +kernel
theorem t_38_0 : T0 38 0 = some 34 := by decide +kernel
theorem t_38_1 : T0 38 1 = some 35 := by decide +kernel
theorem t_38_2 : T0 38 2 = some 36 := by decide +kernel
theorem t_38_3 : T0 38 3 = some 37 := by decide +kernel
theorem t_29_4 : T0 29 4 = some 38 := by decide +kernel
theorem t_3_3 : T0 3 3 = some 29 := by decide +kernel
theorem t_3_4 : T0 3 4 = some 39 := by decide +kernel
theorem t_3_5 : T0 3 5 = some 40 := by decide +kernel
theorem t_3_6 : T0 3 6 = some 41 := by decide +kernel
theorem t_42_0 : T0 42 0 = some 43 := by decide +kernel
theorem t_42_1 : T0 42 1 = some 44 := by decide +kernel
theorem t_42_2 : T0 42 2 = some 45 := by decide +kernel
theorem t_42_3 : T0 42 3 = some 46 := by decide +kernel
theorem t_42_4 : T0 42 4 = some 47 := by decide +kernel
theorem t_42_5 : T0 42 5 = some 48 := by decide +kernel
theorem t_42_6 : T0 42 6 = some 49 := by decide +kernel
theorem t_42_7 : T0 42 7 = some 50 := by decide +kernel
theorem t_42_8 : T0 42 8 = some 51 := by decide +kernel
theorem t_42_9 : T0 42 9 = some 52 := by decide +kernel
theorem t_42_10 : T0 42 10 = some 53 := by decide +kernel
theorem t_28_0 : T0 28 0 = some 42 := by decide +kernel
theorem t_54_0 : T0 54 0 = some 55 := by decide +kernel
theorem t_54_1 : T0 54 1 = some 56 := by decide +kernel
theorem t_54_2 : T0 54 2 = some 57 := by decide +kernel
theorem t_54_3 : T0 54 3 = some 58 := by decide +kernel
theorem t_54_4 : T0 54 4 = some 59 := by decide +kernel
theorem t_54_5 : T0 54 5 = some 60 := by decide +kernel
theorem t_54_6 : T0 54 6 = some 61 := by decide +kernel
theorem t_54_7 : T0 54 7 = some 62 := by decide +kernel
theorem t_54_8 : T0 54 8 = some 63 := by decide +kernel
theorem t_54_9 : T0 54 9 = some 64 := by decide +kernel
theorem t_54_10 : T0 54 10 = some 65 := by decide +kernel
theorem t_28_1 : T0 28 1 = some 54 := by decide +kernel
theorem t_66_0 : T0 66 0 = some 67 := by decide +kernel
theorem t_66_1 : T0 66 1 = some 68 := by decide +kernel
theorem t_66_2 : T0 66 2 = some 69 := by decide +kernel
theorem t_66_3 : T0 66 3 = some 70 := by decide +kernel
theorem t_66_4 : T0 66 4 = some 71 := by decide +kernel
theorem t_66_5 : T0 66 5 = some 72 := by decide +kernel
theorem t_66_6 : T0 66 6 = some 73 := by decide +kernel
theorem t_66_7 : T0 66 7 = some 74 := by decide +kernel
theorem t_66_8 : T0 66 8 = some 75 := by decide +kernel
theorem t_66_9 : T0 66 9 = some 76 := by decide +kernel
theorem t_66_10 : T0 66 10 = some 77 := by decide +kernel
theorem t_28_2 : T0 28 2 = some 66 := by decide +kernel
theorem t_78_0 : T0 78 0 = some 79 := by decide +kernel
theorem t_78_1 : T0 78 1 = some 80 := by decide +kernel
theorem t_78_2 : T0 78 2 = some 81 := by decide +kernel
theorem t_78_3 : T0 78 3 = some 82 := by decide +kernel
theorem t_78_4 : T0 78 4 = some 83 := by decide +kernel
theorem t_78_5 : T0 78 5 = some 84 := by decide +kernel
theorem t_78_6 : T0 78 6 = some 85 := by decide +kernel
theorem t_78_7 : T0 78 7 = some 86 := by decide +kernel
theorem t_78_8 : T0 78 8 = some 87 := by decide +kernel
theorem t_78_9 : T0 78 9 = some 88 := by decide +kernel
theorem t_78_10 : T0 78 10 = some 89 := by decide +kernel
theorem t_28_3 : T0 28 3 = some 78 := by decide +kernel
theorem t_90_0 : T0 90 0 = some 91 := by decide +kernel
theorem t_90_1 : T0 90 1 = some 92 := by decide +kernel
theorem t_90_2 : T0 90 2 = some 93 := by decide +kernel
theorem t_90_3 : T0 90 3 = some 94 := by decide +kernel
theorem t_90_4 : T0 90 4 = some 95 := by decide +kernel
theorem t_90_5 : T0 90 5 = some 96 := by decide +kernel
theorem t_90_6 : T0 90 6 = some 97 := by decide +kernel
theorem t_90_7 : T0 90 7 = some 98 := by decide +kernel
theorem t_90_8 : T0 90 8 = some 99 := by decide +kernel
theorem t_90_9 : T0 90 9 = some 100 := by decide +kernel
theorem t_90_10 : T0 90 10 = some 101 := by decide +kernel
theorem t_28_4 : T0 28 4 = some 90 := by decide +kernel
theorem t_102_0 : T0 102 0 = some 103 := by decide +kernel
theorem t_102_1 : T0 102 1 = some 104 := by decide +kernel
theorem t_102_2 : T0 102 2 = some 105 := by decide +kernel
theorem t_102_3 : T0 102 3 = some 106 := by decide +kernel
theorem t_102_4 : T0 102 4 = some 107 := by decide +kernel
theorem t_102_5 : T0 102 5 = some 108 := by decide +kernel
theorem t_102_6 : T0 102 6 = some 109 := by decide +kernel
theorem t_102_7 : T0 102 7 = some 110 := by decide +kernel
theorem t_102_8 : T0 102 8 = some 111 := by decide +kernel
theorem t_102_9 : T0 102 9 = some 112 := by decide +kernel
theorem t_102_10 : T0 102 10 = some 113 := by decide +kernel
theorem t_28_5 : T0 28 5 = some 102 := by decide +kernel
theorem t_114_1 : T0 114 1 = some 115 := by decide +kernel
theorem t_114_2 : T0 114 2 = some 116 := by decide +kernel
theorem t_114_3 : T0 114 3 = some 117 := by decide +kernel
theorem t_114_7 : T0 114 7 = some 118 := by decide +kernel
theorem t_114_9 : T0 114 9 = some 119 := by decide +kernel
theorem t_114_11 : T0 114 11 = some 120 := by decide +kernel
theorem t_114_12 : T0 114 12 = some 121 := by decide +kernel
theorem t_114_13 : T0 114 13 = some 122 := by decide +kernel
theorem t_114_16 : T0 114 16 = some 123 := by decide +kernel
theorem t_114_17 : T0 114 17 = some 124 := by decide +kernel
theorem t_114_18 : T0 114 18 = some 125 := by decide +kernel
theorem t_114_19 : T0 114 19 = some 126 := by decide +kernel
theorem t_114_20 : T0 114 20 = some 127 := by decide +kernel
theorem t_114_21 : T0 114 21 = some 128 := by decide +kernel
theorem t_114_22 : T0 114 22 = some 129 := by decide +kernel
theorem t_114_29 : T0 114 29 = some 130 := by decide +kernel
theorem gMx1 : Cond.static Lib.Math.max.name ∈ gW := by decide +kernel
theorem gMx2 : Cond.code Lib.Math.max.name Lib.Math.max.code 2 (some .int) ∈ gW := by decide +kernel
theorem gMx3 : Cond.initialized "java/lang/Math" ∈ gW := by decide +kernel
theorem gMn1 : Cond.static Lib.Math.min.name ∈ gW := by decide +kernel
theorem gMn2 : Cond.code Lib.Math.min.name Lib.Math.min.code 2 (some .int) ∈ gW := by decide +kernel
/-- a call with its outcome and the heap behind it -/
def gFn (G : gG) (Y : gY) (d : Nat) (av : List Value) (h : gH) (o : Option Value ⊕ String) (h' : gH) (kc ks : Nat) : Prop := gEv G Y d av h kc ks (fun o' g => o' = o ∧ g = h')
theorem gFn_deep {G : gG} {Y : gY} {d d' : Nat} {av : List Value} {h h' : gH} {o : Option Value ⊕ String} {kc ks : Nat} (hd : d ≤ d') (k : gFn G Y d av h o h' kc ks) : gFn G Y d' av h o h' kc ks := g_deep hd k
theorem g_toQ {G : gG} {Y : gY} {d pc : Nat} {al : List (Option Value)} {st : List Value} {h : gH} {o : Option Value ⊕ String} {h' : gH} {kc ks : Nat} {Q : gQ} (k : gGo G Y d pc al st h kc ks (fun o' g => o' = o ∧ g = h')) (hq : Q o h') : gGo G Y d pc al st h kc ks Q := g_imp (fun o' g q => by rw [q.1, q.2]; exact hq) k
theorem g_fS {G : gG} {Y Z : gY} {d pc ix : Nat} {al : List (Option Value)} {av st st0 : List Value} {h h' : gH} {kc ks kc1 ks1 : Nat} {Q : gQ} {v : Option Value} (dg : decode Y.2.1 pc = .ok (.invokestatic ix, 3)) (hZ : gMt Z) (hl : gLk Y.1.cls ix Z.1) (hstc : Cond.static Z.1 ∈ gW) (hn : gNp Z.1 = some av.length) (hst0 : st0 = av.reverse ++ st) (hcat : ∀ v ∈ av, v.category = 1) (hnl : av.length ≤ Z.2.2.1) (hrest : (st.map fun v => v.category).sum ≤ 8) (hb : kc1 ≤ kc ∧ ks1 ≤ ks) (he : gFn G Z d av h (.inl v) h' kc1 ks1)
    (k : gGo G Y (d + 1) (pc + 3) al (v.toList ++ st) h' (kc - kc1) (ks - ks1) Q) : gGo G Y (d + 1) pc al st0 h kc ks Q :=
  g_callS dg hZ hl hstc hst0 hn hcat hnl hrest hb he (fun v' h9 _ q => by cases q.1; rw [q.2]; exact k) (fun X h9 q => by cases q.1)
theorem g_fV {G : gG} {Y Z : gY} {d pc ix : Nat} {al : List (Option Value)} {av st st0 : List Value} {h h' : gH} {kc ks kc1 ks1 : Nat} {Q : gQ} {v : Option Value} {r ci n0 : Nat} (dg : decode Y.2.1 pc = .ok (.invokevirtual ix, 3)) (hZ : gMt Z) (hl : gLk Y.1.cls ix Z.1) (hin : Cond.instanceMethod Z.1 ∈ gW) (hsel : Cond.selects (gRx ci) Z.1 Z.1 ∈ gW) (hn : gNp Z.1 = some av.length) (hS : h.1[r]? = some (1, ci, n0)) (hci : ci < 4) (h3 : 3 ≤ r) (hst0 : st0 = av.reverse ++ .ref r :: st) (hcat : ∀ v ∈ av, v.category = 1) (hnl : av.length + 1 ≤ Z.2.2.1) (hrest : (st.map fun v => v.category).sum ≤ 8) (hb : kc1 ≤ kc ∧ ks1 ≤ ks) (he : gFn G Z d (.ref r :: av) h (.inl v) h' kc1 ks1)
    (k : gGo G Y (d + 1) (pc + 3) al (v.toList ++ st) h' (kc - kc1) (ks - ks1) Q) : gGo G Y (d + 1) pc al st0 h kc ks Q :=
  g_callV dg hZ hl hin hsel hci hS h3 hst0 hn hcat hnl hrest hb he (fun v' h9 _ q => by cases q.1; rw [q.2]; exact k) (fun X h9 q => by cases q.1)
theorem g_mmax {G : gG} {Y : gY} {d pc ix : Nat} {al : List (Option Value)} {st : List Value} {h : gH} {x y : Int32} {kc ks : Nat} {Q : gQ} (dg : decode Y.2.1 pc = .ok (.invokestatic ix, 3)) (hl : Cond.methodLink Y.1.cls ix Lib.Math.max.name ∈ gW) (hrest : (st.map fun v => v.category).sum ≤ 8) (k : gGo G Y d (pc + 3) al (.int (if x < y then y else x) :: st) h kc ks Q) : gGo G Y d pc al (.int y :: .int x :: st) h kc ks Q := by
  intro p l e R s m args below meth c QS mc ms ad0 C E ad ls sk H locs cells slots ha hL hs hR hV h1 h2
  obtain ⟨sk1, rfl, hz1⟩ := gSk_int hs
  obtain ⟨sk2, rfl, hz2⟩ := gSk_int hz1
  obtain ⟨r1, r2⟩ := C.2.2.2.2.2.2.2.2.2.2.2.1
  obtain ⟨hmc, hms⟩ := C.2.2.2.2.2.2.2.2.2.2.2.2
  have hcs : (sk2.map fun v => v.category).sum ≤ 8 := by rw [gSk_cat hz2]; exact hrest
  exact va_mmax C.1 C.2.1 (C.2.2.1.trans hL.1.symm) C.2.2.2.1 (C.2.2.2.2.1 _ hl) (C.2.2.2.2.1 _ gMx1) (C.2.2.2.2.1 _ gMx3) (C.2.2.2.2.1 _ gMx2) (by omega) (by omega) (by omega) (by omega) dg (k p l e R s m args below meth c QS mc ms ad0 C E ad ls _ H locs cells slots ha hL (gSk_in gV_int hz2) hR hV h1 h2)
theorem g_mmin {G : gG} {Y : gY} {d pc ix : Nat} {al : List (Option Value)} {st : List Value} {h : gH} {x y : Int32} {kc ks : Nat} {Q : gQ} (dg : decode Y.2.1 pc = .ok (.invokestatic ix, 3)) (hl : Cond.methodLink Y.1.cls ix Lib.Math.min.name ∈ gW) (hrest : (st.map fun v => v.category).sum ≤ 8) (k : gGo G Y d (pc + 3) al (.int (if y < x then y else x) :: st) h kc ks Q) : gGo G Y d pc al (.int y :: .int x :: st) h kc ks Q := by
  intro p l e R s m args below meth c QS mc ms ad0 C E ad ls sk H locs cells slots ha hL hs hR hV h1 h2
  obtain ⟨sk1, rfl, hz1⟩ := gSk_int hs
  obtain ⟨sk2, rfl, hz2⟩ := gSk_int hz1
  obtain ⟨r1, r2⟩ := C.2.2.2.2.2.2.2.2.2.2.2.1
  obtain ⟨hmc, hms⟩ := C.2.2.2.2.2.2.2.2.2.2.2.2
  have hcs : (sk2.map fun v => v.category).sum ≤ 8 := by rw [gSk_cat hz2]; exact hrest
  exact va_mmin C.1 C.2.1 (C.2.2.1.trans hL.1.symm) C.2.2.2.1 (C.2.2.2.2.1 _ hl) (C.2.2.2.2.1 _ gMn1) (C.2.2.2.2.1 _ gMx3) (C.2.2.2.2.1 _ gMn2) (by omega) (by omega) (by omega) (by omega) dg (k p l e R s m args below meth c QS mc ms ad0 C E ad ls _ H locs cells slots ha hL (gSk_in gV_int hz2) hR hV h1 h2)
end
