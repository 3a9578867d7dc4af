section
-- ===== PART A: goes FIRST, ahead of the names: the tables' words, and 'selects' of the private methods out of them =====
/-- a private method of a class that the tables say can be made, by its rows of tables_1 -/
def lw_okq (q : MethodName × Nat) : Prop := (q.1.cls ≠ "java/lang/invoke/MethodHandle" ∧ q.1.cls ≠ "java/lang/invoke/VarHandle") ∧ Cond.instantiable q.1.cls q.2 ∈ tables_1 ∧ Cond.privateMethod q.1 ∈ tables_1 ∧ Cond.instanceMethod q.1 ∈ tables_1
theorem lw_p0 : lw_okq (⟨"ScratchSwap$Tape", "addHighestFirst", "(I)V"⟩, 2) := ⟨⟨by decide +kernel, by decide +kernel⟩, List.mem_of_getElem? (i := 55) (by decide +kernel), List.mem_of_getElem? (i := 112) (by decide +kernel), List.mem_of_getElem? (i := 113) (by decide +kernel)⟩
theorem lw_p1 : lw_okq (⟨"ScratchSwap$Tape", "add", "(I)V"⟩, 2) := ⟨⟨by decide +kernel, by decide +kernel⟩, List.mem_of_getElem? (i := 55) (by decide +kernel), List.mem_of_getElem? (i := 116) (by decide +kernel), List.mem_of_getElem? (i := 117) (by decide +kernel)⟩
theorem lw_p2 : lw_okq (⟨"ScratchSwap$Tape", "becomeImage", "(ILScratchSwap$Sha256;)V"⟩, 2) := ⟨⟨by decide +kernel, by decide +kernel⟩, List.mem_of_getElem? (i := 55) (by decide +kernel), List.mem_of_getElem? (i := 132) (by decide +kernel), List.mem_of_getElem? (i := 133) (by decide +kernel)⟩
theorem lw_p3 : lw_okq (⟨"ScratchSwap$Tape", "addLowestFirst", "(I)V"⟩, 2) := ⟨⟨by decide +kernel, by decide +kernel⟩, List.mem_of_getElem? (i := 55) (by decide +kernel), List.mem_of_getElem? (i := 136) (by decide +kernel), List.mem_of_getElem? (i := 137) (by decide +kernel)⟩
theorem lw_p4 : lw_okq (⟨"ScratchSwap$Sha256", "digest", "([III)V"⟩, 2) := ⟨⟨by decide +kernel, by decide +kernel⟩, List.mem_of_getElem? (i := 70) (by decide +kernel), List.mem_of_getElem? (i := 140) (by decide +kernel), List.mem_of_getElem? (i := 141) (by decide +kernel)⟩
theorem lw_p5 : lw_okq (⟨"ScratchSwap$Sha256", "stretchSchedule", "()V"⟩, 2) := ⟨⟨by decide +kernel, by decide +kernel⟩, List.mem_of_getElem? (i := 70) (by decide +kernel), List.mem_of_getElem? (i := 152) (by decide +kernel), List.mem_of_getElem? (i := 153) (by decide +kernel)⟩
theorem lw_p6 : lw_okq (⟨"ScratchSwap$Sha256", "mixBlock", "()V"⟩, 2) := ⟨⟨by decide +kernel, by decide +kernel⟩, List.mem_of_getElem? (i := 70) (by decide +kernel), List.mem_of_getElem? (i := 159) (by decide +kernel), List.mem_of_getElem? (i := 160) (by decide +kernel)⟩
theorem lw_p7 : lw_okq (⟨"ScratchSwap$Sha256", "digestByte", "(I)I"⟩, 2) := ⟨⟨by decide +kernel, by decide +kernel⟩, List.mem_of_getElem? (i := 70) (by decide +kernel), List.mem_of_getElem? (i := 165) (by decide +kernel), List.mem_of_getElem? (i := 166) (by decide +kernel)⟩
theorem lw_p8 : lw_okq (⟨"ScratchSwap", "isUnderWay", "()Z"⟩, 8) := ⟨⟨by decide +kernel, by decide +kernel⟩, List.mem_of_getElem? (i := 7) (by decide +kernel), List.mem_of_getElem? (i := 176) (by decide +kernel), List.mem_of_getElem? (i := 177) (by decide +kernel)⟩
theorem lw_p9 : lw_okq (⟨"ScratchSwap$Memory", "markIn", "(II)I"⟩, 9) := ⟨⟨by decide +kernel, by decide +kernel⟩, List.mem_of_getElem? (i := 15) (by decide +kernel), List.mem_of_getElem? (i := 180) (by decide +kernel), List.mem_of_getElem? (i := 181) (by decide +kernel)⟩
theorem lw_p10 : lw_okq (⟨"ScratchSwap$Memory", "byteAt", "(I)I"⟩, 9) := ⟨⟨by decide +kernel, by decide +kernel⟩, List.mem_of_getElem? (i := 15) (by decide +kernel), List.mem_of_getElem? (i := 187) (by decide +kernel), List.mem_of_getElem? (i := 188) (by decide +kernel)⟩
theorem lw_p11 : lw_okq (⟨"ScratchSwap", "isMarked", "(II)Z"⟩, 8) := ⟨⟨by decide +kernel, by decide +kernel⟩, List.mem_of_getElem? (i := 7) (by decide +kernel), List.mem_of_getElem? (i := 191) (by decide +kernel), List.mem_of_getElem? (i := 192) (by decide +kernel)⟩
theorem lw_p12 : lw_okq (⟨"ScratchSwap", "stopRunning", "()V"⟩, 8) := ⟨⟨by decide +kernel, by decide +kernel⟩, List.mem_of_getElem? (i := 7) (by decide +kernel), List.mem_of_getElem? (i := 195) (by decide +kernel), List.mem_of_getElem? (i := 196) (by decide +kernel)⟩
theorem lw_p13 : lw_okq (⟨"ScratchSwap", "eraseSlot", "(I)Z"⟩, 8) := ⟨⟨by decide +kernel, by decide +kernel⟩, List.mem_of_getElem? (i := 7) (by decide +kernel), List.mem_of_getElem? (i := 199) (by decide +kernel), List.mem_of_getElem? (i := 200) (by decide +kernel)⟩
theorem lw_p14 : lw_okq (⟨"ScratchSwap$Memory", "eraseSector", "(I)Z"⟩, 9) := ⟨⟨by decide +kernel, by decide +kernel⟩, List.mem_of_getElem? (i := 15) (by decide +kernel), List.mem_of_getElem? (i := 206) (by decide +kernel), List.mem_of_getElem? (i := 207) (by decide +kernel)⟩
theorem lw_p15 : lw_okq (⟨"ScratchSwap$Memory", "beginAct", "()Z"⟩, 9) := ⟨⟨by decide +kernel, by decide +kernel⟩, List.mem_of_getElem? (i := 15) (by decide +kernel), List.mem_of_getElem? (i := 213) (by decide +kernel), List.mem_of_getElem? (i := 214) (by decide +kernel)⟩
def lw_privs_1 : List (MethodName × Nat) := [(⟨"ScratchSwap$Tape", "addHighestFirst", "(I)V"⟩, 2), (⟨"ScratchSwap$Tape", "add", "(I)V"⟩, 2), (⟨"ScratchSwap$Tape", "becomeImage", "(ILScratchSwap$Sha256;)V"⟩, 2), (⟨"ScratchSwap$Tape", "addLowestFirst", "(I)V"⟩, 2), (⟨"ScratchSwap$Sha256", "digest", "([III)V"⟩, 2), (⟨"ScratchSwap$Sha256", "stretchSchedule", "()V"⟩, 2), (⟨"ScratchSwap$Sha256", "mixBlock", "()V"⟩, 2), (⟨"ScratchSwap$Sha256", "digestByte", "(I)I"⟩, 2), (⟨"ScratchSwap", "isUnderWay", "()Z"⟩, 8), (⟨"ScratchSwap$Memory", "markIn", "(II)I"⟩, 9), (⟨"ScratchSwap$Memory", "byteAt", "(I)I"⟩, 9), (⟨"ScratchSwap", "isMarked", "(II)Z"⟩, 8), (⟨"ScratchSwap", "stopRunning", "()V"⟩, 8), (⟨"ScratchSwap", "eraseSlot", "(I)Z"⟩, 8), (⟨"ScratchSwap$Memory", "eraseSector", "(I)Z"⟩, 9), (⟨"ScratchSwap$Memory", "beginAct", "()Z"⟩, 9)]
theorem lw_r1 : ∀ q ∈ lw_privs_1, lw_okq q := List.forall_mem_cons.mpr ⟨lw_p0, List.forall_mem_cons.mpr ⟨lw_p1, List.forall_mem_cons.mpr ⟨lw_p2, List.forall_mem_cons.mpr ⟨lw_p3, List.forall_mem_cons.mpr ⟨lw_p4, List.forall_mem_cons.mpr ⟨lw_p5, List.forall_mem_cons.mpr ⟨lw_p6, List.forall_mem_cons.mpr ⟨lw_p7, List.forall_mem_cons.mpr ⟨lw_p8, List.forall_mem_cons.mpr ⟨lw_p9, List.forall_mem_cons.mpr ⟨lw_p10, List.forall_mem_cons.mpr ⟨lw_p11, List.forall_mem_cons.mpr ⟨lw_p12, List.forall_mem_cons.mpr ⟨lw_p13, List.forall_mem_cons.mpr ⟨lw_p14, List.forall_mem_cons.mpr ⟨lw_p15, fun _ h => absurd h List.not_mem_nil⟩⟩⟩⟩⟩⟩⟩⟩⟩⟩⟩⟩⟩⟩⟩⟩
theorem lw_p16 : lw_okq (⟨"ScratchSwap$Memory", "writeRow", "(I[II)Z"⟩, 9) := ⟨⟨by decide +kernel, by decide +kernel⟩, List.mem_of_getElem? (i := 15) (by decide +kernel), List.mem_of_getElem? (i := 226) (by decide +kernel), List.mem_of_getElem? (i := 227) (by decide +kernel)⟩
theorem lw_p17 : lw_okq (⟨"ScratchSwap$Memory", "writeUnit", "(I[III)Z"⟩, 9) := ⟨⟨by decide +kernel, by decide +kernel⟩, List.mem_of_getElem? (i := 15) (by decide +kernel), List.mem_of_getElem? (i := 230) (by decide +kernel), List.mem_of_getElem? (i := 231) (by decide +kernel)⟩
theorem lw_p18 : lw_okq (⟨"ScratchSwap$Memory", "isBlankWhenTaken", "([III)Z"⟩, 9) := ⟨⟨by decide +kernel, by decide +kernel⟩, List.mem_of_getElem? (i := 15) (by decide +kernel), List.mem_of_getElem? (i := 234) (by decide +kernel), List.mem_of_getElem? (i := 235) (by decide +kernel)⟩
theorem lw_p19 : lw_okq (⟨"ScratchSwap$Memory", "keepBits", "(II)V"⟩, 9) := ⟨⟨by decide +kernel, by decide +kernel⟩, List.mem_of_getElem? (i := 15) (by decide +kernel), List.mem_of_getElem? (i := 238) (by decide +kernel), List.mem_of_getElem? (i := 239) (by decide +kernel)⟩
theorem lw_p20 : lw_okq (⟨"ScratchSwap", "powerWent", "()I"⟩, 8) := ⟨⟨by decide +kernel, by decide +kernel⟩, List.mem_of_getElem? (i := 7) (by decide +kernel), List.mem_of_getElem? (i := 242) (by decide +kernel), List.mem_of_getElem? (i := 243) (by decide +kernel)⟩
theorem lw_p21 : lw_okq (⟨"ScratchSwap$Memory", "markUnit", "(III)Z"⟩, 9) := ⟨⟨by decide +kernel, by decide +kernel⟩, List.mem_of_getElem? (i := 15) (by decide +kernel), List.mem_of_getElem? (i := 250) (by decide +kernel), List.mem_of_getElem? (i := 251) (by decide +kernel)⟩
theorem lw_p22 : lw_okq (⟨"ScratchSwap", "writeMagic", "(I)Z"⟩, 8) := ⟨⟨by decide +kernel, by decide +kernel⟩, List.mem_of_getElem? (i := 7) (by decide +kernel), List.mem_of_getElem? (i := 254) (by decide +kernel), List.mem_of_getElem? (i := 255) (by decide +kernel)⟩
theorem lw_p23 : lw_okq (⟨"ScratchSwap$Memory", "hasMagic", "(I)Z"⟩, 9) := ⟨⟨by decide +kernel, by decide +kernel⟩, List.mem_of_getElem? (i := 15) (by decide +kernel), List.mem_of_getElem? (i := 265) (by decide +kernel), List.mem_of_getElem? (i := 266) (by decide +kernel)⟩
theorem lw_p24 : lw_okq (⟨"ScratchSwap", "findDue", "()I"⟩, 8) := ⟨⟨by decide +kernel, by decide +kernel⟩, List.mem_of_getElem? (i := 7) (by decide +kernel), List.mem_of_getElem? (i := 274) (by decide +kernel), List.mem_of_getElem? (i := 275) (by decide +kernel)⟩
theorem lw_p25 : lw_okq (⟨"ScratchSwap", "kindAskedFor", "()I"⟩, 8) := ⟨⟨by decide +kernel, by decide +kernel⟩, List.mem_of_getElem? (i := 7) (by decide +kernel), List.mem_of_getElem? (i := 278) (by decide +kernel), List.mem_of_getElem? (i := 279) (by decide +kernel)⟩
theorem lw_p26 : lw_okq (⟨"ScratchSwap", "isRight", "(I)Z"⟩, 8) := ⟨⟨by decide +kernel, by decide +kernel⟩, List.mem_of_getElem? (i := 7) (by decide +kernel), List.mem_of_getElem? (i := 282) (by decide +kernel), List.mem_of_getElem? (i := 283) (by decide +kernel)⟩
theorem lw_p27 : lw_okq (⟨"ScratchSwap", "lengthIn", "(I)I"⟩, 8) := ⟨⟨by decide +kernel, by decide +kernel⟩, List.mem_of_getElem? (i := 7) (by decide +kernel), List.mem_of_getElem? (i := 286) (by decide +kernel), List.mem_of_getElem? (i := 287) (by decide +kernel)⟩
theorem lw_p28 : lw_okq (⟨"ScratchSwap$Memory", "intAt", "(I)I"⟩, 9) := ⟨⟨by decide +kernel, by decide +kernel⟩, List.mem_of_getElem? (i := 15) (by decide +kernel), List.mem_of_getElem? (i := 290) (by decide +kernel), List.mem_of_getElem? (i := 291) (by decide +kernel)⟩
theorem lw_p29 : lw_okq (⟨"ScratchSwap", "isTrialUnconfirmed", "()Z"⟩, 8) := ⟨⟨by decide +kernel, by decide +kernel⟩, List.mem_of_getElem? (i := 7) (by decide +kernel), List.mem_of_getElem? (i := 297) (by decide +kernel), List.mem_of_getElem? (i := 298) (by decide +kernel)⟩
theorem lw_p30 : lw_okq (⟨"ScratchSwap", "doWhatIsDue", "(I)Z"⟩, 8) := ⟨⟨by decide +kernel, by decide +kernel⟩, List.mem_of_getElem? (i := 7) (by decide +kernel), List.mem_of_getElem? (i := 301) (by decide +kernel), List.mem_of_getElem? (i := 302) (by decide +kernel)⟩
theorem lw_p31 : lw_okq (⟨"ScratchSwap", "eraseWrong", "()Z"⟩, 8) := ⟨⟨by decide +kernel, by decide +kernel⟩, List.mem_of_getElem? (i := 7) (by decide +kernel), List.mem_of_getElem? (i := 305) (by decide +kernel), List.mem_of_getElem? (i := 306) (by decide +kernel)⟩
def lw_privs_2 : List (MethodName × Nat) := [(⟨"ScratchSwap$Memory", "writeRow", "(I[II)Z"⟩, 9), (⟨"ScratchSwap$Memory", "writeUnit", "(I[III)Z"⟩, 9), (⟨"ScratchSwap$Memory", "isBlankWhenTaken", "([III)Z"⟩, 9), (⟨"ScratchSwap$Memory", "keepBits", "(II)V"⟩, 9), (⟨"ScratchSwap", "powerWent", "()I"⟩, 8), (⟨"ScratchSwap$Memory", "markUnit", "(III)Z"⟩, 9), (⟨"ScratchSwap", "writeMagic", "(I)Z"⟩, 8), (⟨"ScratchSwap$Memory", "hasMagic", "(I)Z"⟩, 9), (⟨"ScratchSwap", "findDue", "()I"⟩, 8), (⟨"ScratchSwap", "kindAskedFor", "()I"⟩, 8), (⟨"ScratchSwap", "isRight", "(I)Z"⟩, 8), (⟨"ScratchSwap", "lengthIn", "(I)I"⟩, 8), (⟨"ScratchSwap$Memory", "intAt", "(I)I"⟩, 9), (⟨"ScratchSwap", "isTrialUnconfirmed", "()Z"⟩, 8), (⟨"ScratchSwap", "doWhatIsDue", "(I)Z"⟩, 8), (⟨"ScratchSwap", "eraseWrong", "()Z"⟩, 8)]
theorem lw_r2 : ∀ q ∈ lw_privs_2, lw_okq q := List.forall_mem_cons.mpr ⟨lw_p16, List.forall_mem_cons.mpr ⟨lw_p17, List.forall_mem_cons.mpr ⟨lw_p18, List.forall_mem_cons.mpr ⟨lw_p19, List.forall_mem_cons.mpr ⟨lw_p20, List.forall_mem_cons.mpr ⟨lw_p21, List.forall_mem_cons.mpr ⟨lw_p22, List.forall_mem_cons.mpr ⟨lw_p23, List.forall_mem_cons.mpr ⟨lw_p24, List.forall_mem_cons.mpr ⟨lw_p25, List.forall_mem_cons.mpr ⟨lw_p26, List.forall_mem_cons.mpr ⟨lw_p27, List.forall_mem_cons.mpr ⟨lw_p28, List.forall_mem_cons.mpr ⟨lw_p29, List.forall_mem_cons.mpr ⟨lw_p30, List.forall_mem_cons.mpr ⟨lw_p31, fun _ h => absurd h List.not_mem_nil⟩⟩⟩⟩⟩⟩⟩⟩⟩⟩⟩⟩⟩⟩⟩⟩
theorem lw_p32 : lw_okq (⟨"ScratchSwap", "exchangeSectors", "()Z"⟩, 8) := ⟨⟨by decide +kernel, by decide +kernel⟩, List.mem_of_getElem? (i := 7) (by decide +kernel), List.mem_of_getElem? (i := 309) (by decide +kernel), List.mem_of_getElem? (i := 310) (by decide +kernel)⟩
theorem lw_p33 : lw_okq (⟨"ScratchSwap", "takeStep", "(IIII)Z"⟩, 8) := ⟨⟨by decide +kernel, by decide +kernel⟩, List.mem_of_getElem? (i := 7) (by decide +kernel), List.mem_of_getElem? (i := 313) (by decide +kernel), List.mem_of_getElem? (i := 314) (by decide +kernel)⟩
theorem lw_p34 : lw_okq (⟨"ScratchSwap$Memory", "replaceSector", "(II)Z"⟩, 9) := ⟨⟨by decide +kernel, by decide +kernel⟩, List.mem_of_getElem? (i := 15) (by decide +kernel), List.mem_of_getElem? (i := 317) (by decide +kernel), List.mem_of_getElem? (i := 318) (by decide +kernel)⟩
theorem lw_p35 : lw_okq (⟨"ScratchSwap", "endExchange", "()Z"⟩, 8) := ⟨⟨by decide +kernel, by decide +kernel⟩, List.mem_of_getElem? (i := 7) (by decide +kernel), List.mem_of_getElem? (i := 322) (by decide +kernel), List.mem_of_getElem? (i := 323) (by decide +kernel)⟩
theorem lw_p36 : lw_okq (⟨"ScratchSwap", "beginExchange", "(I)Z"⟩, 8) := ⟨⟨by decide +kernel, by decide +kernel⟩, List.mem_of_getElem? (i := 7) (by decide +kernel), List.mem_of_getElem? (i := 326) (by decide +kernel), List.mem_of_getElem? (i := 327) (by decide +kernel)⟩
theorem lw_p37 : lw_okq (⟨"ScratchSwap", "versionIn", "(I)I"⟩, 8) := ⟨⟨by decide +kernel, by decide +kernel⟩, List.mem_of_getElem? (i := 7) (by decide +kernel), List.mem_of_getElem? (i := 330) (by decide +kernel), List.mem_of_getElem? (i := 331) (by decide +kernel)⟩
theorem lw_p38 : lw_okq (⟨"ScratchSwap$Memory", "tellToGo", "(II)V"⟩, 9) := ⟨⟨by decide +kernel, by decide +kernel⟩, List.mem_of_getElem? (i := 15) (by decide +kernel), List.mem_of_getElem? (i := 339) (by decide +kernel), List.mem_of_getElem? (i := 340) (by decide +kernel)⟩
theorem lw_p39 : lw_okq (⟨"ScratchSwap$Memory", "powerComes", "()V"⟩, 9) := ⟨⟨by decide +kernel, by decide +kernel⟩, List.mem_of_getElem? (i := 15) (by decide +kernel), List.mem_of_getElem? (i := 347) (by decide +kernel), List.mem_of_getElem? (i := 348) (by decide +kernel)⟩
theorem lw_p40 : lw_okq (⟨"ScratchSwap", "stepsSet", "(I)I"⟩, 8) := ⟨⟨by decide +kernel, by decide +kernel⟩, List.mem_of_getElem? (i := 7) (by decide +kernel), List.mem_of_getElem? (i := 376) (by decide +kernel), List.mem_of_getElem? (i := 377) (by decide +kernel)⟩
theorem lw_p41 : lw_okq (⟨"ScratchSwap$Memory", "actsStillDone", "()I"⟩, 9) := ⟨⟨by decide +kernel, by decide +kernel⟩, List.mem_of_getElem? (i := 15) (by decide +kernel), List.mem_of_getElem? (i := 389) (by decide +kernel), List.mem_of_getElem? (i := 390) (by decide +kernel)⟩
theorem lw_p42 : lw_okq (⟨"ScratchSwapModel", "isRight", "(I)Z"⟩, 26) := ⟨⟨by decide +kernel, by decide +kernel⟩, List.mem_of_getElem? (i := 393) (by decide +kernel), List.mem_of_getElem? (i := 497) (by decide +kernel), List.mem_of_getElem? (i := 498) (by decide +kernel)⟩
theorem lw_p43 : lw_okq (⟨"ScratchSwapModel", "sha", "([BII)V"⟩, 26) := ⟨⟨by decide +kernel, by decide +kernel⟩, List.mem_of_getElem? (i := 393) (by decide +kernel), List.mem_of_getElem? (i := 504) (by decide +kernel), List.mem_of_getElem? (i := 505) (by decide +kernel)⟩
theorem lw_p44 : lw_okq (⟨"ScratchSwapModel", "block", "(I)V"⟩, 26) := ⟨⟨by decide +kernel, by decide +kernel⟩, List.mem_of_getElem? (i := 393) (by decide +kernel), List.mem_of_getElem? (i := 510) (by decide +kernel), List.mem_of_getElem? (i := 511) (by decide +kernel)⟩
theorem lw_p45 : lw_okq (⟨"ScratchSwapModel", "begins", "()V"⟩, 26) := ⟨⟨by decide +kernel, by decide +kernel⟩, List.mem_of_getElem? (i := 393) (by decide +kernel), List.mem_of_getElem? (i := 540) (by decide +kernel), List.mem_of_getElem? (i := 541) (by decide +kernel)⟩
theorem lw_p46 : lw_okq (⟨"ScratchSwapModel", "erase", "(I)V"⟩, 26) := ⟨⟨by decide +kernel, by decide +kernel⟩, List.mem_of_getElem? (i := 393) (by decide +kernel), List.mem_of_getElem? (i := 544) (by decide +kernel), List.mem_of_getElem? (i := 545) (by decide +kernel)⟩
theorem lw_p47 : lw_okq (⟨"ScratchSwapModel", "write", "(I[BI)V"⟩, 26) := ⟨⟨by decide +kernel, by decide +kernel⟩, List.mem_of_getElem? (i := 393) (by decide +kernel), List.mem_of_getElem? (i := 551) (by decide +kernel), List.mem_of_getElem? (i := 552) (by decide +kernel)⟩
def lw_privs_3 : List (MethodName × Nat) := [(⟨"ScratchSwap", "exchangeSectors", "()Z"⟩, 8), (⟨"ScratchSwap", "takeStep", "(IIII)Z"⟩, 8), (⟨"ScratchSwap$Memory", "replaceSector", "(II)Z"⟩, 9), (⟨"ScratchSwap", "endExchange", "()Z"⟩, 8), (⟨"ScratchSwap", "beginExchange", "(I)Z"⟩, 8), (⟨"ScratchSwap", "versionIn", "(I)I"⟩, 8), (⟨"ScratchSwap$Memory", "tellToGo", "(II)V"⟩, 9), (⟨"ScratchSwap$Memory", "powerComes", "()V"⟩, 9), (⟨"ScratchSwap", "stepsSet", "(I)I"⟩, 8), (⟨"ScratchSwap$Memory", "actsStillDone", "()I"⟩, 9), (⟨"ScratchSwapModel", "isRight", "(I)Z"⟩, 26), (⟨"ScratchSwapModel", "sha", "([BII)V"⟩, 26), (⟨"ScratchSwapModel", "block", "(I)V"⟩, 26), (⟨"ScratchSwapModel", "begins", "()V"⟩, 26), (⟨"ScratchSwapModel", "erase", "(I)V"⟩, 26), (⟨"ScratchSwapModel", "write", "(I[BI)V"⟩, 26)]
theorem lw_r3 : ∀ q ∈ lw_privs_3, lw_okq q := List.forall_mem_cons.mpr ⟨lw_p32, List.forall_mem_cons.mpr ⟨lw_p33, List.forall_mem_cons.mpr ⟨lw_p34, List.forall_mem_cons.mpr ⟨lw_p35, List.forall_mem_cons.mpr ⟨lw_p36, List.forall_mem_cons.mpr ⟨lw_p37, List.forall_mem_cons.mpr ⟨lw_p38, List.forall_mem_cons.mpr ⟨lw_p39, List.forall_mem_cons.mpr ⟨lw_p40, List.forall_mem_cons.mpr ⟨lw_p41, List.forall_mem_cons.mpr ⟨lw_p42, List.forall_mem_cons.mpr ⟨lw_p43, List.forall_mem_cons.mpr ⟨lw_p44, List.forall_mem_cons.mpr ⟨lw_p45, List.forall_mem_cons.mpr ⟨lw_p46, List.forall_mem_cons.mpr ⟨lw_p47, fun _ h => absurd h List.not_mem_nil⟩⟩⟩⟩⟩⟩⟩⟩⟩⟩⟩⟩⟩⟩⟩⟩
theorem lw_p48 : lw_okq (⟨"ScratchSwapModel", "does", "()Z"⟩, 26) := ⟨⟨by decide +kernel, by decide +kernel⟩, List.mem_of_getElem? (i := 393) (by decide +kernel), List.mem_of_getElem? (i := 555) (by decide +kernel), List.mem_of_getElem? (i := 556) (by decide +kernel)⟩
theorem lw_p49 : lw_okq (⟨"ScratchSwapModel", "act", "(I)V"⟩, 26) := ⟨⟨by decide +kernel, by decide +kernel⟩, List.mem_of_getElem? (i := 393) (by decide +kernel), List.mem_of_getElem? (i := 559) (by decide +kernel), List.mem_of_getElem? (i := 560) (by decide +kernel)⟩
theorem lw_p50 : lw_okq (⟨"ScratchSwapModel", "mark", "(III)V"⟩, 26) := ⟨⟨by decide +kernel, by decide +kernel⟩, List.mem_of_getElem? (i := 393) (by decide +kernel), List.mem_of_getElem? (i := 567) (by decide +kernel), List.mem_of_getElem? (i := 568) (by decide +kernel)⟩
theorem lw_p51 : lw_okq (⟨"ScratchSwapModel", "magic", "(I)V"⟩, 26) := ⟨⟨by decide +kernel, by decide +kernel⟩, List.mem_of_getElem? (i := 393) (by decide +kernel), List.mem_of_getElem? (i := 571) (by decide +kernel), List.mem_of_getElem? (i := 572) (by decide +kernel)⟩
theorem lw_p52 : lw_okq (⟨"ScratchSwapModel", "lists", "(I)V"⟩, 26) := ⟨⟨by decide +kernel, by decide +kernel⟩, List.mem_of_getElem? (i := 393) (by decide +kernel), List.mem_of_getElem? (i := 583) (by decide +kernel), List.mem_of_getElem? (i := 584) (by decide +kernel)⟩
theorem lw_p53 : lw_okq (⟨"ScratchSwapModel", "copy", "(II)V"⟩, 26) := ⟨⟨by decide +kernel, by decide +kernel⟩, List.mem_of_getElem? (i := 393) (by decide +kernel), List.mem_of_getElem? (i := 587) (by decide +kernel), List.mem_of_getElem? (i := 588) (by decide +kernel)⟩
def lw_privs_4 : List (MethodName × Nat) := [(⟨"ScratchSwapModel", "does", "()Z"⟩, 26), (⟨"ScratchSwapModel", "act", "(I)V"⟩, 26), (⟨"ScratchSwapModel", "mark", "(III)V"⟩, 26), (⟨"ScratchSwapModel", "magic", "(I)V"⟩, 26), (⟨"ScratchSwapModel", "lists", "(I)V"⟩, 26), (⟨"ScratchSwapModel", "copy", "(II)V"⟩, 26)]
theorem lw_r4 : ∀ q ∈ lw_privs_4, lw_okq q := List.forall_mem_cons.mpr ⟨lw_p48, List.forall_mem_cons.mpr ⟨lw_p49, List.forall_mem_cons.mpr ⟨lw_p50, List.forall_mem_cons.mpr ⟨lw_p51, List.forall_mem_cons.mpr ⟨lw_p52, List.forall_mem_cons.mpr ⟨lw_p53, fun _ h => absurd h List.not_mem_nil⟩⟩⟩⟩⟩⟩
def lw_privs : List (MethodName × Nat) := lw_privs_1 ++ (lw_privs_2 ++ (lw_privs_3 ++ (lw_privs_4)))
def lw_tbl : List Cond := k2_sels lw_privs ++ tables_1
theorem lw_privs_ok : ∀ q ∈ lw_privs, lw_okq q := by
  show ∀ q ∈ lw_privs_1 ++ (lw_privs_2 ++ (lw_privs_3 ++ (lw_privs_4))), lw_okq q
  exact List.forall_mem_append.mpr ⟨lw_r1, List.forall_mem_append.mpr ⟨lw_r2, List.forall_mem_append.mpr ⟨lw_r3, lw_r4⟩⟩⟩
-- ===== end of PART A; then your names; then what follows =====
end
section
/-! ===== BEGIN words of one list among another's, by their places ===== -/
theorem goodIn_r {big : List Cond} (ws : List Cond) (ps : List Nat) (hp : ws = ps.filterMap (fun i => big[i]?)) (h : ws.all goodWord = true) : GoodIn big ws := by
  intro w hw
  have h1 := List.all_eq_true.mp h w hw
  rw [hp] at hw
  obtain ⟨i, -, hi⟩ := List.mem_filterMap.mp hw
  have hm : w ∈ big := by first | exact List.mem_of_getElem? hi | exact List.getElem?_mem hi
  exact ⟨hm, good_of_word h1⟩
theorem goodIn_app {big a b : List Cond} (ha : GoodIn big a) (hb : GoodIn big b) : GoodIn big (a ++ b) := fun w h => (List.mem_append.mp h).elim (ha w) (hb w)
theorem goodIn_ca {big a b : List Cond} {c : Cond} (ha : GoodIn big (c :: a)) (hb : GoodIn big b) : GoodIn big (c :: (a ++ b)) := fun w h => (List.mem_cons.mp h).elim (fun e => ha w (List.mem_cons.mpr (Or.inl e))) (fun h => (List.mem_append.mp h).elim (fun h => ha w (List.mem_cons.mpr (Or.inr h))) (hb w))
theorem goodIn_sub {big ws : List Cond} (hm : ∀ w ∈ ws, w ∈ big) (h : ws.all goodWord = true) : GoodIn big ws := fun w hw => ⟨hm w hw, good_of_word (List.all_eq_true.mp h w hw)⟩
/-! ===== END ===== -/

/-! ===== BEGIN printed: names, fields, word lists, decode rows ===== -/
def RX0 : String := "ScratchSwap$Memory"
def TX0 : u_T := fun k => match k with
  | 0 => ("ScratchSwap$Memory", "bytes", "[I", true)
  | 1 => ("ScratchSwap$Memory", "timesErased", "[I", true)
  | 2 => ("ScratchSwap$Memory", "unitTaken", "[I", true)
  | 3 => ("ScratchSwap$Memory", "down", "Z", false)
  | 4 => ("ScratchSwap$Memory", "toldToGo", "Z", false)
  | 5 => ("ScratchSwap$Memory", "actsLeft", "I", false)
  | 6 => ("ScratchSwap$Memory", "unitsCut", "I", false)
  | 7 => ("ScratchSwap$Memory", "actsDone", "I", false)
  | _ => ("ScratchSwap$Memory", "timesGone", "I", false)
def tyX0 : Nat → FieldType := fun k => match k with
  | 0 => .array .int
  | 1 => .array .int
  | 2 => .array .int
  | 3 => .boolean
  | 4 => .boolean
  | 5 => .int
  | 6 => .int
  | 7 => .int
  | _ => .int
abbrev wsX00 : List Cond := u_ws RX0 TX0 9
theorem nmX0 : ∀ a, a < 9 → ∀ b, b < 9 → a ≠ b → (TX0 a).2.1 ≠ (TX0 b).2.1 := by decide +kernel
theorem tyX0_ok : ∀ k, k < 9 → parseFieldDescriptor (TX0 k).2.2.1 = some (tyX0 k) := by decide +kernel
abbrev cX0_init : ByteArray := prog_2_method_1_code
def yX0_init : MethodName := ⟨RX0, "<init>", "()V"⟩
abbrev cX0_has : ByteArray := prog_2_method_2_code
def yX0_has : MethodName := ⟨RX0, "has", "(I)Z"⟩
abbrev cX0_hasSector : ByteArray := prog_2_method_3_code
def yX0_hasSector : MethodName := ⟨RX0, "hasSector", "(I)Z"⟩
abbrev cX0_unitAt : ByteArray := prog_2_method_4_code
def yX0_unitAt : MethodName := ⟨RX0, "unitAt", "(II)I"⟩
abbrev cX0_byteAt : ByteArray := prog_2_method_5_code
def yX0_byteAt : MethodName := ⟨RX0, "byteAt", "(I)I"⟩
abbrev cX0_intAt : ByteArray := prog_2_method_6_code
def yX0_intAt : MethodName := ⟨RX0, "intAt", "(I)I"⟩
abbrev cX0_keepBits : ByteArray := prog_2_method_7_code
def yX0_keepBits : MethodName := ⟨RX0, "keepBits", "(II)V"⟩
abbrev cX0_tellToGo : ByteArray := prog_2_method_8_code
def yX0_tellToGo : MethodName := ⟨RX0, "tellToGo", "(II)V"⟩
abbrev cX0_powerComes : ByteArray := prog_2_method_9_code
def yX0_powerComes : MethodName := ⟨RX0, "powerComes", "()V"⟩
abbrev cX0_actsStillDone : ByteArray := prog_2_method_10_code
def yX0_actsStillDone : MethodName := ⟨RX0, "actsStillDone", "()I"⟩
abbrev cX0_beginAct : ByteArray := prog_2_method_11_code
def yX0_beginAct : MethodName := ⟨RX0, "beginAct", "()Z"⟩
abbrev cX0_eraseSector : ByteArray := prog_2_method_12_code
def yX0_eraseSector : MethodName := ⟨RX0, "eraseSector", "(I)Z"⟩
abbrev cX0_replaceSector : ByteArray := prog_2_method_13_code
def yX0_replaceSector : MethodName := ⟨RX0, "replaceSector", "(II)Z"⟩
abbrev cX0_writeRow : ByteArray := prog_2_method_14_code
def yX0_writeRow : MethodName := ⟨RX0, "writeRow", "(I[II)Z"⟩
abbrev cX0_writeUnit : ByteArray := prog_2_method_15_code
def yX0_writeUnit : MethodName := ⟨RX0, "writeUnit", "(I[III)Z"⟩
abbrev cX0_isBlankWhenTaken : ByteArray := prog_2_method_16_code
def yX0_isBlankWhenTaken : MethodName := ⟨RX0, "isBlankWhenTaken", "([III)Z"⟩
abbrev cX0_markUnit : ByteArray := prog_2_method_17_code
def yX0_markUnit : MethodName := ⟨RX0, "markUnit", "(III)Z"⟩
abbrev cX0_markIn : ByteArray := prog_2_method_18_code
def yX0_markIn : MethodName := ⟨RX0, "markIn", "(II)I"⟩
abbrev cX0_hasMagic : ByteArray := prog_2_method_19_code
def yX0_hasMagic : MethodName := ⟨RX0, "hasMagic", "(I)Z"⟩
def RX1 : String := "ScratchSwap$Sha256"
def TX1 : u_T := fun k => match k with
  | 0 => ("ScratchSwap$Sha256", "schedule", "[I", true)
  | _ => ("ScratchSwap$Sha256", "hash", "[I", true)
def tyX1 : Nat → FieldType := fun k => match k with
  | 0 => .array .int
  | _ => .array .int
abbrev wsX10 : List Cond := u_ws RX1 TX1 2
theorem nmX1 : ∀ a, a < 2 → ∀ b, b < 2 → a ≠ b → (TX1 a).2.1 ≠ (TX1 b).2.1 := by decide +kernel
theorem tyX1_ok : ∀ k, k < 2 → parseFieldDescriptor (TX1 k).2.2.1 = some (tyX1 k) := by decide +kernel
abbrev cX1_init : ByteArray := prog_3_method_1_code
def yX1_init : MethodName := ⟨RX1, "<init>", "()V"⟩
abbrev cX1_digest : ByteArray := prog_3_method_2_code
def yX1_digest : MethodName := ⟨RX1, "digest", "([III)V"⟩
abbrev cX1_digestByte : ByteArray := prog_3_method_3_code
def yX1_digestByte : MethodName := ⟨RX1, "digestByte", "(I)I"⟩
abbrev cX1_paddedWord : ByteArray := prog_3_method_4_code
def yX1_paddedWord : MethodName := ⟨RX1, "paddedWord", "([IIII)I"⟩
abbrev cX1_paddedByte : ByteArray := prog_3_method_5_code
def yX1_paddedByte : MethodName := ⟨RX1, "paddedByte", "([IIII)I"⟩
abbrev cX1_stretchSchedule : ByteArray := prog_3_method_6_code
def yX1_stretchSchedule : MethodName := ⟨RX1, "stretchSchedule", "()V"⟩
abbrev cX1_mixBlock : ByteArray := prog_3_method_7_code
def yX1_mixBlock : MethodName := ⟨RX1, "mixBlock", "()V"⟩
abbrev cX1_turn : ByteArray := prog_3_method_8_code
def yX1_turn : MethodName := ⟨RX1, "turn", "(II)I"⟩
def RX2 : String := "ScratchSwap$Tape"
def TX2 : u_T := fun k => match k with
  | 0 => ("ScratchSwap$Tape", "bytes", "[I", true)
  | _ => ("ScratchSwap$Tape", "count", "I", false)
def tyX2 : Nat → FieldType := fun k => match k with
  | 0 => .array .int
  | _ => .int
abbrev wsX20 : List Cond := u_ws RX2 TX2 2
theorem nmX2 : ∀ a, a < 2 → ∀ b, b < 2 → a ≠ b → (TX2 a).2.1 ≠ (TX2 b).2.1 := by decide +kernel
theorem tyX2_ok : ∀ k, k < 2 → parseFieldDescriptor (TX2 k).2.2.1 = some (tyX2 k) := by decide +kernel
abbrev cX2_init : ByteArray := prog_4_method_1_code
def yX2_init : MethodName := ⟨RX2, "<init>", "()V"⟩
abbrev cX2_add : ByteArray := prog_4_method_2_code
def yX2_add : MethodName := ⟨RX2, "add", "(I)V"⟩
abbrev cX2_addHighestFirst : ByteArray := prog_4_method_3_code
def yX2_addHighestFirst : MethodName := ⟨RX2, "addHighestFirst", "(I)V"⟩
abbrev cX2_addLowestFirst : ByteArray := prog_4_method_4_code
def yX2_addLowestFirst : MethodName := ⟨RX2, "addLowestFirst", "(I)V"⟩
abbrev cX2_becomeImage : ByteArray := prog_4_method_5_code
def yX2_becomeImage : MethodName := ⟨RX2, "becomeImage", "(ILScratchSwap$Sha256;)V"⟩
def RX3 : String := "ScratchSwap"
def TX3 : u_T := fun k => match k with
  | 0 => ("ScratchSwap", "memory", "LScratchSwap$Memory;", true)
  | 1 => ("ScratchSwap", "tape", "LScratchSwap$Tape;", true)
  | 2 => ("ScratchSwap", "sha", "LScratchSwap$Sha256;", true)
  | 3 => ("ScratchSwap", "runs", "Z", false)
  | 4 => ("ScratchSwap", "runningVersion", "I", false)
  | 5 => ("ScratchSwap", "wholeBoots", "I", false)
  | 6 => ("ScratchSwap", "exchangesEnded", "I", false)
  | _ => ("ScratchSwap", "wrongsErased", "I", false)
def tyX3 : Nat → FieldType := fun k => match k with
  | 0 => .object "ScratchSwap$Memory"
  | 1 => .object "ScratchSwap$Tape"
  | 2 => .object "ScratchSwap$Sha256"
  | 3 => .boolean
  | 4 => .int
  | 5 => .int
  | 6 => .int
  | _ => .int
abbrev wsX30 : List Cond := u_ws RX3 TX3 8
theorem nmX3 : ∀ a, a < 8 → ∀ b, b < 8 → a ≠ b → (TX3 a).2.1 ≠ (TX3 b).2.1 := by decide +kernel
theorem tyX3_ok : ∀ k, k < 8 → parseFieldDescriptor (TX3 k).2.2.1 = some (tyX3 k) := by decide +kernel
abbrev cX3_init : ByteArray := prog_1_method_1_code
def yX3_init : MethodName := ⟨RX3, "<init>", "()V"⟩
abbrev cX3_feed : ByteArray := prog_1_method_2_code
def yX3_feed : MethodName := ⟨RX3, "feed", "(IIIII)I"⟩
abbrev cX3_end : ByteArray := prog_1_method_3_code
def yX3_end : MethodName := ⟨RX3, "end", "(I)Z"⟩
abbrev cX3_taped : ByteArray := prog_1_method_4_code
def yX3_taped : MethodName := ⟨RX3, "taped", "()I"⟩
abbrev cX3_pack : ByteArray := prog_1_method_5_code
def yX3_pack : MethodName := ⟨RX3, "pack", "(I)I"⟩
abbrev cX3_install : ByteArray := prog_1_method_6_code
def yX3_install : MethodName := ⟨RX3, "install", "(I)I"⟩
abbrev cX3_request : ByteArray := prog_1_method_7_code
def yX3_request : MethodName := ⟨RX3, "request", "(Z)I"⟩
abbrev cX3_confirm : ByteArray := prog_1_method_8_code
def yX3_confirm : MethodName := ⟨RX3, "confirm", "()I"⟩
abbrev cX3_boot : ByteArray := prog_1_method_9_code
def yX3_boot : MethodName := ⟨RX3, "boot", "()I"⟩
abbrev cX3_cut : ByteArray := prog_1_method_10_code
def yX3_cut : MethodName := ⟨RX3, "cut", "(II)Z"⟩
abbrev cX3_power : ByteArray := prog_1_method_11_code
def yX3_power : MethodName := ⟨RX3, "power", "()V"⟩
abbrev cX3_harm : ByteArray := prog_1_method_12_code
def yX3_harm : MethodName := ⟨RX3, "harm", "(II)Z"⟩
abbrev cX3_flash : ByteArray := prog_1_method_13_code
def yX3_flash : MethodName := ⟨RX3, "flash", "(I)I"⟩
abbrev cX3_due : ByteArray := prog_1_method_14_code
def yX3_due : MethodName := ⟨RX3, "due", "()I"⟩
abbrev cX3_image : ByteArray := prog_1_method_15_code
def yX3_image : MethodName := ⟨RX3, "image", "(II)I"⟩
abbrev cX3_trailer : ByteArray := prog_1_method_16_code
def yX3_trailer : MethodName := ⟨RX3, "trailer", "(II)I"⟩
abbrev cX3_wear : ByteArray := prog_1_method_17_code
def yX3_wear : MethodName := ⟨RX3, "wear", "(I)I"⟩
abbrev cX3_look : ByteArray := prog_1_method_18_code
def yX3_look : MethodName := ⟨RX3, "look", "(I)I"⟩
abbrev cX3_asNumber : ByteArray := prog_1_method_19_code
def yX3_asNumber : MethodName := ⟨RX3, "asNumber", "(Z)I"⟩
abbrev cX3_isSlot : ByteArray := prog_1_method_20_code
def yX3_isSlot : MethodName := ⟨RX3, "isSlot", "(I)Z"⟩
abbrev cX3_firstSectorOf : ByteArray := prog_1_method_21_code
def yX3_firstSectorOf : MethodName := ⟨RX3, "firstSectorOf", "(I)I"⟩
abbrev cX3_firstByteOf : ByteArray := prog_1_method_22_code
def yX3_firstByteOf : MethodName := ⟨RX3, "firstByteOf", "(I)I"⟩
abbrev cX3_trailerOf : ByteArray := prog_1_method_23_code
def yX3_trailerOf : MethodName := ⟨RX3, "trailerOf", "(I)I"⟩
abbrev cX3_stopRunning : ByteArray := prog_1_method_24_code
def yX3_stopRunning : MethodName := ⟨RX3, "stopRunning", "()V"⟩
abbrev cX3_powerWent : ByteArray := prog_1_method_25_code
def yX3_powerWent : MethodName := ⟨RX3, "powerWent", "()I"⟩
abbrev cX3_lengthIn : ByteArray := prog_1_method_26_code
def yX3_lengthIn : MethodName := ⟨RX3, "lengthIn", "(I)I"⟩
abbrev cX3_versionIn : ByteArray := prog_1_method_27_code
def yX3_versionIn : MethodName := ⟨RX3, "versionIn", "(I)I"⟩
abbrev cX3_isRight : ByteArray := prog_1_method_28_code
def yX3_isRight : MethodName := ⟨RX3, "isRight", "(I)Z"⟩
abbrev cX3_isMarked : ByteArray := prog_1_method_29_code
def yX3_isMarked : MethodName := ⟨RX3, "isMarked", "(II)Z"⟩
abbrev cX3_writeMagic : ByteArray := prog_1_method_30_code
def yX3_writeMagic : MethodName := ⟨RX3, "writeMagic", "(I)Z"⟩
abbrev cX3_stepsSet : ByteArray := prog_1_method_31_code
def yX3_stepsSet : MethodName := ⟨RX3, "stepsSet", "(I)I"⟩
abbrev cX3_isUnderWay : ByteArray := prog_1_method_32_code
def yX3_isUnderWay : MethodName := ⟨RX3, "isUnderWay", "()Z"⟩
abbrev cX3_findDue : ByteArray := prog_1_method_33_code
def yX3_findDue : MethodName := ⟨RX3, "findDue", "()I"⟩
abbrev cX3_kindAskedFor : ByteArray := prog_1_method_34_code
def yX3_kindAskedFor : MethodName := ⟨RX3, "kindAskedFor", "()I"⟩
abbrev cX3_isTrialUnconfirmed : ByteArray := prog_1_method_35_code
def yX3_isTrialUnconfirmed : MethodName := ⟨RX3, "isTrialUnconfirmed", "()Z"⟩
abbrev cX3_eraseSlot : ByteArray := prog_1_method_36_code
def yX3_eraseSlot : MethodName := ⟨RX3, "eraseSlot", "(I)Z"⟩
abbrev cX3_doWhatIsDue : ByteArray := prog_1_method_37_code
def yX3_doWhatIsDue : MethodName := ⟨RX3, "doWhatIsDue", "(I)Z"⟩
abbrev cX3_eraseWrong : ByteArray := prog_1_method_38_code
def yX3_eraseWrong : MethodName := ⟨RX3, "eraseWrong", "()Z"⟩
abbrev cX3_beginExchange : ByteArray := prog_1_method_39_code
def yX3_beginExchange : MethodName := ⟨RX3, "beginExchange", "(I)Z"⟩
abbrev cX3_exchangeSectors : ByteArray := prog_1_method_40_code
def yX3_exchangeSectors : MethodName := ⟨RX3, "exchangeSectors", "()Z"⟩
abbrev cX3_takeStep : ByteArray := prog_1_method_41_code
def yX3_takeStep : MethodName := ⟨RX3, "takeStep", "(IIII)Z"⟩
abbrev cX3_endExchange : ByteArray := prog_1_method_42_code
def yX3_endExchange : MethodName := ⟨RX3, "endExchange", "()Z"⟩
def RX4 : String := "ScratchSwapModel"
def TX4 : u_T := fun k => match k with
  | 0 => ("ScratchSwapModel", "flash", "[B", true)
  | 1 => ("ScratchSwapModel", "draft", "[B", true)
  | 2 => ("ScratchSwapModel", "erases", "[I", true)
  | 3 => ("ScratchSwapModel", "places", "[I", true)
  | 4 => ("ScratchSwapModel", "units", "[B", true)
  | 5 => ("ScratchSwapModel", "listed", "I", false)
  | 6 => ("ScratchSwapModel", "over", "I", false)
  | 7 => ("ScratchSwapModel", "tape", "[B", true)
  | 8 => ("ScratchSwapModel", "taped", "I", false)
  | 9 => ("ScratchSwapModel", "isDown", "Z", false)
  | 10 => ("ScratchSwapModel", "runs", "Z", false)
  | 11 => ("ScratchSwapModel", "version", "I", false)
  | 12 => ("ScratchSwapModel", "acts", "I", false)
  | 13 => ("ScratchSwapModel", "fuse", "I", false)
  | 14 => ("ScratchSwapModel", "cutUnits", "I", false)
  | 15 => ("ScratchSwapModel", "boots", "I", false)
  | 16 => ("ScratchSwapModel", "exchanges", "I", false)
  | 17 => ("ScratchSwapModel", "wrongs", "I", false)
  | 18 => ("ScratchSwapModel", "gone", "I", false)
  | 19 => ("ScratchSwapModel", "wear", "[I", true)
  | 20 => ("ScratchSwapModel", "eight", "[B", true)
  | 21 => ("ScratchSwapModel", "digest", "[B", true)
  | 22 => ("ScratchSwapModel", "words", "[I", true)
  | 23 => ("ScratchSwapModel", "padded", "[B", true)
  | 24 => ("ScratchSwapModel", "chain", "[I", true)
  | _ => ("ScratchSwapModel", "five", "[I", true)
def tyX4 : Nat → FieldType := fun k => match k with
  | 0 => .array .byte
  | 1 => .array .byte
  | 2 => .array .int
  | 3 => .array .int
  | 4 => .array .byte
  | 5 => .int
  | 6 => .int
  | 7 => .array .byte
  | 8 => .int
  | 9 => .boolean
  | 10 => .boolean
  | 11 => .int
  | 12 => .int
  | 13 => .int
  | 14 => .int
  | 15 => .int
  | 16 => .int
  | 17 => .int
  | 18 => .int
  | 19 => .array .int
  | 20 => .array .byte
  | 21 => .array .byte
  | 22 => .array .int
  | 23 => .array .byte
  | 24 => .array .int
  | _ => .array .int
abbrev wsX40 : List Cond := u_ws RX4 TX4 26
theorem nmX4 : ∀ a, a < 26 → ∀ b, b < 26 → a ≠ b → (TX4 a).2.1 ≠ (TX4 b).2.1 := by decide +kernel
theorem tyX4_ok : ∀ k, k < 26 → parseFieldDescriptor (TX4 k).2.2.1 = some (tyX4 k) := by decide +kernel
abbrev cX4_init : ByteArray := prog_6_method_1_code
def yX4_init : MethodName := ⟨RX4, "<init>", "()V"⟩
abbrev cX4_begins : ByteArray := prog_6_method_2_code
def yX4_begins : MethodName := ⟨RX4, "begins", "()V"⟩
abbrev cX4_erase : ByteArray := prog_6_method_3_code
def yX4_erase : MethodName := ⟨RX4, "erase", "(I)V"⟩
abbrev cX4_write : ByteArray := prog_6_method_4_code
def yX4_write : MethodName := ⟨RX4, "write", "(I[BI)V"⟩
abbrev cX4_unit : ByteArray := prog_6_method_5_code
def yX4_unit : MethodName := ⟨RX4, "unit", "(II)I"⟩
abbrev cX4_mark : ByteArray := prog_6_method_6_code
def yX4_mark : MethodName := ⟨RX4, "mark", "(III)V"⟩
abbrev cX4_magic : ByteArray := prog_6_method_7_code
def yX4_magic : MethodName := ⟨RX4, "magic", "(I)V"⟩
abbrev cX4_isBlank : ByteArray := prog_6_method_8_code
def yX4_isBlank : MethodName := ⟨RX4, "isBlank", "([BI)Z"⟩
abbrev cX4_copy : ByteArray := prog_6_method_9_code
def yX4_copy : MethodName := ⟨RX4, "copy", "(II)V"⟩
abbrev cX4_does : ByteArray := prog_6_method_10_code
def yX4_does : MethodName := ⟨RX4, "does", "()Z"⟩
abbrev cX4_act : ByteArray := prog_6_method_11_code
def yX4_act : MethodName := ⟨RX4, "act", "(I)V"⟩
abbrev cX4_set : ByteArray := prog_6_method_12_code
def yX4_set : MethodName := ⟨RX4, "set", "([BII)I"⟩
abbrev cX4_isSet : ByteArray := prog_6_method_13_code
def yX4_isSet : MethodName := ⟨RX4, "isSet", "([BII)Z"⟩
abbrev cX4_isMagic : ByteArray := prog_6_method_14_code
def yX4_isMagic : MethodName := ⟨RX4, "isMagic", "([BI)Z"⟩
abbrev cX4_intAt : ByteArray := prog_6_method_15_code
def yX4_intAt : MethodName := ⟨RX4, "intAt", "([BI)I"⟩
abbrev cX4_isRight : ByteArray := prog_6_method_16_code
def yX4_isRight : MethodName := ⟨RX4, "isRight", "(I)Z"⟩
abbrev cX4_due : ByteArray := prog_6_method_17_code
def yX4_due : MethodName := ⟨RX4, "due", "()I"⟩
abbrev cX4_turned : ByteArray := prog_6_method_18_code
def yX4_turned : MethodName := ⟨RX4, "turned", "(II)I"⟩
abbrev cX4_sha : ByteArray := prog_6_method_19_code
def yX4_sha : MethodName := ⟨RX4, "sha", "([BII)V"⟩
abbrev cX4_block : ByteArray := prog_6_method_20_code
def yX4_block : MethodName := ⟨RX4, "block", "(I)V"⟩
abbrev cX4_feed : ByteArray := prog_6_method_21_code
def yX4_feed : MethodName := ⟨RX4, "feed", "(IIIII)I"⟩
abbrev cX4_end : ByteArray := prog_6_method_22_code
def yX4_end : MethodName := ⟨RX4, "end", "(I)Z"⟩
abbrev cX4_taped : ByteArray := prog_6_method_23_code
def yX4_taped : MethodName := ⟨RX4, "taped", "()I"⟩
abbrev cX4_pack : ByteArray := prog_6_method_24_code
def yX4_pack : MethodName := ⟨RX4, "pack", "(I)I"⟩
abbrev cX4_install : ByteArray := prog_6_method_25_code
def yX4_install : MethodName := ⟨RX4, "install", "(I)I"⟩
abbrev cX4_request : ByteArray := prog_6_method_26_code
def yX4_request : MethodName := ⟨RX4, "request", "(Z)I"⟩
abbrev cX4_confirm : ByteArray := prog_6_method_27_code
def yX4_confirm : MethodName := ⟨RX4, "confirm", "()I"⟩
abbrev cX4_lists : ByteArray := prog_6_method_28_code
def yX4_lists : MethodName := ⟨RX4, "lists", "(I)V"⟩
abbrev cX4_boot : ByteArray := prog_6_method_29_code
def yX4_boot : MethodName := ⟨RX4, "boot", "()I"⟩
abbrev cX4_cut : ByteArray := prog_6_method_30_code
def yX4_cut : MethodName := ⟨RX4, "cut", "(II)Z"⟩
abbrev cX4_power : ByteArray := prog_6_method_31_code
def yX4_power : MethodName := ⟨RX4, "power", "()V"⟩
abbrev cX4_harm : ByteArray := prog_6_method_32_code
def yX4_harm : MethodName := ⟨RX4, "harm", "(II)Z"⟩
abbrev cX4_flash : ByteArray := prog_6_method_33_code
def yX4_flash : MethodName := ⟨RX4, "flash", "(I)I"⟩
abbrev cX4_image : ByteArray := prog_6_method_34_code
def yX4_image : MethodName := ⟨RX4, "image", "(II)I"⟩
abbrev cX4_trailer : ByteArray := prog_6_method_35_code
def yX4_trailer : MethodName := ⟨RX4, "trailer", "(II)I"⟩
abbrev cX4_wear : ByteArray := prog_6_method_36_code
def yX4_wear : MethodName := ⟨RX4, "wear", "(I)I"⟩
abbrev cX4_look : ByteArray := prog_6_method_37_code
def yX4_look : MethodName := ⟨RX4, "look", "(I)I"⟩
def RL : String := "ScratchSwapLaw"
abbrev cL_law : ByteArray := code
def yL_law : MethodName := ⟨RL, "law", "([I)Z"⟩
def wsX0_init : List Cond := .code yX0_init cX0_init 2 none :: ([.methodLink RX0 3 objectInit, .instanceMethod objectInit, .code objectInit ⟨#[0xb1]⟩ 1 none, .arrayClass .int, .fieldLink RX0 9 "ScratchSwap$Memory" "bytes" "[I", .fieldLink RX0 15 "ScratchSwap$Memory" "timesErased" "[I", .fieldLink RX0 18 "ScratchSwap$Memory" "unitTaken" "[I", .fieldLink RX0 21 "ScratchSwap$Memory" "down" "Z", .fieldLink RX0 25 "ScratchSwap$Memory" "toldToGo" "Z", .fieldLink RX0 28 "ScratchSwap$Memory" "actsLeft" "I", .fieldLink RX0 32 "ScratchSwap$Memory" "unitsCut" "I", .fieldLink RX0 35 "ScratchSwap$Memory" "actsDone" "I", .fieldLink RX0 38 "ScratchSwap$Memory" "timesGone" "I"] ++ wsX00)
def wsX0_has : List Cond := .code yX0_has cX0_has 1 (some .boolean) :: ([])
def wsX0_hasSector : List Cond := .code yX0_hasSector cX0_hasSector 1 (some .boolean) :: ([])
def wsX0_unitAt : List Cond := .code yX0_unitAt cX0_unitAt 2 (some .int) :: ([])
def wsX0_byteAt : List Cond := .code yX0_byteAt cX0_byteAt 2 (some .int) :: ([.fieldLink RX0 9 "ScratchSwap$Memory" "bytes" "[I"] ++ wsX00)
def wsX0_intAt : List Cond := .code yX0_intAt cX0_intAt 2 (some .int) :: ([.methodLink RX0 41 yX0_byteAt, .instanceMethod yX0_byteAt, .selects RX0 yX0_byteAt yX0_byteAt, .initialized RX0, .code yX0_byteAt cX0_byteAt 2 (some .int), .fieldLink RX0 9 "ScratchSwap$Memory" "bytes" "[I"] ++ wsX00)
def wsX0_keepBits : List Cond := .code yX0_keepBits cX0_keepBits 3 none :: ([.fieldLink RX0 9 "ScratchSwap$Memory" "bytes" "[I"] ++ wsX00)
def wsX0_tellToGo : List Cond := .code yX0_tellToGo cX0_tellToGo 3 none :: ([.fieldLink RX0 25 "ScratchSwap$Memory" "toldToGo" "Z", .fieldLink RX0 28 "ScratchSwap$Memory" "actsLeft" "I", .fieldLink RX0 32 "ScratchSwap$Memory" "unitsCut" "I"] ++ wsX00)
def wsX0_powerComes : List Cond := .code yX0_powerComes cX0_powerComes 1 none :: ([.fieldLink RX0 21 "ScratchSwap$Memory" "down" "Z", .fieldLink RX0 25 "ScratchSwap$Memory" "toldToGo" "Z"] ++ wsX00)
def wsX0_actsStillDone : List Cond := .code yX0_actsStillDone cX0_actsStillDone 1 (some .int) :: ([.fieldLink RX0 21 "ScratchSwap$Memory" "down" "Z", .fieldLink RX0 25 "ScratchSwap$Memory" "toldToGo" "Z", .fieldLink RX0 28 "ScratchSwap$Memory" "actsLeft" "I"] ++ wsX00)
def wsX0_beginAct : List Cond := .code yX0_beginAct cX0_beginAct 1 (some .boolean) :: ([.fieldLink RX0 21 "ScratchSwap$Memory" "down" "Z", .fieldLink RX0 25 "ScratchSwap$Memory" "toldToGo" "Z", .fieldLink RX0 28 "ScratchSwap$Memory" "actsLeft" "I", .fieldLink RX0 38 "ScratchSwap$Memory" "timesGone" "I", .fieldLink RX0 35 "ScratchSwap$Memory" "actsDone" "I"] ++ wsX00)
def wsX0_eraseSector : List Cond := .code yX0_eraseSector cX0_eraseSector 6 (some .boolean) :: ([.fieldLink RX0 21 "ScratchSwap$Memory" "down" "Z", .fieldLink RX0 15 "ScratchSwap$Memory" "timesErased" "[I", .fieldLink RX0 32 "ScratchSwap$Memory" "unitsCut" "I", .fieldLink RX0 9 "ScratchSwap$Memory" "bytes" "[I", .methodLink RX0 45 yX0_hasSector, .static yX0_hasSector, .initialized RX0, .code yX0_hasSector cX0_hasSector 1 (some .boolean), .methodLink RX0 49 yX0_beginAct, .instanceMethod yX0_beginAct, .selects RX0 yX0_beginAct yX0_beginAct, .code yX0_beginAct cX0_beginAct 1 (some .boolean), .fieldLink RX0 25 "ScratchSwap$Memory" "toldToGo" "Z", .fieldLink RX0 28 "ScratchSwap$Memory" "actsLeft" "I", .fieldLink RX0 38 "ScratchSwap$Memory" "timesGone" "I", .fieldLink RX0 35 "ScratchSwap$Memory" "actsDone" "I", .methodLink RX0 53 yX0_has, .static yX0_has, .code yX0_has cX0_has 1 (some .boolean)] ++ wsX00)
def wsX0_isBlankWhenTaken : List Cond := .code yX0_isBlankWhenTaken cX0_isBlankWhenTaken 8 (some .boolean) :: ([.fieldLink RX0 18 "ScratchSwap$Memory" "unitTaken" "[I"] ++ wsX00)
def wsX0_writeUnit : List Cond := .code yX0_writeUnit cX0_writeUnit 6 (some .boolean) :: ([.fieldLink RX0 18 "ScratchSwap$Memory" "unitTaken" "[I", .methodLink RX0 67 yX0_isBlankWhenTaken, .instanceMethod yX0_isBlankWhenTaken, .selects RX0 yX0_isBlankWhenTaken yX0_isBlankWhenTaken, .initialized RX0, .code yX0_isBlankWhenTaken cX0_isBlankWhenTaken 8 (some .boolean), .methodLink RX0 49 yX0_beginAct, .instanceMethod yX0_beginAct, .selects RX0 yX0_beginAct yX0_beginAct, .code yX0_beginAct cX0_beginAct 1 (some .boolean), .fieldLink RX0 21 "ScratchSwap$Memory" "down" "Z", .fieldLink RX0 25 "ScratchSwap$Memory" "toldToGo" "Z", .fieldLink RX0 28 "ScratchSwap$Memory" "actsLeft" "I", .fieldLink RX0 38 "ScratchSwap$Memory" "timesGone" "I", .fieldLink RX0 35 "ScratchSwap$Memory" "actsDone" "I", .methodLink RX0 71 yX0_keepBits, .instanceMethod yX0_keepBits, .selects RX0 yX0_keepBits yX0_keepBits, .code yX0_keepBits cX0_keepBits 3 none, .fieldLink RX0 9 "ScratchSwap$Memory" "bytes" "[I"] ++ wsX00)
def wsX0_replaceSector_r1 : List Cond := [Cond.fieldLink RX0 9 "ScratchSwap$Memory" "bytes" "[I", Cond.methodLink RX0 56 yX0_eraseSector, Cond.instanceMethod yX0_eraseSector, Cond.selects RX0 yX0_eraseSector yX0_eraseSector, Cond.initialized RX0, Cond.code yX0_eraseSector cX0_eraseSector 6 (some .boolean), Cond.fieldLink RX0 21 "ScratchSwap$Memory" "down" "Z", Cond.fieldLink RX0 15 "ScratchSwap$Memory" "timesErased" "[I", Cond.fieldLink RX0 32 "ScratchSwap$Memory" "unitsCut" "I", Cond.methodLink RX0 45 yX0_hasSector, Cond.static yX0_hasSector, Cond.code yX0_hasSector cX0_hasSector 1 (some .boolean), Cond.methodLink RX0 49 yX0_beginAct, Cond.instanceMethod yX0_beginAct, Cond.selects RX0 yX0_beginAct yX0_beginAct, Cond.code yX0_beginAct cX0_beginAct 1 (some .boolean), Cond.fieldLink RX0 25 "ScratchSwap$Memory" "toldToGo" "Z", Cond.fieldLink RX0 28 "ScratchSwap$Memory" "actsLeft" "I", Cond.fieldLink RX0 38 "ScratchSwap$Memory" "timesGone" "I", Cond.fieldLink RX0 35 "ScratchSwap$Memory" "actsDone" "I", Cond.methodLink RX0 53 yX0_has, Cond.static yX0_has, Cond.code yX0_has cX0_has 1 (some .boolean), Cond.methodLink RX0 59 yX0_unitAt]
def wsX0_replaceSector_r2 : List Cond := [Cond.static yX0_unitAt, Cond.code yX0_unitAt cX0_unitAt 2 (some .int), Cond.methodLink RX0 63 yX0_writeUnit, Cond.instanceMethod yX0_writeUnit, Cond.selects RX0 yX0_writeUnit yX0_writeUnit, Cond.code yX0_writeUnit cX0_writeUnit 6 (some .boolean), Cond.fieldLink RX0 18 "ScratchSwap$Memory" "unitTaken" "[I", Cond.methodLink RX0 67 yX0_isBlankWhenTaken, Cond.instanceMethod yX0_isBlankWhenTaken, Cond.selects RX0 yX0_isBlankWhenTaken yX0_isBlankWhenTaken, Cond.code yX0_isBlankWhenTaken cX0_isBlankWhenTaken 8 (some .boolean), Cond.methodLink RX0 71 yX0_keepBits, Cond.instanceMethod yX0_keepBits, Cond.selects RX0 yX0_keepBits yX0_keepBits, Cond.code yX0_keepBits cX0_keepBits 3 none]
def wsX0_replaceSector : List Cond := .code yX0_replaceSector cX0_replaceSector 4 (some .boolean) :: ((wsX0_replaceSector_r1 ++ wsX0_replaceSector_r2) ++ wsX00)
def wsX0_writeRow : List Cond := .code yX0_writeRow cX0_writeRow 5 (some .boolean) :: ([.methodLink RX0 63 yX0_writeUnit, .instanceMethod yX0_writeUnit, .selects RX0 yX0_writeUnit yX0_writeUnit, .initialized RX0, .code yX0_writeUnit cX0_writeUnit 6 (some .boolean), .fieldLink RX0 18 "ScratchSwap$Memory" "unitTaken" "[I", .methodLink RX0 67 yX0_isBlankWhenTaken, .instanceMethod yX0_isBlankWhenTaken, .selects RX0 yX0_isBlankWhenTaken yX0_isBlankWhenTaken, .code yX0_isBlankWhenTaken cX0_isBlankWhenTaken 8 (some .boolean), .methodLink RX0 49 yX0_beginAct, .instanceMethod yX0_beginAct, .selects RX0 yX0_beginAct yX0_beginAct, .code yX0_beginAct cX0_beginAct 1 (some .boolean), .fieldLink RX0 21 "ScratchSwap$Memory" "down" "Z", .fieldLink RX0 25 "ScratchSwap$Memory" "toldToGo" "Z", .fieldLink RX0 28 "ScratchSwap$Memory" "actsLeft" "I", .fieldLink RX0 38 "ScratchSwap$Memory" "timesGone" "I", .fieldLink RX0 35 "ScratchSwap$Memory" "actsDone" "I", .methodLink RX0 71 yX0_keepBits, .instanceMethod yX0_keepBits, .selects RX0 yX0_keepBits yX0_keepBits, .code yX0_keepBits cX0_keepBits 3 none, .fieldLink RX0 9 "ScratchSwap$Memory" "bytes" "[I"] ++ wsX00)
def wsX0_markUnit : List Cond := .code yX0_markUnit cX0_markUnit 6 (some .boolean) :: ([.methodLink RX0 49 yX0_beginAct, .instanceMethod yX0_beginAct, .selects RX0 yX0_beginAct yX0_beginAct, .initialized RX0, .code yX0_beginAct cX0_beginAct 1 (some .boolean), .fieldLink RX0 21 "ScratchSwap$Memory" "down" "Z", .fieldLink RX0 25 "ScratchSwap$Memory" "toldToGo" "Z", .fieldLink RX0 28 "ScratchSwap$Memory" "actsLeft" "I", .fieldLink RX0 38 "ScratchSwap$Memory" "timesGone" "I", .fieldLink RX0 35 "ScratchSwap$Memory" "actsDone" "I", .methodLink RX0 59 yX0_unitAt, .static yX0_unitAt, .code yX0_unitAt cX0_unitAt 2 (some .int), .methodLink RX0 71 yX0_keepBits, .instanceMethod yX0_keepBits, .selects RX0 yX0_keepBits yX0_keepBits, .code yX0_keepBits cX0_keepBits 3 none, .fieldLink RX0 9 "ScratchSwap$Memory" "bytes" "[I"] ++ wsX00)
def wsX0_markIn : List Cond := .code yX0_markIn cX0_markIn 6 (some .int) :: ([.methodLink RX0 59 yX0_unitAt, .static yX0_unitAt, .initialized RX0, .code yX0_unitAt cX0_unitAt 2 (some .int), .methodLink RX0 41 yX0_byteAt, .instanceMethod yX0_byteAt, .selects RX0 yX0_byteAt yX0_byteAt, .code yX0_byteAt cX0_byteAt 2 (some .int), .fieldLink RX0 9 "ScratchSwap$Memory" "bytes" "[I"] ++ wsX00)
def wsX0_hasMagic : List Cond := .code yX0_hasMagic cX0_hasMagic 4 (some .boolean) :: ([.methodLink RX0 59 yX0_unitAt, .static yX0_unitAt, .initialized RX0, .code yX0_unitAt cX0_unitAt 2 (some .int), .methodLink RX0 41 yX0_byteAt, .instanceMethod yX0_byteAt, .selects RX0 yX0_byteAt yX0_byteAt, .code yX0_byteAt cX0_byteAt 2 (some .int), .fieldLink RX0 9 "ScratchSwap$Memory" "bytes" "[I"] ++ wsX00)
def wsX1_init : List Cond := .code yX1_init cX1_init 1 none :: ([.methodLink RX1 3 objectInit, .instanceMethod objectInit, .code objectInit ⟨#[0xb1]⟩ 1 none, .arrayClass .int, .fieldLink RX1 11 "ScratchSwap$Sha256" "schedule" "[I", .fieldLink RX1 15 "ScratchSwap$Sha256" "hash" "[I"] ++ wsX10)
def wsX1_paddedByte : List Cond := .code yX1_paddedByte cX1_paddedByte 5 (some .int) :: ([])
def wsX1_paddedWord : List Cond := .code yX1_paddedWord cX1_paddedWord 6 (some .int) :: ([.methodLink RX1 31 yX1_paddedByte, .static yX1_paddedByte, .initialized RX1, .code yX1_paddedByte cX1_paddedByte 5 (some .int)])
def wsX1_turn : List Cond := .code yX1_turn cX1_turn 2 (some .int) :: ([])
def wsX1_stretchSchedule : List Cond := .code yX1_stretchSchedule cX1_stretchSchedule 6 none :: ([.fieldLink RX1 11 "ScratchSwap$Sha256" "schedule" "[I", .methodLink RX1 34 yX1_turn, .static yX1_turn, .initialized RX1, .code yX1_turn cX1_turn 2 (some .int)] ++ wsX10)
def wsX1_mixBlock : List Cond := .code yX1_mixBlock cX1_mixBlock 14 none :: ([.fieldLink RX1 15 "ScratchSwap$Sha256" "hash" "[I", .fieldLink RX1 38 "ScratchSwap$Sha256" "ROUND_WORDS" "[I", .fieldLink RX1 11 "ScratchSwap$Sha256" "schedule" "[I", .methodLink RX1 34 yX1_turn, .static yX1_turn, .initialized RX1, .code yX1_turn cX1_turn 2 (some .int)] ++ wsX10)
def wsX1_digest : List Cond := .code yX1_digest cX1_digest 7 none :: ([.fieldLink RX1 15 "ScratchSwap$Sha256" "hash" "[I", .fieldLink RX1 18 "ScratchSwap$Sha256" "FIRST_WORDS" "[I", .fieldLink RX1 11 "ScratchSwap$Sha256" "schedule" "[I", .methodLink RX1 21 yX1_paddedWord, .static yX1_paddedWord, .initialized RX1, .code yX1_paddedWord cX1_paddedWord 6 (some .int), .methodLink RX1 31 yX1_paddedByte, .static yX1_paddedByte, .code yX1_paddedByte cX1_paddedByte 5 (some .int), .methodLink RX1 25 yX1_stretchSchedule, .instanceMethod yX1_stretchSchedule, .selects RX1 yX1_stretchSchedule yX1_stretchSchedule, .code yX1_stretchSchedule cX1_stretchSchedule 6 none, .methodLink RX1 34 yX1_turn, .static yX1_turn, .code yX1_turn cX1_turn 2 (some .int), .methodLink RX1 28 yX1_mixBlock, .instanceMethod yX1_mixBlock, .selects RX1 yX1_mixBlock yX1_mixBlock, .code yX1_mixBlock cX1_mixBlock 14 none, .fieldLink RX1 38 "ScratchSwap$Sha256" "ROUND_WORDS" "[I"] ++ wsX10)
def wsX1_digestByte : List Cond := .code yX1_digestByte cX1_digestByte 2 (some .int) :: ([.fieldLink RX1 15 "ScratchSwap$Sha256" "hash" "[I"] ++ wsX10)
def wsX2_init : List Cond := .code yX2_init cX2_init 1 none :: ([.methodLink RX2 3 objectInit, .instanceMethod objectInit, .code objectInit ⟨#[0xb1]⟩ 1 none, .arrayClass .int, .fieldLink RX2 9 "ScratchSwap$Tape" "bytes" "[I", .fieldLink RX2 15 "ScratchSwap$Tape" "count" "I"] ++ wsX20)
def wsX2_add : List Cond := .code yX2_add cX2_add 2 none :: ([.fieldLink RX2 15 "ScratchSwap$Tape" "count" "I", .fieldLink RX2 9 "ScratchSwap$Tape" "bytes" "[I"] ++ wsX20)
def wsX2_addHighestFirst : List Cond := .code yX2_addHighestFirst cX2_addHighestFirst 2 none :: ([.methodLink RX2 19 yX2_add, .instanceMethod yX2_add, .selects RX2 yX2_add yX2_add, .initialized RX2, .code yX2_add cX2_add 2 none, .fieldLink RX2 15 "ScratchSwap$Tape" "count" "I", .fieldLink RX2 9 "ScratchSwap$Tape" "bytes" "[I"] ++ wsX20)
def wsX2_addLowestFirst : List Cond := .code yX2_addLowestFirst cX2_addLowestFirst 2 none :: ([.methodLink RX2 19 yX2_add, .instanceMethod yX2_add, .selects RX2 yX2_add yX2_add, .initialized RX2, .code yX2_add cX2_add 2 none, .fieldLink RX2 15 "ScratchSwap$Tape" "count" "I", .fieldLink RX2 9 "ScratchSwap$Tape" "bytes" "[I"] ++ wsX20)
def wsX2_becomeImage_r1 : List Cond := [Cond.fieldLink RX2 15 "ScratchSwap$Tape" "count" "I", Cond.fieldLink RX2 9 "ScratchSwap$Tape" "bytes" "[I", Cond.methodLink RX2 23 yX2_addLowestFirst, Cond.instanceMethod yX2_addLowestFirst, Cond.selects RX2 yX2_addLowestFirst yX2_addLowestFirst, Cond.initialized RX2, Cond.code yX2_addLowestFirst cX2_addLowestFirst 2 none, Cond.methodLink RX2 19 yX2_add, Cond.instanceMethod yX2_add, Cond.selects RX2 yX2_add yX2_add, Cond.code yX2_add cX2_add 2 none, Cond.instanceMethod yX1_digest, Cond.initialized RX1, Cond.selects RX1 yX1_digest yX1_digest, Cond.code yX1_digest cX1_digest 7 none, Cond.fieldLink RX1 15 "ScratchSwap$Sha256" "hash" "[I", Cond.fieldLink RX1 18 "ScratchSwap$Sha256" "FIRST_WORDS" "[I", Cond.fieldLink RX1 11 "ScratchSwap$Sha256" "schedule" "[I", Cond.methodLink RX1 21 yX1_paddedWord, Cond.static yX1_paddedWord, Cond.code yX1_paddedWord cX1_paddedWord 6 (some .int), Cond.methodLink RX1 31 yX1_paddedByte, Cond.static yX1_paddedByte, Cond.code yX1_paddedByte cX1_paddedByte 5 (some .int)]
def wsX2_becomeImage_r2 : List Cond := [Cond.methodLink RX1 25 yX1_stretchSchedule, Cond.instanceMethod yX1_stretchSchedule, Cond.selects RX1 yX1_stretchSchedule yX1_stretchSchedule, Cond.code yX1_stretchSchedule cX1_stretchSchedule 6 none, Cond.methodLink RX1 34 yX1_turn, Cond.static yX1_turn, Cond.code yX1_turn cX1_turn 2 (some .int), Cond.methodLink RX1 28 yX1_mixBlock, Cond.instanceMethod yX1_mixBlock, Cond.selects RX1 yX1_mixBlock yX1_mixBlock, Cond.code yX1_mixBlock cX1_mixBlock 14 none, Cond.fieldLink RX1 38 "ScratchSwap$Sha256" "ROUND_WORDS" "[I", Cond.instanceMethod yX1_digestByte, Cond.selects RX1 yX1_digestByte yX1_digestByte, Cond.code yX1_digestByte cX1_digestByte 2 (some .int)]
def wsX2_becomeImage : List Cond := .code yX2_becomeImage cX2_becomeImage 5 none :: ((wsX2_becomeImage_r1 ++ wsX2_becomeImage_r2) ++ wsX20 ++ wsX10)
def wsX3_init_r1 : List Cond := [Cond.methodLink RX3 3 objectInit, Cond.instanceMethod objectInit, Cond.code objectInit ⟨#[0xb1]⟩ 1 none, Cond.classLink RX3 9 RX0, Cond.instantiable RX0 9, Cond.initialized RX0, Cond.fieldLink RX3 12 "ScratchSwap" "memory" "LScratchSwap$Memory;", Cond.classLink RX3 16 RX2, Cond.instantiable RX2 2, Cond.initialized RX2, Cond.fieldLink RX3 19 "ScratchSwap" "tape" "LScratchSwap$Tape;", Cond.classLink RX3 23 RX1, Cond.instantiable RX1 2, Cond.initialized RX1, Cond.fieldLink RX3 26 "ScratchSwap" "sha" "LScratchSwap$Sha256;", Cond.fieldLink RX3 30 "ScratchSwap" "runs" "Z", Cond.fieldLink RX3 34 "ScratchSwap" "runningVersion" "I", Cond.fieldLink RX3 38 "ScratchSwap" "wholeBoots" "I", Cond.fieldLink RX3 41 "ScratchSwap" "exchangesEnded" "I", Cond.fieldLink RX3 44 "ScratchSwap" "wrongsErased" "I", Cond.instanceMethod yX0_init, Cond.code yX0_init cX0_init 2 none, Cond.methodLink RX0 3 objectInit, Cond.arrayClass .int]
def wsX3_init_r2 : List Cond := [Cond.fieldLink RX0 9 "ScratchSwap$Memory" "bytes" "[I", Cond.fieldLink RX0 15 "ScratchSwap$Memory" "timesErased" "[I", Cond.fieldLink RX0 18 "ScratchSwap$Memory" "unitTaken" "[I", Cond.fieldLink RX0 21 "ScratchSwap$Memory" "down" "Z", Cond.fieldLink RX0 25 "ScratchSwap$Memory" "toldToGo" "Z", Cond.fieldLink RX0 28 "ScratchSwap$Memory" "actsLeft" "I", Cond.fieldLink RX0 32 "ScratchSwap$Memory" "unitsCut" "I", Cond.fieldLink RX0 35 "ScratchSwap$Memory" "actsDone" "I", Cond.fieldLink RX0 38 "ScratchSwap$Memory" "timesGone" "I", Cond.instanceMethod yX2_init, Cond.code yX2_init cX2_init 1 none, Cond.methodLink RX2 3 objectInit, Cond.fieldLink RX2 9 "ScratchSwap$Tape" "bytes" "[I", Cond.fieldLink RX2 15 "ScratchSwap$Tape" "count" "I", Cond.instanceMethod yX1_init, Cond.code yX1_init cX1_init 1 none, Cond.methodLink RX1 3 objectInit, Cond.fieldLink RX1 11 "ScratchSwap$Sha256" "schedule" "[I", Cond.fieldLink RX1 15 "ScratchSwap$Sha256" "hash" "[I"]
def wsX3_init : List Cond := .code yX3_init cX3_init 1 none :: ((wsX3_init_r1 ++ wsX3_init_r2) ++ wsX00 ++ wsX30 ++ wsX20 ++ wsX10)
def wsX3_feed : List Cond := .code yX3_feed cX3_feed 6 (some .int) :: ([.fieldLink RX3 19 "ScratchSwap" "tape" "LScratchSwap$Tape;", .instanceMethod yX2_addHighestFirst, .initialized RX2, .selects RX2 yX2_addHighestFirst yX2_addHighestFirst, .code yX2_addHighestFirst cX2_addHighestFirst 2 none, .methodLink RX2 19 yX2_add, .instanceMethod yX2_add, .selects RX2 yX2_add yX2_add, .code yX2_add cX2_add 2 none, .fieldLink RX2 15 "ScratchSwap$Tape" "count" "I", .fieldLink RX2 9 "ScratchSwap$Tape" "bytes" "[I"] ++ wsX30 ++ wsX20)
def wsX3_end : List Cond := .code yX3_end cX3_end 2 (some .boolean) :: ([.fieldLink RX3 19 "ScratchSwap" "tape" "LScratchSwap$Tape;"] ++ wsX30 ++ wsX20)
def wsX3_taped : List Cond := .code yX3_taped cX3_taped 1 (some .int) :: ([.fieldLink RX3 19 "ScratchSwap" "tape" "LScratchSwap$Tape;"] ++ wsX30 ++ wsX20)
def wsX3_pack_r1 : List Cond := [Cond.fieldLink RX3 19 "ScratchSwap" "tape" "LScratchSwap$Tape;", Cond.fieldLink RX3 26 "ScratchSwap" "sha" "LScratchSwap$Sha256;", Cond.instanceMethod yX2_becomeImage, Cond.initialized RX2, Cond.selects RX2 yX2_becomeImage yX2_becomeImage, Cond.code yX2_becomeImage cX2_becomeImage 5 none, Cond.fieldLink RX2 15 "ScratchSwap$Tape" "count" "I", Cond.fieldLink RX2 9 "ScratchSwap$Tape" "bytes" "[I", Cond.methodLink RX2 23 yX2_addLowestFirst, Cond.instanceMethod yX2_addLowestFirst, Cond.selects RX2 yX2_addLowestFirst yX2_addLowestFirst, Cond.code yX2_addLowestFirst cX2_addLowestFirst 2 none, Cond.methodLink RX2 19 yX2_add, Cond.instanceMethod yX2_add, Cond.selects RX2 yX2_add yX2_add, Cond.code yX2_add cX2_add 2 none, Cond.instanceMethod yX1_digest, Cond.initialized RX1, Cond.selects RX1 yX1_digest yX1_digest, Cond.code yX1_digest cX1_digest 7 none, Cond.fieldLink RX1 15 "ScratchSwap$Sha256" "hash" "[I", Cond.fieldLink RX1 18 "ScratchSwap$Sha256" "FIRST_WORDS" "[I", Cond.fieldLink RX1 11 "ScratchSwap$Sha256" "schedule" "[I", Cond.methodLink RX1 21 yX1_paddedWord]
def wsX3_pack_r2 : List Cond := [Cond.static yX1_paddedWord, Cond.code yX1_paddedWord cX1_paddedWord 6 (some .int), Cond.methodLink RX1 31 yX1_paddedByte, Cond.static yX1_paddedByte, Cond.code yX1_paddedByte cX1_paddedByte 5 (some .int), Cond.methodLink RX1 25 yX1_stretchSchedule, Cond.instanceMethod yX1_stretchSchedule, Cond.selects RX1 yX1_stretchSchedule yX1_stretchSchedule, Cond.code yX1_stretchSchedule cX1_stretchSchedule 6 none, Cond.methodLink RX1 34 yX1_turn, Cond.static yX1_turn, Cond.code yX1_turn cX1_turn 2 (some .int), Cond.methodLink RX1 28 yX1_mixBlock, Cond.instanceMethod yX1_mixBlock, Cond.selects RX1 yX1_mixBlock yX1_mixBlock, Cond.code yX1_mixBlock cX1_mixBlock 14 none, Cond.fieldLink RX1 38 "ScratchSwap$Sha256" "ROUND_WORDS" "[I", Cond.instanceMethod yX1_digestByte, Cond.selects RX1 yX1_digestByte yX1_digestByte, Cond.code yX1_digestByte cX1_digestByte 2 (some .int)]
def wsX3_pack : List Cond := .code yX3_pack cX3_pack 2 (some .int) :: ((wsX3_pack_r1 ++ wsX3_pack_r2) ++ wsX30 ++ wsX20 ++ wsX10)
def wsX3_isSlot : List Cond := .code yX3_isSlot cX3_isSlot 1 (some .boolean) :: ([])
def wsX3_isMarked : List Cond := .code yX3_isMarked cX3_isMarked 3 (some .boolean) :: ([.fieldLink RX3 12 "ScratchSwap" "memory" "LScratchSwap$Memory;", .instanceMethod yX0_markIn, .initialized RX0, .selects RX0 yX0_markIn yX0_markIn, .code yX0_markIn cX0_markIn 6 (some .int), .methodLink RX0 59 yX0_unitAt, .static yX0_unitAt, .code yX0_unitAt cX0_unitAt 2 (some .int), .methodLink RX0 41 yX0_byteAt, .instanceMethod yX0_byteAt, .selects RX0 yX0_byteAt yX0_byteAt, .code yX0_byteAt cX0_byteAt 2 (some .int), .fieldLink RX0 9 "ScratchSwap$Memory" "bytes" "[I"] ++ wsX30 ++ wsX00)
def wsX3_isUnderWay : List Cond := .code yX3_isUnderWay cX3_isUnderWay 1 (some .boolean) :: ([.fieldLink RX3 12 "ScratchSwap" "memory" "LScratchSwap$Memory;", .instanceMethod yX0_markIn, .initialized RX0, .selects RX0 yX0_markIn yX0_markIn, .code yX0_markIn cX0_markIn 6 (some .int), .methodLink RX0 59 yX0_unitAt, .static yX0_unitAt, .code yX0_unitAt cX0_unitAt 2 (some .int), .methodLink RX0 41 yX0_byteAt, .instanceMethod yX0_byteAt, .selects RX0 yX0_byteAt yX0_byteAt, .code yX0_byteAt cX0_byteAt 2 (some .int), .fieldLink RX0 9 "ScratchSwap$Memory" "bytes" "[I", .methodLink RX3 98 yX3_isMarked, .instanceMethod yX3_isMarked, .selects RX3 yX3_isMarked yX3_isMarked, .initialized RX3, .code yX3_isMarked cX3_isMarked 3 (some .boolean)] ++ wsX30 ++ wsX00)
def wsX3_stopRunning : List Cond := .code yX3_stopRunning cX3_stopRunning 1 none :: ([.fieldLink RX3 30 "ScratchSwap" "runs" "Z", .fieldLink RX3 34 "ScratchSwap" "runningVersion" "I"] ++ wsX30)
def wsX3_firstSectorOf : List Cond := .code yX3_firstSectorOf cX3_firstSectorOf 1 (some .int) :: ([])
def wsX3_trailerOf : List Cond := .code yX3_trailerOf cX3_trailerOf 1 (some .int) :: ([])
def wsX3_eraseSlot_r1 : List Cond := [Cond.fieldLink RX3 12 "ScratchSwap" "memory" "LScratchSwap$Memory;", Cond.methodLink RX3 166 yX3_firstSectorOf, Cond.static yX3_firstSectorOf, Cond.initialized RX3, Cond.code yX3_firstSectorOf cX3_firstSectorOf 1 (some .int), Cond.instanceMethod yX0_eraseSector, Cond.initialized RX0, Cond.selects RX0 yX0_eraseSector yX0_eraseSector, Cond.code yX0_eraseSector cX0_eraseSector 6 (some .boolean), Cond.fieldLink RX0 21 "ScratchSwap$Memory" "down" "Z", Cond.fieldLink RX0 15 "ScratchSwap$Memory" "timesErased" "[I", Cond.fieldLink RX0 32 "ScratchSwap$Memory" "unitsCut" "I", Cond.fieldLink RX0 9 "ScratchSwap$Memory" "bytes" "[I", Cond.methodLink RX0 45 yX0_hasSector, Cond.static yX0_hasSector, Cond.code yX0_hasSector cX0_hasSector 1 (some .boolean), Cond.methodLink RX0 49 yX0_beginAct, Cond.instanceMethod yX0_beginAct, Cond.selects RX0 yX0_beginAct yX0_beginAct, Cond.code yX0_beginAct cX0_beginAct 1 (some .boolean), Cond.fieldLink RX0 25 "ScratchSwap$Memory" "toldToGo" "Z", Cond.fieldLink RX0 28 "ScratchSwap$Memory" "actsLeft" "I", Cond.fieldLink RX0 38 "ScratchSwap$Memory" "timesGone" "I", Cond.fieldLink RX0 35 "ScratchSwap$Memory" "actsDone" "I"]
def wsX3_eraseSlot_r2 : List Cond := [Cond.methodLink RX0 53 yX0_has, Cond.static yX0_has, Cond.code yX0_has cX0_has 1 (some .boolean), Cond.methodLink RX3 137 yX3_trailerOf, Cond.static yX3_trailerOf, Cond.code yX3_trailerOf cX3_trailerOf 1 (some .int)]
def wsX3_eraseSlot : List Cond := .code yX3_eraseSlot cX3_eraseSlot 4 (some .boolean) :: ((wsX3_eraseSlot_r1 ++ wsX3_eraseSlot_r2) ++ wsX30 ++ wsX00)
def wsX3_firstByteOf : List Cond := .code yX3_firstByteOf cX3_firstByteOf 1 (some .int) :: ([.methodLink RX3 166 yX3_firstSectorOf, .static yX3_firstSectorOf, .initialized RX3, .code yX3_firstSectorOf cX3_firstSectorOf 1 (some .int)])
def wsX3_powerWent : List Cond := .code yX3_powerWent cX3_powerWent 1 (some .int) :: ([.methodLink RX3 69 yX3_stopRunning, .instanceMethod yX3_stopRunning, .selects RX3 yX3_stopRunning yX3_stopRunning, .initialized RX3, .code yX3_stopRunning cX3_stopRunning 1 none, .fieldLink RX3 30 "ScratchSwap" "runs" "Z", .fieldLink RX3 34 "ScratchSwap" "runningVersion" "I"] ++ wsX30)
def wsX3_install_r1 : List Cond := [Cond.fieldLink RX3 19 "ScratchSwap" "tape" "LScratchSwap$Tape;", Cond.fieldLink RX3 12 "ScratchSwap" "memory" "LScratchSwap$Memory;", Cond.methodLink RX3 61 yX3_isSlot, Cond.static yX3_isSlot, Cond.initialized RX3, Cond.code yX3_isSlot cX3_isSlot 1 (some .boolean), Cond.methodLink RX3 65 yX3_isUnderWay, Cond.instanceMethod yX3_isUnderWay, Cond.selects RX3 yX3_isUnderWay yX3_isUnderWay, Cond.code yX3_isUnderWay cX3_isUnderWay 1 (some .boolean), Cond.instanceMethod yX0_markIn, Cond.initialized RX0, Cond.selects RX0 yX0_markIn yX0_markIn, Cond.code yX0_markIn cX0_markIn 6 (some .int), Cond.methodLink RX0 59 yX0_unitAt, Cond.static yX0_unitAt, Cond.code yX0_unitAt cX0_unitAt 2 (some .int), Cond.methodLink RX0 41 yX0_byteAt, Cond.instanceMethod yX0_byteAt, Cond.selects RX0 yX0_byteAt yX0_byteAt, Cond.code yX0_byteAt cX0_byteAt 2 (some .int), Cond.fieldLink RX0 9 "ScratchSwap$Memory" "bytes" "[I", Cond.methodLink RX3 98 yX3_isMarked, Cond.instanceMethod yX3_isMarked]
def wsX3_install_r2 : List Cond := [Cond.selects RX3 yX3_isMarked yX3_isMarked, Cond.code yX3_isMarked cX3_isMarked 3 (some .boolean), Cond.methodLink RX3 69 yX3_stopRunning, Cond.instanceMethod yX3_stopRunning, Cond.selects RX3 yX3_stopRunning yX3_stopRunning, Cond.code yX3_stopRunning cX3_stopRunning 1 none, Cond.fieldLink RX3 30 "ScratchSwap" "runs" "Z", Cond.fieldLink RX3 34 "ScratchSwap" "runningVersion" "I", Cond.methodLink RX3 72 yX3_eraseSlot, Cond.instanceMethod yX3_eraseSlot, Cond.selects RX3 yX3_eraseSlot yX3_eraseSlot, Cond.code yX3_eraseSlot cX3_eraseSlot 4 (some .boolean), Cond.methodLink RX3 166 yX3_firstSectorOf, Cond.static yX3_firstSectorOf, Cond.code yX3_firstSectorOf cX3_firstSectorOf 1 (some .int), Cond.instanceMethod yX0_eraseSector, Cond.selects RX0 yX0_eraseSector yX0_eraseSector, Cond.code yX0_eraseSector cX0_eraseSector 6 (some .boolean), Cond.fieldLink RX0 21 "ScratchSwap$Memory" "down" "Z", Cond.fieldLink RX0 15 "ScratchSwap$Memory" "timesErased" "[I", Cond.fieldLink RX0 32 "ScratchSwap$Memory" "unitsCut" "I", Cond.methodLink RX0 45 yX0_hasSector, Cond.static yX0_hasSector, Cond.code yX0_hasSector cX0_hasSector 1 (some .boolean)]
def wsX3_install_r3 : List Cond := [Cond.methodLink RX0 49 yX0_beginAct, Cond.instanceMethod yX0_beginAct, Cond.selects RX0 yX0_beginAct yX0_beginAct, Cond.code yX0_beginAct cX0_beginAct 1 (some .boolean), Cond.fieldLink RX0 25 "ScratchSwap$Memory" "toldToGo" "Z", Cond.fieldLink RX0 28 "ScratchSwap$Memory" "actsLeft" "I", Cond.fieldLink RX0 38 "ScratchSwap$Memory" "timesGone" "I", Cond.fieldLink RX0 35 "ScratchSwap$Memory" "actsDone" "I", Cond.methodLink RX0 53 yX0_has, Cond.static yX0_has, Cond.code yX0_has cX0_has 1 (some .boolean), Cond.methodLink RX3 137 yX3_trailerOf, Cond.static yX3_trailerOf, Cond.code yX3_trailerOf cX3_trailerOf 1 (some .int), Cond.methodLink RX3 75 yX3_firstByteOf, Cond.static yX3_firstByteOf, Cond.code yX3_firstByteOf cX3_firstByteOf 1 (some .int), Cond.instanceMethod yX0_writeRow, Cond.selects RX0 yX0_writeRow yX0_writeRow, Cond.code yX0_writeRow cX0_writeRow 5 (some .boolean), Cond.methodLink RX0 63 yX0_writeUnit, Cond.instanceMethod yX0_writeUnit, Cond.selects RX0 yX0_writeUnit yX0_writeUnit, Cond.code yX0_writeUnit cX0_writeUnit 6 (some .boolean)]
def wsX3_install_r4 : List Cond := [Cond.fieldLink RX0 18 "ScratchSwap$Memory" "unitTaken" "[I", Cond.methodLink RX0 67 yX0_isBlankWhenTaken, Cond.instanceMethod yX0_isBlankWhenTaken, Cond.selects RX0 yX0_isBlankWhenTaken yX0_isBlankWhenTaken, Cond.code yX0_isBlankWhenTaken cX0_isBlankWhenTaken 8 (some .boolean), Cond.methodLink RX0 71 yX0_keepBits, Cond.instanceMethod yX0_keepBits, Cond.selects RX0 yX0_keepBits yX0_keepBits, Cond.code yX0_keepBits cX0_keepBits 3 none, Cond.methodLink RX3 87 yX3_powerWent, Cond.instanceMethod yX3_powerWent, Cond.selects RX3 yX3_powerWent yX3_powerWent, Cond.code yX3_powerWent cX3_powerWent 1 (some .int)]
def wsX3_install : List Cond := .code yX3_install cX3_install 3 (some .int) :: ((wsX3_install_r1 ++ (wsX3_install_r2 ++ (wsX3_install_r3 ++ wsX3_install_r4))) ++ wsX30 ++ wsX20 ++ wsX00)
def wsX3_writeMagic_r1 : List Cond := [Cond.fieldLink RX3 12 "ScratchSwap" "memory" "LScratchSwap$Memory;", Cond.fieldLink RX3 183 "ScratchSwap" "MAGIC" "[I", Cond.static yX0_unitAt, Cond.initialized RX0, Cond.code yX0_unitAt cX0_unitAt 2 (some .int), Cond.instanceMethod yX0_writeRow, Cond.selects RX0 yX0_writeRow yX0_writeRow, Cond.code yX0_writeRow cX0_writeRow 5 (some .boolean), Cond.methodLink RX0 63 yX0_writeUnit, Cond.instanceMethod yX0_writeUnit, Cond.selects RX0 yX0_writeUnit yX0_writeUnit, Cond.code yX0_writeUnit cX0_writeUnit 6 (some .boolean), Cond.fieldLink RX0 18 "ScratchSwap$Memory" "unitTaken" "[I", Cond.methodLink RX0 67 yX0_isBlankWhenTaken, Cond.instanceMethod yX0_isBlankWhenTaken, Cond.selects RX0 yX0_isBlankWhenTaken yX0_isBlankWhenTaken, Cond.code yX0_isBlankWhenTaken cX0_isBlankWhenTaken 8 (some .boolean), Cond.methodLink RX0 49 yX0_beginAct, Cond.instanceMethod yX0_beginAct, Cond.selects RX0 yX0_beginAct yX0_beginAct, Cond.code yX0_beginAct cX0_beginAct 1 (some .boolean), Cond.fieldLink RX0 21 "ScratchSwap$Memory" "down" "Z", Cond.fieldLink RX0 25 "ScratchSwap$Memory" "toldToGo" "Z", Cond.fieldLink RX0 28 "ScratchSwap$Memory" "actsLeft" "I"]
def wsX3_writeMagic_r2 : List Cond := [Cond.fieldLink RX0 38 "ScratchSwap$Memory" "timesGone" "I", Cond.fieldLink RX0 35 "ScratchSwap$Memory" "actsDone" "I", Cond.methodLink RX0 71 yX0_keepBits, Cond.instanceMethod yX0_keepBits, Cond.selects RX0 yX0_keepBits yX0_keepBits, Cond.code yX0_keepBits cX0_keepBits 3 none, Cond.fieldLink RX0 9 "ScratchSwap$Memory" "bytes" "[I"]
def wsX3_writeMagic : List Cond := .code yX3_writeMagic cX3_writeMagic 2 (some .boolean) :: ((wsX3_writeMagic_r1 ++ wsX3_writeMagic_r2) ++ wsX30 ++ wsX00)
def wsX3_request_r1 : List Cond := [Cond.fieldLink RX3 12 "ScratchSwap" "memory" "LScratchSwap$Memory;", Cond.fieldLink RX3 30 "ScratchSwap" "runs" "Z", Cond.instanceMethod yX0_markUnit, Cond.initialized RX0, Cond.selects RX0 yX0_markUnit yX0_markUnit, Cond.code yX0_markUnit cX0_markUnit 6 (some .boolean), Cond.methodLink RX0 49 yX0_beginAct, Cond.instanceMethod yX0_beginAct, Cond.selects RX0 yX0_beginAct yX0_beginAct, Cond.code yX0_beginAct cX0_beginAct 1 (some .boolean), Cond.fieldLink RX0 21 "ScratchSwap$Memory" "down" "Z", Cond.fieldLink RX0 25 "ScratchSwap$Memory" "toldToGo" "Z", Cond.fieldLink RX0 28 "ScratchSwap$Memory" "actsLeft" "I", Cond.fieldLink RX0 38 "ScratchSwap$Memory" "timesGone" "I", Cond.fieldLink RX0 35 "ScratchSwap$Memory" "actsDone" "I", Cond.methodLink RX0 59 yX0_unitAt, Cond.static yX0_unitAt, Cond.code yX0_unitAt cX0_unitAt 2 (some .int), Cond.methodLink RX0 71 yX0_keepBits, Cond.instanceMethod yX0_keepBits, Cond.selects RX0 yX0_keepBits yX0_keepBits, Cond.code yX0_keepBits cX0_keepBits 3 none, Cond.fieldLink RX0 9 "ScratchSwap$Memory" "bytes" "[I", Cond.methodLink RX3 87 yX3_powerWent]
def wsX3_request_r2 : List Cond := [Cond.instanceMethod yX3_powerWent, Cond.selects RX3 yX3_powerWent yX3_powerWent, Cond.initialized RX3, Cond.code yX3_powerWent cX3_powerWent 1 (some .int), Cond.methodLink RX3 69 yX3_stopRunning, Cond.instanceMethod yX3_stopRunning, Cond.selects RX3 yX3_stopRunning yX3_stopRunning, Cond.code yX3_stopRunning cX3_stopRunning 1 none, Cond.fieldLink RX3 34 "ScratchSwap" "runningVersion" "I", Cond.methodLink RX3 95 yX3_writeMagic, Cond.instanceMethod yX3_writeMagic, Cond.selects RX3 yX3_writeMagic yX3_writeMagic, Cond.code yX3_writeMagic cX3_writeMagic 2 (some .boolean), Cond.fieldLink RX3 183 "ScratchSwap" "MAGIC" "[I", Cond.instanceMethod yX0_writeRow, Cond.selects RX0 yX0_writeRow yX0_writeRow, Cond.code yX0_writeRow cX0_writeRow 5 (some .boolean), Cond.methodLink RX0 63 yX0_writeUnit, Cond.instanceMethod yX0_writeUnit, Cond.selects RX0 yX0_writeUnit yX0_writeUnit, Cond.code yX0_writeUnit cX0_writeUnit 6 (some .boolean), Cond.fieldLink RX0 18 "ScratchSwap$Memory" "unitTaken" "[I", Cond.methodLink RX0 67 yX0_isBlankWhenTaken, Cond.instanceMethod yX0_isBlankWhenTaken]
def wsX3_request_r3 : List Cond := [Cond.selects RX0 yX0_isBlankWhenTaken yX0_isBlankWhenTaken, Cond.code yX0_isBlankWhenTaken cX0_isBlankWhenTaken 8 (some .boolean)]
def wsX3_request : List Cond := .code yX3_request cX3_request 2 (some .int) :: ((wsX3_request_r1 ++ (wsX3_request_r2 ++ wsX3_request_r3)) ++ wsX30 ++ wsX00)
def wsX3_confirm_r1 : List Cond := [Cond.fieldLink RX3 12 "ScratchSwap" "memory" "LScratchSwap$Memory;", Cond.fieldLink RX3 30 "ScratchSwap" "runs" "Z", Cond.methodLink RX3 98 yX3_isMarked, Cond.instanceMethod yX3_isMarked, Cond.selects RX3 yX3_isMarked yX3_isMarked, Cond.initialized RX3, Cond.code yX3_isMarked cX3_isMarked 3 (some .boolean), Cond.instanceMethod yX0_markIn, Cond.initialized RX0, Cond.selects RX0 yX0_markIn yX0_markIn, Cond.code yX0_markIn cX0_markIn 6 (some .int), Cond.methodLink RX0 59 yX0_unitAt, Cond.static yX0_unitAt, Cond.code yX0_unitAt cX0_unitAt 2 (some .int), Cond.methodLink RX0 41 yX0_byteAt, Cond.instanceMethod yX0_byteAt, Cond.selects RX0 yX0_byteAt yX0_byteAt, Cond.code yX0_byteAt cX0_byteAt 2 (some .int), Cond.fieldLink RX0 9 "ScratchSwap$Memory" "bytes" "[I", Cond.instanceMethod yX0_hasMagic, Cond.selects RX0 yX0_hasMagic yX0_hasMagic, Cond.code yX0_hasMagic cX0_hasMagic 4 (some .boolean), Cond.instanceMethod yX0_markUnit, Cond.selects RX0 yX0_markUnit yX0_markUnit]
def wsX3_confirm_r2 : List Cond := [Cond.code yX0_markUnit cX0_markUnit 6 (some .boolean), Cond.methodLink RX0 49 yX0_beginAct, Cond.instanceMethod yX0_beginAct, Cond.selects RX0 yX0_beginAct yX0_beginAct, Cond.code yX0_beginAct cX0_beginAct 1 (some .boolean), Cond.fieldLink RX0 21 "ScratchSwap$Memory" "down" "Z", Cond.fieldLink RX0 25 "ScratchSwap$Memory" "toldToGo" "Z", Cond.fieldLink RX0 28 "ScratchSwap$Memory" "actsLeft" "I", Cond.fieldLink RX0 38 "ScratchSwap$Memory" "timesGone" "I", Cond.fieldLink RX0 35 "ScratchSwap$Memory" "actsDone" "I", Cond.methodLink RX0 71 yX0_keepBits, Cond.instanceMethod yX0_keepBits, Cond.selects RX0 yX0_keepBits yX0_keepBits, Cond.code yX0_keepBits cX0_keepBits 3 none, Cond.methodLink RX3 87 yX3_powerWent, Cond.instanceMethod yX3_powerWent, Cond.selects RX3 yX3_powerWent yX3_powerWent, Cond.code yX3_powerWent cX3_powerWent 1 (some .int), Cond.methodLink RX3 69 yX3_stopRunning, Cond.instanceMethod yX3_stopRunning, Cond.selects RX3 yX3_stopRunning yX3_stopRunning, Cond.code yX3_stopRunning cX3_stopRunning 1 none, Cond.fieldLink RX3 34 "ScratchSwap" "runningVersion" "I"]
def wsX3_confirm : List Cond := .code yX3_confirm cX3_confirm 1 (some .int) :: ((wsX3_confirm_r1 ++ wsX3_confirm_r2) ++ wsX30 ++ wsX00)
def wsX3_kindAskedFor : List Cond := .code yX3_kindAskedFor cX3_kindAskedFor 2 (some .int) :: ([.fieldLink RX3 12 "ScratchSwap" "memory" "LScratchSwap$Memory;", .instanceMethod yX0_markIn, .initialized RX0, .selects RX0 yX0_markIn yX0_markIn, .code yX0_markIn cX0_markIn 6 (some .int), .methodLink RX0 59 yX0_unitAt, .static yX0_unitAt, .code yX0_unitAt cX0_unitAt 2 (some .int), .methodLink RX0 41 yX0_byteAt, .instanceMethod yX0_byteAt, .selects RX0 yX0_byteAt yX0_byteAt, .code yX0_byteAt cX0_byteAt 2 (some .int), .fieldLink RX0 9 "ScratchSwap$Memory" "bytes" "[I", .instanceMethod yX0_hasMagic, .selects RX0 yX0_hasMagic yX0_hasMagic, .code yX0_hasMagic cX0_hasMagic 4 (some .boolean), .methodLink RX3 98 yX3_isMarked, .instanceMethod yX3_isMarked, .selects RX3 yX3_isMarked yX3_isMarked, .initialized RX3, .code yX3_isMarked cX3_isMarked 3 (some .boolean)] ++ wsX30 ++ wsX00)
def wsX3_lengthIn : List Cond := .code yX3_lengthIn cX3_lengthIn 2 (some .int) :: ([.fieldLink RX3 12 "ScratchSwap" "memory" "LScratchSwap$Memory;", .methodLink RX3 75 yX3_firstByteOf, .static yX3_firstByteOf, .initialized RX3, .code yX3_firstByteOf cX3_firstByteOf 1 (some .int), .methodLink RX3 166 yX3_firstSectorOf, .static yX3_firstSectorOf, .code yX3_firstSectorOf cX3_firstSectorOf 1 (some .int), .instanceMethod yX0_intAt, .initialized RX0, .selects RX0 yX0_intAt yX0_intAt, .code yX0_intAt cX0_intAt 2 (some .int), .methodLink RX0 41 yX0_byteAt, .instanceMethod yX0_byteAt, .selects RX0 yX0_byteAt yX0_byteAt, .code yX0_byteAt cX0_byteAt 2 (some .int), .fieldLink RX0 9 "ScratchSwap$Memory" "bytes" "[I"] ++ wsX30 ++ wsX00)
def wsX3_isRight_r1 : List Cond := [Cond.fieldLink RX3 26 "ScratchSwap" "sha" "LScratchSwap$Sha256;", Cond.fieldLink RX3 12 "ScratchSwap" "memory" "LScratchSwap$Memory;", Cond.methodLink RX3 134 yX3_lengthIn, Cond.instanceMethod yX3_lengthIn, Cond.selects RX3 yX3_lengthIn yX3_lengthIn, Cond.initialized RX3, Cond.code yX3_lengthIn cX3_lengthIn 2 (some .int), Cond.methodLink RX3 75 yX3_firstByteOf, Cond.static yX3_firstByteOf, Cond.code yX3_firstByteOf cX3_firstByteOf 1 (some .int), Cond.methodLink RX3 166 yX3_firstSectorOf, Cond.static yX3_firstSectorOf, Cond.code yX3_firstSectorOf cX3_firstSectorOf 1 (some .int), Cond.instanceMethod yX0_intAt, Cond.initialized RX0, Cond.selects RX0 yX0_intAt yX0_intAt, Cond.code yX0_intAt cX0_intAt 2 (some .int), Cond.methodLink RX0 41 yX0_byteAt, Cond.instanceMethod yX0_byteAt, Cond.selects RX0 yX0_byteAt yX0_byteAt, Cond.code yX0_byteAt cX0_byteAt 2 (some .int), Cond.fieldLink RX0 9 "ScratchSwap$Memory" "bytes" "[I", Cond.instanceMethod yX1_digest, Cond.initialized RX1]
def wsX3_isRight_r2 : List Cond := [Cond.selects RX1 yX1_digest yX1_digest, Cond.code yX1_digest cX1_digest 7 none, Cond.fieldLink RX1 15 "ScratchSwap$Sha256" "hash" "[I", Cond.fieldLink RX1 18 "ScratchSwap$Sha256" "FIRST_WORDS" "[I", Cond.fieldLink RX1 11 "ScratchSwap$Sha256" "schedule" "[I", Cond.methodLink RX1 21 yX1_paddedWord, Cond.static yX1_paddedWord, Cond.code yX1_paddedWord cX1_paddedWord 6 (some .int), Cond.methodLink RX1 31 yX1_paddedByte, Cond.static yX1_paddedByte, Cond.code yX1_paddedByte cX1_paddedByte 5 (some .int), Cond.methodLink RX1 25 yX1_stretchSchedule, Cond.instanceMethod yX1_stretchSchedule, Cond.selects RX1 yX1_stretchSchedule yX1_stretchSchedule, Cond.code yX1_stretchSchedule cX1_stretchSchedule 6 none, Cond.methodLink RX1 34 yX1_turn, Cond.static yX1_turn, Cond.code yX1_turn cX1_turn 2 (some .int), Cond.methodLink RX1 28 yX1_mixBlock, Cond.instanceMethod yX1_mixBlock, Cond.selects RX1 yX1_mixBlock yX1_mixBlock, Cond.code yX1_mixBlock cX1_mixBlock 14 none, Cond.fieldLink RX1 38 "ScratchSwap$Sha256" "ROUND_WORDS" "[I", Cond.instanceMethod yX1_digestByte]
def wsX3_isRight_r3 : List Cond := [Cond.selects RX1 yX1_digestByte yX1_digestByte, Cond.code yX1_digestByte cX1_digestByte 2 (some .int)]
def wsX3_isRight : List Cond := .code yX3_isRight cX3_isRight 6 (some .boolean) :: ((wsX3_isRight_r1 ++ (wsX3_isRight_r2 ++ wsX3_isRight_r3)) ++ wsX30 ++ wsX00 ++ wsX10)
def wsX3_isTrialUnconfirmed : List Cond := .code yX3_isTrialUnconfirmed cX3_isTrialUnconfirmed 1 (some .boolean) :: ([.fieldLink RX3 12 "ScratchSwap" "memory" "LScratchSwap$Memory;", .instanceMethod yX0_hasMagic, .initialized RX0, .selects RX0 yX0_hasMagic yX0_hasMagic, .code yX0_hasMagic cX0_hasMagic 4 (some .boolean), .methodLink RX0 59 yX0_unitAt, .static yX0_unitAt, .code yX0_unitAt cX0_unitAt 2 (some .int), .methodLink RX0 41 yX0_byteAt, .instanceMethod yX0_byteAt, .selects RX0 yX0_byteAt yX0_byteAt, .code yX0_byteAt cX0_byteAt 2 (some .int), .fieldLink RX0 9 "ScratchSwap$Memory" "bytes" "[I", .instanceMethod yX0_markIn, .selects RX0 yX0_markIn yX0_markIn, .code yX0_markIn cX0_markIn 6 (some .int), .methodLink RX3 98 yX3_isMarked, .instanceMethod yX3_isMarked, .selects RX3 yX3_isMarked yX3_isMarked, .initialized RX3, .code yX3_isMarked cX3_isMarked 3 (some .boolean)] ++ wsX30 ++ wsX00)
def wsX3_findDue_r1 : List Cond := [Cond.methodLink RX3 65 yX3_isUnderWay, Cond.instanceMethod yX3_isUnderWay, Cond.selects RX3 yX3_isUnderWay yX3_isUnderWay, Cond.initialized RX3, Cond.code yX3_isUnderWay cX3_isUnderWay 1 (some .boolean), Cond.fieldLink RX3 12 "ScratchSwap" "memory" "LScratchSwap$Memory;", Cond.instanceMethod yX0_markIn, Cond.initialized RX0, Cond.selects RX0 yX0_markIn yX0_markIn, Cond.code yX0_markIn cX0_markIn 6 (some .int), Cond.methodLink RX0 59 yX0_unitAt, Cond.static yX0_unitAt, Cond.code yX0_unitAt cX0_unitAt 2 (some .int), Cond.methodLink RX0 41 yX0_byteAt, Cond.instanceMethod yX0_byteAt, Cond.selects RX0 yX0_byteAt yX0_byteAt, Cond.code yX0_byteAt cX0_byteAt 2 (some .int), Cond.fieldLink RX0 9 "ScratchSwap$Memory" "bytes" "[I", Cond.methodLink RX3 98 yX3_isMarked, Cond.instanceMethod yX3_isMarked, Cond.selects RX3 yX3_isMarked yX3_isMarked, Cond.code yX3_isMarked cX3_isMarked 3 (some .boolean), Cond.methodLink RX3 186 yX3_kindAskedFor, Cond.instanceMethod yX3_kindAskedFor]
def wsX3_findDue_r2 : List Cond := [Cond.selects RX3 yX3_kindAskedFor yX3_kindAskedFor, Cond.code yX3_kindAskedFor cX3_kindAskedFor 2 (some .int), Cond.instanceMethod yX0_hasMagic, Cond.selects RX0 yX0_hasMagic yX0_hasMagic, Cond.code yX0_hasMagic cX0_hasMagic 4 (some .boolean), Cond.methodLink RX3 111 yX3_isRight, Cond.instanceMethod yX3_isRight, Cond.selects RX3 yX3_isRight yX3_isRight, Cond.code yX3_isRight cX3_isRight 6 (some .boolean), Cond.fieldLink RX3 26 "ScratchSwap" "sha" "LScratchSwap$Sha256;", Cond.methodLink RX3 134 yX3_lengthIn, Cond.instanceMethod yX3_lengthIn, Cond.selects RX3 yX3_lengthIn yX3_lengthIn, Cond.code yX3_lengthIn cX3_lengthIn 2 (some .int), Cond.methodLink RX3 75 yX3_firstByteOf, Cond.static yX3_firstByteOf, Cond.code yX3_firstByteOf cX3_firstByteOf 1 (some .int), Cond.methodLink RX3 166 yX3_firstSectorOf, Cond.static yX3_firstSectorOf, Cond.code yX3_firstSectorOf cX3_firstSectorOf 1 (some .int), Cond.instanceMethod yX0_intAt, Cond.selects RX0 yX0_intAt yX0_intAt, Cond.code yX0_intAt cX0_intAt 2 (some .int), Cond.instanceMethod yX1_digest]
def wsX3_findDue_r3 : List Cond := [Cond.initialized RX1, Cond.selects RX1 yX1_digest yX1_digest, Cond.code yX1_digest cX1_digest 7 none, Cond.fieldLink RX1 15 "ScratchSwap$Sha256" "hash" "[I", Cond.fieldLink RX1 18 "ScratchSwap$Sha256" "FIRST_WORDS" "[I", Cond.fieldLink RX1 11 "ScratchSwap$Sha256" "schedule" "[I", Cond.methodLink RX1 21 yX1_paddedWord, Cond.static yX1_paddedWord, Cond.code yX1_paddedWord cX1_paddedWord 6 (some .int), Cond.methodLink RX1 31 yX1_paddedByte, Cond.static yX1_paddedByte, Cond.code yX1_paddedByte cX1_paddedByte 5 (some .int), Cond.methodLink RX1 25 yX1_stretchSchedule, Cond.instanceMethod yX1_stretchSchedule, Cond.selects RX1 yX1_stretchSchedule yX1_stretchSchedule, Cond.code yX1_stretchSchedule cX1_stretchSchedule 6 none, Cond.methodLink RX1 34 yX1_turn, Cond.static yX1_turn, Cond.code yX1_turn cX1_turn 2 (some .int), Cond.methodLink RX1 28 yX1_mixBlock, Cond.instanceMethod yX1_mixBlock, Cond.selects RX1 yX1_mixBlock yX1_mixBlock, Cond.code yX1_mixBlock cX1_mixBlock 14 none, Cond.fieldLink RX1 38 "ScratchSwap$Sha256" "ROUND_WORDS" "[I"]
def wsX3_findDue_r4 : List Cond := [Cond.instanceMethod yX1_digestByte, Cond.selects RX1 yX1_digestByte yX1_digestByte, Cond.code yX1_digestByte cX1_digestByte 2 (some .int), Cond.methodLink RX3 189 yX3_isTrialUnconfirmed, Cond.instanceMethod yX3_isTrialUnconfirmed, Cond.selects RX3 yX3_isTrialUnconfirmed yX3_isTrialUnconfirmed, Cond.code yX3_isTrialUnconfirmed cX3_isTrialUnconfirmed 1 (some .boolean)]
def wsX3_findDue : List Cond := .code yX3_findDue cX3_findDue 2 (some .int) :: ((wsX3_findDue_r1 ++ (wsX3_findDue_r2 ++ (wsX3_findDue_r3 ++ wsX3_findDue_r4))) ++ wsX30 ++ wsX00 ++ wsX10)
def wsX3_eraseWrong : List Cond := .code yX3_eraseWrong cX3_eraseWrong 1 (some .boolean) :: ([.fieldLink RX3 12 "ScratchSwap" "memory" "LScratchSwap$Memory;", .fieldLink RX3 44 "ScratchSwap" "wrongsErased" "I", .instanceMethod yX0_eraseSector, .initialized RX0, .selects RX0 yX0_eraseSector yX0_eraseSector, .code yX0_eraseSector cX0_eraseSector 6 (some .boolean), .fieldLink RX0 21 "ScratchSwap$Memory" "down" "Z", .fieldLink RX0 15 "ScratchSwap$Memory" "timesErased" "[I", .fieldLink RX0 32 "ScratchSwap$Memory" "unitsCut" "I", .fieldLink RX0 9 "ScratchSwap$Memory" "bytes" "[I", .methodLink RX0 45 yX0_hasSector, .static yX0_hasSector, .code yX0_hasSector cX0_hasSector 1 (some .boolean), .methodLink RX0 49 yX0_beginAct, .instanceMethod yX0_beginAct, .selects RX0 yX0_beginAct yX0_beginAct, .code yX0_beginAct cX0_beginAct 1 (some .boolean), .fieldLink RX0 25 "ScratchSwap$Memory" "toldToGo" "Z", .fieldLink RX0 28 "ScratchSwap$Memory" "actsLeft" "I", .fieldLink RX0 38 "ScratchSwap$Memory" "timesGone" "I", .fieldLink RX0 35 "ScratchSwap$Memory" "actsDone" "I", .methodLink RX0 53 yX0_has, .static yX0_has, .code yX0_has cX0_has 1 (some .boolean)] ++ wsX30 ++ wsX00)
def wsX3_takeStep_r1 : List Cond := [Cond.fieldLink RX3 12 "ScratchSwap" "memory" "LScratchSwap$Memory;", Cond.methodLink RX3 98 yX3_isMarked, Cond.instanceMethod yX3_isMarked, Cond.selects RX3 yX3_isMarked yX3_isMarked, Cond.initialized RX3, Cond.code yX3_isMarked cX3_isMarked 3 (some .boolean), Cond.instanceMethod yX0_markIn, Cond.initialized RX0, Cond.selects RX0 yX0_markIn yX0_markIn, Cond.code yX0_markIn cX0_markIn 6 (some .int), Cond.methodLink RX0 59 yX0_unitAt, Cond.static yX0_unitAt, Cond.code yX0_unitAt cX0_unitAt 2 (some .int), Cond.methodLink RX0 41 yX0_byteAt, Cond.instanceMethod yX0_byteAt, Cond.selects RX0 yX0_byteAt yX0_byteAt, Cond.code yX0_byteAt cX0_byteAt 2 (some .int), Cond.fieldLink RX0 9 "ScratchSwap$Memory" "bytes" "[I", Cond.instanceMethod yX0_replaceSector, Cond.selects RX0 yX0_replaceSector yX0_replaceSector, Cond.code yX0_replaceSector cX0_replaceSector 4 (some .boolean), Cond.methodLink RX0 56 yX0_eraseSector, Cond.instanceMethod yX0_eraseSector, Cond.selects RX0 yX0_eraseSector yX0_eraseSector]
def wsX3_takeStep_r2 : List Cond := [Cond.code yX0_eraseSector cX0_eraseSector 6 (some .boolean), Cond.fieldLink RX0 21 "ScratchSwap$Memory" "down" "Z", Cond.fieldLink RX0 15 "ScratchSwap$Memory" "timesErased" "[I", Cond.fieldLink RX0 32 "ScratchSwap$Memory" "unitsCut" "I", Cond.methodLink RX0 45 yX0_hasSector, Cond.static yX0_hasSector, Cond.code yX0_hasSector cX0_hasSector 1 (some .boolean), Cond.methodLink RX0 49 yX0_beginAct, Cond.instanceMethod yX0_beginAct, Cond.selects RX0 yX0_beginAct yX0_beginAct, Cond.code yX0_beginAct cX0_beginAct 1 (some .boolean), Cond.fieldLink RX0 25 "ScratchSwap$Memory" "toldToGo" "Z", Cond.fieldLink RX0 28 "ScratchSwap$Memory" "actsLeft" "I", Cond.fieldLink RX0 38 "ScratchSwap$Memory" "timesGone" "I", Cond.fieldLink RX0 35 "ScratchSwap$Memory" "actsDone" "I", Cond.methodLink RX0 53 yX0_has, Cond.static yX0_has, Cond.code yX0_has cX0_has 1 (some .boolean), Cond.methodLink RX0 63 yX0_writeUnit, Cond.instanceMethod yX0_writeUnit, Cond.selects RX0 yX0_writeUnit yX0_writeUnit, Cond.code yX0_writeUnit cX0_writeUnit 6 (some .boolean), Cond.fieldLink RX0 18 "ScratchSwap$Memory" "unitTaken" "[I", Cond.methodLink RX0 67 yX0_isBlankWhenTaken]
def wsX3_takeStep_r3 : List Cond := [Cond.instanceMethod yX0_isBlankWhenTaken, Cond.selects RX0 yX0_isBlankWhenTaken yX0_isBlankWhenTaken, Cond.code yX0_isBlankWhenTaken cX0_isBlankWhenTaken 8 (some .boolean), Cond.methodLink RX0 71 yX0_keepBits, Cond.instanceMethod yX0_keepBits, Cond.selects RX0 yX0_keepBits yX0_keepBits, Cond.code yX0_keepBits cX0_keepBits 3 none, Cond.instanceMethod yX0_markUnit, Cond.selects RX0 yX0_markUnit yX0_markUnit, Cond.code yX0_markUnit cX0_markUnit 6 (some .boolean)]
def wsX3_takeStep : List Cond := .code yX3_takeStep cX3_takeStep 6 (some .boolean) :: ((wsX3_takeStep_r1 ++ (wsX3_takeStep_r2 ++ wsX3_takeStep_r3)) ++ wsX30 ++ wsX00)
def wsX3_exchangeSectors_r1 : List Cond := [Cond.methodLink RX3 207 yX3_takeStep, Cond.instanceMethod yX3_takeStep, Cond.selects RX3 yX3_takeStep yX3_takeStep, Cond.initialized RX3, Cond.code yX3_takeStep cX3_takeStep 6 (some .boolean), Cond.fieldLink RX3 12 "ScratchSwap" "memory" "LScratchSwap$Memory;", Cond.methodLink RX3 98 yX3_isMarked, Cond.instanceMethod yX3_isMarked, Cond.selects RX3 yX3_isMarked yX3_isMarked, Cond.code yX3_isMarked cX3_isMarked 3 (some .boolean), Cond.instanceMethod yX0_markIn, Cond.initialized RX0, Cond.selects RX0 yX0_markIn yX0_markIn, Cond.code yX0_markIn cX0_markIn 6 (some .int), Cond.methodLink RX0 59 yX0_unitAt, Cond.static yX0_unitAt, Cond.code yX0_unitAt cX0_unitAt 2 (some .int), Cond.methodLink RX0 41 yX0_byteAt, Cond.instanceMethod yX0_byteAt, Cond.selects RX0 yX0_byteAt yX0_byteAt, Cond.code yX0_byteAt cX0_byteAt 2 (some .int), Cond.fieldLink RX0 9 "ScratchSwap$Memory" "bytes" "[I", Cond.instanceMethod yX0_replaceSector, Cond.selects RX0 yX0_replaceSector yX0_replaceSector]
def wsX3_exchangeSectors_r2 : List Cond := [Cond.code yX0_replaceSector cX0_replaceSector 4 (some .boolean), Cond.methodLink RX0 56 yX0_eraseSector, Cond.instanceMethod yX0_eraseSector, Cond.selects RX0 yX0_eraseSector yX0_eraseSector, Cond.code yX0_eraseSector cX0_eraseSector 6 (some .boolean), Cond.fieldLink RX0 21 "ScratchSwap$Memory" "down" "Z", Cond.fieldLink RX0 15 "ScratchSwap$Memory" "timesErased" "[I", Cond.fieldLink RX0 32 "ScratchSwap$Memory" "unitsCut" "I", Cond.methodLink RX0 45 yX0_hasSector, Cond.static yX0_hasSector, Cond.code yX0_hasSector cX0_hasSector 1 (some .boolean), Cond.methodLink RX0 49 yX0_beginAct, Cond.instanceMethod yX0_beginAct, Cond.selects RX0 yX0_beginAct yX0_beginAct, Cond.code yX0_beginAct cX0_beginAct 1 (some .boolean), Cond.fieldLink RX0 25 "ScratchSwap$Memory" "toldToGo" "Z", Cond.fieldLink RX0 28 "ScratchSwap$Memory" "actsLeft" "I", Cond.fieldLink RX0 38 "ScratchSwap$Memory" "timesGone" "I", Cond.fieldLink RX0 35 "ScratchSwap$Memory" "actsDone" "I", Cond.methodLink RX0 53 yX0_has, Cond.static yX0_has, Cond.code yX0_has cX0_has 1 (some .boolean), Cond.methodLink RX0 63 yX0_writeUnit, Cond.instanceMethod yX0_writeUnit]
def wsX3_exchangeSectors_r3 : List Cond := [Cond.selects RX0 yX0_writeUnit yX0_writeUnit, Cond.code yX0_writeUnit cX0_writeUnit 6 (some .boolean), Cond.fieldLink RX0 18 "ScratchSwap$Memory" "unitTaken" "[I", Cond.methodLink RX0 67 yX0_isBlankWhenTaken, Cond.instanceMethod yX0_isBlankWhenTaken, Cond.selects RX0 yX0_isBlankWhenTaken yX0_isBlankWhenTaken, Cond.code yX0_isBlankWhenTaken cX0_isBlankWhenTaken 8 (some .boolean), Cond.methodLink RX0 71 yX0_keepBits, Cond.instanceMethod yX0_keepBits, Cond.selects RX0 yX0_keepBits yX0_keepBits, Cond.code yX0_keepBits cX0_keepBits 3 none, Cond.instanceMethod yX0_markUnit, Cond.selects RX0 yX0_markUnit yX0_markUnit, Cond.code yX0_markUnit cX0_markUnit 6 (some .boolean)]
def wsX3_exchangeSectors : List Cond := .code yX3_exchangeSectors cX3_exchangeSectors 3 (some .boolean) :: ((wsX3_exchangeSectors_r1 ++ (wsX3_exchangeSectors_r2 ++ wsX3_exchangeSectors_r3)) ++ wsX30 ++ wsX00)
def wsX3_endExchange_r1 : List Cond := [Cond.fieldLink RX3 12 "ScratchSwap" "memory" "LScratchSwap$Memory;", Cond.fieldLink RX3 41 "ScratchSwap" "exchangesEnded" "I", Cond.instanceMethod yX0_eraseSector, Cond.initialized RX0, Cond.selects RX0 yX0_eraseSector yX0_eraseSector, Cond.code yX0_eraseSector cX0_eraseSector 6 (some .boolean), Cond.fieldLink RX0 21 "ScratchSwap$Memory" "down" "Z", Cond.fieldLink RX0 15 "ScratchSwap$Memory" "timesErased" "[I", Cond.fieldLink RX0 32 "ScratchSwap$Memory" "unitsCut" "I", Cond.fieldLink RX0 9 "ScratchSwap$Memory" "bytes" "[I", Cond.methodLink RX0 45 yX0_hasSector, Cond.static yX0_hasSector, Cond.code yX0_hasSector cX0_hasSector 1 (some .boolean), Cond.methodLink RX0 49 yX0_beginAct, Cond.instanceMethod yX0_beginAct, Cond.selects RX0 yX0_beginAct yX0_beginAct, Cond.code yX0_beginAct cX0_beginAct 1 (some .boolean), Cond.fieldLink RX0 25 "ScratchSwap$Memory" "toldToGo" "Z", Cond.fieldLink RX0 28 "ScratchSwap$Memory" "actsLeft" "I", Cond.fieldLink RX0 38 "ScratchSwap$Memory" "timesGone" "I", Cond.fieldLink RX0 35 "ScratchSwap$Memory" "actsDone" "I", Cond.methodLink RX0 53 yX0_has, Cond.static yX0_has, Cond.code yX0_has cX0_has 1 (some .boolean)]
def wsX3_endExchange_r2 : List Cond := [Cond.instanceMethod yX0_markIn, Cond.selects RX0 yX0_markIn yX0_markIn, Cond.code yX0_markIn cX0_markIn 6 (some .int), Cond.methodLink RX0 59 yX0_unitAt, Cond.static yX0_unitAt, Cond.code yX0_unitAt cX0_unitAt 2 (some .int), Cond.methodLink RX0 41 yX0_byteAt, Cond.instanceMethod yX0_byteAt, Cond.selects RX0 yX0_byteAt yX0_byteAt, Cond.code yX0_byteAt cX0_byteAt 2 (some .int), Cond.methodLink RX3 98 yX3_isMarked, Cond.instanceMethod yX3_isMarked, Cond.selects RX3 yX3_isMarked yX3_isMarked, Cond.initialized RX3, Cond.code yX3_isMarked cX3_isMarked 3 (some .boolean), Cond.instanceMethod yX0_markUnit, Cond.selects RX0 yX0_markUnit yX0_markUnit, Cond.code yX0_markUnit cX0_markUnit 6 (some .boolean), Cond.methodLink RX0 71 yX0_keepBits, Cond.instanceMethod yX0_keepBits, Cond.selects RX0 yX0_keepBits yX0_keepBits, Cond.code yX0_keepBits cX0_keepBits 3 none, Cond.methodLink RX3 95 yX3_writeMagic, Cond.instanceMethod yX3_writeMagic]
def wsX3_endExchange_r3 : List Cond := [Cond.selects RX3 yX3_writeMagic yX3_writeMagic, Cond.code yX3_writeMagic cX3_writeMagic 2 (some .boolean), Cond.fieldLink RX3 183 "ScratchSwap" "MAGIC" "[I", Cond.instanceMethod yX0_writeRow, Cond.selects RX0 yX0_writeRow yX0_writeRow, Cond.code yX0_writeRow cX0_writeRow 5 (some .boolean), Cond.methodLink RX0 63 yX0_writeUnit, Cond.instanceMethod yX0_writeUnit, Cond.selects RX0 yX0_writeUnit yX0_writeUnit, Cond.code yX0_writeUnit cX0_writeUnit 6 (some .boolean), Cond.fieldLink RX0 18 "ScratchSwap$Memory" "unitTaken" "[I", Cond.methodLink RX0 67 yX0_isBlankWhenTaken, Cond.instanceMethod yX0_isBlankWhenTaken, Cond.selects RX0 yX0_isBlankWhenTaken yX0_isBlankWhenTaken, Cond.code yX0_isBlankWhenTaken cX0_isBlankWhenTaken 8 (some .boolean)]
def wsX3_endExchange : List Cond := .code yX3_endExchange cX3_endExchange 2 (some .boolean) :: ((wsX3_endExchange_r1 ++ (wsX3_endExchange_r2 ++ wsX3_endExchange_r3)) ++ wsX30 ++ wsX00)
def wsX3_beginExchange_r1 : List Cond := [Cond.fieldLink RX3 12 "ScratchSwap" "memory" "LScratchSwap$Memory;", Cond.instanceMethod yX0_markIn, Cond.initialized RX0, Cond.selects RX0 yX0_markIn yX0_markIn, Cond.code yX0_markIn cX0_markIn 6 (some .int), Cond.methodLink RX0 59 yX0_unitAt, Cond.static yX0_unitAt, Cond.code yX0_unitAt cX0_unitAt 2 (some .int), Cond.methodLink RX0 41 yX0_byteAt, Cond.instanceMethod yX0_byteAt, Cond.selects RX0 yX0_byteAt yX0_byteAt, Cond.code yX0_byteAt cX0_byteAt 2 (some .int), Cond.fieldLink RX0 9 "ScratchSwap$Memory" "bytes" "[I", Cond.instanceMethod yX0_markUnit, Cond.selects RX0 yX0_markUnit yX0_markUnit, Cond.code yX0_markUnit cX0_markUnit 6 (some .boolean), Cond.methodLink RX0 49 yX0_beginAct, Cond.instanceMethod yX0_beginAct, Cond.selects RX0 yX0_beginAct yX0_beginAct, Cond.code yX0_beginAct cX0_beginAct 1 (some .boolean), Cond.fieldLink RX0 21 "ScratchSwap$Memory" "down" "Z", Cond.fieldLink RX0 25 "ScratchSwap$Memory" "toldToGo" "Z", Cond.fieldLink RX0 28 "ScratchSwap$Memory" "actsLeft" "I", Cond.fieldLink RX0 38 "ScratchSwap$Memory" "timesGone" "I"]
def wsX3_beginExchange_r2 : List Cond := [Cond.fieldLink RX0 35 "ScratchSwap$Memory" "actsDone" "I", Cond.methodLink RX0 71 yX0_keepBits, Cond.instanceMethod yX0_keepBits, Cond.selects RX0 yX0_keepBits yX0_keepBits, Cond.code yX0_keepBits cX0_keepBits 3 none, Cond.instanceMethod yX0_eraseSector, Cond.selects RX0 yX0_eraseSector yX0_eraseSector, Cond.code yX0_eraseSector cX0_eraseSector 6 (some .boolean), Cond.fieldLink RX0 15 "ScratchSwap$Memory" "timesErased" "[I", Cond.fieldLink RX0 32 "ScratchSwap$Memory" "unitsCut" "I", Cond.methodLink RX0 45 yX0_hasSector, Cond.static yX0_hasSector, Cond.code yX0_hasSector cX0_hasSector 1 (some .boolean), Cond.methodLink RX0 53 yX0_has, Cond.static yX0_has, Cond.code yX0_has cX0_has 1 (some .boolean)]
def wsX3_beginExchange : List Cond := .code yX3_beginExchange cX3_beginExchange 2 (some .boolean) :: ((wsX3_beginExchange_r1 ++ wsX3_beginExchange_r2) ++ wsX30 ++ wsX00)
def wsX3_doWhatIsDue_r1 : List Cond := [Cond.methodLink RX3 195 yX3_eraseWrong, Cond.instanceMethod yX3_eraseWrong, Cond.selects RX3 yX3_eraseWrong yX3_eraseWrong, Cond.initialized RX3, Cond.code yX3_eraseWrong cX3_eraseWrong 1 (some .boolean), Cond.fieldLink RX3 12 "ScratchSwap" "memory" "LScratchSwap$Memory;", Cond.fieldLink RX3 44 "ScratchSwap" "wrongsErased" "I", Cond.instanceMethod yX0_eraseSector, Cond.initialized RX0, Cond.selects RX0 yX0_eraseSector yX0_eraseSector, Cond.code yX0_eraseSector cX0_eraseSector 6 (some .boolean), Cond.fieldLink RX0 21 "ScratchSwap$Memory" "down" "Z", Cond.fieldLink RX0 15 "ScratchSwap$Memory" "timesErased" "[I", Cond.fieldLink RX0 32 "ScratchSwap$Memory" "unitsCut" "I", Cond.fieldLink RX0 9 "ScratchSwap$Memory" "bytes" "[I", Cond.methodLink RX0 45 yX0_hasSector, Cond.static yX0_hasSector, Cond.code yX0_hasSector cX0_hasSector 1 (some .boolean), Cond.methodLink RX0 49 yX0_beginAct, Cond.instanceMethod yX0_beginAct, Cond.selects RX0 yX0_beginAct yX0_beginAct, Cond.code yX0_beginAct cX0_beginAct 1 (some .boolean), Cond.fieldLink RX0 25 "ScratchSwap$Memory" "toldToGo" "Z", Cond.fieldLink RX0 28 "ScratchSwap$Memory" "actsLeft" "I"]
def wsX3_doWhatIsDue_r2 : List Cond := [Cond.fieldLink RX0 38 "ScratchSwap$Memory" "timesGone" "I", Cond.fieldLink RX0 35 "ScratchSwap$Memory" "actsDone" "I", Cond.methodLink RX0 53 yX0_has, Cond.static yX0_has, Cond.code yX0_has cX0_has 1 (some .boolean), Cond.methodLink RX3 198 yX3_exchangeSectors, Cond.instanceMethod yX3_exchangeSectors, Cond.selects RX3 yX3_exchangeSectors yX3_exchangeSectors, Cond.code yX3_exchangeSectors cX3_exchangeSectors 3 (some .boolean), Cond.methodLink RX3 207 yX3_takeStep, Cond.instanceMethod yX3_takeStep, Cond.selects RX3 yX3_takeStep yX3_takeStep, Cond.code yX3_takeStep cX3_takeStep 6 (some .boolean), Cond.methodLink RX3 98 yX3_isMarked, Cond.instanceMethod yX3_isMarked, Cond.selects RX3 yX3_isMarked yX3_isMarked, Cond.code yX3_isMarked cX3_isMarked 3 (some .boolean), Cond.instanceMethod yX0_markIn, Cond.selects RX0 yX0_markIn yX0_markIn, Cond.code yX0_markIn cX0_markIn 6 (some .int), Cond.methodLink RX0 59 yX0_unitAt, Cond.static yX0_unitAt, Cond.code yX0_unitAt cX0_unitAt 2 (some .int), Cond.methodLink RX0 41 yX0_byteAt]
def wsX3_doWhatIsDue_r3 : List Cond := [Cond.instanceMethod yX0_byteAt, Cond.selects RX0 yX0_byteAt yX0_byteAt, Cond.code yX0_byteAt cX0_byteAt 2 (some .int), Cond.instanceMethod yX0_replaceSector, Cond.selects RX0 yX0_replaceSector yX0_replaceSector, Cond.code yX0_replaceSector cX0_replaceSector 4 (some .boolean), Cond.methodLink RX0 56 yX0_eraseSector, Cond.methodLink RX0 63 yX0_writeUnit, Cond.instanceMethod yX0_writeUnit, Cond.selects RX0 yX0_writeUnit yX0_writeUnit, Cond.code yX0_writeUnit cX0_writeUnit 6 (some .boolean), Cond.fieldLink RX0 18 "ScratchSwap$Memory" "unitTaken" "[I", Cond.methodLink RX0 67 yX0_isBlankWhenTaken, Cond.instanceMethod yX0_isBlankWhenTaken, Cond.selects RX0 yX0_isBlankWhenTaken yX0_isBlankWhenTaken, Cond.code yX0_isBlankWhenTaken cX0_isBlankWhenTaken 8 (some .boolean), Cond.methodLink RX0 71 yX0_keepBits, Cond.instanceMethod yX0_keepBits, Cond.selects RX0 yX0_keepBits yX0_keepBits, Cond.code yX0_keepBits cX0_keepBits 3 none, Cond.instanceMethod yX0_markUnit, Cond.selects RX0 yX0_markUnit yX0_markUnit, Cond.code yX0_markUnit cX0_markUnit 6 (some .boolean), Cond.methodLink RX3 201 yX3_endExchange]
def wsX3_doWhatIsDue_r4 : List Cond := [Cond.instanceMethod yX3_endExchange, Cond.selects RX3 yX3_endExchange yX3_endExchange, Cond.code yX3_endExchange cX3_endExchange 2 (some .boolean), Cond.fieldLink RX3 41 "ScratchSwap" "exchangesEnded" "I", Cond.methodLink RX3 95 yX3_writeMagic, Cond.instanceMethod yX3_writeMagic, Cond.selects RX3 yX3_writeMagic yX3_writeMagic, Cond.code yX3_writeMagic cX3_writeMagic 2 (some .boolean), Cond.fieldLink RX3 183 "ScratchSwap" "MAGIC" "[I", Cond.instanceMethod yX0_writeRow, Cond.selects RX0 yX0_writeRow yX0_writeRow, Cond.code yX0_writeRow cX0_writeRow 5 (some .boolean), Cond.methodLink RX3 204 yX3_beginExchange, Cond.instanceMethod yX3_beginExchange, Cond.selects RX3 yX3_beginExchange yX3_beginExchange, Cond.code yX3_beginExchange cX3_beginExchange 2 (some .boolean)]
def wsX3_doWhatIsDue : List Cond := .code yX3_doWhatIsDue cX3_doWhatIsDue 2 (some .boolean) :: ((wsX3_doWhatIsDue_r1 ++ (wsX3_doWhatIsDue_r2 ++ (wsX3_doWhatIsDue_r3 ++ wsX3_doWhatIsDue_r4))) ++ wsX30 ++ wsX00)
def wsX3_versionIn : List Cond := .code yX3_versionIn cX3_versionIn 2 (some .int) :: ([.fieldLink RX3 12 "ScratchSwap" "memory" "LScratchSwap$Memory;", .methodLink RX3 75 yX3_firstByteOf, .static yX3_firstByteOf, .initialized RX3, .code yX3_firstByteOf cX3_firstByteOf 1 (some .int), .methodLink RX3 166 yX3_firstSectorOf, .static yX3_firstSectorOf, .code yX3_firstSectorOf cX3_firstSectorOf 1 (some .int), .instanceMethod yX0_intAt, .initialized RX0, .selects RX0 yX0_intAt yX0_intAt, .code yX0_intAt cX0_intAt 2 (some .int), .methodLink RX0 41 yX0_byteAt, .instanceMethod yX0_byteAt, .selects RX0 yX0_byteAt yX0_byteAt, .code yX0_byteAt cX0_byteAt 2 (some .int), .fieldLink RX0 9 "ScratchSwap$Memory" "bytes" "[I"] ++ wsX30 ++ wsX00)
def wsX3_boot_r1 : List Cond := [Cond.fieldLink RX3 12 "ScratchSwap" "memory" "LScratchSwap$Memory;", Cond.fieldLink RX3 38 "ScratchSwap" "wholeBoots" "I", Cond.fieldLink RX3 30 "ScratchSwap" "runs" "Z", Cond.fieldLink RX3 34 "ScratchSwap" "runningVersion" "I", Cond.methodLink RX3 69 yX3_stopRunning, Cond.instanceMethod yX3_stopRunning, Cond.selects RX3 yX3_stopRunning yX3_stopRunning, Cond.initialized RX3, Cond.code yX3_stopRunning cX3_stopRunning 1 none, Cond.methodLink RX3 105 yX3_findDue, Cond.instanceMethod yX3_findDue, Cond.selects RX3 yX3_findDue yX3_findDue, Cond.code yX3_findDue cX3_findDue 2 (some .int), Cond.methodLink RX3 65 yX3_isUnderWay, Cond.instanceMethod yX3_isUnderWay, Cond.selects RX3 yX3_isUnderWay yX3_isUnderWay, Cond.code yX3_isUnderWay cX3_isUnderWay 1 (some .boolean), Cond.instanceMethod yX0_markIn, Cond.initialized RX0, Cond.selects RX0 yX0_markIn yX0_markIn, Cond.code yX0_markIn cX0_markIn 6 (some .int), Cond.methodLink RX0 59 yX0_unitAt, Cond.static yX0_unitAt, Cond.code yX0_unitAt cX0_unitAt 2 (some .int)]
def wsX3_boot_r2 : List Cond := [Cond.methodLink RX0 41 yX0_byteAt, Cond.instanceMethod yX0_byteAt, Cond.selects RX0 yX0_byteAt yX0_byteAt, Cond.code yX0_byteAt cX0_byteAt 2 (some .int), Cond.fieldLink RX0 9 "ScratchSwap$Memory" "bytes" "[I", Cond.methodLink RX3 98 yX3_isMarked, Cond.instanceMethod yX3_isMarked, Cond.selects RX3 yX3_isMarked yX3_isMarked, Cond.code yX3_isMarked cX3_isMarked 3 (some .boolean), Cond.methodLink RX3 186 yX3_kindAskedFor, Cond.instanceMethod yX3_kindAskedFor, Cond.selects RX3 yX3_kindAskedFor yX3_kindAskedFor, Cond.code yX3_kindAskedFor cX3_kindAskedFor 2 (some .int), Cond.instanceMethod yX0_hasMagic, Cond.selects RX0 yX0_hasMagic yX0_hasMagic, Cond.code yX0_hasMagic cX0_hasMagic 4 (some .boolean), Cond.methodLink RX3 111 yX3_isRight, Cond.instanceMethod yX3_isRight, Cond.selects RX3 yX3_isRight yX3_isRight, Cond.code yX3_isRight cX3_isRight 6 (some .boolean), Cond.fieldLink RX3 26 "ScratchSwap" "sha" "LScratchSwap$Sha256;", Cond.methodLink RX3 134 yX3_lengthIn, Cond.instanceMethod yX3_lengthIn, Cond.selects RX3 yX3_lengthIn yX3_lengthIn]
def wsX3_boot_r3 : List Cond := [Cond.code yX3_lengthIn cX3_lengthIn 2 (some .int), Cond.methodLink RX3 75 yX3_firstByteOf, Cond.static yX3_firstByteOf, Cond.code yX3_firstByteOf cX3_firstByteOf 1 (some .int), Cond.methodLink RX3 166 yX3_firstSectorOf, Cond.static yX3_firstSectorOf, Cond.code yX3_firstSectorOf cX3_firstSectorOf 1 (some .int), Cond.instanceMethod yX0_intAt, Cond.selects RX0 yX0_intAt yX0_intAt, Cond.code yX0_intAt cX0_intAt 2 (some .int), Cond.instanceMethod yX1_digest, Cond.initialized RX1, Cond.selects RX1 yX1_digest yX1_digest, Cond.code yX1_digest cX1_digest 7 none, Cond.fieldLink RX1 15 "ScratchSwap$Sha256" "hash" "[I", Cond.fieldLink RX1 18 "ScratchSwap$Sha256" "FIRST_WORDS" "[I", Cond.fieldLink RX1 11 "ScratchSwap$Sha256" "schedule" "[I", Cond.methodLink RX1 21 yX1_paddedWord, Cond.static yX1_paddedWord, Cond.code yX1_paddedWord cX1_paddedWord 6 (some .int), Cond.methodLink RX1 31 yX1_paddedByte, Cond.static yX1_paddedByte, Cond.code yX1_paddedByte cX1_paddedByte 5 (some .int), Cond.methodLink RX1 25 yX1_stretchSchedule]
def wsX3_boot_r4 : List Cond := [Cond.instanceMethod yX1_stretchSchedule, Cond.selects RX1 yX1_stretchSchedule yX1_stretchSchedule, Cond.code yX1_stretchSchedule cX1_stretchSchedule 6 none, Cond.methodLink RX1 34 yX1_turn, Cond.static yX1_turn, Cond.code yX1_turn cX1_turn 2 (some .int), Cond.methodLink RX1 28 yX1_mixBlock, Cond.instanceMethod yX1_mixBlock, Cond.selects RX1 yX1_mixBlock yX1_mixBlock, Cond.code yX1_mixBlock cX1_mixBlock 14 none, Cond.fieldLink RX1 38 "ScratchSwap$Sha256" "ROUND_WORDS" "[I", Cond.instanceMethod yX1_digestByte, Cond.selects RX1 yX1_digestByte yX1_digestByte, Cond.code yX1_digestByte cX1_digestByte 2 (some .int), Cond.methodLink RX3 189 yX3_isTrialUnconfirmed, Cond.instanceMethod yX3_isTrialUnconfirmed, Cond.selects RX3 yX3_isTrialUnconfirmed yX3_isTrialUnconfirmed, Cond.code yX3_isTrialUnconfirmed cX3_isTrialUnconfirmed 1 (some .boolean), Cond.methodLink RX3 108 yX3_doWhatIsDue, Cond.instanceMethod yX3_doWhatIsDue, Cond.selects RX3 yX3_doWhatIsDue yX3_doWhatIsDue, Cond.code yX3_doWhatIsDue cX3_doWhatIsDue 2 (some .boolean), Cond.methodLink RX3 195 yX3_eraseWrong, Cond.instanceMethod yX3_eraseWrong]
def wsX3_boot_r5 : List Cond := [Cond.selects RX3 yX3_eraseWrong yX3_eraseWrong, Cond.code yX3_eraseWrong cX3_eraseWrong 1 (some .boolean), Cond.fieldLink RX3 44 "ScratchSwap" "wrongsErased" "I", Cond.instanceMethod yX0_eraseSector, Cond.selects RX0 yX0_eraseSector yX0_eraseSector, Cond.code yX0_eraseSector cX0_eraseSector 6 (some .boolean), Cond.fieldLink RX0 21 "ScratchSwap$Memory" "down" "Z", Cond.fieldLink RX0 15 "ScratchSwap$Memory" "timesErased" "[I", Cond.fieldLink RX0 32 "ScratchSwap$Memory" "unitsCut" "I", Cond.methodLink RX0 45 yX0_hasSector, Cond.static yX0_hasSector, Cond.code yX0_hasSector cX0_hasSector 1 (some .boolean), Cond.methodLink RX0 49 yX0_beginAct, Cond.instanceMethod yX0_beginAct, Cond.selects RX0 yX0_beginAct yX0_beginAct, Cond.code yX0_beginAct cX0_beginAct 1 (some .boolean), Cond.fieldLink RX0 25 "ScratchSwap$Memory" "toldToGo" "Z", Cond.fieldLink RX0 28 "ScratchSwap$Memory" "actsLeft" "I", Cond.fieldLink RX0 38 "ScratchSwap$Memory" "timesGone" "I", Cond.fieldLink RX0 35 "ScratchSwap$Memory" "actsDone" "I", Cond.methodLink RX0 53 yX0_has, Cond.static yX0_has, Cond.code yX0_has cX0_has 1 (some .boolean), Cond.methodLink RX3 198 yX3_exchangeSectors]
def wsX3_boot_r6 : List Cond := [Cond.instanceMethod yX3_exchangeSectors, Cond.selects RX3 yX3_exchangeSectors yX3_exchangeSectors, Cond.code yX3_exchangeSectors cX3_exchangeSectors 3 (some .boolean), Cond.methodLink RX3 207 yX3_takeStep, Cond.instanceMethod yX3_takeStep, Cond.selects RX3 yX3_takeStep yX3_takeStep, Cond.code yX3_takeStep cX3_takeStep 6 (some .boolean), Cond.instanceMethod yX0_replaceSector, Cond.selects RX0 yX0_replaceSector yX0_replaceSector, Cond.code yX0_replaceSector cX0_replaceSector 4 (some .boolean), Cond.methodLink RX0 56 yX0_eraseSector, Cond.methodLink RX0 63 yX0_writeUnit, Cond.instanceMethod yX0_writeUnit, Cond.selects RX0 yX0_writeUnit yX0_writeUnit, Cond.code yX0_writeUnit cX0_writeUnit 6 (some .boolean), Cond.fieldLink RX0 18 "ScratchSwap$Memory" "unitTaken" "[I", Cond.methodLink RX0 67 yX0_isBlankWhenTaken, Cond.instanceMethod yX0_isBlankWhenTaken, Cond.selects RX0 yX0_isBlankWhenTaken yX0_isBlankWhenTaken, Cond.code yX0_isBlankWhenTaken cX0_isBlankWhenTaken 8 (some .boolean), Cond.methodLink RX0 71 yX0_keepBits, Cond.instanceMethod yX0_keepBits, Cond.selects RX0 yX0_keepBits yX0_keepBits, Cond.code yX0_keepBits cX0_keepBits 3 none]
def wsX3_boot_r7 : List Cond := [Cond.instanceMethod yX0_markUnit, Cond.selects RX0 yX0_markUnit yX0_markUnit, Cond.code yX0_markUnit cX0_markUnit 6 (some .boolean), Cond.methodLink RX3 201 yX3_endExchange, Cond.instanceMethod yX3_endExchange, Cond.selects RX3 yX3_endExchange yX3_endExchange, Cond.code yX3_endExchange cX3_endExchange 2 (some .boolean), Cond.fieldLink RX3 41 "ScratchSwap" "exchangesEnded" "I", Cond.methodLink RX3 95 yX3_writeMagic, Cond.instanceMethod yX3_writeMagic, Cond.selects RX3 yX3_writeMagic yX3_writeMagic, Cond.code yX3_writeMagic cX3_writeMagic 2 (some .boolean), Cond.fieldLink RX3 183 "ScratchSwap" "MAGIC" "[I", Cond.instanceMethod yX0_writeRow, Cond.selects RX0 yX0_writeRow yX0_writeRow, Cond.code yX0_writeRow cX0_writeRow 5 (some .boolean), Cond.methodLink RX3 204 yX3_beginExchange, Cond.instanceMethod yX3_beginExchange, Cond.selects RX3 yX3_beginExchange yX3_beginExchange, Cond.code yX3_beginExchange cX3_beginExchange 2 (some .boolean), Cond.methodLink RX3 87 yX3_powerWent, Cond.instanceMethod yX3_powerWent, Cond.selects RX3 yX3_powerWent yX3_powerWent, Cond.code yX3_powerWent cX3_powerWent 1 (some .int)]
def wsX3_boot_r8 : List Cond := [Cond.methodLink RX3 114 yX3_versionIn, Cond.instanceMethod yX3_versionIn, Cond.selects RX3 yX3_versionIn yX3_versionIn, Cond.code yX3_versionIn cX3_versionIn 2 (some .int)]
def wsX3_boot : List Cond := .code yX3_boot cX3_boot 1 (some .int) :: ((wsX3_boot_r1 ++ (wsX3_boot_r2 ++ (wsX3_boot_r3 ++ (wsX3_boot_r4 ++ (wsX3_boot_r5 ++ (wsX3_boot_r6 ++ (wsX3_boot_r7 ++ wsX3_boot_r8))))))) ++ wsX30 ++ wsX00 ++ wsX10)
def wsX3_cut : List Cond := .code yX3_cut cX3_cut 3 (some .boolean) :: ([.constant RX3 117 (100000), .fieldLink RX3 12 "ScratchSwap" "memory" "LScratchSwap$Memory;", .instanceMethod yX0_tellToGo, .initialized RX0, .selects RX0 yX0_tellToGo yX0_tellToGo, .code yX0_tellToGo cX0_tellToGo 3 none, .fieldLink RX0 25 "ScratchSwap$Memory" "toldToGo" "Z", .fieldLink RX0 28 "ScratchSwap$Memory" "actsLeft" "I", .fieldLink RX0 32 "ScratchSwap$Memory" "unitsCut" "I"] ++ wsX30 ++ wsX00)
def wsX3_power : List Cond := .code yX3_power cX3_power 1 none :: ([.fieldLink RX3 12 "ScratchSwap" "memory" "LScratchSwap$Memory;", .instanceMethod yX0_powerComes, .initialized RX0, .selects RX0 yX0_powerComes yX0_powerComes, .code yX0_powerComes cX0_powerComes 1 none, .fieldLink RX0 21 "ScratchSwap$Memory" "down" "Z", .fieldLink RX0 25 "ScratchSwap$Memory" "toldToGo" "Z", .methodLink RX3 69 yX3_stopRunning, .instanceMethod yX3_stopRunning, .selects RX3 yX3_stopRunning yX3_stopRunning, .initialized RX3, .code yX3_stopRunning cX3_stopRunning 1 none, .fieldLink RX3 30 "ScratchSwap" "runs" "Z", .fieldLink RX3 34 "ScratchSwap" "runningVersion" "I"] ++ wsX30 ++ wsX00)
def wsX3_harm : List Cond := .code yX3_harm cX3_harm 3 (some .boolean) :: ([.fieldLink RX3 12 "ScratchSwap" "memory" "LScratchSwap$Memory;", .static yX0_has, .initialized RX0, .code yX0_has cX0_has 1 (some .boolean), .instanceMethod yX0_keepBits, .selects RX0 yX0_keepBits yX0_keepBits, .code yX0_keepBits cX0_keepBits 3 none, .fieldLink RX0 9 "ScratchSwap$Memory" "bytes" "[I"] ++ wsX30 ++ wsX00)
def wsX3_flash : List Cond := .code yX3_flash cX3_flash 2 (some .int) :: ([.fieldLink RX3 12 "ScratchSwap" "memory" "LScratchSwap$Memory;", .static yX0_has, .initialized RX0, .code yX0_has cX0_has 1 (some .boolean), .instanceMethod yX0_byteAt, .selects RX0 yX0_byteAt yX0_byteAt, .code yX0_byteAt cX0_byteAt 2 (some .int), .fieldLink RX0 9 "ScratchSwap$Memory" "bytes" "[I"] ++ wsX30 ++ wsX00)
def wsX3_due_r1 : List Cond := [Cond.methodLink RX3 105 yX3_findDue, Cond.instanceMethod yX3_findDue, Cond.selects RX3 yX3_findDue yX3_findDue, Cond.initialized RX3, Cond.code yX3_findDue cX3_findDue 2 (some .int), Cond.methodLink RX3 65 yX3_isUnderWay, Cond.instanceMethod yX3_isUnderWay, Cond.selects RX3 yX3_isUnderWay yX3_isUnderWay, Cond.code yX3_isUnderWay cX3_isUnderWay 1 (some .boolean), Cond.fieldLink RX3 12 "ScratchSwap" "memory" "LScratchSwap$Memory;", Cond.instanceMethod yX0_markIn, Cond.initialized RX0, Cond.selects RX0 yX0_markIn yX0_markIn, Cond.code yX0_markIn cX0_markIn 6 (some .int), Cond.methodLink RX0 59 yX0_unitAt, Cond.static yX0_unitAt, Cond.code yX0_unitAt cX0_unitAt 2 (some .int), Cond.methodLink RX0 41 yX0_byteAt, Cond.instanceMethod yX0_byteAt, Cond.selects RX0 yX0_byteAt yX0_byteAt, Cond.code yX0_byteAt cX0_byteAt 2 (some .int), Cond.fieldLink RX0 9 "ScratchSwap$Memory" "bytes" "[I", Cond.methodLink RX3 98 yX3_isMarked, Cond.instanceMethod yX3_isMarked]
def wsX3_due_r2 : List Cond := [Cond.selects RX3 yX3_isMarked yX3_isMarked, Cond.code yX3_isMarked cX3_isMarked 3 (some .boolean), Cond.methodLink RX3 186 yX3_kindAskedFor, Cond.instanceMethod yX3_kindAskedFor, Cond.selects RX3 yX3_kindAskedFor yX3_kindAskedFor, Cond.code yX3_kindAskedFor cX3_kindAskedFor 2 (some .int), Cond.instanceMethod yX0_hasMagic, Cond.selects RX0 yX0_hasMagic yX0_hasMagic, Cond.code yX0_hasMagic cX0_hasMagic 4 (some .boolean), Cond.methodLink RX3 111 yX3_isRight, Cond.instanceMethod yX3_isRight, Cond.selects RX3 yX3_isRight yX3_isRight, Cond.code yX3_isRight cX3_isRight 6 (some .boolean), Cond.fieldLink RX3 26 "ScratchSwap" "sha" "LScratchSwap$Sha256;", Cond.methodLink RX3 134 yX3_lengthIn, Cond.instanceMethod yX3_lengthIn, Cond.selects RX3 yX3_lengthIn yX3_lengthIn, Cond.code yX3_lengthIn cX3_lengthIn 2 (some .int), Cond.methodLink RX3 75 yX3_firstByteOf, Cond.static yX3_firstByteOf, Cond.code yX3_firstByteOf cX3_firstByteOf 1 (some .int), Cond.methodLink RX3 166 yX3_firstSectorOf, Cond.static yX3_firstSectorOf, Cond.code yX3_firstSectorOf cX3_firstSectorOf 1 (some .int)]
def wsX3_due_r3 : List Cond := [Cond.instanceMethod yX0_intAt, Cond.selects RX0 yX0_intAt yX0_intAt, Cond.code yX0_intAt cX0_intAt 2 (some .int), Cond.instanceMethod yX1_digest, Cond.initialized RX1, Cond.selects RX1 yX1_digest yX1_digest, Cond.code yX1_digest cX1_digest 7 none, Cond.fieldLink RX1 15 "ScratchSwap$Sha256" "hash" "[I", Cond.fieldLink RX1 18 "ScratchSwap$Sha256" "FIRST_WORDS" "[I", Cond.fieldLink RX1 11 "ScratchSwap$Sha256" "schedule" "[I", Cond.methodLink RX1 21 yX1_paddedWord, Cond.static yX1_paddedWord, Cond.code yX1_paddedWord cX1_paddedWord 6 (some .int), Cond.methodLink RX1 31 yX1_paddedByte, Cond.static yX1_paddedByte, Cond.code yX1_paddedByte cX1_paddedByte 5 (some .int), Cond.methodLink RX1 25 yX1_stretchSchedule, Cond.instanceMethod yX1_stretchSchedule, Cond.selects RX1 yX1_stretchSchedule yX1_stretchSchedule, Cond.code yX1_stretchSchedule cX1_stretchSchedule 6 none, Cond.methodLink RX1 34 yX1_turn, Cond.static yX1_turn, Cond.code yX1_turn cX1_turn 2 (some .int), Cond.methodLink RX1 28 yX1_mixBlock]
def wsX3_due_r4 : List Cond := [Cond.instanceMethod yX1_mixBlock, Cond.selects RX1 yX1_mixBlock yX1_mixBlock, Cond.code yX1_mixBlock cX1_mixBlock 14 none, Cond.fieldLink RX1 38 "ScratchSwap$Sha256" "ROUND_WORDS" "[I", Cond.instanceMethod yX1_digestByte, Cond.selects RX1 yX1_digestByte yX1_digestByte, Cond.code yX1_digestByte cX1_digestByte 2 (some .int), Cond.methodLink RX3 189 yX3_isTrialUnconfirmed, Cond.instanceMethod yX3_isTrialUnconfirmed, Cond.selects RX3 yX3_isTrialUnconfirmed yX3_isTrialUnconfirmed, Cond.code yX3_isTrialUnconfirmed cX3_isTrialUnconfirmed 1 (some .boolean)]
def wsX3_due : List Cond := .code yX3_due cX3_due 1 (some .int) :: ((wsX3_due_r1 ++ (wsX3_due_r2 ++ (wsX3_due_r3 ++ wsX3_due_r4))) ++ wsX30 ++ wsX00 ++ wsX10)
def wsX3_image_r1 : List Cond := [Cond.methodLink RX3 61 yX3_isSlot, Cond.static yX3_isSlot, Cond.initialized RX3, Cond.code yX3_isSlot cX3_isSlot 1 (some .boolean), Cond.methodLink RX3 111 yX3_isRight, Cond.instanceMethod yX3_isRight, Cond.selects RX3 yX3_isRight yX3_isRight, Cond.code yX3_isRight cX3_isRight 6 (some .boolean), Cond.fieldLink RX3 26 "ScratchSwap" "sha" "LScratchSwap$Sha256;", Cond.fieldLink RX3 12 "ScratchSwap" "memory" "LScratchSwap$Memory;", Cond.methodLink RX3 134 yX3_lengthIn, Cond.instanceMethod yX3_lengthIn, Cond.selects RX3 yX3_lengthIn yX3_lengthIn, Cond.code yX3_lengthIn cX3_lengthIn 2 (some .int), Cond.methodLink RX3 75 yX3_firstByteOf, Cond.static yX3_firstByteOf, Cond.code yX3_firstByteOf cX3_firstByteOf 1 (some .int), Cond.methodLink RX3 166 yX3_firstSectorOf, Cond.static yX3_firstSectorOf, Cond.code yX3_firstSectorOf cX3_firstSectorOf 1 (some .int), Cond.instanceMethod yX0_intAt, Cond.initialized RX0, Cond.selects RX0 yX0_intAt yX0_intAt, Cond.code yX0_intAt cX0_intAt 2 (some .int)]
def wsX3_image_r2 : List Cond := [Cond.methodLink RX0 41 yX0_byteAt, Cond.instanceMethod yX0_byteAt, Cond.selects RX0 yX0_byteAt yX0_byteAt, Cond.code yX0_byteAt cX0_byteAt 2 (some .int), Cond.fieldLink RX0 9 "ScratchSwap$Memory" "bytes" "[I", Cond.instanceMethod yX1_digest, Cond.initialized RX1, Cond.selects RX1 yX1_digest yX1_digest, Cond.code yX1_digest cX1_digest 7 none, Cond.fieldLink RX1 15 "ScratchSwap$Sha256" "hash" "[I", Cond.fieldLink RX1 18 "ScratchSwap$Sha256" "FIRST_WORDS" "[I", Cond.fieldLink RX1 11 "ScratchSwap$Sha256" "schedule" "[I", Cond.methodLink RX1 21 yX1_paddedWord, Cond.static yX1_paddedWord, Cond.code yX1_paddedWord cX1_paddedWord 6 (some .int), Cond.methodLink RX1 31 yX1_paddedByte, Cond.static yX1_paddedByte, Cond.code yX1_paddedByte cX1_paddedByte 5 (some .int), Cond.methodLink RX1 25 yX1_stretchSchedule, Cond.instanceMethod yX1_stretchSchedule, Cond.selects RX1 yX1_stretchSchedule yX1_stretchSchedule, Cond.code yX1_stretchSchedule cX1_stretchSchedule 6 none, Cond.methodLink RX1 34 yX1_turn, Cond.static yX1_turn]
def wsX3_image_r3 : List Cond := [Cond.code yX1_turn cX1_turn 2 (some .int), Cond.methodLink RX1 28 yX1_mixBlock, Cond.instanceMethod yX1_mixBlock, Cond.selects RX1 yX1_mixBlock yX1_mixBlock, Cond.code yX1_mixBlock cX1_mixBlock 14 none, Cond.fieldLink RX1 38 "ScratchSwap$Sha256" "ROUND_WORDS" "[I", Cond.instanceMethod yX1_digestByte, Cond.selects RX1 yX1_digestByte yX1_digestByte, Cond.code yX1_digestByte cX1_digestByte 2 (some .int), Cond.methodLink RX3 114 yX3_versionIn, Cond.instanceMethod yX3_versionIn, Cond.selects RX3 yX3_versionIn yX3_versionIn, Cond.code yX3_versionIn cX3_versionIn 2 (some .int)]
def wsX3_image : List Cond := .code yX3_image cX3_image 3 (some .int) :: ((wsX3_image_r1 ++ (wsX3_image_r2 ++ wsX3_image_r3)) ++ wsX30 ++ wsX00 ++ wsX10)
def wsX3_asNumber : List Cond := .code yX3_asNumber cX3_asNumber 1 (some .int) :: ([])
def wsX3_stepsSet : List Cond := .code yX3_stepsSet cX3_stepsSet 4 (some .int) :: ([.methodLink RX3 98 yX3_isMarked, .instanceMethod yX3_isMarked, .selects RX3 yX3_isMarked yX3_isMarked, .initialized RX3, .code yX3_isMarked cX3_isMarked 3 (some .boolean), .fieldLink RX3 12 "ScratchSwap" "memory" "LScratchSwap$Memory;", .instanceMethod yX0_markIn, .initialized RX0, .selects RX0 yX0_markIn yX0_markIn, .code yX0_markIn cX0_markIn 6 (some .int), .methodLink RX0 59 yX0_unitAt, .static yX0_unitAt, .code yX0_unitAt cX0_unitAt 2 (some .int), .methodLink RX0 41 yX0_byteAt, .instanceMethod yX0_byteAt, .selects RX0 yX0_byteAt yX0_byteAt, .code yX0_byteAt cX0_byteAt 2 (some .int), .fieldLink RX0 9 "ScratchSwap$Memory" "bytes" "[I"] ++ wsX30 ++ wsX00)
def wsX3_trailer_r1 : List Cond := [Cond.fieldLink RX3 12 "ScratchSwap" "memory" "LScratchSwap$Memory;", Cond.methodLink RX3 61 yX3_isSlot, Cond.static yX3_isSlot, Cond.initialized RX3, Cond.code yX3_isSlot cX3_isSlot 1 (some .boolean), Cond.methodLink RX3 137 yX3_trailerOf, Cond.static yX3_trailerOf, Cond.code yX3_trailerOf cX3_trailerOf 1 (some .int), Cond.instanceMethod yX0_hasMagic, Cond.initialized RX0, Cond.selects RX0 yX0_hasMagic yX0_hasMagic, Cond.code yX0_hasMagic cX0_hasMagic 4 (some .boolean), Cond.methodLink RX0 59 yX0_unitAt, Cond.static yX0_unitAt, Cond.code yX0_unitAt cX0_unitAt 2 (some .int), Cond.methodLink RX0 41 yX0_byteAt, Cond.instanceMethod yX0_byteAt, Cond.selects RX0 yX0_byteAt yX0_byteAt, Cond.code yX0_byteAt cX0_byteAt 2 (some .int), Cond.fieldLink RX0 9 "ScratchSwap$Memory" "bytes" "[I", Cond.methodLink RX3 140 yX3_asNumber, Cond.static yX3_asNumber, Cond.code yX3_asNumber cX3_asNumber 1 (some .int), Cond.instanceMethod yX0_markIn]
def wsX3_trailer_r2 : List Cond := [Cond.selects RX0 yX0_markIn yX0_markIn, Cond.code yX0_markIn cX0_markIn 6 (some .int), Cond.methodLink RX3 98 yX3_isMarked, Cond.instanceMethod yX3_isMarked, Cond.selects RX3 yX3_isMarked yX3_isMarked, Cond.code yX3_isMarked cX3_isMarked 3 (some .boolean), Cond.methodLink RX3 148 yX3_stepsSet, Cond.instanceMethod yX3_stepsSet, Cond.selects RX3 yX3_stepsSet yX3_stepsSet, Cond.code yX3_stepsSet cX3_stepsSet 4 (some .int)]
def wsX3_trailer : List Cond := .code yX3_trailer cX3_trailer 4 (some .int) :: ((wsX3_trailer_r1 ++ wsX3_trailer_r2) ++ wsX30 ++ wsX00)
def wsX3_wear : List Cond := .code yX3_wear cX3_wear 2 (some .int) :: ([.fieldLink RX3 12 "ScratchSwap" "memory" "LScratchSwap$Memory;", .static yX0_hasSector, .initialized RX0, .code yX0_hasSector cX0_hasSector 1 (some .boolean)] ++ wsX30 ++ wsX00)
def wsX3_look : List Cond := .code yX3_look cX3_look 2 (some .int) :: ([.fieldLink RX3 12 "ScratchSwap" "memory" "LScratchSwap$Memory;", .fieldLink RX3 30 "ScratchSwap" "runs" "Z", .fieldLink RX3 34 "ScratchSwap" "runningVersion" "I", .fieldLink RX3 38 "ScratchSwap" "wholeBoots" "I", .fieldLink RX3 41 "ScratchSwap" "exchangesEnded" "I", .fieldLink RX3 44 "ScratchSwap" "wrongsErased" "I", .methodLink RX3 140 yX3_asNumber, .static yX3_asNumber, .initialized RX3, .code yX3_asNumber cX3_asNumber 1 (some .int), .instanceMethod yX0_actsStillDone, .initialized RX0, .selects RX0 yX0_actsStillDone yX0_actsStillDone, .code yX0_actsStillDone cX0_actsStillDone 1 (some .int), .fieldLink RX0 21 "ScratchSwap$Memory" "down" "Z", .fieldLink RX0 25 "ScratchSwap$Memory" "toldToGo" "Z", .fieldLink RX0 28 "ScratchSwap$Memory" "actsLeft" "I"] ++ wsX30 ++ wsX00)
def wsX4_init : List Cond := .code yX4_init cX4_init 2 none :: ([.methodLink RX4 3 objectInit, .instanceMethod objectInit, .code objectInit ⟨#[0xb1]⟩ 1 none, .arrayClass .byte, .fieldLink RX4 9 "ScratchSwapModel" "flash" "[B", .fieldLink RX4 13 "ScratchSwapModel" "draft" "[B", .arrayClass .int, .fieldLink RX4 16 "ScratchSwapModel" "erases" "[I", .fieldLink RX4 20 "ScratchSwapModel" "places" "[I", .fieldLink RX4 23 "ScratchSwapModel" "units" "[B", .fieldLink RX4 26 "ScratchSwapModel" "tape" "[B", .fieldLink RX4 29 "ScratchSwapModel" "fuse" "I", .fieldLink RX4 33 "ScratchSwapModel" "wear" "[I", .fieldLink RX4 36 "ScratchSwapModel" "eight" "[B", .fieldLink RX4 39 "ScratchSwapModel" "digest" "[B", .fieldLink RX4 42 "ScratchSwapModel" "words" "[I", .fieldLink RX4 45 "ScratchSwapModel" "padded" "[B", .fieldLink RX4 48 "ScratchSwapModel" "chain" "[I", .fieldLink RX4 51 "ScratchSwapModel" "five" "[I"] ++ wsX40)
def wsX4_begins : List Cond := .code yX4_begins cX4_begins 2 none :: ([.fieldLink RX4 13 "ScratchSwapModel" "draft" "[B", .fieldLink RX4 9 "ScratchSwapModel" "flash" "[B", .fieldLink RX4 54 "ScratchSwapModel" "listed" "I", .fieldLink RX4 57 "ScratchSwapModel" "over" "I"] ++ wsX40)
def wsX4_erase : List Cond := .code yX4_erase cX4_erase 3 none :: ([.fieldLink RX4 13 "ScratchSwapModel" "draft" "[B", .fieldLink RX4 16 "ScratchSwapModel" "erases" "[I", .fieldLink RX4 54 "ScratchSwapModel" "listed" "I", .fieldLink RX4 20 "ScratchSwapModel" "places" "[I"] ++ wsX40)
def wsX4_write : List Cond := .code yX4_write cX4_write 5 none :: ([.fieldLink RX4 23 "ScratchSwapModel" "units" "[B", .fieldLink RX4 54 "ScratchSwapModel" "listed" "I", .fieldLink RX4 13 "ScratchSwapModel" "draft" "[B", .fieldLink RX4 16 "ScratchSwapModel" "erases" "[I", .fieldLink RX4 20 "ScratchSwapModel" "places" "[I"] ++ wsX40)
def wsX4_unit : List Cond := .code yX4_unit cX4_unit 2 (some .int) :: ([])
def wsX4_mark : List Cond := .code yX4_mark cX4_mark 5 none :: ([.fieldLink RX4 36 "ScratchSwapModel" "eight" "[B", .methodLink RX4 60 yX4_unit, .static yX4_unit, .initialized RX4, .code yX4_unit cX4_unit 2 (some .int), .methodLink RX4 64 yX4_write, .instanceMethod yX4_write, .selects RX4 yX4_write yX4_write, .code yX4_write cX4_write 5 none, .fieldLink RX4 23 "ScratchSwapModel" "units" "[B", .fieldLink RX4 54 "ScratchSwapModel" "listed" "I", .fieldLink RX4 13 "ScratchSwapModel" "draft" "[B", .fieldLink RX4 16 "ScratchSwapModel" "erases" "[I", .fieldLink RX4 20 "ScratchSwapModel" "places" "[I"] ++ wsX40)
def wsX4_magic : List Cond := .code yX4_magic cX4_magic 3 none :: ([.fieldLink RX4 36 "ScratchSwapModel" "eight" "[B", .fieldLink RX4 68 "ScratchSwapModel" "MAGIC" "[I", .methodLink RX4 60 yX4_unit, .static yX4_unit, .initialized RX4, .code yX4_unit cX4_unit 2 (some .int), .methodLink RX4 64 yX4_write, .instanceMethod yX4_write, .selects RX4 yX4_write yX4_write, .code yX4_write cX4_write 5 none, .fieldLink RX4 23 "ScratchSwapModel" "units" "[B", .fieldLink RX4 54 "ScratchSwapModel" "listed" "I", .fieldLink RX4 13 "ScratchSwapModel" "draft" "[B", .fieldLink RX4 16 "ScratchSwapModel" "erases" "[I", .fieldLink RX4 20 "ScratchSwapModel" "places" "[I"] ++ wsX40)
def wsX4_isBlank : List Cond := .code yX4_isBlank cX4_isBlank 4 (some .boolean) :: ([])
def wsX4_copy : List Cond := .code yX4_copy cX4_copy 4 none :: ([.fieldLink RX4 13 "ScratchSwapModel" "draft" "[B", .methodLink RX4 60 yX4_unit, .static yX4_unit, .initialized RX4, .code yX4_unit cX4_unit 2 (some .int), .methodLink RX4 71 yX4_isBlank, .static yX4_isBlank, .code yX4_isBlank cX4_isBlank 4 (some .boolean), .methodLink RX4 64 yX4_write, .instanceMethod yX4_write, .selects RX4 yX4_write yX4_write, .code yX4_write cX4_write 5 none, .fieldLink RX4 23 "ScratchSwapModel" "units" "[B", .fieldLink RX4 54 "ScratchSwapModel" "listed" "I", .fieldLink RX4 16 "ScratchSwapModel" "erases" "[I", .fieldLink RX4 20 "ScratchSwapModel" "places" "[I"] ++ wsX40)
def wsX4_act : List Cond := .code yX4_act cX4_act 3 none :: ([.fieldLink RX4 16 "ScratchSwapModel" "erases" "[I", .fieldLink RX4 33 "ScratchSwapModel" "wear" "[I", .fieldLink RX4 9 "ScratchSwapModel" "flash" "[B", .fieldLink RX4 20 "ScratchSwapModel" "places" "[I", .fieldLink RX4 23 "ScratchSwapModel" "units" "[B"] ++ wsX40)
def wsX4_does : List Cond := .code yX4_does cX4_does 3 (some .boolean) :: ([.fieldLink RX4 54 "ScratchSwapModel" "listed" "I", .fieldLink RX4 29 "ScratchSwapModel" "fuse" "I", .fieldLink RX4 79 "ScratchSwapModel" "acts" "I", .fieldLink RX4 57 "ScratchSwapModel" "over" "I", .fieldLink RX4 82 "ScratchSwapModel" "exchanges" "I", .fieldLink RX4 16 "ScratchSwapModel" "erases" "[I", .fieldLink RX4 33 "ScratchSwapModel" "wear" "[I", .fieldLink RX4 85 "ScratchSwapModel" "cutUnits" "I", .fieldLink RX4 9 "ScratchSwapModel" "flash" "[B", .fieldLink RX4 88 "ScratchSwapModel" "isDown" "Z", .fieldLink RX4 92 "ScratchSwapModel" "runs" "Z", .fieldLink RX4 95 "ScratchSwapModel" "gone" "I", .methodLink RX4 75 yX4_act, .instanceMethod yX4_act, .selects RX4 yX4_act yX4_act, .initialized RX4, .code yX4_act cX4_act 3 none, .fieldLink RX4 20 "ScratchSwapModel" "places" "[I", .fieldLink RX4 23 "ScratchSwapModel" "units" "[B"] ++ wsX40)
def wsX4_set : List Cond := .code yX4_set cX4_set 7 (some .int) :: ([.methodLink RX4 60 yX4_unit, .static yX4_unit, .initialized RX4, .code yX4_unit cX4_unit 2 (some .int)])
def wsX4_isSet : List Cond := .code yX4_isSet cX4_isSet 3 (some .boolean) :: ([.methodLink RX4 98 yX4_set, .static yX4_set, .initialized RX4, .code yX4_set cX4_set 7 (some .int), .methodLink RX4 60 yX4_unit, .static yX4_unit, .code yX4_unit cX4_unit 2 (some .int)])
def wsX4_isMagic : List Cond := .code yX4_isMagic cX4_isMagic 4 (some .boolean) :: ([.fieldLink RX4 68 "ScratchSwapModel" "MAGIC" "[I", .methodLink RX4 60 yX4_unit, .static yX4_unit, .initialized RX4, .code yX4_unit cX4_unit 2 (some .int)])
def wsX4_intAt : List Cond := .code yX4_intAt cX4_intAt 2 (some .int) :: ([])
def wsX4_turned : List Cond := .code yX4_turned cX4_turned 2 (some .int) :: ([])
def wsX4_block : List Cond := .code yX4_block cX4_block 13 none :: ([.fieldLink RX4 42 "ScratchSwapModel" "words" "[I", .fieldLink RX4 45 "ScratchSwapModel" "padded" "[B", .fieldLink RX4 48 "ScratchSwapModel" "chain" "[I", .fieldLink RX4 130 "ScratchSwapModel" "ROUNDS" "[I", .methodLink RX4 127 yX4_turned, .static yX4_turned, .initialized RX4, .code yX4_turned cX4_turned 2 (some .int)] ++ wsX40)
def wsX4_sha : List Cond := .code yX4_sha cX4_sha 6 none :: ([.fieldLink RX4 45 "ScratchSwapModel" "padded" "[B", .fieldLink RX4 48 "ScratchSwapModel" "chain" "[I", .fieldLink RX4 121 "ScratchSwapModel" "STARTS" "[I", .fieldLink RX4 39 "ScratchSwapModel" "digest" "[B", .methodLink RX4 124 yX4_block, .instanceMethod yX4_block, .selects RX4 yX4_block yX4_block, .initialized RX4, .code yX4_block cX4_block 13 none, .fieldLink RX4 42 "ScratchSwapModel" "words" "[I", .fieldLink RX4 130 "ScratchSwapModel" "ROUNDS" "[I", .methodLink RX4 127 yX4_turned, .static yX4_turned, .code yX4_turned cX4_turned 2 (some .int)] ++ wsX40)
def wsX4_isRight_r1 : List Cond := [Cond.fieldLink RX4 9 "ScratchSwapModel" "flash" "[B", Cond.fieldLink RX4 39 "ScratchSwapModel" "digest" "[B", Cond.methodLink RX4 60 yX4_unit, Cond.static yX4_unit, Cond.initialized RX4, Cond.code yX4_unit cX4_unit 2 (some .int), Cond.methodLink RX4 102 yX4_intAt, Cond.static yX4_intAt, Cond.code yX4_intAt cX4_intAt 2 (some .int), Cond.methodLink RX4 106 yX4_sha, Cond.instanceMethod yX4_sha, Cond.selects RX4 yX4_sha yX4_sha, Cond.code yX4_sha cX4_sha 6 none, Cond.fieldLink RX4 45 "ScratchSwapModel" "padded" "[B", Cond.fieldLink RX4 48 "ScratchSwapModel" "chain" "[I", Cond.fieldLink RX4 121 "ScratchSwapModel" "STARTS" "[I", Cond.methodLink RX4 124 yX4_block, Cond.instanceMethod yX4_block, Cond.selects RX4 yX4_block yX4_block, Cond.code yX4_block cX4_block 13 none, Cond.fieldLink RX4 42 "ScratchSwapModel" "words" "[I", Cond.fieldLink RX4 130 "ScratchSwapModel" "ROUNDS" "[I", Cond.methodLink RX4 127 yX4_turned, Cond.static yX4_turned]
def wsX4_isRight_r2 : List Cond := [Cond.code yX4_turned cX4_turned 2 (some .int)]
def wsX4_isRight : List Cond := .code yX4_isRight cX4_isRight 6 (some .boolean) :: ((wsX4_isRight_r1 ++ wsX4_isRight_r2) ++ wsX40)
def wsX4_due_r1 : List Cond := [Cond.fieldLink RX4 9 "ScratchSwapModel" "flash" "[B", Cond.methodLink RX4 98 yX4_set, Cond.static yX4_set, Cond.initialized RX4, Cond.code yX4_set cX4_set 7 (some .int), Cond.methodLink RX4 60 yX4_unit, Cond.static yX4_unit, Cond.code yX4_unit cX4_unit 2 (some .int), Cond.methodLink RX4 110 yX4_isSet, Cond.static yX4_isSet, Cond.code yX4_isSet cX4_isSet 3 (some .boolean), Cond.methodLink RX4 114 yX4_isMagic, Cond.static yX4_isMagic, Cond.code yX4_isMagic cX4_isMagic 4 (some .boolean), Cond.fieldLink RX4 68 "ScratchSwapModel" "MAGIC" "[I", Cond.methodLink RX4 117 yX4_isRight, Cond.instanceMethod yX4_isRight, Cond.selects RX4 yX4_isRight yX4_isRight, Cond.code yX4_isRight cX4_isRight 6 (some .boolean), Cond.fieldLink RX4 39 "ScratchSwapModel" "digest" "[B", Cond.methodLink RX4 102 yX4_intAt, Cond.static yX4_intAt, Cond.code yX4_intAt cX4_intAt 2 (some .int), Cond.methodLink RX4 106 yX4_sha]
def wsX4_due_r2 : List Cond := [Cond.instanceMethod yX4_sha, Cond.selects RX4 yX4_sha yX4_sha, Cond.code yX4_sha cX4_sha 6 none, Cond.fieldLink RX4 45 "ScratchSwapModel" "padded" "[B", Cond.fieldLink RX4 48 "ScratchSwapModel" "chain" "[I", Cond.fieldLink RX4 121 "ScratchSwapModel" "STARTS" "[I", Cond.methodLink RX4 124 yX4_block, Cond.instanceMethod yX4_block, Cond.selects RX4 yX4_block yX4_block, Cond.code yX4_block cX4_block 13 none, Cond.fieldLink RX4 42 "ScratchSwapModel" "words" "[I", Cond.fieldLink RX4 130 "ScratchSwapModel" "ROUNDS" "[I", Cond.methodLink RX4 127 yX4_turned, Cond.static yX4_turned, Cond.code yX4_turned cX4_turned 2 (some .int)]
def wsX4_due : List Cond := .code yX4_due cX4_due 3 (some .int) :: ((wsX4_due_r1 ++ wsX4_due_r2) ++ wsX40)
def wsX4_feed : List Cond := .code yX4_feed cX4_feed 7 (some .int) :: ([.fieldLink RX4 133 "ScratchSwapModel" "taped" "I", .fieldLink RX4 51 "ScratchSwapModel" "five" "[I", .fieldLink RX4 26 "ScratchSwapModel" "tape" "[B"] ++ wsX40)
def wsX4_end : List Cond := .code yX4_end cX4_end 2 (some .boolean) :: ([.fieldLink RX4 133 "ScratchSwapModel" "taped" "I"] ++ wsX40)
def wsX4_taped : List Cond := .code yX4_taped cX4_taped 1 (some .int) :: ([.fieldLink RX4 133 "ScratchSwapModel" "taped" "I"] ++ wsX40)
def wsX4_pack : List Cond := .code yX4_pack cX4_pack 4 (some .int) :: ([.fieldLink RX4 133 "ScratchSwapModel" "taped" "I", .fieldLink RX4 26 "ScratchSwapModel" "tape" "[B", .fieldLink RX4 39 "ScratchSwapModel" "digest" "[B", .methodLink RX4 106 yX4_sha, .instanceMethod yX4_sha, .selects RX4 yX4_sha yX4_sha, .initialized RX4, .code yX4_sha cX4_sha 6 none, .fieldLink RX4 45 "ScratchSwapModel" "padded" "[B", .fieldLink RX4 48 "ScratchSwapModel" "chain" "[I", .fieldLink RX4 121 "ScratchSwapModel" "STARTS" "[I", .methodLink RX4 124 yX4_block, .instanceMethod yX4_block, .selects RX4 yX4_block yX4_block, .code yX4_block cX4_block 13 none, .fieldLink RX4 42 "ScratchSwapModel" "words" "[I", .fieldLink RX4 130 "ScratchSwapModel" "ROUNDS" "[I", .methodLink RX4 127 yX4_turned, .static yX4_turned, .code yX4_turned cX4_turned 2 (some .int)] ++ wsX40)
def wsX4_install_r1 : List Cond := [Cond.fieldLink RX4 133 "ScratchSwapModel" "taped" "I", Cond.fieldLink RX4 88 "ScratchSwapModel" "isDown" "Z", Cond.fieldLink RX4 92 "ScratchSwapModel" "runs" "Z", Cond.fieldLink RX4 36 "ScratchSwapModel" "eight" "[B", Cond.fieldLink RX4 26 "ScratchSwapModel" "tape" "[B", Cond.methodLink RX4 136 yX4_due, Cond.instanceMethod yX4_due, Cond.selects RX4 yX4_due yX4_due, Cond.initialized RX4, Cond.code yX4_due cX4_due 3 (some .int), Cond.fieldLink RX4 9 "ScratchSwapModel" "flash" "[B", Cond.methodLink RX4 98 yX4_set, Cond.static yX4_set, Cond.code yX4_set cX4_set 7 (some .int), Cond.methodLink RX4 60 yX4_unit, Cond.static yX4_unit, Cond.code yX4_unit cX4_unit 2 (some .int), Cond.methodLink RX4 110 yX4_isSet, Cond.static yX4_isSet, Cond.code yX4_isSet cX4_isSet 3 (some .boolean), Cond.methodLink RX4 114 yX4_isMagic, Cond.static yX4_isMagic, Cond.code yX4_isMagic cX4_isMagic 4 (some .boolean), Cond.fieldLink RX4 68 "ScratchSwapModel" "MAGIC" "[I"]
def wsX4_install_r2 : List Cond := [Cond.methodLink RX4 117 yX4_isRight, Cond.instanceMethod yX4_isRight, Cond.selects RX4 yX4_isRight yX4_isRight, Cond.code yX4_isRight cX4_isRight 6 (some .boolean), Cond.fieldLink RX4 39 "ScratchSwapModel" "digest" "[B", Cond.methodLink RX4 102 yX4_intAt, Cond.static yX4_intAt, Cond.code yX4_intAt cX4_intAt 2 (some .int), Cond.methodLink RX4 106 yX4_sha, Cond.instanceMethod yX4_sha, Cond.selects RX4 yX4_sha yX4_sha, Cond.code yX4_sha cX4_sha 6 none, Cond.fieldLink RX4 45 "ScratchSwapModel" "padded" "[B", Cond.fieldLink RX4 48 "ScratchSwapModel" "chain" "[I", Cond.fieldLink RX4 121 "ScratchSwapModel" "STARTS" "[I", Cond.methodLink RX4 124 yX4_block, Cond.instanceMethod yX4_block, Cond.selects RX4 yX4_block yX4_block, Cond.code yX4_block cX4_block 13 none, Cond.fieldLink RX4 42 "ScratchSwapModel" "words" "[I", Cond.fieldLink RX4 130 "ScratchSwapModel" "ROUNDS" "[I", Cond.methodLink RX4 127 yX4_turned, Cond.static yX4_turned, Cond.code yX4_turned cX4_turned 2 (some .int)]
def wsX4_install_r3 : List Cond := [Cond.methodLink RX4 140 yX4_begins, Cond.instanceMethod yX4_begins, Cond.selects RX4 yX4_begins yX4_begins, Cond.code yX4_begins cX4_begins 2 none, Cond.fieldLink RX4 13 "ScratchSwapModel" "draft" "[B", Cond.fieldLink RX4 54 "ScratchSwapModel" "listed" "I", Cond.fieldLink RX4 57 "ScratchSwapModel" "over" "I", Cond.methodLink RX4 143 yX4_erase, Cond.instanceMethod yX4_erase, Cond.selects RX4 yX4_erase yX4_erase, Cond.code yX4_erase cX4_erase 3 none, Cond.fieldLink RX4 16 "ScratchSwapModel" "erases" "[I", Cond.fieldLink RX4 20 "ScratchSwapModel" "places" "[I", Cond.methodLink RX4 71 yX4_isBlank, Cond.static yX4_isBlank, Cond.code yX4_isBlank cX4_isBlank 4 (some .boolean), Cond.methodLink RX4 64 yX4_write, Cond.instanceMethod yX4_write, Cond.selects RX4 yX4_write yX4_write, Cond.code yX4_write cX4_write 5 none, Cond.fieldLink RX4 23 "ScratchSwapModel" "units" "[B", Cond.methodLink RX4 146 yX4_does, Cond.instanceMethod yX4_does, Cond.selects RX4 yX4_does yX4_does]
def wsX4_install_r4 : List Cond := [Cond.code yX4_does cX4_does 3 (some .boolean), Cond.fieldLink RX4 29 "ScratchSwapModel" "fuse" "I", Cond.fieldLink RX4 79 "ScratchSwapModel" "acts" "I", Cond.fieldLink RX4 82 "ScratchSwapModel" "exchanges" "I", Cond.fieldLink RX4 33 "ScratchSwapModel" "wear" "[I", Cond.fieldLink RX4 85 "ScratchSwapModel" "cutUnits" "I", Cond.fieldLink RX4 95 "ScratchSwapModel" "gone" "I", Cond.methodLink RX4 75 yX4_act, Cond.instanceMethod yX4_act, Cond.selects RX4 yX4_act yX4_act, Cond.code yX4_act cX4_act 3 none]
def wsX4_install : List Cond := .code yX4_install cX4_install 5 (some .int) :: ((wsX4_install_r1 ++ (wsX4_install_r2 ++ (wsX4_install_r3 ++ wsX4_install_r4))) ++ wsX40)
def wsX4_request_r1 : List Cond := [Cond.fieldLink RX4 88 "ScratchSwapModel" "isDown" "Z", Cond.fieldLink RX4 92 "ScratchSwapModel" "runs" "Z", Cond.methodLink RX4 140 yX4_begins, Cond.instanceMethod yX4_begins, Cond.selects RX4 yX4_begins yX4_begins, Cond.initialized RX4, Cond.code yX4_begins cX4_begins 2 none, Cond.fieldLink RX4 13 "ScratchSwapModel" "draft" "[B", Cond.fieldLink RX4 9 "ScratchSwapModel" "flash" "[B", Cond.fieldLink RX4 54 "ScratchSwapModel" "listed" "I", Cond.fieldLink RX4 57 "ScratchSwapModel" "over" "I", Cond.methodLink RX4 150 yX4_mark, Cond.instanceMethod yX4_mark, Cond.selects RX4 yX4_mark yX4_mark, Cond.code yX4_mark cX4_mark 5 none, Cond.fieldLink RX4 36 "ScratchSwapModel" "eight" "[B", Cond.methodLink RX4 60 yX4_unit, Cond.static yX4_unit, Cond.code yX4_unit cX4_unit 2 (some .int), Cond.methodLink RX4 64 yX4_write, Cond.instanceMethod yX4_write, Cond.selects RX4 yX4_write yX4_write, Cond.code yX4_write cX4_write 5 none, Cond.fieldLink RX4 23 "ScratchSwapModel" "units" "[B"]
def wsX4_request_r2 : List Cond := [Cond.fieldLink RX4 16 "ScratchSwapModel" "erases" "[I", Cond.fieldLink RX4 20 "ScratchSwapModel" "places" "[I", Cond.methodLink RX4 154 yX4_magic, Cond.instanceMethod yX4_magic, Cond.selects RX4 yX4_magic yX4_magic, Cond.code yX4_magic cX4_magic 3 none, Cond.fieldLink RX4 68 "ScratchSwapModel" "MAGIC" "[I", Cond.methodLink RX4 146 yX4_does, Cond.instanceMethod yX4_does, Cond.selects RX4 yX4_does yX4_does, Cond.code yX4_does cX4_does 3 (some .boolean), Cond.fieldLink RX4 29 "ScratchSwapModel" "fuse" "I", Cond.fieldLink RX4 79 "ScratchSwapModel" "acts" "I", Cond.fieldLink RX4 82 "ScratchSwapModel" "exchanges" "I", Cond.fieldLink RX4 33 "ScratchSwapModel" "wear" "[I", Cond.fieldLink RX4 85 "ScratchSwapModel" "cutUnits" "I", Cond.fieldLink RX4 95 "ScratchSwapModel" "gone" "I", Cond.methodLink RX4 75 yX4_act, Cond.instanceMethod yX4_act, Cond.selects RX4 yX4_act yX4_act, Cond.code yX4_act cX4_act 3 none]
def wsX4_request : List Cond := .code yX4_request cX4_request 2 (some .int) :: ((wsX4_request_r1 ++ wsX4_request_r2) ++ wsX40)
def wsX4_confirm_r1 : List Cond := [Cond.fieldLink RX4 88 "ScratchSwapModel" "isDown" "Z", Cond.fieldLink RX4 92 "ScratchSwapModel" "runs" "Z", Cond.fieldLink RX4 9 "ScratchSwapModel" "flash" "[B", Cond.methodLink RX4 110 yX4_isSet, Cond.static yX4_isSet, Cond.initialized RX4, Cond.code yX4_isSet cX4_isSet 3 (some .boolean), Cond.methodLink RX4 98 yX4_set, Cond.static yX4_set, Cond.code yX4_set cX4_set 7 (some .int), Cond.methodLink RX4 60 yX4_unit, Cond.static yX4_unit, Cond.code yX4_unit cX4_unit 2 (some .int), Cond.methodLink RX4 114 yX4_isMagic, Cond.static yX4_isMagic, Cond.code yX4_isMagic cX4_isMagic 4 (some .boolean), Cond.fieldLink RX4 68 "ScratchSwapModel" "MAGIC" "[I", Cond.methodLink RX4 140 yX4_begins, Cond.instanceMethod yX4_begins, Cond.selects RX4 yX4_begins yX4_begins, Cond.code yX4_begins cX4_begins 2 none, Cond.fieldLink RX4 13 "ScratchSwapModel" "draft" "[B", Cond.fieldLink RX4 54 "ScratchSwapModel" "listed" "I", Cond.fieldLink RX4 57 "ScratchSwapModel" "over" "I"]
def wsX4_confirm_r2 : List Cond := [Cond.methodLink RX4 150 yX4_mark, Cond.instanceMethod yX4_mark, Cond.selects RX4 yX4_mark yX4_mark, Cond.code yX4_mark cX4_mark 5 none, Cond.fieldLink RX4 36 "ScratchSwapModel" "eight" "[B", Cond.methodLink RX4 64 yX4_write, Cond.instanceMethod yX4_write, Cond.selects RX4 yX4_write yX4_write, Cond.code yX4_write cX4_write 5 none, Cond.fieldLink RX4 23 "ScratchSwapModel" "units" "[B", Cond.fieldLink RX4 16 "ScratchSwapModel" "erases" "[I", Cond.fieldLink RX4 20 "ScratchSwapModel" "places" "[I", Cond.methodLink RX4 146 yX4_does, Cond.instanceMethod yX4_does, Cond.selects RX4 yX4_does yX4_does, Cond.code yX4_does cX4_does 3 (some .boolean), Cond.fieldLink RX4 29 "ScratchSwapModel" "fuse" "I", Cond.fieldLink RX4 79 "ScratchSwapModel" "acts" "I", Cond.fieldLink RX4 82 "ScratchSwapModel" "exchanges" "I", Cond.fieldLink RX4 33 "ScratchSwapModel" "wear" "[I", Cond.fieldLink RX4 85 "ScratchSwapModel" "cutUnits" "I", Cond.fieldLink RX4 95 "ScratchSwapModel" "gone" "I", Cond.methodLink RX4 75 yX4_act, Cond.instanceMethod yX4_act]
def wsX4_confirm_r3 : List Cond := [Cond.selects RX4 yX4_act yX4_act, Cond.code yX4_act cX4_act 3 none]
def wsX4_confirm : List Cond := .code yX4_confirm cX4_confirm 1 (some .int) :: ((wsX4_confirm_r1 ++ (wsX4_confirm_r2 ++ wsX4_confirm_r3)) ++ wsX40)
def wsX4_lists_r1 : List Cond := [Cond.fieldLink RX4 13 "ScratchSwapModel" "draft" "[B", Cond.fieldLink RX4 54 "ScratchSwapModel" "listed" "I", Cond.fieldLink RX4 57 "ScratchSwapModel" "over" "I", Cond.methodLink RX4 110 yX4_isSet, Cond.static yX4_isSet, Cond.initialized RX4, Cond.code yX4_isSet cX4_isSet 3 (some .boolean), Cond.methodLink RX4 98 yX4_set, Cond.static yX4_set, Cond.code yX4_set cX4_set 7 (some .int), Cond.methodLink RX4 60 yX4_unit, Cond.static yX4_unit, Cond.code yX4_unit cX4_unit 2 (some .int), Cond.methodLink RX4 143 yX4_erase, Cond.instanceMethod yX4_erase, Cond.selects RX4 yX4_erase yX4_erase, Cond.code yX4_erase cX4_erase 3 none, Cond.fieldLink RX4 16 "ScratchSwapModel" "erases" "[I", Cond.fieldLink RX4 20 "ScratchSwapModel" "places" "[I", Cond.methodLink RX4 157 yX4_copy, Cond.instanceMethod yX4_copy, Cond.selects RX4 yX4_copy yX4_copy, Cond.code yX4_copy cX4_copy 4 none, Cond.methodLink RX4 71 yX4_isBlank]
def wsX4_lists_r2 : List Cond := [Cond.static yX4_isBlank, Cond.code yX4_isBlank cX4_isBlank 4 (some .boolean), Cond.methodLink RX4 64 yX4_write, Cond.instanceMethod yX4_write, Cond.selects RX4 yX4_write yX4_write, Cond.code yX4_write cX4_write 5 none, Cond.fieldLink RX4 23 "ScratchSwapModel" "units" "[B", Cond.methodLink RX4 150 yX4_mark, Cond.instanceMethod yX4_mark, Cond.selects RX4 yX4_mark yX4_mark, Cond.code yX4_mark cX4_mark 5 none, Cond.fieldLink RX4 36 "ScratchSwapModel" "eight" "[B", Cond.methodLink RX4 154 yX4_magic, Cond.instanceMethod yX4_magic, Cond.selects RX4 yX4_magic yX4_magic, Cond.code yX4_magic cX4_magic 3 none, Cond.fieldLink RX4 68 "ScratchSwapModel" "MAGIC" "[I"]
def wsX4_lists : List Cond := .code yX4_lists cX4_lists 6 none :: ((wsX4_lists_r1 ++ wsX4_lists_r2) ++ wsX40)
def wsX4_boot_r1 : List Cond := [Cond.fieldLink RX4 88 "ScratchSwapModel" "isDown" "Z", Cond.fieldLink RX4 92 "ScratchSwapModel" "runs" "Z", Cond.fieldLink RX4 13 "ScratchSwapModel" "draft" "[B", Cond.fieldLink RX4 164 "ScratchSwapModel" "wrongs" "I", Cond.fieldLink RX4 167 "ScratchSwapModel" "boots" "I", Cond.fieldLink RX4 9 "ScratchSwapModel" "flash" "[B", Cond.fieldLink RX4 170 "ScratchSwapModel" "version" "I", Cond.methodLink RX4 136 yX4_due, Cond.instanceMethod yX4_due, Cond.selects RX4 yX4_due yX4_due, Cond.initialized RX4, Cond.code yX4_due cX4_due 3 (some .int), Cond.methodLink RX4 98 yX4_set, Cond.static yX4_set, Cond.code yX4_set cX4_set 7 (some .int), Cond.methodLink RX4 60 yX4_unit, Cond.static yX4_unit, Cond.code yX4_unit cX4_unit 2 (some .int), Cond.methodLink RX4 110 yX4_isSet, Cond.static yX4_isSet, Cond.code yX4_isSet cX4_isSet 3 (some .boolean), Cond.methodLink RX4 114 yX4_isMagic, Cond.static yX4_isMagic, Cond.code yX4_isMagic cX4_isMagic 4 (some .boolean)]
def wsX4_boot_r2 : List Cond := [Cond.fieldLink RX4 68 "ScratchSwapModel" "MAGIC" "[I", Cond.methodLink RX4 117 yX4_isRight, Cond.instanceMethod yX4_isRight, Cond.selects RX4 yX4_isRight yX4_isRight, Cond.code yX4_isRight cX4_isRight 6 (some .boolean), Cond.fieldLink RX4 39 "ScratchSwapModel" "digest" "[B", Cond.methodLink RX4 102 yX4_intAt, Cond.static yX4_intAt, Cond.code yX4_intAt cX4_intAt 2 (some .int), Cond.methodLink RX4 106 yX4_sha, Cond.instanceMethod yX4_sha, Cond.selects RX4 yX4_sha yX4_sha, Cond.code yX4_sha cX4_sha 6 none, Cond.fieldLink RX4 45 "ScratchSwapModel" "padded" "[B", Cond.fieldLink RX4 48 "ScratchSwapModel" "chain" "[I", Cond.fieldLink RX4 121 "ScratchSwapModel" "STARTS" "[I", Cond.methodLink RX4 124 yX4_block, Cond.instanceMethod yX4_block, Cond.selects RX4 yX4_block yX4_block, Cond.code yX4_block cX4_block 13 none, Cond.fieldLink RX4 42 "ScratchSwapModel" "words" "[I", Cond.fieldLink RX4 130 "ScratchSwapModel" "ROUNDS" "[I", Cond.methodLink RX4 127 yX4_turned, Cond.static yX4_turned]
def wsX4_boot_r3 : List Cond := [Cond.code yX4_turned cX4_turned 2 (some .int), Cond.methodLink RX4 140 yX4_begins, Cond.instanceMethod yX4_begins, Cond.selects RX4 yX4_begins yX4_begins, Cond.code yX4_begins cX4_begins 2 none, Cond.fieldLink RX4 54 "ScratchSwapModel" "listed" "I", Cond.fieldLink RX4 57 "ScratchSwapModel" "over" "I", Cond.methodLink RX4 143 yX4_erase, Cond.instanceMethod yX4_erase, Cond.selects RX4 yX4_erase yX4_erase, Cond.code yX4_erase cX4_erase 3 none, Cond.fieldLink RX4 16 "ScratchSwapModel" "erases" "[I", Cond.fieldLink RX4 20 "ScratchSwapModel" "places" "[I", Cond.methodLink RX4 150 yX4_mark, Cond.instanceMethod yX4_mark, Cond.selects RX4 yX4_mark yX4_mark, Cond.code yX4_mark cX4_mark 5 none, Cond.fieldLink RX4 36 "ScratchSwapModel" "eight" "[B", Cond.methodLink RX4 64 yX4_write, Cond.instanceMethod yX4_write, Cond.selects RX4 yX4_write yX4_write, Cond.code yX4_write cX4_write 5 none, Cond.fieldLink RX4 23 "ScratchSwapModel" "units" "[B", Cond.methodLink RX4 161 yX4_lists]
def wsX4_boot_r4 : List Cond := [Cond.instanceMethod yX4_lists, Cond.selects RX4 yX4_lists yX4_lists, Cond.code yX4_lists cX4_lists 6 none, Cond.methodLink RX4 157 yX4_copy, Cond.instanceMethod yX4_copy, Cond.selects RX4 yX4_copy yX4_copy, Cond.code yX4_copy cX4_copy 4 none, Cond.methodLink RX4 71 yX4_isBlank, Cond.static yX4_isBlank, Cond.code yX4_isBlank cX4_isBlank 4 (some .boolean), Cond.methodLink RX4 154 yX4_magic, Cond.instanceMethod yX4_magic, Cond.selects RX4 yX4_magic yX4_magic, Cond.code yX4_magic cX4_magic 3 none, Cond.methodLink RX4 146 yX4_does, Cond.instanceMethod yX4_does, Cond.selects RX4 yX4_does yX4_does, Cond.code yX4_does cX4_does 3 (some .boolean), Cond.fieldLink RX4 29 "ScratchSwapModel" "fuse" "I", Cond.fieldLink RX4 79 "ScratchSwapModel" "acts" "I", Cond.fieldLink RX4 82 "ScratchSwapModel" "exchanges" "I", Cond.fieldLink RX4 33 "ScratchSwapModel" "wear" "[I", Cond.fieldLink RX4 85 "ScratchSwapModel" "cutUnits" "I", Cond.fieldLink RX4 95 "ScratchSwapModel" "gone" "I"]
def wsX4_boot_r5 : List Cond := [Cond.methodLink RX4 75 yX4_act, Cond.instanceMethod yX4_act, Cond.selects RX4 yX4_act yX4_act, Cond.code yX4_act cX4_act 3 none]
def wsX4_boot : List Cond := .code yX4_boot cX4_boot 3 (some .int) :: ((wsX4_boot_r1 ++ (wsX4_boot_r2 ++ (wsX4_boot_r3 ++ (wsX4_boot_r4 ++ wsX4_boot_r5)))) ++ wsX40)
def wsX4_cut : List Cond := .code yX4_cut cX4_cut 3 (some .boolean) :: ([.constant RX4 173 (100000), .fieldLink RX4 88 "ScratchSwapModel" "isDown" "Z", .fieldLink RX4 29 "ScratchSwapModel" "fuse" "I", .fieldLink RX4 85 "ScratchSwapModel" "cutUnits" "I"] ++ wsX40)
def wsX4_power : List Cond := .code yX4_power cX4_power 1 none :: ([.fieldLink RX4 88 "ScratchSwapModel" "isDown" "Z", .fieldLink RX4 92 "ScratchSwapModel" "runs" "Z", .fieldLink RX4 29 "ScratchSwapModel" "fuse" "I"] ++ wsX40)
def wsX4_harm : List Cond := .code yX4_harm cX4_harm 3 (some .boolean) :: ([.fieldLink RX4 9 "ScratchSwapModel" "flash" "[B"] ++ wsX40)
def wsX4_flash : List Cond := .code yX4_flash cX4_flash 2 (some .int) :: ([.fieldLink RX4 9 "ScratchSwapModel" "flash" "[B"] ++ wsX40)
def wsX4_image_r1 : List Cond := [Cond.fieldLink RX4 9 "ScratchSwapModel" "flash" "[B", Cond.methodLink RX4 117 yX4_isRight, Cond.instanceMethod yX4_isRight, Cond.selects RX4 yX4_isRight yX4_isRight, Cond.initialized RX4, Cond.code yX4_isRight cX4_isRight 6 (some .boolean), Cond.fieldLink RX4 39 "ScratchSwapModel" "digest" "[B", Cond.methodLink RX4 60 yX4_unit, Cond.static yX4_unit, Cond.code yX4_unit cX4_unit 2 (some .int), Cond.methodLink RX4 102 yX4_intAt, Cond.static yX4_intAt, Cond.code yX4_intAt cX4_intAt 2 (some .int), Cond.methodLink RX4 106 yX4_sha, Cond.instanceMethod yX4_sha, Cond.selects RX4 yX4_sha yX4_sha, Cond.code yX4_sha cX4_sha 6 none, Cond.fieldLink RX4 45 "ScratchSwapModel" "padded" "[B", Cond.fieldLink RX4 48 "ScratchSwapModel" "chain" "[I", Cond.fieldLink RX4 121 "ScratchSwapModel" "STARTS" "[I", Cond.methodLink RX4 124 yX4_block, Cond.instanceMethod yX4_block, Cond.selects RX4 yX4_block yX4_block, Cond.code yX4_block cX4_block 13 none]
def wsX4_image_r2 : List Cond := [Cond.fieldLink RX4 42 "ScratchSwapModel" "words" "[I", Cond.fieldLink RX4 130 "ScratchSwapModel" "ROUNDS" "[I", Cond.methodLink RX4 127 yX4_turned, Cond.static yX4_turned, Cond.code yX4_turned cX4_turned 2 (some .int)]
def wsX4_image : List Cond := .code yX4_image cX4_image 3 (some .int) :: ((wsX4_image_r1 ++ wsX4_image_r2) ++ wsX40)
def wsX4_trailer : List Cond := .code yX4_trailer cX4_trailer 6 (some .int) :: ([.fieldLink RX4 9 "ScratchSwapModel" "flash" "[B", .methodLink RX4 114 yX4_isMagic, .static yX4_isMagic, .initialized RX4, .code yX4_isMagic cX4_isMagic 4 (some .boolean), .fieldLink RX4 68 "ScratchSwapModel" "MAGIC" "[I", .methodLink RX4 60 yX4_unit, .static yX4_unit, .code yX4_unit cX4_unit 2 (some .int), .methodLink RX4 98 yX4_set, .static yX4_set, .code yX4_set cX4_set 7 (some .int), .methodLink RX4 110 yX4_isSet, .static yX4_isSet, .code yX4_isSet cX4_isSet 3 (some .boolean)] ++ wsX40)
def wsX4_wear : List Cond := .code yX4_wear cX4_wear 2 (some .int) :: ([.fieldLink RX4 33 "ScratchSwapModel" "wear" "[I"] ++ wsX40)
def wsX4_look : List Cond := .code yX4_look cX4_look 2 (some .int) :: ([.fieldLink RX4 88 "ScratchSwapModel" "isDown" "Z", .fieldLink RX4 92 "ScratchSwapModel" "runs" "Z", .fieldLink RX4 170 "ScratchSwapModel" "version" "I", .fieldLink RX4 79 "ScratchSwapModel" "acts" "I", .fieldLink RX4 29 "ScratchSwapModel" "fuse" "I", .fieldLink RX4 167 "ScratchSwapModel" "boots" "I", .fieldLink RX4 82 "ScratchSwapModel" "exchanges" "I", .fieldLink RX4 164 "ScratchSwapModel" "wrongs" "I", .fieldLink RX4 95 "ScratchSwapModel" "gone" "I"] ++ wsX40)
abbrev vwCl : List vw_C := [(RX0, TX0, 9), (RX1, TX1, 2), (RX2, TX2, 2), (RX3, TX3, 8), (RX4, TX4, 26)]
/-! ===== END printed: names ===== -/
end
section
theorem dX0_init_0 : decode cX0_init 0 = .ok (.aload_n 0, 1) := by decide +kernel
theorem dX0_init_1 : decode cX0_init 1 = .ok (.invokespecial 3, 3) := by decide +kernel
theorem dX0_init_4 : decode cX0_init 4 = .ok (.aload_n 0, 1) := by decide +kernel
theorem dX0_init_5 : decode cX0_init 5 = .ok (.sipush 2816, 3) := by decide +kernel
theorem dX0_init_8 : decode cX0_init 8 = .ok (.newarray .int, 2) := by decide +kernel
theorem dX0_init_10 : decode cX0_init 10 = .ok (.putfield 9, 3) := by decide +kernel
theorem dX0_init_13 : decode cX0_init 13 = .ok (.aload_n 0, 1) := by decide +kernel
theorem dX0_init_14 : decode cX0_init 14 = .ok (.bipush 11, 2) := by decide +kernel
theorem dX0_init_16 : decode cX0_init 16 = .ok (.newarray .int, 2) := by decide +kernel
theorem dX0_init_18 : decode cX0_init 18 = .ok (.putfield 15, 3) := by decide +kernel
theorem dX0_init_21 : decode cX0_init 21 = .ok (.aload_n 0, 1) := by decide +kernel
theorem dX0_init_22 : decode cX0_init 22 = .ok (.bipush 8, 2) := by decide +kernel
theorem dX0_init_24 : decode cX0_init 24 = .ok (.newarray .int, 2) := by decide +kernel
theorem dX0_init_26 : decode cX0_init 26 = .ok (.putfield 18, 3) := by decide +kernel
theorem dX0_init_29 : decode cX0_init 29 = .ok (.iconst 0, 1) := by decide +kernel
theorem dX0_init_30 : decode cX0_init 30 = .ok (.istore_n 1, 1) := by decide +kernel
theorem dX0_init_31 : decode cX0_init 31 = .ok (.iload_n 1, 1) := by decide +kernel
theorem dX0_init_32 : decode cX0_init 32 = .ok (.sipush 2816, 3) := by decide +kernel
theorem dX0_init_35 : decode cX0_init 35 = .ok (.if_icmp .ge 18, 3) := by decide +kernel
theorem dX0_init_38 : decode cX0_init 38 = .ok (.aload_n 0, 1) := by decide +kernel
theorem dX0_init_39 : decode cX0_init 39 = .ok (.getfield 9, 3) := by decide +kernel
theorem dX0_init_42 : decode cX0_init 42 = .ok (.iload_n 1, 1) := by decide +kernel
theorem dX0_init_43 : decode cX0_init 43 = .ok (.sipush 255, 3) := by decide +kernel
theorem dX0_init_46 : decode cX0_init 46 = .ok (.iastore, 1) := by decide +kernel
theorem dX0_init_47 : decode cX0_init 47 = .ok (.iinc 1 1, 3) := by decide +kernel
theorem dX0_init_50 : decode cX0_init 50 = .ok (.goto (-19), 3) := by decide +kernel
theorem dX0_init_53 : decode cX0_init 53 = .ok (.aload_n 0, 1) := by decide +kernel
theorem dX0_init_54 : decode cX0_init 54 = .ok (.iconst 0, 1) := by decide +kernel
theorem dX0_init_55 : decode cX0_init 55 = .ok (.putfield 21, 3) := by decide +kernel
theorem dX0_init_58 : decode cX0_init 58 = .ok (.aload_n 0, 1) := by decide +kernel
theorem dX0_init_59 : decode cX0_init 59 = .ok (.iconst 0, 1) := by decide +kernel
theorem dX0_init_60 : decode cX0_init 60 = .ok (.putfield 25, 3) := by decide +kernel
theorem dX0_init_63 : decode cX0_init 63 = .ok (.aload_n 0, 1) := by decide +kernel
theorem dX0_init_64 : decode cX0_init 64 = .ok (.iconst 0, 1) := by decide +kernel
theorem dX0_init_65 : decode cX0_init 65 = .ok (.putfield 28, 3) := by decide +kernel
theorem dX0_init_68 : decode cX0_init 68 = .ok (.aload_n 0, 1) := by decide +kernel
theorem dX0_init_69 : decode cX0_init 69 = .ok (.iconst 0, 1) := by decide +kernel
theorem dX0_init_70 : decode cX0_init 70 = .ok (.putfield 32, 3) := by decide +kernel
theorem dX0_init_73 : decode cX0_init 73 = .ok (.aload_n 0, 1) := by decide +kernel
theorem dX0_init_74 : decode cX0_init 74 = .ok (.iconst 0, 1) := by decide +kernel
theorem dX0_init_75 : decode cX0_init 75 = .ok (.putfield 35, 3) := by decide +kernel
theorem dX0_init_78 : decode cX0_init 78 = .ok (.aload_n 0, 1) := by decide +kernel
theorem dX0_init_79 : decode cX0_init 79 = .ok (.iconst 0, 1) := by decide +kernel
theorem dX0_init_80 : decode cX0_init 80 = .ok (.putfield 38, 3) := by decide +kernel
theorem dX0_init_83 : decode cX0_init 83 = .ok (.return_, 1) := by decide +kernel
theorem dX0_has_0 : decode cX0_has 0 = .ok (.iload_n 0, 1) := by decide +kernel
theorem dX0_has_1 : decode cX0_has 1 = .ok (.ifCond .lt 14, 3) := by decide +kernel
theorem dX0_has_4 : decode cX0_has 4 = .ok (.iload_n 0, 1) := by decide +kernel
theorem dX0_has_5 : decode cX0_has 5 = .ok (.sipush 2816, 3) := by decide +kernel
theorem dX0_has_8 : decode cX0_has 8 = .ok (.if_icmp .ge 7, 3) := by decide +kernel
theorem dX0_has_11 : decode cX0_has 11 = .ok (.iconst 1, 1) := by decide +kernel
theorem dX0_has_12 : decode cX0_has 12 = .ok (.goto 4, 3) := by decide +kernel
theorem dX0_has_15 : decode cX0_has 15 = .ok (.iconst 0, 1) := by decide +kernel
theorem dX0_has_16 : decode cX0_has 16 = .ok (.ireturn, 1) := by decide +kernel
theorem dX0_hasSector_0 : decode cX0_hasSector 0 = .ok (.iload_n 0, 1) := by decide +kernel
theorem dX0_hasSector_1 : decode cX0_hasSector 1 = .ok (.ifCond .lt 13, 3) := by decide +kernel
theorem dX0_hasSector_4 : decode cX0_hasSector 4 = .ok (.iload_n 0, 1) := by decide +kernel
theorem dX0_hasSector_5 : decode cX0_hasSector 5 = .ok (.bipush 11, 2) := by decide +kernel
theorem dX0_hasSector_7 : decode cX0_hasSector 7 = .ok (.if_icmp .ge 7, 3) := by decide +kernel
theorem dX0_hasSector_10 : decode cX0_hasSector 10 = .ok (.iconst 1, 1) := by decide +kernel
theorem dX0_hasSector_11 : decode cX0_hasSector 11 = .ok (.goto 4, 3) := by decide +kernel
theorem dX0_hasSector_14 : decode cX0_hasSector 14 = .ok (.iconst 0, 1) := by decide +kernel
theorem dX0_hasSector_15 : decode cX0_hasSector 15 = .ok (.ireturn, 1) := by decide +kernel
theorem dX0_unitAt_0 : decode cX0_unitAt 0 = .ok (.iload_n 0, 1) := by decide +kernel
theorem dX0_unitAt_1 : decode cX0_unitAt 1 = .ok (.sipush 256, 3) := by decide +kernel
theorem dX0_unitAt_4 : decode cX0_unitAt 4 = .ok (.imul, 1) := by decide +kernel
theorem dX0_unitAt_5 : decode cX0_unitAt 5 = .ok (.iload_n 1, 1) := by decide +kernel
theorem dX0_unitAt_6 : decode cX0_unitAt 6 = .ok (.bipush 8, 2) := by decide +kernel
theorem dX0_unitAt_8 : decode cX0_unitAt 8 = .ok (.imul, 1) := by decide +kernel
theorem dX0_unitAt_9 : decode cX0_unitAt 9 = .ok (.iadd, 1) := by decide +kernel
theorem dX0_unitAt_10 : decode cX0_unitAt 10 = .ok (.ireturn, 1) := by decide +kernel
theorem dX0_byteAt_0 : decode cX0_byteAt 0 = .ok (.iload_n 1, 1) := by decide +kernel
theorem dX0_byteAt_1 : decode cX0_byteAt 1 = .ok (.ifCond .lt 19, 3) := by decide +kernel
theorem dX0_byteAt_4 : decode cX0_byteAt 4 = .ok (.iload_n 1, 1) := by decide +kernel
theorem dX0_byteAt_5 : decode cX0_byteAt 5 = .ok (.sipush 2816, 3) := by decide +kernel
theorem dX0_byteAt_8 : decode cX0_byteAt 8 = .ok (.if_icmp .ge 12, 3) := by decide +kernel
theorem dX0_byteAt_11 : decode cX0_byteAt 11 = .ok (.aload_n 0, 1) := by decide +kernel
theorem dX0_byteAt_12 : decode cX0_byteAt 12 = .ok (.getfield 9, 3) := by decide +kernel
theorem dX0_byteAt_15 : decode cX0_byteAt 15 = .ok (.iload_n 1, 1) := by decide +kernel
theorem dX0_byteAt_16 : decode cX0_byteAt 16 = .ok (.iaload, 1) := by decide +kernel
theorem dX0_byteAt_17 : decode cX0_byteAt 17 = .ok (.goto 6, 3) := by decide +kernel
theorem dX0_byteAt_20 : decode cX0_byteAt 20 = .ok (.sipush 255, 3) := by decide +kernel
theorem dX0_byteAt_23 : decode cX0_byteAt 23 = .ok (.ireturn, 1) := by decide +kernel
set_option maxRecDepth 20000 in
theorem ggX0_intAt_X0_byteAt : GoodIn wsX0_intAt wsX0_byteAt := goodIn_r _ [5, 6, 7, 8, 9, 10, 11, 12, 13, 14, 15] (by decide +kernel) (by decide +kernel)
set_option maxRecDepth 20000 in
theorem gX0_intAt_X0_byteAt : GoodIn wsX0_intAt (wsV RX0 41 RX0 yX0_byteAt wsX0_byteAt) := goodIn_app (goodIn_of _ (by decide +kernel)) ggX0_intAt_X0_byteAt
theorem dX0_intAt_0 : decode cX0_intAt 0 = .ok (.aload_n 0, 1) := by decide +kernel
theorem dX0_intAt_1 : decode cX0_intAt 1 = .ok (.iload_n 1, 1) := by decide +kernel
theorem dX0_intAt_2 : decode cX0_intAt 2 = .ok (.invokevirtual 41, 3) := by decide +kernel
theorem dX0_intAt_5 : decode cX0_intAt 5 = .ok (.aload_n 0, 1) := by decide +kernel
theorem dX0_intAt_6 : decode cX0_intAt 6 = .ok (.iload_n 1, 1) := by decide +kernel
theorem dX0_intAt_7 : decode cX0_intAt 7 = .ok (.iconst 1, 1) := by decide +kernel
theorem dX0_intAt_8 : decode cX0_intAt 8 = .ok (.iadd, 1) := by decide +kernel
theorem dX0_intAt_9 : decode cX0_intAt 9 = .ok (.invokevirtual 41, 3) := by decide +kernel
theorem dX0_intAt_12 : decode cX0_intAt 12 = .ok (.bipush 8, 2) := by decide +kernel
theorem dX0_intAt_14 : decode cX0_intAt 14 = .ok (.ishl, 1) := by decide +kernel
theorem dX0_intAt_15 : decode cX0_intAt 15 = .ok (.ior, 1) := by decide +kernel
theorem dX0_intAt_16 : decode cX0_intAt 16 = .ok (.aload_n 0, 1) := by decide +kernel
theorem dX0_intAt_17 : decode cX0_intAt 17 = .ok (.iload_n 1, 1) := by decide +kernel
theorem dX0_intAt_18 : decode cX0_intAt 18 = .ok (.iconst 2, 1) := by decide +kernel
theorem dX0_intAt_19 : decode cX0_intAt 19 = .ok (.iadd, 1) := by decide +kernel
theorem dX0_intAt_20 : decode cX0_intAt 20 = .ok (.invokevirtual 41, 3) := by decide +kernel
theorem dX0_intAt_23 : decode cX0_intAt 23 = .ok (.bipush 16, 2) := by decide +kernel
theorem dX0_intAt_25 : decode cX0_intAt 25 = .ok (.ishl, 1) := by decide +kernel
theorem dX0_intAt_26 : decode cX0_intAt 26 = .ok (.ior, 1) := by decide +kernel
theorem dX0_intAt_27 : decode cX0_intAt 27 = .ok (.aload_n 0, 1) := by decide +kernel
theorem dX0_intAt_28 : decode cX0_intAt 28 = .ok (.iload_n 1, 1) := by decide +kernel
theorem dX0_intAt_29 : decode cX0_intAt 29 = .ok (.iconst 3, 1) := by decide +kernel
theorem dX0_intAt_30 : decode cX0_intAt 30 = .ok (.iadd, 1) := by decide +kernel
theorem dX0_intAt_31 : decode cX0_intAt 31 = .ok (.invokevirtual 41, 3) := by decide +kernel
theorem dX0_intAt_34 : decode cX0_intAt 34 = .ok (.bipush 24, 2) := by decide +kernel
theorem dX0_intAt_36 : decode cX0_intAt 36 = .ok (.ishl, 1) := by decide +kernel
theorem dX0_intAt_37 : decode cX0_intAt 37 = .ok (.ior, 1) := by decide +kernel
theorem dX0_intAt_38 : decode cX0_intAt 38 = .ok (.ireturn, 1) := by decide +kernel
theorem dX0_keepBits_0 : decode cX0_keepBits 0 = .ok (.iload_n 1, 1) := by decide +kernel
theorem dX0_keepBits_1 : decode cX0_keepBits 1 = .ok (.ifCond .lt 20, 3) := by decide +kernel
theorem dX0_keepBits_4 : decode cX0_keepBits 4 = .ok (.iload_n 1, 1) := by decide +kernel
theorem dX0_keepBits_5 : decode cX0_keepBits 5 = .ok (.sipush 2816, 3) := by decide +kernel
theorem dX0_keepBits_8 : decode cX0_keepBits 8 = .ok (.if_icmp .ge 13, 3) := by decide +kernel
theorem dX0_keepBits_11 : decode cX0_keepBits 11 = .ok (.aload_n 0, 1) := by decide +kernel
theorem dX0_keepBits_12 : decode cX0_keepBits 12 = .ok (.getfield 9, 3) := by decide +kernel
theorem dX0_keepBits_15 : decode cX0_keepBits 15 = .ok (.iload_n 1, 1) := by decide +kernel
theorem dX0_keepBits_16 : decode cX0_keepBits 16 = .ok (.dup2, 1) := by decide +kernel
theorem dX0_keepBits_17 : decode cX0_keepBits 17 = .ok (.iaload, 1) := by decide +kernel
theorem dX0_keepBits_18 : decode cX0_keepBits 18 = .ok (.iload_n 2, 1) := by decide +kernel
theorem dX0_keepBits_19 : decode cX0_keepBits 19 = .ok (.iand, 1) := by decide +kernel
theorem dX0_keepBits_20 : decode cX0_keepBits 20 = .ok (.iastore, 1) := by decide +kernel
theorem dX0_keepBits_21 : decode cX0_keepBits 21 = .ok (.return_, 1) := by decide +kernel
theorem dX0_tellToGo_0 : decode cX0_tellToGo 0 = .ok (.aload_n 0, 1) := by decide +kernel
theorem dX0_tellToGo_1 : decode cX0_tellToGo 1 = .ok (.iconst 1, 1) := by decide +kernel
theorem dX0_tellToGo_2 : decode cX0_tellToGo 2 = .ok (.putfield 25, 3) := by decide +kernel
theorem dX0_tellToGo_5 : decode cX0_tellToGo 5 = .ok (.aload_n 0, 1) := by decide +kernel
theorem dX0_tellToGo_6 : decode cX0_tellToGo 6 = .ok (.iload_n 1, 1) := by decide +kernel
theorem dX0_tellToGo_7 : decode cX0_tellToGo 7 = .ok (.putfield 28, 3) := by decide +kernel
theorem dX0_tellToGo_10 : decode cX0_tellToGo 10 = .ok (.aload_n 0, 1) := by decide +kernel
theorem dX0_tellToGo_11 : decode cX0_tellToGo 11 = .ok (.iload_n 2, 1) := by decide +kernel
theorem dX0_tellToGo_12 : decode cX0_tellToGo 12 = .ok (.putfield 32, 3) := by decide +kernel
theorem dX0_tellToGo_15 : decode cX0_tellToGo 15 = .ok (.return_, 1) := by decide +kernel
theorem dX0_powerComes_0 : decode cX0_powerComes 0 = .ok (.aload_n 0, 1) := by decide +kernel
theorem dX0_powerComes_1 : decode cX0_powerComes 1 = .ok (.iconst 0, 1) := by decide +kernel
theorem dX0_powerComes_2 : decode cX0_powerComes 2 = .ok (.putfield 21, 3) := by decide +kernel
theorem dX0_powerComes_5 : decode cX0_powerComes 5 = .ok (.aload_n 0, 1) := by decide +kernel
theorem dX0_powerComes_6 : decode cX0_powerComes 6 = .ok (.iconst 0, 1) := by decide +kernel
theorem dX0_powerComes_7 : decode cX0_powerComes 7 = .ok (.putfield 25, 3) := by decide +kernel
theorem dX0_powerComes_10 : decode cX0_powerComes 10 = .ok (.return_, 1) := by decide +kernel
theorem dX0_actsStillDone_0 : decode cX0_actsStillDone 0 = .ok (.aload_n 0, 1) := by decide +kernel
theorem dX0_actsStillDone_1 : decode cX0_actsStillDone 1 = .ok (.getfield 21, 3) := by decide +kernel
theorem dX0_actsStillDone_4 : decode cX0_actsStillDone 4 = .ok (.ifCond .eq 5, 3) := by decide +kernel
theorem dX0_actsStillDone_7 : decode cX0_actsStillDone 7 = .ok (.iconst 0, 1) := by decide +kernel
theorem dX0_actsStillDone_8 : decode cX0_actsStillDone 8 = .ok (.ireturn, 1) := by decide +kernel
theorem dX0_actsStillDone_9 : decode cX0_actsStillDone 9 = .ok (.aload_n 0, 1) := by decide +kernel
theorem dX0_actsStillDone_10 : decode cX0_actsStillDone 10 = .ok (.getfield 25, 3) := by decide +kernel
theorem dX0_actsStillDone_13 : decode cX0_actsStillDone 13 = .ok (.ifCond .eq 10, 3) := by decide +kernel
theorem dX0_actsStillDone_16 : decode cX0_actsStillDone 16 = .ok (.aload_n 0, 1) := by decide +kernel
theorem dX0_actsStillDone_17 : decode cX0_actsStillDone 17 = .ok (.getfield 28, 3) := by decide +kernel
theorem dX0_actsStillDone_20 : decode cX0_actsStillDone 20 = .ok (.goto 4, 3) := by decide +kernel
theorem dX0_actsStillDone_23 : decode cX0_actsStillDone 23 = .ok (.iconst (-1), 1) := by decide +kernel
theorem dX0_actsStillDone_24 : decode cX0_actsStillDone 24 = .ok (.ireturn, 1) := by decide +kernel
theorem dX0_beginAct_0 : decode cX0_beginAct 0 = .ok (.aload_n 0, 1) := by decide +kernel
theorem dX0_beginAct_1 : decode cX0_beginAct 1 = .ok (.getfield 21, 3) := by decide +kernel
theorem dX0_beginAct_4 : decode cX0_beginAct 4 = .ok (.ifCond .eq 5, 3) := by decide +kernel
theorem dX0_beginAct_7 : decode cX0_beginAct 7 = .ok (.iconst 0, 1) := by decide +kernel
theorem dX0_beginAct_8 : decode cX0_beginAct 8 = .ok (.ireturn, 1) := by decide +kernel
theorem dX0_beginAct_9 : decode cX0_beginAct 9 = .ok (.aload_n 0, 1) := by decide +kernel
theorem dX0_beginAct_10 : decode cX0_beginAct 10 = .ok (.getfield 25, 3) := by decide +kernel
theorem dX0_beginAct_13 : decode cX0_beginAct 13 = .ok (.ifCond .eq 27, 3) := by decide +kernel
theorem dX0_beginAct_16 : decode cX0_beginAct 16 = .ok (.aload_n 0, 1) := by decide +kernel
theorem dX0_beginAct_17 : decode cX0_beginAct 17 = .ok (.getfield 28, 3) := by decide +kernel
theorem dX0_beginAct_20 : decode cX0_beginAct 20 = .ok (.ifCond .ne 20, 3) := by decide +kernel
theorem dX0_beginAct_23 : decode cX0_beginAct 23 = .ok (.aload_n 0, 1) := by decide +kernel
theorem dX0_beginAct_24 : decode cX0_beginAct 24 = .ok (.iconst 1, 1) := by decide +kernel
theorem dX0_beginAct_25 : decode cX0_beginAct 25 = .ok (.putfield 21, 3) := by decide +kernel
theorem dX0_beginAct_28 : decode cX0_beginAct 28 = .ok (.aload_n 0, 1) := by decide +kernel
theorem dX0_beginAct_29 : decode cX0_beginAct 29 = .ok (.dup, 1) := by decide +kernel
theorem dX0_beginAct_30 : decode cX0_beginAct 30 = .ok (.getfield 38, 3) := by decide +kernel
theorem dX0_beginAct_33 : decode cX0_beginAct 33 = .ok (.iconst 1, 1) := by decide +kernel
theorem dX0_beginAct_34 : decode cX0_beginAct 34 = .ok (.iadd, 1) := by decide +kernel
theorem dX0_beginAct_35 : decode cX0_beginAct 35 = .ok (.putfield 38, 3) := by decide +kernel
theorem dX0_beginAct_38 : decode cX0_beginAct 38 = .ok (.iconst 0, 1) := by decide +kernel
theorem dX0_beginAct_39 : decode cX0_beginAct 39 = .ok (.ireturn, 1) := by decide +kernel
theorem dX0_beginAct_40 : decode cX0_beginAct 40 = .ok (.aload_n 0, 1) := by decide +kernel
theorem dX0_beginAct_41 : decode cX0_beginAct 41 = .ok (.getfield 25, 3) := by decide +kernel
theorem dX0_beginAct_44 : decode cX0_beginAct 44 = .ok (.ifCond .eq 13, 3) := by decide +kernel
theorem dX0_beginAct_47 : decode cX0_beginAct 47 = .ok (.aload_n 0, 1) := by decide +kernel
theorem dX0_beginAct_48 : decode cX0_beginAct 48 = .ok (.dup, 1) := by decide +kernel
theorem dX0_beginAct_49 : decode cX0_beginAct 49 = .ok (.getfield 28, 3) := by decide +kernel
theorem dX0_beginAct_52 : decode cX0_beginAct 52 = .ok (.iconst 1, 1) := by decide +kernel
theorem dX0_beginAct_53 : decode cX0_beginAct 53 = .ok (.isub, 1) := by decide +kernel
theorem dX0_beginAct_54 : decode cX0_beginAct 54 = .ok (.putfield 28, 3) := by decide +kernel
theorem dX0_beginAct_57 : decode cX0_beginAct 57 = .ok (.aload_n 0, 1) := by decide +kernel
theorem dX0_beginAct_58 : decode cX0_beginAct 58 = .ok (.dup, 1) := by decide +kernel
theorem dX0_beginAct_59 : decode cX0_beginAct 59 = .ok (.getfield 35, 3) := by decide +kernel
theorem dX0_beginAct_62 : decode cX0_beginAct 62 = .ok (.iconst 1, 1) := by decide +kernel
theorem dX0_beginAct_63 : decode cX0_beginAct 63 = .ok (.iadd, 1) := by decide +kernel
theorem dX0_beginAct_64 : decode cX0_beginAct 64 = .ok (.putfield 35, 3) := by decide +kernel
theorem dX0_beginAct_67 : decode cX0_beginAct 67 = .ok (.iconst 1, 1) := by decide +kernel
theorem dX0_beginAct_68 : decode cX0_beginAct 68 = .ok (.ireturn, 1) := by decide +kernel
set_option maxRecDepth 20000 in
theorem ggX0_eraseSector_X0_hasSector : GoodIn wsX0_eraseSector wsX0_hasSector := goodIn_r _ [8] (by decide +kernel) (by decide +kernel)
set_option maxRecDepth 20000 in
theorem gX0_eraseSector_X0_hasSector : GoodIn wsX0_eraseSector (va_wsS RX0 45 yX0_hasSector wsX0_hasSector) := goodIn_app (goodIn_of _ (by decide +kernel)) ggX0_eraseSector_X0_hasSector
set_option maxRecDepth 20000 in
theorem ggX0_eraseSector_X0_beginAct : GoodIn wsX0_eraseSector wsX0_beginAct := goodIn_r _ [12, 1, 13, 14, 15, 16, 20, 21, 22, 23, 24, 25, 26, 27, 28] (by decide +kernel) (by decide +kernel)
set_option maxRecDepth 20000 in
theorem gX0_eraseSector_X0_beginAct : GoodIn wsX0_eraseSector (wsV RX0 49 RX0 yX0_beginAct wsX0_beginAct) := goodIn_app (goodIn_of _ (by decide +kernel)) ggX0_eraseSector_X0_beginAct
set_option maxRecDepth 20000 in
theorem ggX0_eraseSector_X0_has : GoodIn wsX0_eraseSector wsX0_has := goodIn_r _ [19] (by decide +kernel) (by decide +kernel)
set_option maxRecDepth 20000 in
theorem gX0_eraseSector_X0_has : GoodIn wsX0_eraseSector (va_wsS RX0 53 yX0_has wsX0_has) := goodIn_app (goodIn_of _ (by decide +kernel)) ggX0_eraseSector_X0_has
theorem dX0_eraseSector_0 : decode cX0_eraseSector 0 = .ok (.aload_n 0, 1) := by decide +kernel
theorem dX0_eraseSector_1 : decode cX0_eraseSector 1 = .ok (.getfield 21, 3) := by decide +kernel
theorem dX0_eraseSector_4 : decode cX0_eraseSector 4 = .ok (.ifCond .ne 10, 3) := by decide +kernel
theorem dX0_eraseSector_7 : decode cX0_eraseSector 7 = .ok (.iload_n 1, 1) := by decide +kernel
theorem dX0_eraseSector_8 : decode cX0_eraseSector 8 = .ok (.invokestatic 45, 3) := by decide +kernel
theorem dX0_eraseSector_11 : decode cX0_eraseSector 11 = .ok (.ifCond .ne 5, 3) := by decide +kernel
theorem dX0_eraseSector_14 : decode cX0_eraseSector 14 = .ok (.iconst 0, 1) := by decide +kernel
theorem dX0_eraseSector_15 : decode cX0_eraseSector 15 = .ok (.ireturn, 1) := by decide +kernel
theorem dX0_eraseSector_16 : decode cX0_eraseSector 16 = .ok (.aload_n 0, 1) := by decide +kernel
theorem dX0_eraseSector_17 : decode cX0_eraseSector 17 = .ok (.getfield 15, 3) := by decide +kernel
theorem dX0_eraseSector_20 : decode cX0_eraseSector 20 = .ok (.iload_n 1, 1) := by decide +kernel
theorem dX0_eraseSector_21 : decode cX0_eraseSector 21 = .ok (.dup2, 1) := by decide +kernel
theorem dX0_eraseSector_22 : decode cX0_eraseSector 22 = .ok (.iaload, 1) := by decide +kernel
theorem dX0_eraseSector_23 : decode cX0_eraseSector 23 = .ok (.iconst 1, 1) := by decide +kernel
theorem dX0_eraseSector_24 : decode cX0_eraseSector 24 = .ok (.iadd, 1) := by decide +kernel
theorem dX0_eraseSector_25 : decode cX0_eraseSector 25 = .ok (.iastore, 1) := by decide +kernel
theorem dX0_eraseSector_26 : decode cX0_eraseSector 26 = .ok (.aload_n 0, 1) := by decide +kernel
theorem dX0_eraseSector_27 : decode cX0_eraseSector 27 = .ok (.invokevirtual 49, 3) := by decide +kernel
theorem dX0_eraseSector_30 : decode cX0_eraseSector 30 = .ok (.istore_n 2, 1) := by decide +kernel
theorem dX0_eraseSector_31 : decode cX0_eraseSector 31 = .ok (.iload_n 2, 1) := by decide +kernel
theorem dX0_eraseSector_32 : decode cX0_eraseSector 32 = .ok (.ifCond .eq 8, 3) := by decide +kernel
theorem dX0_eraseSector_35 : decode cX0_eraseSector 35 = .ok (.bipush 32, 2) := by decide +kernel
theorem dX0_eraseSector_37 : decode cX0_eraseSector 37 = .ok (.goto 7, 3) := by decide +kernel
theorem dX0_eraseSector_40 : decode cX0_eraseSector 40 = .ok (.aload_n 0, 1) := by decide +kernel
theorem dX0_eraseSector_41 : decode cX0_eraseSector 41 = .ok (.getfield 32, 3) := by decide +kernel
theorem dX0_eraseSector_44 : decode cX0_eraseSector 44 = .ok (.istore_n 3, 1) := by decide +kernel
theorem dX0_eraseSector_45 : decode cX0_eraseSector 45 = .ok (.iload_n 1, 1) := by decide +kernel
theorem dX0_eraseSector_46 : decode cX0_eraseSector 46 = .ok (.sipush 256, 3) := by decide +kernel
theorem dX0_eraseSector_49 : decode cX0_eraseSector 49 = .ok (.imul, 1) := by decide +kernel
theorem dX0_eraseSector_50 : decode cX0_eraseSector 50 = .ok (.istore 4, 2) := by decide +kernel
theorem dX0_eraseSector_52 : decode cX0_eraseSector 52 = .ok (.iconst 0, 1) := by decide +kernel
theorem dX0_eraseSector_53 : decode cX0_eraseSector 53 = .ok (.istore 5, 2) := by decide +kernel
theorem dX0_eraseSector_55 : decode cX0_eraseSector 55 = .ok (.iload 5, 2) := by decide +kernel
theorem dX0_eraseSector_57 : decode cX0_eraseSector 57 = .ok (.iload_n 3, 1) := by decide +kernel
theorem dX0_eraseSector_58 : decode cX0_eraseSector 58 = .ok (.bipush 8, 2) := by decide +kernel
theorem dX0_eraseSector_60 : decode cX0_eraseSector 60 = .ok (.imul, 1) := by decide +kernel
theorem dX0_eraseSector_61 : decode cX0_eraseSector 61 = .ok (.if_icmp .ge 33, 3) := by decide +kernel
theorem dX0_eraseSector_64 : decode cX0_eraseSector 64 = .ok (.iload 4, 2) := by decide +kernel
theorem dX0_eraseSector_66 : decode cX0_eraseSector 66 = .ok (.iload 5, 2) := by decide +kernel
theorem dX0_eraseSector_68 : decode cX0_eraseSector 68 = .ok (.iadd, 1) := by decide +kernel
theorem dX0_eraseSector_69 : decode cX0_eraseSector 69 = .ok (.invokestatic 53, 3) := by decide +kernel
theorem dX0_eraseSector_72 : decode cX0_eraseSector 72 = .ok (.ifCond .eq 16, 3) := by decide +kernel
theorem dX0_eraseSector_75 : decode cX0_eraseSector 75 = .ok (.aload_n 0, 1) := by decide +kernel
theorem dX0_eraseSector_76 : decode cX0_eraseSector 76 = .ok (.getfield 9, 3) := by decide +kernel
theorem dX0_eraseSector_79 : decode cX0_eraseSector 79 = .ok (.iload 4, 2) := by decide +kernel
theorem dX0_eraseSector_81 : decode cX0_eraseSector 81 = .ok (.iload 5, 2) := by decide +kernel
theorem dX0_eraseSector_83 : decode cX0_eraseSector 83 = .ok (.iadd, 1) := by decide +kernel
theorem dX0_eraseSector_84 : decode cX0_eraseSector 84 = .ok (.sipush 255, 3) := by decide +kernel
theorem dX0_eraseSector_87 : decode cX0_eraseSector 87 = .ok (.iastore, 1) := by decide +kernel
theorem dX0_eraseSector_88 : decode cX0_eraseSector 88 = .ok (.iinc 5 1, 3) := by decide +kernel
theorem dX0_eraseSector_91 : decode cX0_eraseSector 91 = .ok (.goto (-36), 3) := by decide +kernel
theorem dX0_eraseSector_94 : decode cX0_eraseSector 94 = .ok (.iload_n 2, 1) := by decide +kernel
theorem dX0_eraseSector_95 : decode cX0_eraseSector 95 = .ok (.ireturn, 1) := by decide +kernel
set_option maxRecDepth 20000 in
theorem ggX0_replaceSector_X0_eraseSector : GoodIn wsX0_replaceSector wsX0_eraseSector := goodIn_r _ [6, 7, 8, 9, 1, 10, 11, 5, 12, 13, 14, 15, 16, 17, 18, 19, 20, 21, 22, 23, 40, 41, 42, 43, 44, 45, 46, 47, 48] (by decide +kernel) (by decide +kernel)
set_option maxRecDepth 20000 in
theorem gX0_replaceSector_X0_eraseSector : GoodIn wsX0_replaceSector (wsV RX0 56 RX0 yX0_eraseSector wsX0_eraseSector) := goodIn_app (goodIn_of _ (by decide +kernel)) ggX0_replaceSector_X0_eraseSector
set_option maxRecDepth 20000 in
theorem ggX0_replaceSector_X0_unitAt : GoodIn wsX0_replaceSector wsX0_unitAt := goodIn_r _ [26] (by decide +kernel) (by decide +kernel)
set_option maxRecDepth 20000 in
theorem gX0_replaceSector_X0_unitAt : GoodIn wsX0_replaceSector (va_wsS RX0 59 yX0_unitAt wsX0_unitAt) := goodIn_app (goodIn_of _ (by decide +kernel)) ggX0_replaceSector_X0_unitAt
set_option maxRecDepth 20000 in
theorem ggX0_replaceSector_X0_writeUnit : GoodIn wsX0_replaceSector wsX0_writeUnit := goodIn_r _ [30, 31, 32, 33, 34, 5, 35, 13, 14, 15, 16, 7, 17, 18, 19, 20, 36, 37, 38, 39, 1, 40, 41, 42, 43, 44, 45, 46, 47, 48] (by decide +kernel) (by decide +kernel)
set_option maxRecDepth 20000 in
theorem gX0_replaceSector_X0_writeUnit : GoodIn wsX0_replaceSector (wsV RX0 63 RX0 yX0_writeUnit wsX0_writeUnit) := goodIn_app (goodIn_of _ (by decide +kernel)) ggX0_replaceSector_X0_writeUnit
theorem dX0_replaceSector_0 : decode cX0_replaceSector 0 = .ok (.aload_n 0, 1) := by decide +kernel
theorem dX0_replaceSector_1 : decode cX0_replaceSector 1 = .ok (.iload_n 1, 1) := by decide +kernel
theorem dX0_replaceSector_2 : decode cX0_replaceSector 2 = .ok (.invokevirtual 56, 3) := by decide +kernel
theorem dX0_replaceSector_5 : decode cX0_replaceSector 5 = .ok (.ifCond .ne 5, 3) := by decide +kernel
theorem dX0_replaceSector_8 : decode cX0_replaceSector 8 = .ok (.iconst 0, 1) := by decide +kernel
theorem dX0_replaceSector_9 : decode cX0_replaceSector 9 = .ok (.ireturn, 1) := by decide +kernel
theorem dX0_replaceSector_10 : decode cX0_replaceSector 10 = .ok (.iconst 0, 1) := by decide +kernel
theorem dX0_replaceSector_11 : decode cX0_replaceSector 11 = .ok (.istore_n 3, 1) := by decide +kernel
theorem dX0_replaceSector_12 : decode cX0_replaceSector 12 = .ok (.iload_n 3, 1) := by decide +kernel
theorem dX0_replaceSector_13 : decode cX0_replaceSector 13 = .ok (.bipush 32, 2) := by decide +kernel
theorem dX0_replaceSector_15 : decode cX0_replaceSector 15 = .ok (.if_icmp .ge 35, 3) := by decide +kernel
theorem dX0_replaceSector_18 : decode cX0_replaceSector 18 = .ok (.aload_n 0, 1) := by decide +kernel
theorem dX0_replaceSector_19 : decode cX0_replaceSector 19 = .ok (.iload_n 1, 1) := by decide +kernel
theorem dX0_replaceSector_20 : decode cX0_replaceSector 20 = .ok (.iload_n 3, 1) := by decide +kernel
theorem dX0_replaceSector_21 : decode cX0_replaceSector 21 = .ok (.invokestatic 59, 3) := by decide +kernel
theorem dX0_replaceSector_24 : decode cX0_replaceSector 24 = .ok (.aload_n 0, 1) := by decide +kernel
theorem dX0_replaceSector_25 : decode cX0_replaceSector 25 = .ok (.getfield 9, 3) := by decide +kernel
theorem dX0_replaceSector_28 : decode cX0_replaceSector 28 = .ok (.iload_n 2, 1) := by decide +kernel
theorem dX0_replaceSector_29 : decode cX0_replaceSector 29 = .ok (.iload_n 3, 1) := by decide +kernel
theorem dX0_replaceSector_30 : decode cX0_replaceSector 30 = .ok (.invokestatic 59, 3) := by decide +kernel
theorem dX0_replaceSector_33 : decode cX0_replaceSector 33 = .ok (.sipush 2816, 3) := by decide +kernel
theorem dX0_replaceSector_36 : decode cX0_replaceSector 36 = .ok (.invokevirtual 63, 3) := by decide +kernel
theorem dX0_replaceSector_39 : decode cX0_replaceSector 39 = .ok (.ifCond .ne 5, 3) := by decide +kernel
theorem dX0_replaceSector_42 : decode cX0_replaceSector 42 = .ok (.iconst 0, 1) := by decide +kernel
theorem dX0_replaceSector_43 : decode cX0_replaceSector 43 = .ok (.ireturn, 1) := by decide +kernel
theorem dX0_replaceSector_44 : decode cX0_replaceSector 44 = .ok (.iinc 3 1, 3) := by decide +kernel
theorem dX0_replaceSector_47 : decode cX0_replaceSector 47 = .ok (.goto (-35), 3) := by decide +kernel
theorem dX0_replaceSector_50 : decode cX0_replaceSector 50 = .ok (.iconst 1, 1) := by decide +kernel
theorem dX0_replaceSector_51 : decode cX0_replaceSector 51 = .ok (.ireturn, 1) := by decide +kernel
set_option maxRecDepth 20000 in
theorem ggX0_writeRow_X0_writeUnit : GoodIn wsX0_writeRow wsX0_writeUnit := goodIn_r _ [5, 6, 7, 8, 9, 4, 10, 11, 12, 13, 14, 15, 16, 17, 18, 19, 20, 21, 22, 23, 24, 25, 26, 27, 28, 29, 30, 31, 32, 33] (by decide +kernel) (by decide +kernel)
set_option maxRecDepth 20000 in
theorem gX0_writeRow_X0_writeUnit : GoodIn wsX0_writeRow (wsV RX0 63 RX0 yX0_writeUnit wsX0_writeUnit) := goodIn_app (goodIn_of _ (by decide +kernel)) ggX0_writeRow_X0_writeUnit
theorem dX0_writeRow_0 : decode cX0_writeRow 0 = .ok (.iconst 0, 1) := by decide +kernel
theorem dX0_writeRow_1 : decode cX0_writeRow 1 = .ok (.istore 4, 2) := by decide +kernel
theorem dX0_writeRow_3 : decode cX0_writeRow 3 = .ok (.iload 4, 2) := by decide +kernel
theorem dX0_writeRow_5 : decode cX0_writeRow 5 = .ok (.iload_n 3, 1) := by decide +kernel
theorem dX0_writeRow_6 : decode cX0_writeRow 6 = .ok (.if_icmp .ge 26, 3) := by decide +kernel
theorem dX0_writeRow_9 : decode cX0_writeRow 9 = .ok (.aload_n 0, 1) := by decide +kernel
theorem dX0_writeRow_10 : decode cX0_writeRow 10 = .ok (.iload_n 1, 1) := by decide +kernel
theorem dX0_writeRow_11 : decode cX0_writeRow 11 = .ok (.iload 4, 2) := by decide +kernel
theorem dX0_writeRow_13 : decode cX0_writeRow 13 = .ok (.iadd, 1) := by decide +kernel
theorem dX0_writeRow_14 : decode cX0_writeRow 14 = .ok (.aload_n 2, 1) := by decide +kernel
theorem dX0_writeRow_15 : decode cX0_writeRow 15 = .ok (.iload 4, 2) := by decide +kernel
theorem dX0_writeRow_17 : decode cX0_writeRow 17 = .ok (.iload_n 3, 1) := by decide +kernel
theorem dX0_writeRow_18 : decode cX0_writeRow 18 = .ok (.invokevirtual 63, 3) := by decide +kernel
theorem dX0_writeRow_21 : decode cX0_writeRow 21 = .ok (.ifCond .ne 5, 3) := by decide +kernel
theorem dX0_writeRow_24 : decode cX0_writeRow 24 = .ok (.iconst 0, 1) := by decide +kernel
theorem dX0_writeRow_25 : decode cX0_writeRow 25 = .ok (.ireturn, 1) := by decide +kernel
theorem dX0_writeRow_26 : decode cX0_writeRow 26 = .ok (.iinc 4 8, 3) := by decide +kernel
theorem dX0_writeRow_29 : decode cX0_writeRow 29 = .ok (.goto (-26), 3) := by decide +kernel
theorem dX0_writeRow_32 : decode cX0_writeRow 32 = .ok (.iconst 1, 1) := by decide +kernel
theorem dX0_writeRow_33 : decode cX0_writeRow 33 = .ok (.ireturn, 1) := by decide +kernel
set_option maxRecDepth 20000 in
theorem ggX0_writeUnit_X0_isBlankWhenTaken : GoodIn wsX0_writeUnit wsX0_isBlankWhenTaken := goodIn_r _ [6, 1, 21, 22, 23, 24, 25, 26, 27, 28, 29] (by decide +kernel) (by decide +kernel)
set_option maxRecDepth 20000 in
theorem gX0_writeUnit_X0_isBlankWhenTaken : GoodIn wsX0_writeUnit (wsV RX0 67 RX0 yX0_isBlankWhenTaken wsX0_isBlankWhenTaken) := goodIn_app (goodIn_of _ (by decide +kernel)) ggX0_writeUnit_X0_isBlankWhenTaken
set_option maxRecDepth 20000 in
theorem ggX0_writeUnit_X0_beginAct : GoodIn wsX0_writeUnit wsX0_beginAct := goodIn_r _ [10, 11, 12, 13, 14, 15, 21, 22, 23, 24, 25, 26, 27, 28, 29] (by decide +kernel) (by decide +kernel)
set_option maxRecDepth 20000 in
theorem gX0_writeUnit_X0_beginAct : GoodIn wsX0_writeUnit (wsV RX0 49 RX0 yX0_beginAct wsX0_beginAct) := goodIn_app (goodIn_of _ (by decide +kernel)) ggX0_writeUnit_X0_beginAct
set_option maxRecDepth 20000 in
theorem ggX0_writeUnit_X0_keepBits : GoodIn wsX0_writeUnit wsX0_keepBits := goodIn_r _ [19, 20, 21, 22, 23, 24, 25, 26, 27, 28, 29] (by decide +kernel) (by decide +kernel)
set_option maxRecDepth 20000 in
theorem gX0_writeUnit_X0_keepBits : GoodIn wsX0_writeUnit (wsV RX0 71 RX0 yX0_keepBits wsX0_keepBits) := goodIn_app (goodIn_of _ (by decide +kernel)) ggX0_writeUnit_X0_keepBits
theorem dX0_writeUnit_0 : decode cX0_writeUnit 0 = .ok (.aload_n 0, 1) := by decide +kernel
theorem dX0_writeUnit_1 : decode cX0_writeUnit 1 = .ok (.aload_n 2, 1) := by decide +kernel
theorem dX0_writeUnit_2 : decode cX0_writeUnit 2 = .ok (.iload_n 3, 1) := by decide +kernel
theorem dX0_writeUnit_3 : decode cX0_writeUnit 3 = .ok (.iload 4, 2) := by decide +kernel
theorem dX0_writeUnit_5 : decode cX0_writeUnit 5 = .ok (.invokevirtual 67, 3) := by decide +kernel
theorem dX0_writeUnit_8 : decode cX0_writeUnit 8 = .ok (.ifCond .eq 5, 3) := by decide +kernel
theorem dX0_writeUnit_11 : decode cX0_writeUnit 11 = .ok (.iconst 1, 1) := by decide +kernel
theorem dX0_writeUnit_12 : decode cX0_writeUnit 12 = .ok (.ireturn, 1) := by decide +kernel
theorem dX0_writeUnit_13 : decode cX0_writeUnit 13 = .ok (.aload_n 0, 1) := by decide +kernel
theorem dX0_writeUnit_14 : decode cX0_writeUnit 14 = .ok (.invokevirtual 49, 3) := by decide +kernel
theorem dX0_writeUnit_17 : decode cX0_writeUnit 17 = .ok (.ifCond .ne 5, 3) := by decide +kernel
theorem dX0_writeUnit_20 : decode cX0_writeUnit 20 = .ok (.iconst 0, 1) := by decide +kernel
theorem dX0_writeUnit_21 : decode cX0_writeUnit 21 = .ok (.ireturn, 1) := by decide +kernel
theorem dX0_writeUnit_22 : decode cX0_writeUnit 22 = .ok (.iconst 0, 1) := by decide +kernel
theorem dX0_writeUnit_23 : decode cX0_writeUnit 23 = .ok (.istore 5, 2) := by decide +kernel
theorem dX0_writeUnit_25 : decode cX0_writeUnit 25 = .ok (.iload 5, 2) := by decide +kernel
theorem dX0_writeUnit_27 : decode cX0_writeUnit 27 = .ok (.bipush 8, 2) := by decide +kernel
theorem dX0_writeUnit_29 : decode cX0_writeUnit 29 = .ok (.if_icmp .ge 24, 3) := by decide +kernel
theorem dX0_writeUnit_32 : decode cX0_writeUnit 32 = .ok (.aload_n 0, 1) := by decide +kernel
theorem dX0_writeUnit_33 : decode cX0_writeUnit 33 = .ok (.iload_n 1, 1) := by decide +kernel
theorem dX0_writeUnit_34 : decode cX0_writeUnit 34 = .ok (.iload 5, 2) := by decide +kernel
theorem dX0_writeUnit_36 : decode cX0_writeUnit 36 = .ok (.iadd, 1) := by decide +kernel
theorem dX0_writeUnit_37 : decode cX0_writeUnit 37 = .ok (.aload_n 0, 1) := by decide +kernel
theorem dX0_writeUnit_38 : decode cX0_writeUnit 38 = .ok (.getfield 18, 3) := by decide +kernel
theorem dX0_writeUnit_41 : decode cX0_writeUnit 41 = .ok (.iload 5, 2) := by decide +kernel
theorem dX0_writeUnit_43 : decode cX0_writeUnit 43 = .ok (.iaload, 1) := by decide +kernel
theorem dX0_writeUnit_44 : decode cX0_writeUnit 44 = .ok (.invokevirtual 71, 3) := by decide +kernel
theorem dX0_writeUnit_47 : decode cX0_writeUnit 47 = .ok (.iinc 5 1, 3) := by decide +kernel
theorem dX0_writeUnit_50 : decode cX0_writeUnit 50 = .ok (.goto (-25), 3) := by decide +kernel
theorem dX0_writeUnit_53 : decode cX0_writeUnit 53 = .ok (.iconst 1, 1) := by decide +kernel
theorem dX0_writeUnit_54 : decode cX0_writeUnit 54 = .ok (.ireturn, 1) := by decide +kernel
theorem dX0_isBlankWhenTaken_0 : decode cX0_isBlankWhenTaken 0 = .ok (.iconst 1, 1) := by decide +kernel
theorem dX0_isBlankWhenTaken_1 : decode cX0_isBlankWhenTaken 1 = .ok (.istore 4, 2) := by decide +kernel
theorem dX0_isBlankWhenTaken_3 : decode cX0_isBlankWhenTaken 3 = .ok (.iconst 0, 1) := by decide +kernel
theorem dX0_isBlankWhenTaken_4 : decode cX0_isBlankWhenTaken 4 = .ok (.istore 5, 2) := by decide +kernel
theorem dX0_isBlankWhenTaken_6 : decode cX0_isBlankWhenTaken 6 = .ok (.iload 5, 2) := by decide +kernel
theorem dX0_isBlankWhenTaken_8 : decode cX0_isBlankWhenTaken 8 = .ok (.bipush 8, 2) := by decide +kernel
theorem dX0_isBlankWhenTaken_10 : decode cX0_isBlankWhenTaken 10 = .ok (.if_icmp .ge 91, 3) := by decide +kernel
theorem dX0_isBlankWhenTaken_13 : decode cX0_isBlankWhenTaken 13 = .ok (.iload_n 2, 1) := by decide +kernel
theorem dX0_isBlankWhenTaken_14 : decode cX0_isBlankWhenTaken 14 = .ok (.iload 5, 2) := by decide +kernel
theorem dX0_isBlankWhenTaken_16 : decode cX0_isBlankWhenTaken 16 = .ok (.iadd, 1) := by decide +kernel
theorem dX0_isBlankWhenTaken_17 : decode cX0_isBlankWhenTaken 17 = .ok (.istore 6, 2) := by decide +kernel
theorem dX0_isBlankWhenTaken_19 : decode cX0_isBlankWhenTaken 19 = .ok (.aload_n 1, 1) := by decide +kernel
theorem dX0_isBlankWhenTaken_20 : decode cX0_isBlankWhenTaken 20 = .ok (.ifnull 25, 3) := by decide +kernel
theorem dX0_isBlankWhenTaken_23 : decode cX0_isBlankWhenTaken 23 = .ok (.iload 6, 2) := by decide +kernel
theorem dX0_isBlankWhenTaken_25 : decode cX0_isBlankWhenTaken 25 = .ok (.ifCond .lt 20, 3) := by decide +kernel
theorem dX0_isBlankWhenTaken_28 : decode cX0_isBlankWhenTaken 28 = .ok (.iload 6, 2) := by decide +kernel
theorem dX0_isBlankWhenTaken_30 : decode cX0_isBlankWhenTaken 30 = .ok (.iload_n 3, 1) := by decide +kernel
theorem dX0_isBlankWhenTaken_31 : decode cX0_isBlankWhenTaken 31 = .ok (.if_icmp .ge 14, 3) := by decide +kernel
theorem dX0_isBlankWhenTaken_34 : decode cX0_isBlankWhenTaken 34 = .ok (.iload 6, 2) := by decide +kernel
theorem dX0_isBlankWhenTaken_36 : decode cX0_isBlankWhenTaken 36 = .ok (.aload_n 1, 1) := by decide +kernel
theorem dX0_isBlankWhenTaken_37 : decode cX0_isBlankWhenTaken 37 = .ok (.arraylength, 1) := by decide +kernel
theorem dX0_isBlankWhenTaken_38 : decode cX0_isBlankWhenTaken 38 = .ok (.if_icmp .ge 7, 3) := by decide +kernel
theorem dX0_isBlankWhenTaken_41 : decode cX0_isBlankWhenTaken 41 = .ok (.iconst 1, 1) := by decide +kernel
theorem dX0_isBlankWhenTaken_42 : decode cX0_isBlankWhenTaken 42 = .ok (.goto 4, 3) := by decide +kernel
theorem dX0_isBlankWhenTaken_45 : decode cX0_isBlankWhenTaken 45 = .ok (.iconst 0, 1) := by decide +kernel
theorem dX0_isBlankWhenTaken_46 : decode cX0_isBlankWhenTaken 46 = .ok (.istore 7, 2) := by decide +kernel
theorem dX0_isBlankWhenTaken_48 : decode cX0_isBlankWhenTaken 48 = .ok (.aload_n 0, 1) := by decide +kernel
theorem dX0_isBlankWhenTaken_49 : decode cX0_isBlankWhenTaken 49 = .ok (.getfield 18, 3) := by decide +kernel
theorem dX0_isBlankWhenTaken_52 : decode cX0_isBlankWhenTaken 52 = .ok (.iload 5, 2) := by decide +kernel
theorem dX0_isBlankWhenTaken_54 : decode cX0_isBlankWhenTaken 54 = .ok (.iload 7, 2) := by decide +kernel
theorem dX0_isBlankWhenTaken_56 : decode cX0_isBlankWhenTaken 56 = .ok (.ifCond .eq 10, 3) := by decide +kernel
theorem dX0_isBlankWhenTaken_59 : decode cX0_isBlankWhenTaken 59 = .ok (.aload_n 1, 1) := by decide +kernel
theorem dX0_isBlankWhenTaken_60 : decode cX0_isBlankWhenTaken 60 = .ok (.iload 6, 2) := by decide +kernel
theorem dX0_isBlankWhenTaken_62 : decode cX0_isBlankWhenTaken 62 = .ok (.iaload, 1) := by decide +kernel
theorem dX0_isBlankWhenTaken_63 : decode cX0_isBlankWhenTaken 63 = .ok (.goto 6, 3) := by decide +kernel
theorem dX0_isBlankWhenTaken_66 : decode cX0_isBlankWhenTaken 66 = .ok (.sipush 255, 3) := by decide +kernel
theorem dX0_isBlankWhenTaken_69 : decode cX0_isBlankWhenTaken 69 = .ok (.iastore, 1) := by decide +kernel
theorem dX0_isBlankWhenTaken_70 : decode cX0_isBlankWhenTaken 70 = .ok (.iload 4, 2) := by decide +kernel
theorem dX0_isBlankWhenTaken_72 : decode cX0_isBlankWhenTaken 72 = .ok (.ifCond .eq 20, 3) := by decide +kernel
theorem dX0_isBlankWhenTaken_75 : decode cX0_isBlankWhenTaken 75 = .ok (.aload_n 0, 1) := by decide +kernel
theorem dX0_isBlankWhenTaken_76 : decode cX0_isBlankWhenTaken 76 = .ok (.getfield 18, 3) := by decide +kernel
theorem dX0_isBlankWhenTaken_79 : decode cX0_isBlankWhenTaken 79 = .ok (.iload 5, 2) := by decide +kernel
theorem dX0_isBlankWhenTaken_81 : decode cX0_isBlankWhenTaken 81 = .ok (.iaload, 1) := by decide +kernel
theorem dX0_isBlankWhenTaken_82 : decode cX0_isBlankWhenTaken 82 = .ok (.sipush 255, 3) := by decide +kernel
theorem dX0_isBlankWhenTaken_85 : decode cX0_isBlankWhenTaken 85 = .ok (.if_icmp .ne 7, 3) := by decide +kernel
theorem dX0_isBlankWhenTaken_88 : decode cX0_isBlankWhenTaken 88 = .ok (.iconst 1, 1) := by decide +kernel
theorem dX0_isBlankWhenTaken_89 : decode cX0_isBlankWhenTaken 89 = .ok (.goto 4, 3) := by decide +kernel
theorem dX0_isBlankWhenTaken_92 : decode cX0_isBlankWhenTaken 92 = .ok (.iconst 0, 1) := by decide +kernel
theorem dX0_isBlankWhenTaken_93 : decode cX0_isBlankWhenTaken 93 = .ok (.istore 4, 2) := by decide +kernel
theorem dX0_isBlankWhenTaken_95 : decode cX0_isBlankWhenTaken 95 = .ok (.iinc 5 1, 3) := by decide +kernel
theorem dX0_isBlankWhenTaken_98 : decode cX0_isBlankWhenTaken 98 = .ok (.goto (-92), 3) := by decide +kernel
theorem dX0_isBlankWhenTaken_101 : decode cX0_isBlankWhenTaken 101 = .ok (.iload 4, 2) := by decide +kernel
theorem dX0_isBlankWhenTaken_103 : decode cX0_isBlankWhenTaken 103 = .ok (.ireturn, 1) := by decide +kernel
set_option maxRecDepth 20000 in
theorem ggX0_markUnit_X0_beginAct : GoodIn wsX0_markUnit wsX0_beginAct := goodIn_r _ [5, 6, 7, 8, 9, 10, 19, 20, 21, 22, 23, 24, 25, 26, 27] (by decide +kernel) (by decide +kernel)
set_option maxRecDepth 20000 in
theorem gX0_markUnit_X0_beginAct : GoodIn wsX0_markUnit (wsV RX0 49 RX0 yX0_beginAct wsX0_beginAct) := goodIn_app (goodIn_of _ (by decide +kernel)) ggX0_markUnit_X0_beginAct
set_option maxRecDepth 20000 in
theorem ggX0_markUnit_X0_unitAt : GoodIn wsX0_markUnit wsX0_unitAt := goodIn_r _ [13] (by decide +kernel) (by decide +kernel)
set_option maxRecDepth 20000 in
theorem gX0_markUnit_X0_unitAt : GoodIn wsX0_markUnit (va_wsS RX0 59 yX0_unitAt wsX0_unitAt) := goodIn_app (goodIn_of _ (by decide +kernel)) ggX0_markUnit_X0_unitAt
set_option maxRecDepth 20000 in
theorem ggX0_markUnit_X0_keepBits : GoodIn wsX0_markUnit wsX0_keepBits := goodIn_r _ [17, 18, 19, 20, 21, 22, 23, 24, 25, 26, 27] (by decide +kernel) (by decide +kernel)
set_option maxRecDepth 20000 in
theorem gX0_markUnit_X0_keepBits : GoodIn wsX0_markUnit (wsV RX0 71 RX0 yX0_keepBits wsX0_keepBits) := goodIn_app (goodIn_of _ (by decide +kernel)) ggX0_markUnit_X0_keepBits
theorem dX0_markUnit_0 : decode cX0_markUnit 0 = .ok (.aload_n 0, 1) := by decide +kernel
theorem dX0_markUnit_1 : decode cX0_markUnit 1 = .ok (.invokevirtual 49, 3) := by decide +kernel
theorem dX0_markUnit_4 : decode cX0_markUnit 4 = .ok (.ifCond .ne 5, 3) := by decide +kernel
theorem dX0_markUnit_7 : decode cX0_markUnit 7 = .ok (.iconst 0, 1) := by decide +kernel
theorem dX0_markUnit_8 : decode cX0_markUnit 8 = .ok (.ireturn, 1) := by decide +kernel
theorem dX0_markUnit_9 : decode cX0_markUnit 9 = .ok (.iload_n 1, 1) := by decide +kernel
theorem dX0_markUnit_10 : decode cX0_markUnit 10 = .ok (.iload_n 2, 1) := by decide +kernel
theorem dX0_markUnit_11 : decode cX0_markUnit 11 = .ok (.invokestatic 59, 3) := by decide +kernel
theorem dX0_markUnit_14 : decode cX0_markUnit 14 = .ok (.istore 4, 2) := by decide +kernel
theorem dX0_markUnit_16 : decode cX0_markUnit 16 = .ok (.iconst 0, 1) := by decide +kernel
theorem dX0_markUnit_17 : decode cX0_markUnit 17 = .ok (.istore 5, 2) := by decide +kernel
theorem dX0_markUnit_19 : decode cX0_markUnit 19 = .ok (.iload 5, 2) := by decide +kernel
theorem dX0_markUnit_21 : decode cX0_markUnit 21 = .ok (.bipush 8, 2) := by decide +kernel
theorem dX0_markUnit_23 : decode cX0_markUnit 23 = .ok (.if_icmp .ge 19, 3) := by decide +kernel
theorem dX0_markUnit_26 : decode cX0_markUnit 26 = .ok (.aload_n 0, 1) := by decide +kernel
theorem dX0_markUnit_27 : decode cX0_markUnit 27 = .ok (.iload 4, 2) := by decide +kernel
theorem dX0_markUnit_29 : decode cX0_markUnit 29 = .ok (.iload 5, 2) := by decide +kernel
theorem dX0_markUnit_31 : decode cX0_markUnit 31 = .ok (.iadd, 1) := by decide +kernel
theorem dX0_markUnit_32 : decode cX0_markUnit 32 = .ok (.iload_n 3, 1) := by decide +kernel
theorem dX0_markUnit_33 : decode cX0_markUnit 33 = .ok (.invokevirtual 71, 3) := by decide +kernel
theorem dX0_markUnit_36 : decode cX0_markUnit 36 = .ok (.iinc 5 1, 3) := by decide +kernel
theorem dX0_markUnit_39 : decode cX0_markUnit 39 = .ok (.goto (-20), 3) := by decide +kernel
theorem dX0_markUnit_42 : decode cX0_markUnit 42 = .ok (.iconst 1, 1) := by decide +kernel
theorem dX0_markUnit_43 : decode cX0_markUnit 43 = .ok (.ireturn, 1) := by decide +kernel
set_option maxRecDepth 20000 in
theorem ggX0_markIn_X0_unitAt : GoodIn wsX0_markIn wsX0_unitAt := goodIn_r _ [4] (by decide +kernel) (by decide +kernel)
set_option maxRecDepth 20000 in
theorem gX0_markIn_X0_unitAt : GoodIn wsX0_markIn (va_wsS RX0 59 yX0_unitAt wsX0_unitAt) := goodIn_app (goodIn_of _ (by decide +kernel)) ggX0_markIn_X0_unitAt
set_option maxRecDepth 20000 in
theorem ggX0_markIn_X0_byteAt : GoodIn wsX0_markIn wsX0_byteAt := goodIn_r _ [8, 9, 10, 11, 12, 13, 14, 15, 16, 17, 18] (by decide +kernel) (by decide +kernel)
set_option maxRecDepth 20000 in
theorem gX0_markIn_X0_byteAt : GoodIn wsX0_markIn (wsV RX0 41 RX0 yX0_byteAt wsX0_byteAt) := goodIn_app (goodIn_of _ (by decide +kernel)) ggX0_markIn_X0_byteAt
theorem dX0_markIn_0 : decode cX0_markIn 0 = .ok (.iload_n 1, 1) := by decide +kernel
theorem dX0_markIn_1 : decode cX0_markIn 1 = .ok (.iload_n 2, 1) := by decide +kernel
theorem dX0_markIn_2 : decode cX0_markIn 2 = .ok (.invokestatic 59, 3) := by decide +kernel
theorem dX0_markIn_5 : decode cX0_markIn 5 = .ok (.istore_n 3, 1) := by decide +kernel
theorem dX0_markIn_6 : decode cX0_markIn 6 = .ok (.aload_n 0, 1) := by decide +kernel
theorem dX0_markIn_7 : decode cX0_markIn 7 = .ok (.iload_n 3, 1) := by decide +kernel
theorem dX0_markIn_8 : decode cX0_markIn 8 = .ok (.invokevirtual 41, 3) := by decide +kernel
theorem dX0_markIn_11 : decode cX0_markIn 11 = .ok (.istore 4, 2) := by decide +kernel
theorem dX0_markIn_13 : decode cX0_markIn 13 = .ok (.iload 4, 2) := by decide +kernel
theorem dX0_markIn_15 : decode cX0_markIn 15 = .ok (.iconst 1, 1) := by decide +kernel
theorem dX0_markIn_16 : decode cX0_markIn 16 = .ok (.if_icmp .lt 9, 3) := by decide +kernel
theorem dX0_markIn_19 : decode cX0_markIn 19 = .ok (.iload 4, 2) := by decide +kernel
theorem dX0_markIn_21 : decode cX0_markIn 21 = .ok (.iconst 3, 1) := by decide +kernel
theorem dX0_markIn_22 : decode cX0_markIn 22 = .ok (.if_icmp .le 5, 3) := by decide +kernel
theorem dX0_markIn_25 : decode cX0_markIn 25 = .ok (.iconst 0, 1) := by decide +kernel
theorem dX0_markIn_26 : decode cX0_markIn 26 = .ok (.ireturn, 1) := by decide +kernel
theorem dX0_markIn_27 : decode cX0_markIn 27 = .ok (.iconst 1, 1) := by decide +kernel
theorem dX0_markIn_28 : decode cX0_markIn 28 = .ok (.istore 5, 2) := by decide +kernel
theorem dX0_markIn_30 : decode cX0_markIn 30 = .ok (.iload 5, 2) := by decide +kernel
theorem dX0_markIn_32 : decode cX0_markIn 32 = .ok (.bipush 8, 2) := by decide +kernel
theorem dX0_markIn_34 : decode cX0_markIn 34 = .ok (.if_icmp .ge 24, 3) := by decide +kernel
theorem dX0_markIn_37 : decode cX0_markIn 37 = .ok (.aload_n 0, 1) := by decide +kernel
theorem dX0_markIn_38 : decode cX0_markIn 38 = .ok (.iload_n 3, 1) := by decide +kernel
theorem dX0_markIn_39 : decode cX0_markIn 39 = .ok (.iload 5, 2) := by decide +kernel
theorem dX0_markIn_41 : decode cX0_markIn 41 = .ok (.iadd, 1) := by decide +kernel
theorem dX0_markIn_42 : decode cX0_markIn 42 = .ok (.invokevirtual 41, 3) := by decide +kernel
theorem dX0_markIn_45 : decode cX0_markIn 45 = .ok (.iload 4, 2) := by decide +kernel
theorem dX0_markIn_47 : decode cX0_markIn 47 = .ok (.if_icmp .eq 5, 3) := by decide +kernel
theorem dX0_markIn_50 : decode cX0_markIn 50 = .ok (.iconst 0, 1) := by decide +kernel
theorem dX0_markIn_51 : decode cX0_markIn 51 = .ok (.ireturn, 1) := by decide +kernel
theorem dX0_markIn_52 : decode cX0_markIn 52 = .ok (.iinc 5 1, 3) := by decide +kernel
theorem dX0_markIn_55 : decode cX0_markIn 55 = .ok (.goto (-25), 3) := by decide +kernel
theorem dX0_markIn_58 : decode cX0_markIn 58 = .ok (.iload 4, 2) := by decide +kernel
theorem dX0_markIn_60 : decode cX0_markIn 60 = .ok (.ireturn, 1) := by decide +kernel
set_option maxRecDepth 20000 in
theorem ggX0_hasMagic_X0_unitAt : GoodIn wsX0_hasMagic wsX0_unitAt := goodIn_r _ [4] (by decide +kernel) (by decide +kernel)
set_option maxRecDepth 20000 in
theorem gX0_hasMagic_X0_unitAt : GoodIn wsX0_hasMagic (va_wsS RX0 59 yX0_unitAt wsX0_unitAt) := goodIn_app (goodIn_of _ (by decide +kernel)) ggX0_hasMagic_X0_unitAt
set_option maxRecDepth 20000 in
theorem ggX0_hasMagic_X0_byteAt : GoodIn wsX0_hasMagic wsX0_byteAt := goodIn_r _ [8, 9, 10, 11, 12, 13, 14, 15, 16, 17, 18] (by decide +kernel) (by decide +kernel)
set_option maxRecDepth 20000 in
theorem gX0_hasMagic_X0_byteAt : GoodIn wsX0_hasMagic (wsV RX0 41 RX0 yX0_byteAt wsX0_byteAt) := goodIn_app (goodIn_of _ (by decide +kernel)) ggX0_hasMagic_X0_byteAt
theorem dX0_hasMagic_0 : decode cX0_hasMagic 0 = .ok (.iload_n 1, 1) := by decide +kernel
theorem dX0_hasMagic_1 : decode cX0_hasMagic 1 = .ok (.iconst 0, 1) := by decide +kernel
theorem dX0_hasMagic_2 : decode cX0_hasMagic 2 = .ok (.invokestatic 59, 3) := by decide +kernel
theorem dX0_hasMagic_5 : decode cX0_hasMagic 5 = .ok (.istore_n 2, 1) := by decide +kernel
theorem dX0_hasMagic_6 : decode cX0_hasMagic 6 = .ok (.iconst 0, 1) := by decide +kernel
theorem dX0_hasMagic_7 : decode cX0_hasMagic 7 = .ok (.istore_n 3, 1) := by decide +kernel
theorem dX0_hasMagic_8 : decode cX0_hasMagic 8 = .ok (.iload_n 3, 1) := by decide +kernel
theorem dX0_hasMagic_9 : decode cX0_hasMagic 9 = .ok (.bipush 8, 2) := by decide +kernel
theorem dX0_hasMagic_11 : decode cX0_hasMagic 11 = .ok (.if_icmp .ge 26, 3) := by decide +kernel
theorem dX0_hasMagic_14 : decode cX0_hasMagic 14 = .ok (.aload_n 0, 1) := by decide +kernel
theorem dX0_hasMagic_15 : decode cX0_hasMagic 15 = .ok (.iload_n 2, 1) := by decide +kernel
theorem dX0_hasMagic_16 : decode cX0_hasMagic 16 = .ok (.iload_n 3, 1) := by decide +kernel
theorem dX0_hasMagic_17 : decode cX0_hasMagic 17 = .ok (.iadd, 1) := by decide +kernel
theorem dX0_hasMagic_18 : decode cX0_hasMagic 18 = .ok (.invokevirtual 41, 3) := by decide +kernel
theorem dX0_hasMagic_21 : decode cX0_hasMagic 21 = .ok (.getstatic 75, 3) := by decide +kernel
theorem dX0_hasMagic_24 : decode cX0_hasMagic 24 = .ok (.iload_n 3, 1) := by decide +kernel
theorem dX0_hasMagic_25 : decode cX0_hasMagic 25 = .ok (.iaload, 1) := by decide +kernel
theorem dX0_hasMagic_26 : decode cX0_hasMagic 26 = .ok (.if_icmp .eq 5, 3) := by decide +kernel
theorem dX0_hasMagic_29 : decode cX0_hasMagic 29 = .ok (.iconst 0, 1) := by decide +kernel
theorem dX0_hasMagic_30 : decode cX0_hasMagic 30 = .ok (.ireturn, 1) := by decide +kernel
theorem dX0_hasMagic_31 : decode cX0_hasMagic 31 = .ok (.iinc 3 1, 3) := by decide +kernel
theorem dX0_hasMagic_34 : decode cX0_hasMagic 34 = .ok (.goto (-26), 3) := by decide +kernel
theorem dX0_hasMagic_37 : decode cX0_hasMagic 37 = .ok (.iconst 1, 1) := by decide +kernel
theorem dX0_hasMagic_38 : decode cX0_hasMagic 38 = .ok (.ireturn, 1) := by decide +kernel
theorem dX1_init_0 : decode cX1_init 0 = .ok (.aload_n 0, 1) := by decide +kernel
theorem dX1_init_1 : decode cX1_init 1 = .ok (.invokespecial 3, 3) := by decide +kernel
theorem dX1_init_4 : decode cX1_init 4 = .ok (.aload_n 0, 1) := by decide +kernel
theorem dX1_init_5 : decode cX1_init 5 = .ok (.bipush 64, 2) := by decide +kernel
theorem dX1_init_7 : decode cX1_init 7 = .ok (.newarray .int, 2) := by decide +kernel
theorem dX1_init_9 : decode cX1_init 9 = .ok (.putfield 11, 3) := by decide +kernel
theorem dX1_init_12 : decode cX1_init 12 = .ok (.aload_n 0, 1) := by decide +kernel
theorem dX1_init_13 : decode cX1_init 13 = .ok (.bipush 8, 2) := by decide +kernel
theorem dX1_init_15 : decode cX1_init 15 = .ok (.newarray .int, 2) := by decide +kernel
theorem dX1_init_17 : decode cX1_init 17 = .ok (.putfield 15, 3) := by decide +kernel
theorem dX1_init_20 : decode cX1_init 20 = .ok (.return_, 1) := by decide +kernel
set_option maxRecDepth 20000 in
theorem ggX1_digest_X1_paddedWord : GoodIn wsX1_digest wsX1_paddedWord := goodIn_r _ [7, 8, 9, 6, 10] (by decide +kernel) (by decide +kernel)
set_option maxRecDepth 20000 in
theorem gX1_digest_X1_paddedWord : GoodIn wsX1_digest (va_wsS RX1 21 yX1_paddedWord wsX1_paddedWord) := goodIn_app (goodIn_of _ (by decide +kernel)) ggX1_digest_X1_paddedWord
set_option maxRecDepth 20000 in
theorem ggX1_digest_X1_stretchSchedule : GoodIn wsX1_digest wsX1_stretchSchedule := goodIn_r _ [14, 3, 15, 16, 6, 17, 23, 24] (by decide +kernel) (by decide +kernel)
set_option maxRecDepth 20000 in
theorem gX1_digest_X1_stretchSchedule : GoodIn wsX1_digest (wsV RX1 25 RX1 yX1_stretchSchedule wsX1_stretchSchedule) := goodIn_app (goodIn_of _ (by decide +kernel)) ggX1_digest_X1_stretchSchedule
set_option maxRecDepth 20000 in
theorem ggX1_digest_X1_mixBlock : GoodIn wsX1_digest wsX1_mixBlock := goodIn_r _ [21, 1, 22, 3, 15, 16, 6, 17, 23, 24] (by decide +kernel) (by decide +kernel)
set_option maxRecDepth 20000 in
theorem gX1_digest_X1_mixBlock : GoodIn wsX1_digest (wsV RX1 28 RX1 yX1_mixBlock wsX1_mixBlock) := goodIn_app (goodIn_of _ (by decide +kernel)) ggX1_digest_X1_mixBlock
theorem dX1_digest_0 : decode cX1_digest 0 = .ok (.aload_n 1, 1) := by decide +kernel
theorem dX1_digest_1 : decode cX1_digest 1 = .ok (.ifnull 26, 3) := by decide +kernel
theorem dX1_digest_4 : decode cX1_digest 4 = .ok (.iload_n 2, 1) := by decide +kernel
theorem dX1_digest_5 : decode cX1_digest 5 = .ok (.ifCond .lt 22, 3) := by decide +kernel
theorem dX1_digest_8 : decode cX1_digest 8 = .ok (.iload_n 3, 1) := by decide +kernel
theorem dX1_digest_9 : decode cX1_digest 9 = .ok (.ifCond .lt 18, 3) := by decide +kernel
theorem dX1_digest_12 : decode cX1_digest 12 = .ok (.iload_n 3, 1) := by decide +kernel
theorem dX1_digest_13 : decode cX1_digest 13 = .ok (.sipush 1024, 3) := by decide +kernel
theorem dX1_digest_16 : decode cX1_digest 16 = .ok (.if_icmp .gt 11, 3) := by decide +kernel
theorem dX1_digest_19 : decode cX1_digest 19 = .ok (.iload_n 2, 1) := by decide +kernel
theorem dX1_digest_20 : decode cX1_digest 20 = .ok (.aload_n 1, 1) := by decide +kernel
theorem dX1_digest_21 : decode cX1_digest 21 = .ok (.arraylength, 1) := by decide +kernel
theorem dX1_digest_22 : decode cX1_digest 22 = .ok (.iload_n 3, 1) := by decide +kernel
theorem dX1_digest_23 : decode cX1_digest 23 = .ok (.isub, 1) := by decide +kernel
theorem dX1_digest_24 : decode cX1_digest 24 = .ok (.if_icmp .le 4, 3) := by decide +kernel
theorem dX1_digest_27 : decode cX1_digest 27 = .ok (.return_, 1) := by decide +kernel
theorem dX1_digest_28 : decode cX1_digest 28 = .ok (.iconst 0, 1) := by decide +kernel
theorem dX1_digest_29 : decode cX1_digest 29 = .ok (.istore 4, 2) := by decide +kernel
theorem dX1_digest_31 : decode cX1_digest 31 = .ok (.iload 4, 2) := by decide +kernel
theorem dX1_digest_33 : decode cX1_digest 33 = .ok (.bipush 8, 2) := by decide +kernel
theorem dX1_digest_35 : decode cX1_digest 35 = .ok (.if_icmp .ge 22, 3) := by decide +kernel
theorem dX1_digest_38 : decode cX1_digest 38 = .ok (.aload_n 0, 1) := by decide +kernel
theorem dX1_digest_39 : decode cX1_digest 39 = .ok (.getfield 15, 3) := by decide +kernel
theorem dX1_digest_42 : decode cX1_digest 42 = .ok (.iload 4, 2) := by decide +kernel
theorem dX1_digest_44 : decode cX1_digest 44 = .ok (.getstatic 18, 3) := by decide +kernel
theorem dX1_digest_47 : decode cX1_digest 47 = .ok (.iload 4, 2) := by decide +kernel
theorem dX1_digest_49 : decode cX1_digest 49 = .ok (.iaload, 1) := by decide +kernel
theorem dX1_digest_50 : decode cX1_digest 50 = .ok (.iastore, 1) := by decide +kernel
theorem dX1_digest_51 : decode cX1_digest 51 = .ok (.iinc 4 1, 3) := by decide +kernel
theorem dX1_digest_54 : decode cX1_digest 54 = .ok (.goto (-23), 3) := by decide +kernel
theorem dX1_digest_57 : decode cX1_digest 57 = .ok (.iload_n 3, 1) := by decide +kernel
theorem dX1_digest_58 : decode cX1_digest 58 = .ok (.bipush 8, 2) := by decide +kernel
theorem dX1_digest_60 : decode cX1_digest 60 = .ok (.iadd, 1) := by decide +kernel
theorem dX1_digest_61 : decode cX1_digest 61 = .ok (.bipush 64, 2) := by decide +kernel
theorem dX1_digest_63 : decode cX1_digest 63 = .ok (.idiv, 1) := by decide +kernel
theorem dX1_digest_64 : decode cX1_digest 64 = .ok (.iconst 1, 1) := by decide +kernel
theorem dX1_digest_65 : decode cX1_digest 65 = .ok (.iadd, 1) := by decide +kernel
theorem dX1_digest_66 : decode cX1_digest 66 = .ok (.istore 4, 2) := by decide +kernel
theorem dX1_digest_68 : decode cX1_digest 68 = .ok (.iconst 0, 1) := by decide +kernel
theorem dX1_digest_69 : decode cX1_digest 69 = .ok (.istore 5, 2) := by decide +kernel
theorem dX1_digest_71 : decode cX1_digest 71 = .ok (.iload 5, 2) := by decide +kernel
theorem dX1_digest_73 : decode cX1_digest 73 = .ok (.iload 4, 2) := by decide +kernel
theorem dX1_digest_75 : decode cX1_digest 75 = .ok (.if_icmp .ge 76, 3) := by decide +kernel
theorem dX1_digest_78 : decode cX1_digest 78 = .ok (.iconst 0, 1) := by decide +kernel
theorem dX1_digest_79 : decode cX1_digest 79 = .ok (.istore 6, 2) := by decide +kernel
theorem dX1_digest_81 : decode cX1_digest 81 = .ok (.iload 6, 2) := by decide +kernel
theorem dX1_digest_83 : decode cX1_digest 83 = .ok (.bipush 16, 2) := by decide +kernel
theorem dX1_digest_85 : decode cX1_digest 85 = .ok (.if_icmp .ge 32, 3) := by decide +kernel
theorem dX1_digest_88 : decode cX1_digest 88 = .ok (.aload_n 0, 1) := by decide +kernel
theorem dX1_digest_89 : decode cX1_digest 89 = .ok (.getfield 11, 3) := by decide +kernel
theorem dX1_digest_92 : decode cX1_digest 92 = .ok (.iload 6, 2) := by decide +kernel
theorem dX1_digest_94 : decode cX1_digest 94 = .ok (.aload_n 1, 1) := by decide +kernel
theorem dX1_digest_95 : decode cX1_digest 95 = .ok (.iload_n 2, 1) := by decide +kernel
theorem dX1_digest_96 : decode cX1_digest 96 = .ok (.iload_n 3, 1) := by decide +kernel
theorem dX1_digest_97 : decode cX1_digest 97 = .ok (.iload 5, 2) := by decide +kernel
theorem dX1_digest_99 : decode cX1_digest 99 = .ok (.bipush 64, 2) := by decide +kernel
theorem dX1_digest_101 : decode cX1_digest 101 = .ok (.imul, 1) := by decide +kernel
theorem dX1_digest_102 : decode cX1_digest 102 = .ok (.iconst 4, 1) := by decide +kernel
theorem dX1_digest_103 : decode cX1_digest 103 = .ok (.iload 6, 2) := by decide +kernel
theorem dX1_digest_105 : decode cX1_digest 105 = .ok (.imul, 1) := by decide +kernel
theorem dX1_digest_106 : decode cX1_digest 106 = .ok (.iadd, 1) := by decide +kernel
theorem dX1_digest_107 : decode cX1_digest 107 = .ok (.invokestatic 21, 3) := by decide +kernel
theorem dX1_digest_110 : decode cX1_digest 110 = .ok (.iastore, 1) := by decide +kernel
theorem dX1_digest_111 : decode cX1_digest 111 = .ok (.iinc 6 1, 3) := by decide +kernel
theorem dX1_digest_114 : decode cX1_digest 114 = .ok (.goto (-33), 3) := by decide +kernel
theorem dX1_digest_117 : decode cX1_digest 117 = .ok (.iload 5, 2) := by decide +kernel
theorem dX1_digest_119 : decode cX1_digest 119 = .ok (.iload 4, 2) := by decide +kernel
theorem dX1_digest_121 : decode cX1_digest 121 = .ok (.iconst 1, 1) := by decide +kernel
theorem dX1_digest_122 : decode cX1_digest 122 = .ok (.isub, 1) := by decide +kernel
theorem dX1_digest_123 : decode cX1_digest 123 = .ok (.if_icmp .ne 14, 3) := by decide +kernel
theorem dX1_digest_126 : decode cX1_digest 126 = .ok (.aload_n 0, 1) := by decide +kernel
theorem dX1_digest_127 : decode cX1_digest 127 = .ok (.getfield 11, 3) := by decide +kernel
theorem dX1_digest_130 : decode cX1_digest 130 = .ok (.bipush 15, 2) := by decide +kernel
theorem dX1_digest_132 : decode cX1_digest 132 = .ok (.bipush 8, 2) := by decide +kernel
theorem dX1_digest_134 : decode cX1_digest 134 = .ok (.iload_n 3, 1) := by decide +kernel
theorem dX1_digest_135 : decode cX1_digest 135 = .ok (.imul, 1) := by decide +kernel
theorem dX1_digest_136 : decode cX1_digest 136 = .ok (.iastore, 1) := by decide +kernel
theorem dX1_digest_137 : decode cX1_digest 137 = .ok (.aload_n 0, 1) := by decide +kernel
theorem dX1_digest_138 : decode cX1_digest 138 = .ok (.invokevirtual 25, 3) := by decide +kernel
theorem dX1_digest_141 : decode cX1_digest 141 = .ok (.aload_n 0, 1) := by decide +kernel
theorem dX1_digest_142 : decode cX1_digest 142 = .ok (.invokevirtual 28, 3) := by decide +kernel
theorem dX1_digest_145 : decode cX1_digest 145 = .ok (.iinc 5 1, 3) := by decide +kernel
theorem dX1_digest_148 : decode cX1_digest 148 = .ok (.goto (-77), 3) := by decide +kernel
theorem dX1_digest_151 : decode cX1_digest 151 = .ok (.return_, 1) := by decide +kernel
theorem dX1_digestByte_0 : decode cX1_digestByte 0 = .ok (.iload_n 1, 1) := by decide +kernel
theorem dX1_digestByte_1 : decode cX1_digestByte 1 = .ok (.ifCond .lt 9, 3) := by decide +kernel
theorem dX1_digestByte_4 : decode cX1_digestByte 4 = .ok (.iload_n 1, 1) := by decide +kernel
theorem dX1_digestByte_5 : decode cX1_digestByte 5 = .ok (.bipush 32, 2) := by decide +kernel
theorem dX1_digestByte_7 : decode cX1_digestByte 7 = .ok (.if_icmp .lt 5, 3) := by decide +kernel
theorem dX1_digestByte_10 : decode cX1_digestByte 10 = .ok (.iconst 0, 1) := by decide +kernel
theorem dX1_digestByte_11 : decode cX1_digestByte 11 = .ok (.ireturn, 1) := by decide +kernel
theorem dX1_digestByte_12 : decode cX1_digestByte 12 = .ok (.aload_n 0, 1) := by decide +kernel
theorem dX1_digestByte_13 : decode cX1_digestByte 13 = .ok (.getfield 15, 3) := by decide +kernel
theorem dX1_digestByte_16 : decode cX1_digestByte 16 = .ok (.iload_n 1, 1) := by decide +kernel
theorem dX1_digestByte_17 : decode cX1_digestByte 17 = .ok (.iconst 4, 1) := by decide +kernel
theorem dX1_digestByte_18 : decode cX1_digestByte 18 = .ok (.idiv, 1) := by decide +kernel
theorem dX1_digestByte_19 : decode cX1_digestByte 19 = .ok (.iaload, 1) := by decide +kernel
theorem dX1_digestByte_20 : decode cX1_digestByte 20 = .ok (.bipush 24, 2) := by decide +kernel
theorem dX1_digestByte_22 : decode cX1_digestByte 22 = .ok (.bipush 8, 2) := by decide +kernel
theorem dX1_digestByte_24 : decode cX1_digestByte 24 = .ok (.iload_n 1, 1) := by decide +kernel
theorem dX1_digestByte_25 : decode cX1_digestByte 25 = .ok (.iconst 4, 1) := by decide +kernel
theorem dX1_digestByte_26 : decode cX1_digestByte 26 = .ok (.irem, 1) := by decide +kernel
theorem dX1_digestByte_27 : decode cX1_digestByte 27 = .ok (.imul, 1) := by decide +kernel
theorem dX1_digestByte_28 : decode cX1_digestByte 28 = .ok (.isub, 1) := by decide +kernel
theorem dX1_digestByte_29 : decode cX1_digestByte 29 = .ok (.iushr, 1) := by decide +kernel
theorem dX1_digestByte_30 : decode cX1_digestByte 30 = .ok (.sipush 255, 3) := by decide +kernel
theorem dX1_digestByte_33 : decode cX1_digestByte 33 = .ok (.iand, 1) := by decide +kernel
theorem dX1_digestByte_34 : decode cX1_digestByte 34 = .ok (.ireturn, 1) := by decide +kernel
set_option maxRecDepth 20000 in
theorem ggX1_paddedWord_X1_paddedByte : GoodIn wsX1_paddedWord wsX1_paddedByte := goodIn_r _ [4] (by decide +kernel) (by decide +kernel)
set_option maxRecDepth 20000 in
theorem gX1_paddedWord_X1_paddedByte : GoodIn wsX1_paddedWord (va_wsS RX1 31 yX1_paddedByte wsX1_paddedByte) := goodIn_app (goodIn_of _ (by decide +kernel)) ggX1_paddedWord_X1_paddedByte
theorem dX1_paddedWord_0 : decode cX1_paddedWord 0 = .ok (.iconst 0, 1) := by decide +kernel
theorem dX1_paddedWord_1 : decode cX1_paddedWord 1 = .ok (.istore 4, 2) := by decide +kernel
theorem dX1_paddedWord_3 : decode cX1_paddedWord 3 = .ok (.iload_n 3, 1) := by decide +kernel
theorem dX1_paddedWord_4 : decode cX1_paddedWord 4 = .ok (.istore 5, 2) := by decide +kernel
theorem dX1_paddedWord_6 : decode cX1_paddedWord 6 = .ok (.iload 5, 2) := by decide +kernel
theorem dX1_paddedWord_8 : decode cX1_paddedWord 8 = .ok (.iload_n 3, 1) := by decide +kernel
theorem dX1_paddedWord_9 : decode cX1_paddedWord 9 = .ok (.iconst 4, 1) := by decide +kernel
theorem dX1_paddedWord_10 : decode cX1_paddedWord 10 = .ok (.iadd, 1) := by decide +kernel
theorem dX1_paddedWord_11 : decode cX1_paddedWord 11 = .ok (.if_icmp .ge 25, 3) := by decide +kernel
theorem dX1_paddedWord_14 : decode cX1_paddedWord 14 = .ok (.iload 4, 2) := by decide +kernel
theorem dX1_paddedWord_16 : decode cX1_paddedWord 16 = .ok (.bipush 8, 2) := by decide +kernel
theorem dX1_paddedWord_18 : decode cX1_paddedWord 18 = .ok (.ishl, 1) := by decide +kernel
theorem dX1_paddedWord_19 : decode cX1_paddedWord 19 = .ok (.aload_n 0, 1) := by decide +kernel
theorem dX1_paddedWord_20 : decode cX1_paddedWord 20 = .ok (.iload_n 1, 1) := by decide +kernel
theorem dX1_paddedWord_21 : decode cX1_paddedWord 21 = .ok (.iload_n 2, 1) := by decide +kernel
theorem dX1_paddedWord_22 : decode cX1_paddedWord 22 = .ok (.iload 5, 2) := by decide +kernel
theorem dX1_paddedWord_24 : decode cX1_paddedWord 24 = .ok (.invokestatic 31, 3) := by decide +kernel
theorem dX1_paddedWord_27 : decode cX1_paddedWord 27 = .ok (.ior, 1) := by decide +kernel
theorem dX1_paddedWord_28 : decode cX1_paddedWord 28 = .ok (.istore 4, 2) := by decide +kernel
theorem dX1_paddedWord_30 : decode cX1_paddedWord 30 = .ok (.iinc 5 1, 3) := by decide +kernel
theorem dX1_paddedWord_33 : decode cX1_paddedWord 33 = .ok (.goto (-27), 3) := by decide +kernel
theorem dX1_paddedWord_36 : decode cX1_paddedWord 36 = .ok (.iload 4, 2) := by decide +kernel
theorem dX1_paddedWord_38 : decode cX1_paddedWord 38 = .ok (.ireturn, 1) := by decide +kernel
theorem dX1_paddedByte_0 : decode cX1_paddedByte 0 = .ok (.iload_n 3, 1) := by decide +kernel
theorem dX1_paddedByte_1 : decode cX1_paddedByte 1 = .ok (.iload_n 2, 1) := by decide +kernel
theorem dX1_paddedByte_2 : decode cX1_paddedByte 2 = .ok (.if_icmp .ne 7, 3) := by decide +kernel
theorem dX1_paddedByte_5 : decode cX1_paddedByte 5 = .ok (.sipush 128, 3) := by decide +kernel
theorem dX1_paddedByte_8 : decode cX1_paddedByte 8 = .ok (.ireturn, 1) := by decide +kernel
theorem dX1_paddedByte_9 : decode cX1_paddedByte 9 = .ok (.iload_n 1, 1) := by decide +kernel
theorem dX1_paddedByte_10 : decode cX1_paddedByte 10 = .ok (.iload_n 3, 1) := by decide +kernel
theorem dX1_paddedByte_11 : decode cX1_paddedByte 11 = .ok (.iadd, 1) := by decide +kernel
theorem dX1_paddedByte_12 : decode cX1_paddedByte 12 = .ok (.istore 4, 2) := by decide +kernel
theorem dX1_paddedByte_14 : decode cX1_paddedByte 14 = .ok (.iload_n 3, 1) := by decide +kernel
theorem dX1_paddedByte_15 : decode cX1_paddedByte 15 = .ok (.iload_n 2, 1) := by decide +kernel
theorem dX1_paddedByte_16 : decode cX1_paddedByte 16 = .ok (.if_icmp .ge 22, 3) := by decide +kernel
theorem dX1_paddedByte_19 : decode cX1_paddedByte 19 = .ok (.iload 4, 2) := by decide +kernel
theorem dX1_paddedByte_21 : decode cX1_paddedByte 21 = .ok (.ifCond .lt 17, 3) := by decide +kernel
theorem dX1_paddedByte_24 : decode cX1_paddedByte 24 = .ok (.iload 4, 2) := by decide +kernel
theorem dX1_paddedByte_26 : decode cX1_paddedByte 26 = .ok (.aload_n 0, 1) := by decide +kernel
theorem dX1_paddedByte_27 : decode cX1_paddedByte 27 = .ok (.arraylength, 1) := by decide +kernel
theorem dX1_paddedByte_28 : decode cX1_paddedByte 28 = .ok (.if_icmp .ge 10, 3) := by decide +kernel
theorem dX1_paddedByte_31 : decode cX1_paddedByte 31 = .ok (.aload_n 0, 1) := by decide +kernel
theorem dX1_paddedByte_32 : decode cX1_paddedByte 32 = .ok (.iload 4, 2) := by decide +kernel
theorem dX1_paddedByte_34 : decode cX1_paddedByte 34 = .ok (.iaload, 1) := by decide +kernel
theorem dX1_paddedByte_35 : decode cX1_paddedByte 35 = .ok (.goto 4, 3) := by decide +kernel
theorem dX1_paddedByte_38 : decode cX1_paddedByte 38 = .ok (.iconst 0, 1) := by decide +kernel
theorem dX1_paddedByte_39 : decode cX1_paddedByte 39 = .ok (.ireturn, 1) := by decide +kernel
set_option maxRecDepth 20000 in
theorem ggX1_stretchSchedule_X1_turn : GoodIn wsX1_stretchSchedule wsX1_turn := goodIn_r _ [5] (by decide +kernel) (by decide +kernel)
set_option maxRecDepth 20000 in
theorem gX1_stretchSchedule_X1_turn : GoodIn wsX1_stretchSchedule (va_wsS RX1 34 yX1_turn wsX1_turn) := goodIn_app (goodIn_of _ (by decide +kernel)) ggX1_stretchSchedule_X1_turn
theorem dX1_stretchSchedule_0 : decode cX1_stretchSchedule 0 = .ok (.bipush 16, 2) := by decide +kernel
theorem dX1_stretchSchedule_2 : decode cX1_stretchSchedule 2 = .ok (.istore_n 1, 1) := by decide +kernel
theorem dX1_stretchSchedule_3 : decode cX1_stretchSchedule 3 = .ok (.iload_n 1, 1) := by decide +kernel
theorem dX1_stretchSchedule_4 : decode cX1_stretchSchedule 4 = .ok (.bipush 64, 2) := by decide +kernel
theorem dX1_stretchSchedule_6 : decode cX1_stretchSchedule 6 = .ok (.if_icmp .ge 98, 3) := by decide +kernel
theorem dX1_stretchSchedule_9 : decode cX1_stretchSchedule 9 = .ok (.aload_n 0, 1) := by decide +kernel
theorem dX1_stretchSchedule_10 : decode cX1_stretchSchedule 10 = .ok (.getfield 11, 3) := by decide +kernel
theorem dX1_stretchSchedule_13 : decode cX1_stretchSchedule 13 = .ok (.iload_n 1, 1) := by decide +kernel
theorem dX1_stretchSchedule_14 : decode cX1_stretchSchedule 14 = .ok (.iconst 2, 1) := by decide +kernel
theorem dX1_stretchSchedule_15 : decode cX1_stretchSchedule 15 = .ok (.isub, 1) := by decide +kernel
theorem dX1_stretchSchedule_16 : decode cX1_stretchSchedule 16 = .ok (.iaload, 1) := by decide +kernel
theorem dX1_stretchSchedule_17 : decode cX1_stretchSchedule 17 = .ok (.istore_n 2, 1) := by decide +kernel
theorem dX1_stretchSchedule_18 : decode cX1_stretchSchedule 18 = .ok (.aload_n 0, 1) := by decide +kernel
theorem dX1_stretchSchedule_19 : decode cX1_stretchSchedule 19 = .ok (.getfield 11, 3) := by decide +kernel
theorem dX1_stretchSchedule_22 : decode cX1_stretchSchedule 22 = .ok (.iload_n 1, 1) := by decide +kernel
theorem dX1_stretchSchedule_23 : decode cX1_stretchSchedule 23 = .ok (.bipush 15, 2) := by decide +kernel
theorem dX1_stretchSchedule_25 : decode cX1_stretchSchedule 25 = .ok (.isub, 1) := by decide +kernel
theorem dX1_stretchSchedule_26 : decode cX1_stretchSchedule 26 = .ok (.iaload, 1) := by decide +kernel
theorem dX1_stretchSchedule_27 : decode cX1_stretchSchedule 27 = .ok (.istore_n 3, 1) := by decide +kernel
theorem dX1_stretchSchedule_28 : decode cX1_stretchSchedule 28 = .ok (.iload_n 2, 1) := by decide +kernel
theorem dX1_stretchSchedule_29 : decode cX1_stretchSchedule 29 = .ok (.bipush 17, 2) := by decide +kernel
theorem dX1_stretchSchedule_31 : decode cX1_stretchSchedule 31 = .ok (.invokestatic 34, 3) := by decide +kernel
theorem dX1_stretchSchedule_34 : decode cX1_stretchSchedule 34 = .ok (.iload_n 2, 1) := by decide +kernel
theorem dX1_stretchSchedule_35 : decode cX1_stretchSchedule 35 = .ok (.bipush 19, 2) := by decide +kernel
theorem dX1_stretchSchedule_37 : decode cX1_stretchSchedule 37 = .ok (.invokestatic 34, 3) := by decide +kernel
theorem dX1_stretchSchedule_40 : decode cX1_stretchSchedule 40 = .ok (.ixor, 1) := by decide +kernel
theorem dX1_stretchSchedule_41 : decode cX1_stretchSchedule 41 = .ok (.iload_n 2, 1) := by decide +kernel
theorem dX1_stretchSchedule_42 : decode cX1_stretchSchedule 42 = .ok (.bipush 10, 2) := by decide +kernel
theorem dX1_stretchSchedule_44 : decode cX1_stretchSchedule 44 = .ok (.iushr, 1) := by decide +kernel
theorem dX1_stretchSchedule_45 : decode cX1_stretchSchedule 45 = .ok (.ixor, 1) := by decide +kernel
theorem dX1_stretchSchedule_46 : decode cX1_stretchSchedule 46 = .ok (.istore 4, 2) := by decide +kernel
theorem dX1_stretchSchedule_48 : decode cX1_stretchSchedule 48 = .ok (.iload_n 3, 1) := by decide +kernel
theorem dX1_stretchSchedule_49 : decode cX1_stretchSchedule 49 = .ok (.bipush 7, 2) := by decide +kernel
theorem dX1_stretchSchedule_51 : decode cX1_stretchSchedule 51 = .ok (.invokestatic 34, 3) := by decide +kernel
theorem dX1_stretchSchedule_54 : decode cX1_stretchSchedule 54 = .ok (.iload_n 3, 1) := by decide +kernel
theorem dX1_stretchSchedule_55 : decode cX1_stretchSchedule 55 = .ok (.bipush 18, 2) := by decide +kernel
theorem dX1_stretchSchedule_57 : decode cX1_stretchSchedule 57 = .ok (.invokestatic 34, 3) := by decide +kernel
theorem dX1_stretchSchedule_60 : decode cX1_stretchSchedule 60 = .ok (.ixor, 1) := by decide +kernel
theorem dX1_stretchSchedule_61 : decode cX1_stretchSchedule 61 = .ok (.iload_n 3, 1) := by decide +kernel
theorem dX1_stretchSchedule_62 : decode cX1_stretchSchedule 62 = .ok (.iconst 3, 1) := by decide +kernel
theorem dX1_stretchSchedule_63 : decode cX1_stretchSchedule 63 = .ok (.iushr, 1) := by decide +kernel
theorem dX1_stretchSchedule_64 : decode cX1_stretchSchedule 64 = .ok (.ixor, 1) := by decide +kernel
theorem dX1_stretchSchedule_65 : decode cX1_stretchSchedule 65 = .ok (.istore 5, 2) := by decide +kernel
theorem dX1_stretchSchedule_67 : decode cX1_stretchSchedule 67 = .ok (.aload_n 0, 1) := by decide +kernel
theorem dX1_stretchSchedule_68 : decode cX1_stretchSchedule 68 = .ok (.getfield 11, 3) := by decide +kernel
theorem dX1_stretchSchedule_71 : decode cX1_stretchSchedule 71 = .ok (.iload_n 1, 1) := by decide +kernel
theorem dX1_stretchSchedule_72 : decode cX1_stretchSchedule 72 = .ok (.iload 4, 2) := by decide +kernel
theorem dX1_stretchSchedule_74 : decode cX1_stretchSchedule 74 = .ok (.aload_n 0, 1) := by decide +kernel
theorem dX1_stretchSchedule_75 : decode cX1_stretchSchedule 75 = .ok (.getfield 11, 3) := by decide +kernel
theorem dX1_stretchSchedule_78 : decode cX1_stretchSchedule 78 = .ok (.iload_n 1, 1) := by decide +kernel
theorem dX1_stretchSchedule_79 : decode cX1_stretchSchedule 79 = .ok (.bipush 7, 2) := by decide +kernel
theorem dX1_stretchSchedule_81 : decode cX1_stretchSchedule 81 = .ok (.isub, 1) := by decide +kernel
theorem dX1_stretchSchedule_82 : decode cX1_stretchSchedule 82 = .ok (.iaload, 1) := by decide +kernel
theorem dX1_stretchSchedule_83 : decode cX1_stretchSchedule 83 = .ok (.iadd, 1) := by decide +kernel
theorem dX1_stretchSchedule_84 : decode cX1_stretchSchedule 84 = .ok (.iload 5, 2) := by decide +kernel
theorem dX1_stretchSchedule_86 : decode cX1_stretchSchedule 86 = .ok (.iadd, 1) := by decide +kernel
theorem dX1_stretchSchedule_87 : decode cX1_stretchSchedule 87 = .ok (.aload_n 0, 1) := by decide +kernel
theorem dX1_stretchSchedule_88 : decode cX1_stretchSchedule 88 = .ok (.getfield 11, 3) := by decide +kernel
theorem dX1_stretchSchedule_91 : decode cX1_stretchSchedule 91 = .ok (.iload_n 1, 1) := by decide +kernel
theorem dX1_stretchSchedule_92 : decode cX1_stretchSchedule 92 = .ok (.bipush 16, 2) := by decide +kernel
theorem dX1_stretchSchedule_94 : decode cX1_stretchSchedule 94 = .ok (.isub, 1) := by decide +kernel
theorem dX1_stretchSchedule_95 : decode cX1_stretchSchedule 95 = .ok (.iaload, 1) := by decide +kernel
theorem dX1_stretchSchedule_96 : decode cX1_stretchSchedule 96 = .ok (.iadd, 1) := by decide +kernel
theorem dX1_stretchSchedule_97 : decode cX1_stretchSchedule 97 = .ok (.iastore, 1) := by decide +kernel
theorem dX1_stretchSchedule_98 : decode cX1_stretchSchedule 98 = .ok (.iinc 1 1, 3) := by decide +kernel
theorem dX1_stretchSchedule_101 : decode cX1_stretchSchedule 101 = .ok (.goto (-98), 3) := by decide +kernel
theorem dX1_stretchSchedule_104 : decode cX1_stretchSchedule 104 = .ok (.return_, 1) := by decide +kernel
set_option maxRecDepth 20000 in
theorem ggX1_mixBlock_X1_turn : GoodIn wsX1_mixBlock wsX1_turn := goodIn_r _ [7] (by decide +kernel) (by decide +kernel)
set_option maxRecDepth 20000 in
theorem gX1_mixBlock_X1_turn : GoodIn wsX1_mixBlock (va_wsS RX1 34 yX1_turn wsX1_turn) := goodIn_app (goodIn_of _ (by decide +kernel)) ggX1_mixBlock_X1_turn
theorem dX1_mixBlock_0 : decode cX1_mixBlock 0 = .ok (.aload_n 0, 1) := by decide +kernel
theorem dX1_mixBlock_1 : decode cX1_mixBlock 1 = .ok (.getfield 15, 3) := by decide +kernel
theorem dX1_mixBlock_4 : decode cX1_mixBlock 4 = .ok (.iconst 0, 1) := by decide +kernel
theorem dX1_mixBlock_5 : decode cX1_mixBlock 5 = .ok (.iaload, 1) := by decide +kernel
theorem dX1_mixBlock_6 : decode cX1_mixBlock 6 = .ok (.istore_n 1, 1) := by decide +kernel
theorem dX1_mixBlock_7 : decode cX1_mixBlock 7 = .ok (.aload_n 0, 1) := by decide +kernel
theorem dX1_mixBlock_8 : decode cX1_mixBlock 8 = .ok (.getfield 15, 3) := by decide +kernel
theorem dX1_mixBlock_11 : decode cX1_mixBlock 11 = .ok (.iconst 1, 1) := by decide +kernel
theorem dX1_mixBlock_12 : decode cX1_mixBlock 12 = .ok (.iaload, 1) := by decide +kernel
theorem dX1_mixBlock_13 : decode cX1_mixBlock 13 = .ok (.istore_n 2, 1) := by decide +kernel
theorem dX1_mixBlock_14 : decode cX1_mixBlock 14 = .ok (.aload_n 0, 1) := by decide +kernel
theorem dX1_mixBlock_15 : decode cX1_mixBlock 15 = .ok (.getfield 15, 3) := by decide +kernel
theorem dX1_mixBlock_18 : decode cX1_mixBlock 18 = .ok (.iconst 2, 1) := by decide +kernel
theorem dX1_mixBlock_19 : decode cX1_mixBlock 19 = .ok (.iaload, 1) := by decide +kernel
theorem dX1_mixBlock_20 : decode cX1_mixBlock 20 = .ok (.istore_n 3, 1) := by decide +kernel
theorem dX1_mixBlock_21 : decode cX1_mixBlock 21 = .ok (.aload_n 0, 1) := by decide +kernel
theorem dX1_mixBlock_22 : decode cX1_mixBlock 22 = .ok (.getfield 15, 3) := by decide +kernel
theorem dX1_mixBlock_25 : decode cX1_mixBlock 25 = .ok (.iconst 3, 1) := by decide +kernel
theorem dX1_mixBlock_26 : decode cX1_mixBlock 26 = .ok (.iaload, 1) := by decide +kernel
theorem dX1_mixBlock_27 : decode cX1_mixBlock 27 = .ok (.istore 4, 2) := by decide +kernel
theorem dX1_mixBlock_29 : decode cX1_mixBlock 29 = .ok (.aload_n 0, 1) := by decide +kernel
theorem dX1_mixBlock_30 : decode cX1_mixBlock 30 = .ok (.getfield 15, 3) := by decide +kernel
theorem dX1_mixBlock_33 : decode cX1_mixBlock 33 = .ok (.iconst 4, 1) := by decide +kernel
theorem dX1_mixBlock_34 : decode cX1_mixBlock 34 = .ok (.iaload, 1) := by decide +kernel
theorem dX1_mixBlock_35 : decode cX1_mixBlock 35 = .ok (.istore 5, 2) := by decide +kernel
theorem dX1_mixBlock_37 : decode cX1_mixBlock 37 = .ok (.aload_n 0, 1) := by decide +kernel
theorem dX1_mixBlock_38 : decode cX1_mixBlock 38 = .ok (.getfield 15, 3) := by decide +kernel
theorem dX1_mixBlock_41 : decode cX1_mixBlock 41 = .ok (.iconst 5, 1) := by decide +kernel
theorem dX1_mixBlock_42 : decode cX1_mixBlock 42 = .ok (.iaload, 1) := by decide +kernel
theorem dX1_mixBlock_43 : decode cX1_mixBlock 43 = .ok (.istore 6, 2) := by decide +kernel
theorem dX1_mixBlock_45 : decode cX1_mixBlock 45 = .ok (.aload_n 0, 1) := by decide +kernel
theorem dX1_mixBlock_46 : decode cX1_mixBlock 46 = .ok (.getfield 15, 3) := by decide +kernel
theorem dX1_mixBlock_49 : decode cX1_mixBlock 49 = .ok (.bipush 6, 2) := by decide +kernel
theorem dX1_mixBlock_51 : decode cX1_mixBlock 51 = .ok (.iaload, 1) := by decide +kernel
theorem dX1_mixBlock_52 : decode cX1_mixBlock 52 = .ok (.istore 7, 2) := by decide +kernel
theorem dX1_mixBlock_54 : decode cX1_mixBlock 54 = .ok (.aload_n 0, 1) := by decide +kernel
theorem dX1_mixBlock_55 : decode cX1_mixBlock 55 = .ok (.getfield 15, 3) := by decide +kernel
theorem dX1_mixBlock_58 : decode cX1_mixBlock 58 = .ok (.bipush 7, 2) := by decide +kernel
theorem dX1_mixBlock_60 : decode cX1_mixBlock 60 = .ok (.iaload, 1) := by decide +kernel
theorem dX1_mixBlock_61 : decode cX1_mixBlock 61 = .ok (.istore 8, 2) := by decide +kernel
theorem dX1_mixBlock_63 : decode cX1_mixBlock 63 = .ok (.iconst 0, 1) := by decide +kernel
theorem dX1_mixBlock_64 : decode cX1_mixBlock 64 = .ok (.istore 9, 2) := by decide +kernel
theorem dX1_mixBlock_66 : decode cX1_mixBlock 66 = .ok (.iload 9, 2) := by decide +kernel
theorem dX1_mixBlock_68 : decode cX1_mixBlock 68 = .ok (.bipush 64, 2) := by decide +kernel
theorem dX1_mixBlock_70 : decode cX1_mixBlock 70 = .ok (.if_icmp .ge 139, 3) := by decide +kernel
theorem dX1_mixBlock_73 : decode cX1_mixBlock 73 = .ok (.iload 5, 2) := by decide +kernel
theorem dX1_mixBlock_75 : decode cX1_mixBlock 75 = .ok (.iload 6, 2) := by decide +kernel
theorem dX1_mixBlock_77 : decode cX1_mixBlock 77 = .ok (.iand, 1) := by decide +kernel
theorem dX1_mixBlock_78 : decode cX1_mixBlock 78 = .ok (.iload 5, 2) := by decide +kernel
theorem dX1_mixBlock_80 : decode cX1_mixBlock 80 = .ok (.iconst (-1), 1) := by decide +kernel
theorem dX1_mixBlock_81 : decode cX1_mixBlock 81 = .ok (.ixor, 1) := by decide +kernel
theorem dX1_mixBlock_82 : decode cX1_mixBlock 82 = .ok (.iload 7, 2) := by decide +kernel
theorem dX1_mixBlock_84 : decode cX1_mixBlock 84 = .ok (.iand, 1) := by decide +kernel
theorem dX1_mixBlock_85 : decode cX1_mixBlock 85 = .ok (.ixor, 1) := by decide +kernel
theorem dX1_mixBlock_86 : decode cX1_mixBlock 86 = .ok (.istore 10, 2) := by decide +kernel
theorem dX1_mixBlock_88 : decode cX1_mixBlock 88 = .ok (.iload_n 1, 1) := by decide +kernel
theorem dX1_mixBlock_89 : decode cX1_mixBlock 89 = .ok (.iload_n 2, 1) := by decide +kernel
theorem dX1_mixBlock_90 : decode cX1_mixBlock 90 = .ok (.iand, 1) := by decide +kernel
theorem dX1_mixBlock_91 : decode cX1_mixBlock 91 = .ok (.iload_n 1, 1) := by decide +kernel
theorem dX1_mixBlock_92 : decode cX1_mixBlock 92 = .ok (.iload_n 3, 1) := by decide +kernel
theorem dX1_mixBlock_93 : decode cX1_mixBlock 93 = .ok (.iand, 1) := by decide +kernel
theorem dX1_mixBlock_94 : decode cX1_mixBlock 94 = .ok (.ixor, 1) := by decide +kernel
theorem dX1_mixBlock_95 : decode cX1_mixBlock 95 = .ok (.iload_n 2, 1) := by decide +kernel
theorem dX1_mixBlock_96 : decode cX1_mixBlock 96 = .ok (.iload_n 3, 1) := by decide +kernel
theorem dX1_mixBlock_97 : decode cX1_mixBlock 97 = .ok (.iand, 1) := by decide +kernel
theorem dX1_mixBlock_98 : decode cX1_mixBlock 98 = .ok (.ixor, 1) := by decide +kernel
theorem dX1_mixBlock_99 : decode cX1_mixBlock 99 = .ok (.istore 11, 2) := by decide +kernel
theorem dX1_mixBlock_101 : decode cX1_mixBlock 101 = .ok (.iload 8, 2) := by decide +kernel
theorem dX1_mixBlock_103 : decode cX1_mixBlock 103 = .ok (.iload 5, 2) := by decide +kernel
theorem dX1_mixBlock_105 : decode cX1_mixBlock 105 = .ok (.bipush 6, 2) := by decide +kernel
theorem dX1_mixBlock_107 : decode cX1_mixBlock 107 = .ok (.invokestatic 34, 3) := by decide +kernel
theorem dX1_mixBlock_110 : decode cX1_mixBlock 110 = .ok (.iload 5, 2) := by decide +kernel
theorem dX1_mixBlock_112 : decode cX1_mixBlock 112 = .ok (.bipush 11, 2) := by decide +kernel
theorem dX1_mixBlock_114 : decode cX1_mixBlock 114 = .ok (.invokestatic 34, 3) := by decide +kernel
theorem dX1_mixBlock_117 : decode cX1_mixBlock 117 = .ok (.ixor, 1) := by decide +kernel
theorem dX1_mixBlock_118 : decode cX1_mixBlock 118 = .ok (.iload 5, 2) := by decide +kernel
theorem dX1_mixBlock_120 : decode cX1_mixBlock 120 = .ok (.bipush 25, 2) := by decide +kernel
theorem dX1_mixBlock_122 : decode cX1_mixBlock 122 = .ok (.invokestatic 34, 3) := by decide +kernel
theorem dX1_mixBlock_125 : decode cX1_mixBlock 125 = .ok (.ixor, 1) := by decide +kernel
theorem dX1_mixBlock_126 : decode cX1_mixBlock 126 = .ok (.iadd, 1) := by decide +kernel
theorem dX1_mixBlock_127 : decode cX1_mixBlock 127 = .ok (.iload 10, 2) := by decide +kernel
theorem dX1_mixBlock_129 : decode cX1_mixBlock 129 = .ok (.iadd, 1) := by decide +kernel
theorem dX1_mixBlock_130 : decode cX1_mixBlock 130 = .ok (.getstatic 38, 3) := by decide +kernel
theorem dX1_mixBlock_133 : decode cX1_mixBlock 133 = .ok (.iload 9, 2) := by decide +kernel
theorem dX1_mixBlock_135 : decode cX1_mixBlock 135 = .ok (.iaload, 1) := by decide +kernel
theorem dX1_mixBlock_136 : decode cX1_mixBlock 136 = .ok (.iadd, 1) := by decide +kernel
theorem dX1_mixBlock_137 : decode cX1_mixBlock 137 = .ok (.aload_n 0, 1) := by decide +kernel
theorem dX1_mixBlock_138 : decode cX1_mixBlock 138 = .ok (.getfield 11, 3) := by decide +kernel
theorem dX1_mixBlock_141 : decode cX1_mixBlock 141 = .ok (.iload 9, 2) := by decide +kernel
theorem dX1_mixBlock_143 : decode cX1_mixBlock 143 = .ok (.iaload, 1) := by decide +kernel
theorem dX1_mixBlock_144 : decode cX1_mixBlock 144 = .ok (.iadd, 1) := by decide +kernel
theorem dX1_mixBlock_145 : decode cX1_mixBlock 145 = .ok (.istore 12, 2) := by decide +kernel
theorem dX1_mixBlock_147 : decode cX1_mixBlock 147 = .ok (.iload_n 1, 1) := by decide +kernel
theorem dX1_mixBlock_148 : decode cX1_mixBlock 148 = .ok (.iconst 2, 1) := by decide +kernel
theorem dX1_mixBlock_149 : decode cX1_mixBlock 149 = .ok (.invokestatic 34, 3) := by decide +kernel
theorem dX1_mixBlock_152 : decode cX1_mixBlock 152 = .ok (.iload_n 1, 1) := by decide +kernel
theorem dX1_mixBlock_153 : decode cX1_mixBlock 153 = .ok (.bipush 13, 2) := by decide +kernel
theorem dX1_mixBlock_155 : decode cX1_mixBlock 155 = .ok (.invokestatic 34, 3) := by decide +kernel
theorem dX1_mixBlock_158 : decode cX1_mixBlock 158 = .ok (.ixor, 1) := by decide +kernel
theorem dX1_mixBlock_159 : decode cX1_mixBlock 159 = .ok (.iload_n 1, 1) := by decide +kernel
theorem dX1_mixBlock_160 : decode cX1_mixBlock 160 = .ok (.bipush 22, 2) := by decide +kernel
theorem dX1_mixBlock_162 : decode cX1_mixBlock 162 = .ok (.invokestatic 34, 3) := by decide +kernel
theorem dX1_mixBlock_165 : decode cX1_mixBlock 165 = .ok (.ixor, 1) := by decide +kernel
theorem dX1_mixBlock_166 : decode cX1_mixBlock 166 = .ok (.iload 11, 2) := by decide +kernel
theorem dX1_mixBlock_168 : decode cX1_mixBlock 168 = .ok (.iadd, 1) := by decide +kernel
theorem dX1_mixBlock_169 : decode cX1_mixBlock 169 = .ok (.istore 13, 2) := by decide +kernel
theorem dX1_mixBlock_171 : decode cX1_mixBlock 171 = .ok (.iload 7, 2) := by decide +kernel
theorem dX1_mixBlock_173 : decode cX1_mixBlock 173 = .ok (.istore 8, 2) := by decide +kernel
theorem dX1_mixBlock_175 : decode cX1_mixBlock 175 = .ok (.iload 6, 2) := by decide +kernel
theorem dX1_mixBlock_177 : decode cX1_mixBlock 177 = .ok (.istore 7, 2) := by decide +kernel
theorem dX1_mixBlock_179 : decode cX1_mixBlock 179 = .ok (.iload 5, 2) := by decide +kernel
theorem dX1_mixBlock_181 : decode cX1_mixBlock 181 = .ok (.istore 6, 2) := by decide +kernel
theorem dX1_mixBlock_183 : decode cX1_mixBlock 183 = .ok (.iload 4, 2) := by decide +kernel
theorem dX1_mixBlock_185 : decode cX1_mixBlock 185 = .ok (.iload 12, 2) := by decide +kernel
theorem dX1_mixBlock_187 : decode cX1_mixBlock 187 = .ok (.iadd, 1) := by decide +kernel
theorem dX1_mixBlock_188 : decode cX1_mixBlock 188 = .ok (.istore 5, 2) := by decide +kernel
theorem dX1_mixBlock_190 : decode cX1_mixBlock 190 = .ok (.iload_n 3, 1) := by decide +kernel
theorem dX1_mixBlock_191 : decode cX1_mixBlock 191 = .ok (.istore 4, 2) := by decide +kernel
theorem dX1_mixBlock_193 : decode cX1_mixBlock 193 = .ok (.iload_n 2, 1) := by decide +kernel
theorem dX1_mixBlock_194 : decode cX1_mixBlock 194 = .ok (.istore_n 3, 1) := by decide +kernel
theorem dX1_mixBlock_195 : decode cX1_mixBlock 195 = .ok (.iload_n 1, 1) := by decide +kernel
theorem dX1_mixBlock_196 : decode cX1_mixBlock 196 = .ok (.istore_n 2, 1) := by decide +kernel
theorem dX1_mixBlock_197 : decode cX1_mixBlock 197 = .ok (.iload 12, 2) := by decide +kernel
theorem dX1_mixBlock_199 : decode cX1_mixBlock 199 = .ok (.iload 13, 2) := by decide +kernel
theorem dX1_mixBlock_201 : decode cX1_mixBlock 201 = .ok (.iadd, 1) := by decide +kernel
theorem dX1_mixBlock_202 : decode cX1_mixBlock 202 = .ok (.istore_n 1, 1) := by decide +kernel
theorem dX1_mixBlock_203 : decode cX1_mixBlock 203 = .ok (.iinc 9 1, 3) := by decide +kernel
theorem dX1_mixBlock_206 : decode cX1_mixBlock 206 = .ok (.goto (-140), 3) := by decide +kernel
theorem dX1_mixBlock_209 : decode cX1_mixBlock 209 = .ok (.aload_n 0, 1) := by decide +kernel
theorem dX1_mixBlock_210 : decode cX1_mixBlock 210 = .ok (.getfield 15, 3) := by decide +kernel
theorem dX1_mixBlock_213 : decode cX1_mixBlock 213 = .ok (.iconst 0, 1) := by decide +kernel
theorem dX1_mixBlock_214 : decode cX1_mixBlock 214 = .ok (.dup2, 1) := by decide +kernel
theorem dX1_mixBlock_215 : decode cX1_mixBlock 215 = .ok (.iaload, 1) := by decide +kernel
theorem dX1_mixBlock_216 : decode cX1_mixBlock 216 = .ok (.iload_n 1, 1) := by decide +kernel
theorem dX1_mixBlock_217 : decode cX1_mixBlock 217 = .ok (.iadd, 1) := by decide +kernel
theorem dX1_mixBlock_218 : decode cX1_mixBlock 218 = .ok (.iastore, 1) := by decide +kernel
theorem dX1_mixBlock_219 : decode cX1_mixBlock 219 = .ok (.aload_n 0, 1) := by decide +kernel
theorem dX1_mixBlock_220 : decode cX1_mixBlock 220 = .ok (.getfield 15, 3) := by decide +kernel
theorem dX1_mixBlock_223 : decode cX1_mixBlock 223 = .ok (.iconst 1, 1) := by decide +kernel
theorem dX1_mixBlock_224 : decode cX1_mixBlock 224 = .ok (.dup2, 1) := by decide +kernel
theorem dX1_mixBlock_225 : decode cX1_mixBlock 225 = .ok (.iaload, 1) := by decide +kernel
theorem dX1_mixBlock_226 : decode cX1_mixBlock 226 = .ok (.iload_n 2, 1) := by decide +kernel
theorem dX1_mixBlock_227 : decode cX1_mixBlock 227 = .ok (.iadd, 1) := by decide +kernel
theorem dX1_mixBlock_228 : decode cX1_mixBlock 228 = .ok (.iastore, 1) := by decide +kernel
theorem dX1_mixBlock_229 : decode cX1_mixBlock 229 = .ok (.aload_n 0, 1) := by decide +kernel
theorem dX1_mixBlock_230 : decode cX1_mixBlock 230 = .ok (.getfield 15, 3) := by decide +kernel
theorem dX1_mixBlock_233 : decode cX1_mixBlock 233 = .ok (.iconst 2, 1) := by decide +kernel
theorem dX1_mixBlock_234 : decode cX1_mixBlock 234 = .ok (.dup2, 1) := by decide +kernel
theorem dX1_mixBlock_235 : decode cX1_mixBlock 235 = .ok (.iaload, 1) := by decide +kernel
theorem dX1_mixBlock_236 : decode cX1_mixBlock 236 = .ok (.iload_n 3, 1) := by decide +kernel
theorem dX1_mixBlock_237 : decode cX1_mixBlock 237 = .ok (.iadd, 1) := by decide +kernel
theorem dX1_mixBlock_238 : decode cX1_mixBlock 238 = .ok (.iastore, 1) := by decide +kernel
theorem dX1_mixBlock_239 : decode cX1_mixBlock 239 = .ok (.aload_n 0, 1) := by decide +kernel
theorem dX1_mixBlock_240 : decode cX1_mixBlock 240 = .ok (.getfield 15, 3) := by decide +kernel
theorem dX1_mixBlock_243 : decode cX1_mixBlock 243 = .ok (.iconst 3, 1) := by decide +kernel
theorem dX1_mixBlock_244 : decode cX1_mixBlock 244 = .ok (.dup2, 1) := by decide +kernel
theorem dX1_mixBlock_245 : decode cX1_mixBlock 245 = .ok (.iaload, 1) := by decide +kernel
theorem dX1_mixBlock_246 : decode cX1_mixBlock 246 = .ok (.iload 4, 2) := by decide +kernel
theorem dX1_mixBlock_248 : decode cX1_mixBlock 248 = .ok (.iadd, 1) := by decide +kernel
theorem dX1_mixBlock_249 : decode cX1_mixBlock 249 = .ok (.iastore, 1) := by decide +kernel
theorem dX1_mixBlock_250 : decode cX1_mixBlock 250 = .ok (.aload_n 0, 1) := by decide +kernel
theorem dX1_mixBlock_251 : decode cX1_mixBlock 251 = .ok (.getfield 15, 3) := by decide +kernel
theorem dX1_mixBlock_254 : decode cX1_mixBlock 254 = .ok (.iconst 4, 1) := by decide +kernel
theorem dX1_mixBlock_255 : decode cX1_mixBlock 255 = .ok (.dup2, 1) := by decide +kernel
theorem dX1_mixBlock_256 : decode cX1_mixBlock 256 = .ok (.iaload, 1) := by decide +kernel
theorem dX1_mixBlock_257 : decode cX1_mixBlock 257 = .ok (.iload 5, 2) := by decide +kernel
theorem dX1_mixBlock_259 : decode cX1_mixBlock 259 = .ok (.iadd, 1) := by decide +kernel
theorem dX1_mixBlock_260 : decode cX1_mixBlock 260 = .ok (.iastore, 1) := by decide +kernel
theorem dX1_mixBlock_261 : decode cX1_mixBlock 261 = .ok (.aload_n 0, 1) := by decide +kernel
theorem dX1_mixBlock_262 : decode cX1_mixBlock 262 = .ok (.getfield 15, 3) := by decide +kernel
theorem dX1_mixBlock_265 : decode cX1_mixBlock 265 = .ok (.iconst 5, 1) := by decide +kernel
theorem dX1_mixBlock_266 : decode cX1_mixBlock 266 = .ok (.dup2, 1) := by decide +kernel
theorem dX1_mixBlock_267 : decode cX1_mixBlock 267 = .ok (.iaload, 1) := by decide +kernel
theorem dX1_mixBlock_268 : decode cX1_mixBlock 268 = .ok (.iload 6, 2) := by decide +kernel
theorem dX1_mixBlock_270 : decode cX1_mixBlock 270 = .ok (.iadd, 1) := by decide +kernel
theorem dX1_mixBlock_271 : decode cX1_mixBlock 271 = .ok (.iastore, 1) := by decide +kernel
theorem dX1_mixBlock_272 : decode cX1_mixBlock 272 = .ok (.aload_n 0, 1) := by decide +kernel
theorem dX1_mixBlock_273 : decode cX1_mixBlock 273 = .ok (.getfield 15, 3) := by decide +kernel
theorem dX1_mixBlock_276 : decode cX1_mixBlock 276 = .ok (.bipush 6, 2) := by decide +kernel
theorem dX1_mixBlock_278 : decode cX1_mixBlock 278 = .ok (.dup2, 1) := by decide +kernel
theorem dX1_mixBlock_279 : decode cX1_mixBlock 279 = .ok (.iaload, 1) := by decide +kernel
theorem dX1_mixBlock_280 : decode cX1_mixBlock 280 = .ok (.iload 7, 2) := by decide +kernel
theorem dX1_mixBlock_282 : decode cX1_mixBlock 282 = .ok (.iadd, 1) := by decide +kernel
theorem dX1_mixBlock_283 : decode cX1_mixBlock 283 = .ok (.iastore, 1) := by decide +kernel
theorem dX1_mixBlock_284 : decode cX1_mixBlock 284 = .ok (.aload_n 0, 1) := by decide +kernel
theorem dX1_mixBlock_285 : decode cX1_mixBlock 285 = .ok (.getfield 15, 3) := by decide +kernel
theorem dX1_mixBlock_288 : decode cX1_mixBlock 288 = .ok (.bipush 7, 2) := by decide +kernel
theorem dX1_mixBlock_290 : decode cX1_mixBlock 290 = .ok (.dup2, 1) := by decide +kernel
theorem dX1_mixBlock_291 : decode cX1_mixBlock 291 = .ok (.iaload, 1) := by decide +kernel
theorem dX1_mixBlock_292 : decode cX1_mixBlock 292 = .ok (.iload 8, 2) := by decide +kernel
theorem dX1_mixBlock_294 : decode cX1_mixBlock 294 = .ok (.iadd, 1) := by decide +kernel
theorem dX1_mixBlock_295 : decode cX1_mixBlock 295 = .ok (.iastore, 1) := by decide +kernel
theorem dX1_mixBlock_296 : decode cX1_mixBlock 296 = .ok (.return_, 1) := by decide +kernel
theorem dX1_turn_0 : decode cX1_turn 0 = .ok (.iload_n 0, 1) := by decide +kernel
theorem dX1_turn_1 : decode cX1_turn 1 = .ok (.iload_n 1, 1) := by decide +kernel
theorem dX1_turn_2 : decode cX1_turn 2 = .ok (.iushr, 1) := by decide +kernel
theorem dX1_turn_3 : decode cX1_turn 3 = .ok (.iload_n 0, 1) := by decide +kernel
theorem dX1_turn_4 : decode cX1_turn 4 = .ok (.bipush 32, 2) := by decide +kernel
theorem dX1_turn_6 : decode cX1_turn 6 = .ok (.iload_n 1, 1) := by decide +kernel
theorem dX1_turn_7 : decode cX1_turn 7 = .ok (.isub, 1) := by decide +kernel
theorem dX1_turn_8 : decode cX1_turn 8 = .ok (.ishl, 1) := by decide +kernel
theorem dX1_turn_9 : decode cX1_turn 9 = .ok (.ior, 1) := by decide +kernel
theorem dX1_turn_10 : decode cX1_turn 10 = .ok (.ireturn, 1) := by decide +kernel
theorem dX2_init_0 : decode cX2_init 0 = .ok (.aload_n 0, 1) := by decide +kernel
theorem dX2_init_1 : decode cX2_init 1 = .ok (.invokespecial 3, 3) := by decide +kernel
theorem dX2_init_4 : decode cX2_init 4 = .ok (.aload_n 0, 1) := by decide +kernel
theorem dX2_init_5 : decode cX2_init 5 = .ok (.sipush 1024, 3) := by decide +kernel
theorem dX2_init_8 : decode cX2_init 8 = .ok (.newarray .int, 2) := by decide +kernel
theorem dX2_init_10 : decode cX2_init 10 = .ok (.putfield 9, 3) := by decide +kernel
theorem dX2_init_13 : decode cX2_init 13 = .ok (.aload_n 0, 1) := by decide +kernel
theorem dX2_init_14 : decode cX2_init 14 = .ok (.iconst 0, 1) := by decide +kernel
theorem dX2_init_15 : decode cX2_init 15 = .ok (.putfield 15, 3) := by decide +kernel
theorem dX2_init_18 : decode cX2_init 18 = .ok (.return_, 1) := by decide +kernel
theorem dX2_add_0 : decode cX2_add 0 = .ok (.aload_n 0, 1) := by decide +kernel
theorem dX2_add_1 : decode cX2_add 1 = .ok (.getfield 15, 3) := by decide +kernel
theorem dX2_add_4 : decode cX2_add 4 = .ok (.ifCond .lt 37, 3) := by decide +kernel
theorem dX2_add_7 : decode cX2_add 7 = .ok (.aload_n 0, 1) := by decide +kernel
theorem dX2_add_8 : decode cX2_add 8 = .ok (.getfield 15, 3) := by decide +kernel
theorem dX2_add_11 : decode cX2_add 11 = .ok (.sipush 1024, 3) := by decide +kernel
theorem dX2_add_14 : decode cX2_add 14 = .ok (.if_icmp .ge 27, 3) := by decide +kernel
theorem dX2_add_17 : decode cX2_add 17 = .ok (.aload_n 0, 1) := by decide +kernel
theorem dX2_add_18 : decode cX2_add 18 = .ok (.getfield 9, 3) := by decide +kernel
theorem dX2_add_21 : decode cX2_add 21 = .ok (.aload_n 0, 1) := by decide +kernel
theorem dX2_add_22 : decode cX2_add 22 = .ok (.getfield 15, 3) := by decide +kernel
theorem dX2_add_25 : decode cX2_add 25 = .ok (.iload_n 1, 1) := by decide +kernel
theorem dX2_add_26 : decode cX2_add 26 = .ok (.sipush 255, 3) := by decide +kernel
theorem dX2_add_29 : decode cX2_add 29 = .ok (.iand, 1) := by decide +kernel
theorem dX2_add_30 : decode cX2_add 30 = .ok (.iastore, 1) := by decide +kernel
theorem dX2_add_31 : decode cX2_add 31 = .ok (.aload_n 0, 1) := by decide +kernel
theorem dX2_add_32 : decode cX2_add 32 = .ok (.dup, 1) := by decide +kernel
theorem dX2_add_33 : decode cX2_add 33 = .ok (.getfield 15, 3) := by decide +kernel
theorem dX2_add_36 : decode cX2_add 36 = .ok (.iconst 1, 1) := by decide +kernel
theorem dX2_add_37 : decode cX2_add 37 = .ok (.iadd, 1) := by decide +kernel
theorem dX2_add_38 : decode cX2_add 38 = .ok (.putfield 15, 3) := by decide +kernel
theorem dX2_add_41 : decode cX2_add 41 = .ok (.return_, 1) := by decide +kernel
set_option maxRecDepth 20000 in
theorem ggX2_addHighestFirst_X2_add : GoodIn wsX2_addHighestFirst wsX2_add := goodIn_r _ [5, 6, 7, 8, 9] (by decide +kernel) (by decide +kernel)
set_option maxRecDepth 20000 in
theorem gX2_addHighestFirst_X2_add : GoodIn wsX2_addHighestFirst (wsV RX2 19 RX2 yX2_add wsX2_add) := goodIn_app (goodIn_of _ (by decide +kernel)) ggX2_addHighestFirst_X2_add
theorem dX2_addHighestFirst_0 : decode cX2_addHighestFirst 0 = .ok (.aload_n 0, 1) := by decide +kernel
theorem dX2_addHighestFirst_1 : decode cX2_addHighestFirst 1 = .ok (.iload_n 1, 1) := by decide +kernel
theorem dX2_addHighestFirst_2 : decode cX2_addHighestFirst 2 = .ok (.bipush 24, 2) := by decide +kernel
theorem dX2_addHighestFirst_4 : decode cX2_addHighestFirst 4 = .ok (.ishr, 1) := by decide +kernel
theorem dX2_addHighestFirst_5 : decode cX2_addHighestFirst 5 = .ok (.invokevirtual 19, 3) := by decide +kernel
theorem dX2_addHighestFirst_8 : decode cX2_addHighestFirst 8 = .ok (.aload_n 0, 1) := by decide +kernel
theorem dX2_addHighestFirst_9 : decode cX2_addHighestFirst 9 = .ok (.iload_n 1, 1) := by decide +kernel
theorem dX2_addHighestFirst_10 : decode cX2_addHighestFirst 10 = .ok (.bipush 16, 2) := by decide +kernel
theorem dX2_addHighestFirst_12 : decode cX2_addHighestFirst 12 = .ok (.ishr, 1) := by decide +kernel
theorem dX2_addHighestFirst_13 : decode cX2_addHighestFirst 13 = .ok (.invokevirtual 19, 3) := by decide +kernel
theorem dX2_addHighestFirst_16 : decode cX2_addHighestFirst 16 = .ok (.aload_n 0, 1) := by decide +kernel
theorem dX2_addHighestFirst_17 : decode cX2_addHighestFirst 17 = .ok (.iload_n 1, 1) := by decide +kernel
theorem dX2_addHighestFirst_18 : decode cX2_addHighestFirst 18 = .ok (.bipush 8, 2) := by decide +kernel
theorem dX2_addHighestFirst_20 : decode cX2_addHighestFirst 20 = .ok (.ishr, 1) := by decide +kernel
theorem dX2_addHighestFirst_21 : decode cX2_addHighestFirst 21 = .ok (.invokevirtual 19, 3) := by decide +kernel
theorem dX2_addHighestFirst_24 : decode cX2_addHighestFirst 24 = .ok (.aload_n 0, 1) := by decide +kernel
theorem dX2_addHighestFirst_25 : decode cX2_addHighestFirst 25 = .ok (.iload_n 1, 1) := by decide +kernel
theorem dX2_addHighestFirst_26 : decode cX2_addHighestFirst 26 = .ok (.invokevirtual 19, 3) := by decide +kernel
theorem dX2_addHighestFirst_29 : decode cX2_addHighestFirst 29 = .ok (.return_, 1) := by decide +kernel
set_option maxRecDepth 20000 in
theorem ggX2_addLowestFirst_X2_add : GoodIn wsX2_addLowestFirst wsX2_add := goodIn_r _ [5, 6, 7, 8, 9] (by decide +kernel) (by decide +kernel)
set_option maxRecDepth 20000 in
theorem gX2_addLowestFirst_X2_add : GoodIn wsX2_addLowestFirst (wsV RX2 19 RX2 yX2_add wsX2_add) := goodIn_app (goodIn_of _ (by decide +kernel)) ggX2_addLowestFirst_X2_add
theorem dX2_addLowestFirst_0 : decode cX2_addLowestFirst 0 = .ok (.aload_n 0, 1) := by decide +kernel
theorem dX2_addLowestFirst_1 : decode cX2_addLowestFirst 1 = .ok (.iload_n 1, 1) := by decide +kernel
theorem dX2_addLowestFirst_2 : decode cX2_addLowestFirst 2 = .ok (.invokevirtual 19, 3) := by decide +kernel
theorem dX2_addLowestFirst_5 : decode cX2_addLowestFirst 5 = .ok (.aload_n 0, 1) := by decide +kernel
theorem dX2_addLowestFirst_6 : decode cX2_addLowestFirst 6 = .ok (.iload_n 1, 1) := by decide +kernel
theorem dX2_addLowestFirst_7 : decode cX2_addLowestFirst 7 = .ok (.bipush 8, 2) := by decide +kernel
theorem dX2_addLowestFirst_9 : decode cX2_addLowestFirst 9 = .ok (.ishr, 1) := by decide +kernel
theorem dX2_addLowestFirst_10 : decode cX2_addLowestFirst 10 = .ok (.invokevirtual 19, 3) := by decide +kernel
theorem dX2_addLowestFirst_13 : decode cX2_addLowestFirst 13 = .ok (.aload_n 0, 1) := by decide +kernel
theorem dX2_addLowestFirst_14 : decode cX2_addLowestFirst 14 = .ok (.iload_n 1, 1) := by decide +kernel
theorem dX2_addLowestFirst_15 : decode cX2_addLowestFirst 15 = .ok (.bipush 16, 2) := by decide +kernel
theorem dX2_addLowestFirst_17 : decode cX2_addLowestFirst 17 = .ok (.ishr, 1) := by decide +kernel
theorem dX2_addLowestFirst_18 : decode cX2_addLowestFirst 18 = .ok (.invokevirtual 19, 3) := by decide +kernel
theorem dX2_addLowestFirst_21 : decode cX2_addLowestFirst 21 = .ok (.aload_n 0, 1) := by decide +kernel
theorem dX2_addLowestFirst_22 : decode cX2_addLowestFirst 22 = .ok (.iload_n 1, 1) := by decide +kernel
theorem dX2_addLowestFirst_23 : decode cX2_addLowestFirst 23 = .ok (.bipush 24, 2) := by decide +kernel
theorem dX2_addLowestFirst_25 : decode cX2_addLowestFirst 25 = .ok (.ishr, 1) := by decide +kernel
theorem dX2_addLowestFirst_26 : decode cX2_addLowestFirst 26 = .ok (.invokevirtual 19, 3) := by decide +kernel
theorem dX2_addLowestFirst_29 : decode cX2_addLowestFirst 29 = .ok (.return_, 1) := by decide +kernel
set_option maxRecDepth 20000 in
theorem ggX2_becomeImage_X2_addLowestFirst : GoodIn wsX2_becomeImage wsX2_addLowestFirst := goodIn_r _ [7, 8, 9, 10, 6, 11, 1, 2, 40, 41] (by decide +kernel) (by decide +kernel)
set_option maxRecDepth 20000 in
theorem gX2_becomeImage_X2_addLowestFirst : GoodIn wsX2_becomeImage (wsV RX2 23 RX2 yX2_addLowestFirst wsX2_addLowestFirst) := goodIn_app (goodIn_of _ (by decide +kernel)) ggX2_becomeImage_X2_addLowestFirst
set_option maxRecDepth 20000 in
theorem ggX2_becomeImage_X1_digest : GoodIn wsX2_becomeImage wsX1_digest := goodIn_r _ [15, 16, 17, 18, 19, 20, 13, 21, 22, 23, 24, 25, 26, 27, 28, 29, 30, 31, 32, 33, 34, 35, 36, 42, 43] (by decide +kernel) (by decide +kernel)
set_option maxRecDepth 20000 in
theorem gX2_becomeImage_X1_digest_n26 : GoodIn wsX2_becomeImage (wsX1_digest) := ggX2_becomeImage_X1_digest
set_option maxRecDepth 20000 in
theorem ggX2_becomeImage_X1_digestByte : GoodIn wsX2_becomeImage wsX1_digestByte := goodIn_r _ [39, 16, 42, 43] (by decide +kernel) (by decide +kernel)
set_option maxRecDepth 20000 in
theorem gX2_becomeImage_X1_digestByte_n32 : GoodIn wsX2_becomeImage (wsX1_digestByte) := ggX2_becomeImage_X1_digestByte
set_option maxRecDepth 20000 in
theorem ggX2_becomeImage_X2_add : GoodIn wsX2_becomeImage wsX2_add := goodIn_r _ [11, 1, 2, 40, 41] (by decide +kernel) (by decide +kernel)
set_option maxRecDepth 20000 in
theorem gX2_becomeImage_X2_add : GoodIn wsX2_becomeImage (wsV RX2 19 RX2 yX2_add wsX2_add) := goodIn_app (goodIn_of _ (by decide +kernel)) ggX2_becomeImage_X2_add
theorem dX2_becomeImage_0 : decode cX2_becomeImage 0 = .ok (.aload_n 0, 1) := by decide +kernel
theorem dX2_becomeImage_1 : decode cX2_becomeImage 1 = .ok (.getfield 15, 3) := by decide +kernel
theorem dX2_becomeImage_4 : decode cX2_becomeImage 4 = .ok (.istore_n 3, 1) := by decide +kernel
theorem dX2_becomeImage_5 : decode cX2_becomeImage 5 = .ok (.iload_n 3, 1) := by decide +kernel
theorem dX2_becomeImage_6 : decode cX2_becomeImage 6 = .ok (.ifCond .lt 14, 3) := by decide +kernel
theorem dX2_becomeImage_9 : decode cX2_becomeImage 9 = .ok (.iload_n 3, 1) := by decide +kernel
theorem dX2_becomeImage_10 : decode cX2_becomeImage 10 = .ok (.sipush 984, 3) := by decide +kernel
theorem dX2_becomeImage_13 : decode cX2_becomeImage 13 = .ok (.if_icmp .gt 7, 3) := by decide +kernel
theorem dX2_becomeImage_16 : decode cX2_becomeImage 16 = .ok (.aload_n 2, 1) := by decide +kernel
theorem dX2_becomeImage_17 : decode cX2_becomeImage 17 = .ok (.ifnonnull 4, 3) := by decide +kernel
theorem dX2_becomeImage_20 : decode cX2_becomeImage 20 = .ok (.return_, 1) := by decide +kernel
theorem dX2_becomeImage_21 : decode cX2_becomeImage 21 = .ok (.iload_n 3, 1) := by decide +kernel
theorem dX2_becomeImage_22 : decode cX2_becomeImage 22 = .ok (.iconst 1, 1) := by decide +kernel
theorem dX2_becomeImage_23 : decode cX2_becomeImage 23 = .ok (.isub, 1) := by decide +kernel
theorem dX2_becomeImage_24 : decode cX2_becomeImage 24 = .ok (.istore 4, 2) := by decide +kernel
theorem dX2_becomeImage_26 : decode cX2_becomeImage 26 = .ok (.iload 4, 2) := by decide +kernel
theorem dX2_becomeImage_28 : decode cX2_becomeImage 28 = .ok (.ifCond .lt 26, 3) := by decide +kernel
theorem dX2_becomeImage_31 : decode cX2_becomeImage 31 = .ok (.aload_n 0, 1) := by decide +kernel
theorem dX2_becomeImage_32 : decode cX2_becomeImage 32 = .ok (.getfield 9, 3) := by decide +kernel
theorem dX2_becomeImage_35 : decode cX2_becomeImage 35 = .ok (.bipush 8, 2) := by decide +kernel
theorem dX2_becomeImage_37 : decode cX2_becomeImage 37 = .ok (.iload 4, 2) := by decide +kernel
theorem dX2_becomeImage_39 : decode cX2_becomeImage 39 = .ok (.iadd, 1) := by decide +kernel
theorem dX2_becomeImage_40 : decode cX2_becomeImage 40 = .ok (.aload_n 0, 1) := by decide +kernel
theorem dX2_becomeImage_41 : decode cX2_becomeImage 41 = .ok (.getfield 9, 3) := by decide +kernel
theorem dX2_becomeImage_44 : decode cX2_becomeImage 44 = .ok (.iload 4, 2) := by decide +kernel
theorem dX2_becomeImage_46 : decode cX2_becomeImage 46 = .ok (.iaload, 1) := by decide +kernel
theorem dX2_becomeImage_47 : decode cX2_becomeImage 47 = .ok (.iastore, 1) := by decide +kernel
theorem dX2_becomeImage_48 : decode cX2_becomeImage 48 = .ok (.iinc 4 (-1), 3) := by decide +kernel
theorem dX2_becomeImage_51 : decode cX2_becomeImage 51 = .ok (.goto (-25), 3) := by decide +kernel
theorem dX2_becomeImage_54 : decode cX2_becomeImage 54 = .ok (.aload_n 0, 1) := by decide +kernel
theorem dX2_becomeImage_55 : decode cX2_becomeImage 55 = .ok (.iconst 0, 1) := by decide +kernel
theorem dX2_becomeImage_56 : decode cX2_becomeImage 56 = .ok (.putfield 15, 3) := by decide +kernel
theorem dX2_becomeImage_59 : decode cX2_becomeImage 59 = .ok (.aload_n 0, 1) := by decide +kernel
theorem dX2_becomeImage_60 : decode cX2_becomeImage 60 = .ok (.iload_n 3, 1) := by decide +kernel
theorem dX2_becomeImage_61 : decode cX2_becomeImage 61 = .ok (.invokevirtual 23, 3) := by decide +kernel
theorem dX2_becomeImage_64 : decode cX2_becomeImage 64 = .ok (.aload_n 0, 1) := by decide +kernel
theorem dX2_becomeImage_65 : decode cX2_becomeImage 65 = .ok (.iload_n 1, 1) := by decide +kernel
theorem dX2_becomeImage_66 : decode cX2_becomeImage 66 = .ok (.invokevirtual 23, 3) := by decide +kernel
theorem dX2_becomeImage_69 : decode cX2_becomeImage 69 = .ok (.aload_n 0, 1) := by decide +kernel
theorem dX2_becomeImage_70 : decode cX2_becomeImage 70 = .ok (.bipush 8, 2) := by decide +kernel
theorem dX2_becomeImage_72 : decode cX2_becomeImage 72 = .ok (.iload_n 3, 1) := by decide +kernel
theorem dX2_becomeImage_73 : decode cX2_becomeImage 73 = .ok (.iadd, 1) := by decide +kernel
theorem dX2_becomeImage_74 : decode cX2_becomeImage 74 = .ok (.putfield 15, 3) := by decide +kernel
theorem dX2_becomeImage_77 : decode cX2_becomeImage 77 = .ok (.aload_n 2, 1) := by decide +kernel
theorem dX2_becomeImage_78 : decode cX2_becomeImage 78 = .ok (.aload_n 0, 1) := by decide +kernel
theorem dX2_becomeImage_79 : decode cX2_becomeImage 79 = .ok (.getfield 9, 3) := by decide +kernel
theorem dX2_becomeImage_82 : decode cX2_becomeImage 82 = .ok (.iconst 0, 1) := by decide +kernel
theorem dX2_becomeImage_83 : decode cX2_becomeImage 83 = .ok (.aload_n 0, 1) := by decide +kernel
theorem dX2_becomeImage_84 : decode cX2_becomeImage 84 = .ok (.getfield 15, 3) := by decide +kernel
theorem dX2_becomeImage_87 : decode cX2_becomeImage 87 = .ok (.invokevirtual 26, 3) := by decide +kernel
theorem dX2_becomeImage_90 : decode cX2_becomeImage 90 = .ok (.iconst 0, 1) := by decide +kernel
theorem dX2_becomeImage_91 : decode cX2_becomeImage 91 = .ok (.istore 4, 2) := by decide +kernel
theorem dX2_becomeImage_93 : decode cX2_becomeImage 93 = .ok (.iload 4, 2) := by decide +kernel
theorem dX2_becomeImage_95 : decode cX2_becomeImage 95 = .ok (.bipush 32, 2) := by decide +kernel
theorem dX2_becomeImage_97 : decode cX2_becomeImage 97 = .ok (.if_icmp .ge 19, 3) := by decide +kernel
theorem dX2_becomeImage_100 : decode cX2_becomeImage 100 = .ok (.aload_n 0, 1) := by decide +kernel
theorem dX2_becomeImage_101 : decode cX2_becomeImage 101 = .ok (.aload_n 2, 1) := by decide +kernel
theorem dX2_becomeImage_102 : decode cX2_becomeImage 102 = .ok (.iload 4, 2) := by decide +kernel
theorem dX2_becomeImage_104 : decode cX2_becomeImage 104 = .ok (.invokevirtual 32, 3) := by decide +kernel
theorem dX2_becomeImage_107 : decode cX2_becomeImage 107 = .ok (.invokevirtual 19, 3) := by decide +kernel
theorem dX2_becomeImage_110 : decode cX2_becomeImage 110 = .ok (.iinc 4 1, 3) := by decide +kernel
theorem dX2_becomeImage_113 : decode cX2_becomeImage 113 = .ok (.goto (-20), 3) := by decide +kernel
theorem dX2_becomeImage_116 : decode cX2_becomeImage 116 = .ok (.return_, 1) := by decide +kernel
end
section
set_option maxRecDepth 20000 in
theorem ggX3_init_X0_init : GoodIn wsX3_init wsX0_init := goodIn_r _ [22, 23, 2, 3, 24, 25, 26, 27, 28, 29, 30, 31, 32, 33, 44, 45, 46, 47, 48, 49, 50, 51, 52] (by decide +kernel) (by decide +kernel)
set_option maxRecDepth 20000 in
theorem gX3_init_X0_init_n11 : GoodIn wsX3_init (wsX0_init) := ggX3_init_X0_init
set_option maxRecDepth 20000 in
theorem ggX3_init_X2_init : GoodIn wsX3_init wsX2_init := goodIn_r _ [35, 36, 2, 3, 24, 37, 38, 61, 62] (by decide +kernel) (by decide +kernel)
set_option maxRecDepth 20000 in
theorem gX3_init_X2_init_n18 : GoodIn wsX3_init (wsX2_init) := ggX3_init_X2_init
set_option maxRecDepth 20000 in
theorem ggX3_init_X1_init : GoodIn wsX3_init wsX1_init := goodIn_r _ [40, 41, 2, 3, 24, 42, 43, 63, 64] (by decide +kernel) (by decide +kernel)
set_option maxRecDepth 20000 in
theorem gX3_init_X1_init_n25 : GoodIn wsX3_init (wsX1_init) := ggX3_init_X1_init
theorem dX3_init_0 : decode cX3_init 0 = .ok (.aload_n 0, 1) := by decide +kernel
theorem dX3_init_1 : decode cX3_init 1 = .ok (.invokespecial 3, 3) := by decide +kernel
theorem dX3_init_4 : decode cX3_init 4 = .ok (.aload_n 0, 1) := by decide +kernel
theorem dX3_init_5 : decode cX3_init 5 = .ok (.new 9, 3) := by decide +kernel
theorem dX3_init_8 : decode cX3_init 8 = .ok (.dup, 1) := by decide +kernel
theorem dX3_init_9 : decode cX3_init 9 = .ok (.invokespecial 11, 3) := by decide +kernel
theorem dX3_init_12 : decode cX3_init 12 = .ok (.putfield 12, 3) := by decide +kernel
theorem dX3_init_15 : decode cX3_init 15 = .ok (.aload_n 0, 1) := by decide +kernel
theorem dX3_init_16 : decode cX3_init 16 = .ok (.new 16, 3) := by decide +kernel
theorem dX3_init_19 : decode cX3_init 19 = .ok (.dup, 1) := by decide +kernel
theorem dX3_init_20 : decode cX3_init 20 = .ok (.invokespecial 18, 3) := by decide +kernel
theorem dX3_init_23 : decode cX3_init 23 = .ok (.putfield 19, 3) := by decide +kernel
theorem dX3_init_26 : decode cX3_init 26 = .ok (.aload_n 0, 1) := by decide +kernel
theorem dX3_init_27 : decode cX3_init 27 = .ok (.new 23, 3) := by decide +kernel
theorem dX3_init_30 : decode cX3_init 30 = .ok (.dup, 1) := by decide +kernel
theorem dX3_init_31 : decode cX3_init 31 = .ok (.invokespecial 25, 3) := by decide +kernel
theorem dX3_init_34 : decode cX3_init 34 = .ok (.putfield 26, 3) := by decide +kernel
theorem dX3_init_37 : decode cX3_init 37 = .ok (.aload_n 0, 1) := by decide +kernel
theorem dX3_init_38 : decode cX3_init 38 = .ok (.iconst 0, 1) := by decide +kernel
theorem dX3_init_39 : decode cX3_init 39 = .ok (.putfield 30, 3) := by decide +kernel
theorem dX3_init_42 : decode cX3_init 42 = .ok (.aload_n 0, 1) := by decide +kernel
theorem dX3_init_43 : decode cX3_init 43 = .ok (.iconst 0, 1) := by decide +kernel
theorem dX3_init_44 : decode cX3_init 44 = .ok (.putfield 34, 3) := by decide +kernel
theorem dX3_init_47 : decode cX3_init 47 = .ok (.aload_n 0, 1) := by decide +kernel
theorem dX3_init_48 : decode cX3_init 48 = .ok (.iconst 0, 1) := by decide +kernel
theorem dX3_init_49 : decode cX3_init 49 = .ok (.putfield 38, 3) := by decide +kernel
theorem dX3_init_52 : decode cX3_init 52 = .ok (.aload_n 0, 1) := by decide +kernel
theorem dX3_init_53 : decode cX3_init 53 = .ok (.iconst 0, 1) := by decide +kernel
theorem dX3_init_54 : decode cX3_init 54 = .ok (.putfield 41, 3) := by decide +kernel
theorem dX3_init_57 : decode cX3_init 57 = .ok (.aload_n 0, 1) := by decide +kernel
theorem dX3_init_58 : decode cX3_init 58 = .ok (.iconst 0, 1) := by decide +kernel
theorem dX3_init_59 : decode cX3_init 59 = .ok (.putfield 44, 3) := by decide +kernel
theorem dX3_init_62 : decode cX3_init 62 = .ok (.return_, 1) := by decide +kernel
set_option maxRecDepth 20000 in
theorem ggX3_feed_X2_addHighestFirst : GoodIn wsX3_feed wsX2_addHighestFirst := goodIn_r _ [5, 6, 7, 8, 3, 9, 10, 11, 20, 21] (by decide +kernel) (by decide +kernel)
set_option maxRecDepth 20000 in
theorem gX3_feed_X2_addHighestFirst_n50 : GoodIn wsX3_feed (wsX2_addHighestFirst) := ggX3_feed_X2_addHighestFirst
theorem dX3_feed_0 : decode cX3_feed 0 = .ok (.aload_n 0, 1) := by decide +kernel
theorem dX3_feed_1 : decode cX3_feed 1 = .ok (.getfield 19, 3) := by decide +kernel
theorem dX3_feed_4 : decode cX3_feed 4 = .ok (.getfield 47, 3) := by decide +kernel
theorem dX3_feed_7 : decode cX3_feed 7 = .ok (.bipush 20, 2) := by decide +kernel
theorem dX3_feed_9 : decode cX3_feed 9 = .ok (.iadd, 1) := by decide +kernel
theorem dX3_feed_10 : decode cX3_feed 10 = .ok (.sipush 1024, 3) := by decide +kernel
theorem dX3_feed_13 : decode cX3_feed 13 = .ok (.if_icmp .le 5, 3) := by decide +kernel
theorem dX3_feed_16 : decode cX3_feed 16 = .ok (.iconst (-1), 1) := by decide +kernel
theorem dX3_feed_17 : decode cX3_feed 17 = .ok (.ireturn, 1) := by decide +kernel
theorem dX3_feed_18 : decode cX3_feed 18 = .ok (.aload_n 0, 1) := by decide +kernel
theorem dX3_feed_19 : decode cX3_feed 19 = .ok (.getfield 19, 3) := by decide +kernel
theorem dX3_feed_22 : decode cX3_feed 22 = .ok (.iload_n 1, 1) := by decide +kernel
theorem dX3_feed_23 : decode cX3_feed 23 = .ok (.invokevirtual 50, 3) := by decide +kernel
theorem dX3_feed_26 : decode cX3_feed 26 = .ok (.aload_n 0, 1) := by decide +kernel
theorem dX3_feed_27 : decode cX3_feed 27 = .ok (.getfield 19, 3) := by decide +kernel
theorem dX3_feed_30 : decode cX3_feed 30 = .ok (.iload_n 2, 1) := by decide +kernel
theorem dX3_feed_31 : decode cX3_feed 31 = .ok (.invokevirtual 50, 3) := by decide +kernel
theorem dX3_feed_34 : decode cX3_feed 34 = .ok (.aload_n 0, 1) := by decide +kernel
theorem dX3_feed_35 : decode cX3_feed 35 = .ok (.getfield 19, 3) := by decide +kernel
theorem dX3_feed_38 : decode cX3_feed 38 = .ok (.iload_n 3, 1) := by decide +kernel
theorem dX3_feed_39 : decode cX3_feed 39 = .ok (.invokevirtual 50, 3) := by decide +kernel
theorem dX3_feed_42 : decode cX3_feed 42 = .ok (.aload_n 0, 1) := by decide +kernel
theorem dX3_feed_43 : decode cX3_feed 43 = .ok (.getfield 19, 3) := by decide +kernel
theorem dX3_feed_46 : decode cX3_feed 46 = .ok (.iload 4, 2) := by decide +kernel
theorem dX3_feed_48 : decode cX3_feed 48 = .ok (.invokevirtual 50, 3) := by decide +kernel
theorem dX3_feed_51 : decode cX3_feed 51 = .ok (.aload_n 0, 1) := by decide +kernel
theorem dX3_feed_52 : decode cX3_feed 52 = .ok (.getfield 19, 3) := by decide +kernel
theorem dX3_feed_55 : decode cX3_feed 55 = .ok (.iload 5, 2) := by decide +kernel
theorem dX3_feed_57 : decode cX3_feed 57 = .ok (.invokevirtual 50, 3) := by decide +kernel
theorem dX3_feed_60 : decode cX3_feed 60 = .ok (.aload_n 0, 1) := by decide +kernel
theorem dX3_feed_61 : decode cX3_feed 61 = .ok (.getfield 19, 3) := by decide +kernel
theorem dX3_feed_64 : decode cX3_feed 64 = .ok (.getfield 47, 3) := by decide +kernel
theorem dX3_feed_67 : decode cX3_feed 67 = .ok (.ireturn, 1) := by decide +kernel
theorem dX3_end_0 : decode cX3_end 0 = .ok (.iload_n 1, 1) := by decide +kernel
theorem dX3_end_1 : decode cX3_end 1 = .ok (.ifCond .lt 14, 3) := by decide +kernel
theorem dX3_end_4 : decode cX3_end 4 = .ok (.iload_n 1, 1) := by decide +kernel
theorem dX3_end_5 : decode cX3_end 5 = .ok (.aload_n 0, 1) := by decide +kernel
theorem dX3_end_6 : decode cX3_end 6 = .ok (.getfield 19, 3) := by decide +kernel
theorem dX3_end_9 : decode cX3_end 9 = .ok (.getfield 47, 3) := by decide +kernel
theorem dX3_end_12 : decode cX3_end 12 = .ok (.if_icmp .le 5, 3) := by decide +kernel
theorem dX3_end_15 : decode cX3_end 15 = .ok (.iconst 0, 1) := by decide +kernel
theorem dX3_end_16 : decode cX3_end 16 = .ok (.ireturn, 1) := by decide +kernel
theorem dX3_end_17 : decode cX3_end 17 = .ok (.aload_n 0, 1) := by decide +kernel
theorem dX3_end_18 : decode cX3_end 18 = .ok (.getfield 19, 3) := by decide +kernel
theorem dX3_end_21 : decode cX3_end 21 = .ok (.iload_n 1, 1) := by decide +kernel
theorem dX3_end_22 : decode cX3_end 22 = .ok (.putfield 47, 3) := by decide +kernel
theorem dX3_end_25 : decode cX3_end 25 = .ok (.iconst 1, 1) := by decide +kernel
theorem dX3_end_26 : decode cX3_end 26 = .ok (.ireturn, 1) := by decide +kernel
theorem dX3_taped_0 : decode cX3_taped 0 = .ok (.aload_n 0, 1) := by decide +kernel
theorem dX3_taped_1 : decode cX3_taped 1 = .ok (.getfield 19, 3) := by decide +kernel
theorem dX3_taped_4 : decode cX3_taped 4 = .ok (.getfield 47, 3) := by decide +kernel
theorem dX3_taped_7 : decode cX3_taped 7 = .ok (.ireturn, 1) := by decide +kernel
set_option maxRecDepth 20000 in
theorem ggX3_pack_X2_becomeImage : GoodIn wsX3_pack wsX2_becomeImage := goodIn_r _ [6, 7, 8, 9, 10, 11, 4, 12, 13, 14, 15, 16, 17, 18, 19, 20, 21, 22, 23, 24, 25, 26, 27, 28, 29, 30, 31, 32, 33, 34, 35, 36, 37, 38, 39, 40, 41, 42, 43, 44, 53, 54, 55, 56] (by decide +kernel) (by decide +kernel)
set_option maxRecDepth 20000 in
theorem gX3_pack_X2_becomeImage_n54 : GoodIn wsX3_pack (wsX2_becomeImage) := ggX3_pack_X2_becomeImage
theorem dX3_pack_0 : decode cX3_pack 0 = .ok (.aload_n 0, 1) := by decide +kernel
theorem dX3_pack_1 : decode cX3_pack 1 = .ok (.getfield 19, 3) := by decide +kernel
theorem dX3_pack_4 : decode cX3_pack 4 = .ok (.getfield 47, 3) := by decide +kernel
theorem dX3_pack_7 : decode cX3_pack 7 = .ok (.sipush 984, 3) := by decide +kernel
theorem dX3_pack_10 : decode cX3_pack 10 = .ok (.if_icmp .le 5, 3) := by decide +kernel
theorem dX3_pack_13 : decode cX3_pack 13 = .ok (.iconst (-1), 1) := by decide +kernel
theorem dX3_pack_14 : decode cX3_pack 14 = .ok (.ireturn, 1) := by decide +kernel
theorem dX3_pack_15 : decode cX3_pack 15 = .ok (.aload_n 0, 1) := by decide +kernel
theorem dX3_pack_16 : decode cX3_pack 16 = .ok (.getfield 19, 3) := by decide +kernel
theorem dX3_pack_19 : decode cX3_pack 19 = .ok (.iload_n 1, 1) := by decide +kernel
theorem dX3_pack_20 : decode cX3_pack 20 = .ok (.aload_n 0, 1) := by decide +kernel
theorem dX3_pack_21 : decode cX3_pack 21 = .ok (.getfield 26, 3) := by decide +kernel
theorem dX3_pack_24 : decode cX3_pack 24 = .ok (.invokevirtual 54, 3) := by decide +kernel
theorem dX3_pack_27 : decode cX3_pack 27 = .ok (.aload_n 0, 1) := by decide +kernel
theorem dX3_pack_28 : decode cX3_pack 28 = .ok (.getfield 19, 3) := by decide +kernel
theorem dX3_pack_31 : decode cX3_pack 31 = .ok (.getfield 47, 3) := by decide +kernel
theorem dX3_pack_34 : decode cX3_pack 34 = .ok (.ireturn, 1) := by decide +kernel
set_option maxRecDepth 20000 in
theorem ggX3_install_X3_isSlot : GoodIn wsX3_install wsX3_isSlot := goodIn_r _ [6] (by decide +kernel) (by decide +kernel)
set_option maxRecDepth 20000 in
theorem gX3_install_X3_isSlot : GoodIn wsX3_install (va_wsS RX3 61 yX3_isSlot wsX3_isSlot) := goodIn_app (goodIn_of _ (by decide +kernel)) ggX3_install_X3_isSlot
set_option maxRecDepth 20000 in
theorem ggX3_install_X3_isUnderWay : GoodIn wsX3_install wsX3_isUnderWay := goodIn_r _ [10, 2, 11, 12, 13, 14, 15, 16, 17, 18, 19, 20, 21, 22, 23, 24, 25, 5, 26, 86, 87, 88, 89, 90, 91, 92, 93, 96, 97, 98, 99, 100, 101, 102, 103, 104] (by decide +kernel) (by decide +kernel)
set_option maxRecDepth 20000 in
theorem gX3_install_X3_isUnderWay : GoodIn wsX3_install (wsV RX3 65 RX3 yX3_isUnderWay wsX3_isUnderWay) := goodIn_app (goodIn_of _ (by decide +kernel)) ggX3_install_X3_isUnderWay
set_option maxRecDepth 20000 in
theorem ggX3_install_X3_stopRunning : GoodIn wsX3_install wsX3_stopRunning := goodIn_r _ [30, 31, 32, 86, 87, 88, 89, 90, 91, 92, 93] (by decide +kernel) (by decide +kernel)
set_option maxRecDepth 20000 in
theorem gX3_install_X3_stopRunning : GoodIn wsX3_install (wsV RX3 69 RX3 yX3_stopRunning wsX3_stopRunning) := goodIn_app (goodIn_of _ (by decide +kernel)) ggX3_install_X3_stopRunning
set_option maxRecDepth 20000 in
theorem ggX3_install_X3_eraseSlot : GoodIn wsX3_install wsX3_eraseSlot := goodIn_r _ [36, 2, 37, 38, 5, 39, 40, 12, 41, 42, 43, 44, 45, 22, 46, 47, 48, 49, 50, 51, 52, 53, 54, 55, 56, 57, 58, 59, 60, 61, 62, 86, 87, 88, 89, 90, 91, 92, 93, 96, 97, 98, 99, 100, 101, 102, 103, 104] (by decide +kernel) (by decide +kernel)
set_option maxRecDepth 20000 in
theorem gX3_install_X3_eraseSlot : GoodIn wsX3_install (wsV RX3 72 RX3 yX3_eraseSlot wsX3_eraseSlot) := goodIn_app (goodIn_of _ (by decide +kernel)) ggX3_install_X3_eraseSlot
set_option maxRecDepth 20000 in
theorem ggX3_install_X3_firstByteOf : GoodIn wsX3_install wsX3_firstByteOf := goodIn_r _ [65, 37, 38, 5, 39] (by decide +kernel) (by decide +kernel)
set_option maxRecDepth 20000 in
theorem gX3_install_X3_firstByteOf : GoodIn wsX3_install (va_wsS RX3 75 yX3_firstByteOf wsX3_firstByteOf) := goodIn_app (goodIn_of _ (by decide +kernel)) ggX3_install_X3_firstByteOf
set_option maxRecDepth 20000 in
theorem ggX3_install_X0_writeRow : GoodIn wsX3_install wsX0_writeRow := goodIn_r _ [68, 69, 70, 71, 12, 72, 73, 74, 75, 76, 77, 49, 50, 51, 52, 43, 53, 54, 55, 56, 78, 79, 80, 81, 22, 96, 97, 98, 99, 100, 101, 102, 103, 104] (by decide +kernel) (by decide +kernel)
set_option maxRecDepth 20000 in
theorem gX3_install_X0_writeRow_n83 : GoodIn wsX3_install (wsX0_writeRow) := ggX3_install_X0_writeRow
set_option maxRecDepth 20000 in
theorem ggX3_install_X3_powerWent : GoodIn wsX3_install wsX3_powerWent := goodIn_r _ [85, 27, 28, 29, 5, 30, 31, 32, 86, 87, 88, 89, 90, 91, 92, 93] (by decide +kernel) (by decide +kernel)
set_option maxRecDepth 20000 in
theorem gX3_install_X3_powerWent : GoodIn wsX3_install (wsV RX3 87 RX3 yX3_powerWent wsX3_powerWent) := goodIn_app (goodIn_of _ (by decide +kernel)) ggX3_install_X3_powerWent
theorem dX3_install_0 : decode cX3_install 0 = .ok (.aload_n 0, 1) := by decide +kernel
theorem dX3_install_1 : decode cX3_install 1 = .ok (.getfield 19, 3) := by decide +kernel
theorem dX3_install_4 : decode cX3_install 4 = .ok (.getfield 47, 3) := by decide +kernel
theorem dX3_install_7 : decode cX3_install 7 = .ok (.istore_n 2, 1) := by decide +kernel
theorem dX3_install_8 : decode cX3_install 8 = .ok (.aload_n 0, 1) := by decide +kernel
theorem dX3_install_9 : decode cX3_install 9 = .ok (.getfield 19, 3) := by decide +kernel
theorem dX3_install_12 : decode cX3_install 12 = .ok (.iconst 0, 1) := by decide +kernel
theorem dX3_install_13 : decode cX3_install 13 = .ok (.putfield 47, 3) := by decide +kernel
theorem dX3_install_16 : decode cX3_install 16 = .ok (.aload_n 0, 1) := by decide +kernel
theorem dX3_install_17 : decode cX3_install 17 = .ok (.getfield 12, 3) := by decide +kernel
theorem dX3_install_20 : decode cX3_install 20 = .ok (.getfield 58, 3) := by decide +kernel
theorem dX3_install_23 : decode cX3_install 23 = .ok (.ifCond .eq 6, 3) := by decide +kernel
theorem dX3_install_26 : decode cX3_install 26 = .ok (.bipush (-9), 2) := by decide +kernel
theorem dX3_install_28 : decode cX3_install 28 = .ok (.ireturn, 1) := by decide +kernel
theorem dX3_install_29 : decode cX3_install 29 = .ok (.iload_n 1, 1) := by decide +kernel
theorem dX3_install_30 : decode cX3_install 30 = .ok (.invokestatic 61, 3) := by decide +kernel
theorem dX3_install_33 : decode cX3_install 33 = .ok (.ifCond .ne 5, 3) := by decide +kernel
theorem dX3_install_36 : decode cX3_install 36 = .ok (.iconst (-1), 1) := by decide +kernel
theorem dX3_install_37 : decode cX3_install 37 = .ok (.ireturn, 1) := by decide +kernel
theorem dX3_install_38 : decode cX3_install 38 = .ok (.aload_n 0, 1) := by decide +kernel
theorem dX3_install_39 : decode cX3_install 39 = .ok (.invokevirtual 65, 3) := by decide +kernel
theorem dX3_install_42 : decode cX3_install 42 = .ok (.ifCond .eq 6, 3) := by decide +kernel
theorem dX3_install_45 : decode cX3_install 45 = .ok (.bipush (-3), 2) := by decide +kernel
theorem dX3_install_47 : decode cX3_install 47 = .ok (.ireturn, 1) := by decide +kernel
theorem dX3_install_48 : decode cX3_install 48 = .ok (.iload_n 1, 1) := by decide +kernel
theorem dX3_install_49 : decode cX3_install 49 = .ok (.ifCond .ne 7, 3) := by decide +kernel
theorem dX3_install_52 : decode cX3_install 52 = .ok (.aload_n 0, 1) := by decide +kernel
theorem dX3_install_53 : decode cX3_install 53 = .ok (.invokevirtual 69, 3) := by decide +kernel
theorem dX3_install_56 : decode cX3_install 56 = .ok (.aload_n 0, 1) := by decide +kernel
theorem dX3_install_57 : decode cX3_install 57 = .ok (.iload_n 1, 1) := by decide +kernel
theorem dX3_install_58 : decode cX3_install 58 = .ok (.invokevirtual 72, 3) := by decide +kernel
theorem dX3_install_61 : decode cX3_install 61 = .ok (.ifCond .eq 25, 3) := by decide +kernel
theorem dX3_install_64 : decode cX3_install 64 = .ok (.aload_n 0, 1) := by decide +kernel
theorem dX3_install_65 : decode cX3_install 65 = .ok (.getfield 12, 3) := by decide +kernel
theorem dX3_install_68 : decode cX3_install 68 = .ok (.iload_n 1, 1) := by decide +kernel
theorem dX3_install_69 : decode cX3_install 69 = .ok (.invokestatic 75, 3) := by decide +kernel
theorem dX3_install_72 : decode cX3_install 72 = .ok (.aload_n 0, 1) := by decide +kernel
theorem dX3_install_73 : decode cX3_install 73 = .ok (.getfield 19, 3) := by decide +kernel
theorem dX3_install_76 : decode cX3_install 76 = .ok (.getfield 79, 3) := by decide +kernel
theorem dX3_install_79 : decode cX3_install 79 = .ok (.iload_n 2, 1) := by decide +kernel
theorem dX3_install_80 : decode cX3_install 80 = .ok (.invokevirtual 83, 3) := by decide +kernel
theorem dX3_install_83 : decode cX3_install 83 = .ok (.ifCond .ne 8, 3) := by decide +kernel
theorem dX3_install_86 : decode cX3_install 86 = .ok (.aload_n 0, 1) := by decide +kernel
theorem dX3_install_87 : decode cX3_install 87 = .ok (.invokevirtual 87, 3) := by decide +kernel
theorem dX3_install_90 : decode cX3_install 90 = .ok (.ireturn, 1) := by decide +kernel
theorem dX3_install_91 : decode cX3_install 91 = .ok (.iload_n 2, 1) := by decide +kernel
theorem dX3_install_92 : decode cX3_install 92 = .ok (.ireturn, 1) := by decide +kernel
set_option maxRecDepth 20000 in
theorem ggX3_request_X0_markUnit : GoodIn wsX3_request wsX0_markUnit := goodIn_r _ [6, 7, 8, 9, 4, 10, 11, 12, 13, 14, 15, 16, 17, 18, 19, 20, 21, 22, 23, 59, 60, 61, 62, 63, 64, 65, 66, 67] (by decide +kernel) (by decide +kernel)
set_option maxRecDepth 20000 in
theorem gX3_request_X0_markUnit_n91 : GoodIn wsX3_request (wsX0_markUnit) := ggX3_request_X0_markUnit
set_option maxRecDepth 20000 in
theorem ggX3_request_X3_powerWent : GoodIn wsX3_request wsX3_powerWent := goodIn_r _ [28, 29, 30, 31, 27, 32, 2, 33, 51, 52, 53, 54, 55, 56, 57, 58] (by decide +kernel) (by decide +kernel)
set_option maxRecDepth 20000 in
theorem gX3_request_X3_powerWent : GoodIn wsX3_request (wsV RX3 87 RX3 yX3_powerWent wsX3_powerWent) := goodIn_app (goodIn_of _ (by decide +kernel)) ggX3_request_X3_powerWent
set_option maxRecDepth 20000 in
theorem ggX3_request_X3_writeMagic : GoodIn wsX3_request wsX3_writeMagic := goodIn_r _ [37, 1, 38, 17, 4, 18, 39, 40, 41, 42, 43, 44, 45, 46, 47, 48, 49, 50, 7, 8, 9, 10, 11, 12, 13, 14, 15, 19, 20, 21, 22, 23, 51, 52, 53, 54, 55, 56, 57, 58, 59, 60, 61, 62, 63, 64, 65, 66, 67] (by decide +kernel) (by decide +kernel)
set_option maxRecDepth 20000 in
theorem gX3_request_X3_writeMagic : GoodIn wsX3_request (wsV RX3 95 RX3 yX3_writeMagic wsX3_writeMagic) := goodIn_app (goodIn_of _ (by decide +kernel)) ggX3_request_X3_writeMagic
theorem dX3_request_0 : decode cX3_request 0 = .ok (.aload_n 0, 1) := by decide +kernel
theorem dX3_request_1 : decode cX3_request 1 = .ok (.getfield 12, 3) := by decide +kernel
theorem dX3_request_4 : decode cX3_request 4 = .ok (.getfield 58, 3) := by decide +kernel
theorem dX3_request_7 : decode cX3_request 7 = .ok (.ifCond .eq 6, 3) := by decide +kernel
theorem dX3_request_10 : decode cX3_request 10 = .ok (.bipush (-9), 2) := by decide +kernel
theorem dX3_request_12 : decode cX3_request 12 = .ok (.ireturn, 1) := by decide +kernel
theorem dX3_request_13 : decode cX3_request 13 = .ok (.aload_n 0, 1) := by decide +kernel
theorem dX3_request_14 : decode cX3_request 14 = .ok (.getfield 30, 3) := by decide +kernel
theorem dX3_request_17 : decode cX3_request 17 = .ok (.ifCond .ne 6, 3) := by decide +kernel
theorem dX3_request_20 : decode cX3_request 20 = .ok (.bipush (-2), 2) := by decide +kernel
theorem dX3_request_22 : decode cX3_request 22 = .ok (.ireturn, 1) := by decide +kernel
theorem dX3_request_23 : decode cX3_request 23 = .ok (.iload_n 1, 1) := by decide +kernel
theorem dX3_request_24 : decode cX3_request 24 = .ok (.ifCond .eq 22, 3) := by decide +kernel
theorem dX3_request_27 : decode cX3_request 27 = .ok (.aload_n 0, 1) := by decide +kernel
theorem dX3_request_28 : decode cX3_request 28 = .ok (.getfield 12, 3) := by decide +kernel
theorem dX3_request_31 : decode cX3_request 31 = .ok (.bipush 9, 2) := by decide +kernel
theorem dX3_request_33 : decode cX3_request 33 = .ok (.iconst 3, 1) := by decide +kernel
theorem dX3_request_34 : decode cX3_request 34 = .ok (.iconst 1, 1) := by decide +kernel
theorem dX3_request_35 : decode cX3_request 35 = .ok (.invokevirtual 91, 3) := by decide +kernel
theorem dX3_request_38 : decode cX3_request 38 = .ok (.ifCond .ne 8, 3) := by decide +kernel
theorem dX3_request_41 : decode cX3_request 41 = .ok (.aload_n 0, 1) := by decide +kernel
theorem dX3_request_42 : decode cX3_request 42 = .ok (.invokevirtual 87, 3) := by decide +kernel
theorem dX3_request_45 : decode cX3_request 45 = .ok (.ireturn, 1) := by decide +kernel
theorem dX3_request_46 : decode cX3_request 46 = .ok (.aload_n 0, 1) := by decide +kernel
theorem dX3_request_47 : decode cX3_request 47 = .ok (.bipush 9, 2) := by decide +kernel
theorem dX3_request_49 : decode cX3_request 49 = .ok (.invokevirtual 95, 3) := by decide +kernel
theorem dX3_request_52 : decode cX3_request 52 = .ok (.ifCond .ne 8, 3) := by decide +kernel
theorem dX3_request_55 : decode cX3_request 55 = .ok (.aload_n 0, 1) := by decide +kernel
theorem dX3_request_56 : decode cX3_request 56 = .ok (.invokevirtual 87, 3) := by decide +kernel
theorem dX3_request_59 : decode cX3_request 59 = .ok (.ireturn, 1) := by decide +kernel
theorem dX3_request_60 : decode cX3_request 60 = .ok (.iconst 0, 1) := by decide +kernel
theorem dX3_request_61 : decode cX3_request 61 = .ok (.ireturn, 1) := by decide +kernel
set_option maxRecDepth 20000 in
theorem ggX3_confirm_X3_isMarked : GoodIn wsX3_confirm wsX3_isMarked := goodIn_r _ [7, 1, 8, 9, 10, 11, 12, 13, 14, 15, 16, 17, 18, 19, 48, 49, 50, 51, 52, 53, 54, 55, 56, 57, 58, 59, 60, 61, 62, 63, 64] (by decide +kernel) (by decide +kernel)
set_option maxRecDepth 20000 in
theorem gX3_confirm_X3_isMarked : GoodIn wsX3_confirm (wsV RX3 98 RX3 yX3_isMarked wsX3_isMarked) := goodIn_app (goodIn_of _ (by decide +kernel)) ggX3_confirm_X3_isMarked
set_option maxRecDepth 20000 in
theorem ggX3_confirm_X0_hasMagic : GoodIn wsX3_confirm wsX0_hasMagic := goodIn_r _ [22, 12, 13, 9, 14, 15, 16, 17, 18, 19, 56, 57, 58, 59, 60, 61, 62, 63, 64] (by decide +kernel) (by decide +kernel)
set_option maxRecDepth 20000 in
theorem gX3_confirm_X0_hasMagic_n102 : GoodIn wsX3_confirm (wsX0_hasMagic) := ggX3_confirm_X0_hasMagic
set_option maxRecDepth 20000 in
theorem ggX3_confirm_X0_markUnit : GoodIn wsX3_confirm wsX0_markUnit := goodIn_r _ [25, 26, 27, 28, 9, 29, 30, 31, 32, 33, 34, 12, 13, 14, 35, 36, 37, 38, 19, 56, 57, 58, 59, 60, 61, 62, 63, 64] (by decide +kernel) (by decide +kernel)
set_option maxRecDepth 20000 in
theorem gX3_confirm_X0_markUnit_n91 : GoodIn wsX3_confirm (wsX0_markUnit) := ggX3_confirm_X0_markUnit
set_option maxRecDepth 20000 in
theorem ggX3_confirm_X3_powerWent : GoodIn wsX3_confirm wsX3_powerWent := goodIn_r _ [42, 43, 44, 45, 6, 46, 2, 47, 48, 49, 50, 51, 52, 53, 54, 55] (by decide +kernel) (by decide +kernel)
set_option maxRecDepth 20000 in
theorem gX3_confirm_X3_powerWent : GoodIn wsX3_confirm (wsV RX3 87 RX3 yX3_powerWent wsX3_powerWent) := goodIn_app (goodIn_of _ (by decide +kernel)) ggX3_confirm_X3_powerWent
theorem dX3_confirm_0 : decode cX3_confirm 0 = .ok (.aload_n 0, 1) := by decide +kernel
theorem dX3_confirm_1 : decode cX3_confirm 1 = .ok (.getfield 12, 3) := by decide +kernel
theorem dX3_confirm_4 : decode cX3_confirm 4 = .ok (.getfield 58, 3) := by decide +kernel
theorem dX3_confirm_7 : decode cX3_confirm 7 = .ok (.ifCond .eq 6, 3) := by decide +kernel
theorem dX3_confirm_10 : decode cX3_confirm 10 = .ok (.bipush (-9), 2) := by decide +kernel
theorem dX3_confirm_12 : decode cX3_confirm 12 = .ok (.ireturn, 1) := by decide +kernel
theorem dX3_confirm_13 : decode cX3_confirm 13 = .ok (.aload_n 0, 1) := by decide +kernel
theorem dX3_confirm_14 : decode cX3_confirm 14 = .ok (.getfield 30, 3) := by decide +kernel
theorem dX3_confirm_17 : decode cX3_confirm 17 = .ok (.ifCond .ne 6, 3) := by decide +kernel
theorem dX3_confirm_20 : decode cX3_confirm 20 = .ok (.bipush (-2), 2) := by decide +kernel
theorem dX3_confirm_22 : decode cX3_confirm 22 = .ok (.ireturn, 1) := by decide +kernel
theorem dX3_confirm_23 : decode cX3_confirm 23 = .ok (.aload_n 0, 1) := by decide +kernel
theorem dX3_confirm_24 : decode cX3_confirm 24 = .ok (.iconst 4, 1) := by decide +kernel
theorem dX3_confirm_25 : decode cX3_confirm 25 = .ok (.iconst 3, 1) := by decide +kernel
theorem dX3_confirm_26 : decode cX3_confirm 26 = .ok (.invokevirtual 98, 3) := by decide +kernel
theorem dX3_confirm_29 : decode cX3_confirm 29 = .ok (.ifCond .ne 14, 3) := by decide +kernel
theorem dX3_confirm_32 : decode cX3_confirm 32 = .ok (.aload_n 0, 1) := by decide +kernel
theorem dX3_confirm_33 : decode cX3_confirm 33 = .ok (.getfield 12, 3) := by decide +kernel
theorem dX3_confirm_36 : decode cX3_confirm 36 = .ok (.iconst 4, 1) := by decide +kernel
theorem dX3_confirm_37 : decode cX3_confirm 37 = .ok (.invokevirtual 102, 3) := by decide +kernel
theorem dX3_confirm_40 : decode cX3_confirm 40 = .ok (.ifCond .ne 5, 3) := by decide +kernel
theorem dX3_confirm_43 : decode cX3_confirm 43 = .ok (.iconst 0, 1) := by decide +kernel
theorem dX3_confirm_44 : decode cX3_confirm 44 = .ok (.ireturn, 1) := by decide +kernel
theorem dX3_confirm_45 : decode cX3_confirm 45 = .ok (.aload_n 0, 1) := by decide +kernel
theorem dX3_confirm_46 : decode cX3_confirm 46 = .ok (.getfield 12, 3) := by decide +kernel
theorem dX3_confirm_49 : decode cX3_confirm 49 = .ok (.iconst 4, 1) := by decide +kernel
theorem dX3_confirm_50 : decode cX3_confirm 50 = .ok (.iconst 3, 1) := by decide +kernel
theorem dX3_confirm_51 : decode cX3_confirm 51 = .ok (.iconst 1, 1) := by decide +kernel
theorem dX3_confirm_52 : decode cX3_confirm 52 = .ok (.invokevirtual 91, 3) := by decide +kernel
theorem dX3_confirm_55 : decode cX3_confirm 55 = .ok (.ifCond .ne 8, 3) := by decide +kernel
theorem dX3_confirm_58 : decode cX3_confirm 58 = .ok (.aload_n 0, 1) := by decide +kernel
theorem dX3_confirm_59 : decode cX3_confirm 59 = .ok (.invokevirtual 87, 3) := by decide +kernel
theorem dX3_confirm_62 : decode cX3_confirm 62 = .ok (.ireturn, 1) := by decide +kernel
theorem dX3_confirm_63 : decode cX3_confirm 63 = .ok (.iconst 1, 1) := by decide +kernel
theorem dX3_confirm_64 : decode cX3_confirm 64 = .ok (.ireturn, 1) := by decide +kernel
set_option maxRecDepth 20000 in
theorem ggX3_boot_X3_stopRunning : GoodIn wsX3_boot wsX3_stopRunning := goodIn_r _ [9, 3, 4, 173, 174, 175, 176, 177, 178, 179, 180] (by decide +kernel) (by decide +kernel)
set_option maxRecDepth 20000 in
theorem gX3_boot_X3_stopRunning : GoodIn wsX3_boot (wsV RX3 69 RX3 yX3_stopRunning wsX3_stopRunning) := goodIn_app (goodIn_of _ (by decide +kernel)) ggX3_boot_X3_stopRunning
set_option maxRecDepth 20000 in
theorem ggX3_boot_X3_findDue : GoodIn wsX3_boot wsX3_findDue := goodIn_r _ [13, 14, 15, 16, 8, 17, 1, 18, 19, 20, 21, 22, 23, 24, 25, 26, 27, 28, 29, 30, 31, 32, 33, 34, 35, 36, 37, 38, 39, 40, 41, 42, 43, 44, 45, 46, 47, 48, 49, 50, 51, 52, 53, 54, 55, 56, 57, 58, 59, 60, 61, 62, 63, 64, 65, 66, 67, 68, 69, 70, 71, 72, 73, 74, 75, 76, 77, 78, 79, 80, 81, 82, 83, 84, 85, 86, 87, 88, 89, 90, 173, 174, 175, 176, 177, 178, 179, 180, 181, 182, 183, 184, 185, 186, 187, 188, 189, 190, 191] (by decide +kernel) (by decide +kernel)
set_option maxRecDepth 20000 in
theorem gX3_boot_X3_findDue : GoodIn wsX3_boot (wsV RX3 105 RX3 yX3_findDue wsX3_findDue) := goodIn_app (goodIn_of _ (by decide +kernel)) ggX3_boot_X3_findDue
set_option maxRecDepth 20000 in
theorem ggX3_boot_X3_doWhatIsDue : GoodIn wsX3_boot wsX3_doWhatIsDue := goodIn_r _ [94, 95, 96, 97, 8, 98, 1, 99, 100, 19, 101, 102, 103, 104, 105, 29, 106, 107, 108, 109, 110, 111, 112, 113, 114, 115, 116, 117, 118, 119, 120, 121, 122, 123, 124, 125, 126, 127, 30, 31, 32, 33, 18, 20, 21, 22, 23, 24, 25, 26, 27, 28, 128, 129, 130, 131, 132, 133, 134, 135, 136, 137, 138, 139, 140, 141, 142, 143, 144, 145, 146, 147, 148, 149, 150, 151, 152, 153, 154, 155, 156, 157, 158, 159, 160, 161, 162, 163, 164, 173, 174, 175, 176, 177, 178, 179, 180, 181, 182, 183, 184, 185, 186, 187, 188, 189] (by decide +kernel) (by decide +kernel)
set_option maxRecDepth 20000 in
theorem gX3_boot_X3_doWhatIsDue : GoodIn wsX3_boot (wsV RX3 108 RX3 yX3_doWhatIsDue wsX3_doWhatIsDue) := goodIn_app (goodIn_of _ (by decide +kernel)) ggX3_boot_X3_doWhatIsDue
set_option maxRecDepth 20000 in
theorem ggX3_boot_X3_powerWent : GoodIn wsX3_boot wsX3_powerWent := goodIn_r _ [168, 5, 6, 7, 8, 9, 3, 4, 173, 174, 175, 176, 177, 178, 179, 180] (by decide +kernel) (by decide +kernel)
set_option maxRecDepth 20000 in
theorem gX3_boot_X3_powerWent : GoodIn wsX3_boot (wsV RX3 87 RX3 yX3_powerWent wsX3_powerWent) := goodIn_app (goodIn_of _ (by decide +kernel)) ggX3_boot_X3_powerWent
set_option maxRecDepth 20000 in
theorem ggX3_boot_X3_isRight : GoodIn wsX3_boot wsX3_isRight := goodIn_r _ [44, 45, 1, 46, 47, 48, 8, 49, 50, 51, 52, 53, 54, 55, 56, 19, 57, 58, 25, 26, 27, 28, 29, 59, 60, 61, 62, 63, 64, 65, 66, 67, 68, 69, 70, 71, 72, 73, 74, 75, 76, 77, 78, 79, 80, 81, 82, 83, 84, 85, 86, 173, 174, 175, 176, 177, 178, 179, 180, 181, 182, 183, 184, 185, 186, 187, 188, 189, 190, 191] (by decide +kernel) (by decide +kernel)
set_option maxRecDepth 20000 in
theorem gX3_boot_X3_isRight : GoodIn wsX3_boot (wsV RX3 111 RX3 yX3_isRight wsX3_isRight) := goodIn_app (goodIn_of _ (by decide +kernel)) ggX3_boot_X3_isRight
set_option maxRecDepth 20000 in
theorem ggX3_boot_X3_versionIn : GoodIn wsX3_boot wsX3_versionIn := goodIn_r _ [172, 1, 50, 51, 8, 52, 53, 54, 55, 56, 19, 57, 58, 25, 26, 27, 28, 29, 173, 174, 175, 176, 177, 178, 179, 180, 181, 182, 183, 184, 185, 186, 187, 188, 189] (by decide +kernel) (by decide +kernel)
set_option maxRecDepth 20000 in
theorem gX3_boot_X3_versionIn : GoodIn wsX3_boot (wsV RX3 114 RX3 yX3_versionIn wsX3_versionIn) := goodIn_app (goodIn_of _ (by decide +kernel)) ggX3_boot_X3_versionIn
theorem dX3_boot_0 : decode cX3_boot 0 = .ok (.aload_n 0, 1) := by decide +kernel
theorem dX3_boot_1 : decode cX3_boot 1 = .ok (.getfield 12, 3) := by decide +kernel
theorem dX3_boot_4 : decode cX3_boot 4 = .ok (.getfield 58, 3) := by decide +kernel
theorem dX3_boot_7 : decode cX3_boot 7 = .ok (.ifCond .eq 6, 3) := by decide +kernel
theorem dX3_boot_10 : decode cX3_boot 10 = .ok (.bipush (-9), 2) := by decide +kernel
theorem dX3_boot_12 : decode cX3_boot 12 = .ok (.ireturn, 1) := by decide +kernel
theorem dX3_boot_13 : decode cX3_boot 13 = .ok (.aload_n 0, 1) := by decide +kernel
theorem dX3_boot_14 : decode cX3_boot 14 = .ok (.invokevirtual 69, 3) := by decide +kernel
theorem dX3_boot_17 : decode cX3_boot 17 = .ok (.aload_n 0, 1) := by decide +kernel
theorem dX3_boot_18 : decode cX3_boot 18 = .ok (.aload_n 0, 1) := by decide +kernel
theorem dX3_boot_19 : decode cX3_boot 19 = .ok (.invokevirtual 105, 3) := by decide +kernel
theorem dX3_boot_22 : decode cX3_boot 22 = .ok (.invokevirtual 108, 3) := by decide +kernel
theorem dX3_boot_25 : decode cX3_boot 25 = .ok (.ifCond .ne 8, 3) := by decide +kernel
theorem dX3_boot_28 : decode cX3_boot 28 = .ok (.aload_n 0, 1) := by decide +kernel
theorem dX3_boot_29 : decode cX3_boot 29 = .ok (.invokevirtual 87, 3) := by decide +kernel
theorem dX3_boot_32 : decode cX3_boot 32 = .ok (.ireturn, 1) := by decide +kernel
theorem dX3_boot_33 : decode cX3_boot 33 = .ok (.aload_n 0, 1) := by decide +kernel
theorem dX3_boot_34 : decode cX3_boot 34 = .ok (.dup, 1) := by decide +kernel
theorem dX3_boot_35 : decode cX3_boot 35 = .ok (.getfield 38, 3) := by decide +kernel
theorem dX3_boot_38 : decode cX3_boot 38 = .ok (.iconst 1, 1) := by decide +kernel
theorem dX3_boot_39 : decode cX3_boot 39 = .ok (.iadd, 1) := by decide +kernel
theorem dX3_boot_40 : decode cX3_boot 40 = .ok (.putfield 38, 3) := by decide +kernel
theorem dX3_boot_43 : decode cX3_boot 43 = .ok (.aload_n 0, 1) := by decide +kernel
theorem dX3_boot_44 : decode cX3_boot 44 = .ok (.iconst 0, 1) := by decide +kernel
theorem dX3_boot_45 : decode cX3_boot 45 = .ok (.invokevirtual 111, 3) := by decide +kernel
theorem dX3_boot_48 : decode cX3_boot 48 = .ok (.ifCond .ne 5, 3) := by decide +kernel
theorem dX3_boot_51 : decode cX3_boot 51 = .ok (.iconst 0, 1) := by decide +kernel
theorem dX3_boot_52 : decode cX3_boot 52 = .ok (.ireturn, 1) := by decide +kernel
theorem dX3_boot_53 : decode cX3_boot 53 = .ok (.aload_n 0, 1) := by decide +kernel
theorem dX3_boot_54 : decode cX3_boot 54 = .ok (.iconst 1, 1) := by decide +kernel
theorem dX3_boot_55 : decode cX3_boot 55 = .ok (.putfield 30, 3) := by decide +kernel
theorem dX3_boot_58 : decode cX3_boot 58 = .ok (.aload_n 0, 1) := by decide +kernel
theorem dX3_boot_59 : decode cX3_boot 59 = .ok (.aload_n 0, 1) := by decide +kernel
theorem dX3_boot_60 : decode cX3_boot 60 = .ok (.iconst 0, 1) := by decide +kernel
theorem dX3_boot_61 : decode cX3_boot 61 = .ok (.invokevirtual 114, 3) := by decide +kernel
theorem dX3_boot_64 : decode cX3_boot 64 = .ok (.putfield 34, 3) := by decide +kernel
theorem dX3_boot_67 : decode cX3_boot 67 = .ok (.iconst 1, 1) := by decide +kernel
theorem dX3_boot_68 : decode cX3_boot 68 = .ok (.ireturn, 1) := by decide +kernel
set_option maxRecDepth 20000 in
theorem ggX3_cut_X0_tellToGo : GoodIn wsX3_cut wsX0_tellToGo := goodIn_r _ [6, 7, 8, 9, 18, 19, 20, 21, 22, 23, 24, 25, 26] (by decide +kernel) (by decide +kernel)
set_option maxRecDepth 20000 in
theorem gX3_cut_X0_tellToGo_n118 : GoodIn wsX3_cut (wsX0_tellToGo) := ggX3_cut_X0_tellToGo
theorem dX3_cut_0 : decode cX3_cut 0 = .ok (.iload_n 1, 1) := by decide +kernel
theorem dX3_cut_1 : decode cX3_cut 1 = .ok (.ifCond .lt 29, 3) := by decide +kernel
theorem dX3_cut_4 : decode cX3_cut 4 = .ok (.iload_n 1, 1) := by decide +kernel
theorem dX3_cut_5 : decode cX3_cut 5 = .ok (.ldc 117, 2) := by decide +kernel
theorem dX3_cut_7 : decode cX3_cut 7 = .ok (.if_icmp .gt 23, 3) := by decide +kernel
theorem dX3_cut_10 : decode cX3_cut 10 = .ok (.iload_n 2, 1) := by decide +kernel
theorem dX3_cut_11 : decode cX3_cut 11 = .ok (.ifCond .lt 19, 3) := by decide +kernel
theorem dX3_cut_14 : decode cX3_cut 14 = .ok (.iload_n 2, 1) := by decide +kernel
theorem dX3_cut_15 : decode cX3_cut 15 = .ok (.bipush 32, 2) := by decide +kernel
theorem dX3_cut_17 : decode cX3_cut 17 = .ok (.if_icmp .ge 13, 3) := by decide +kernel
theorem dX3_cut_20 : decode cX3_cut 20 = .ok (.aload_n 0, 1) := by decide +kernel
theorem dX3_cut_21 : decode cX3_cut 21 = .ok (.getfield 12, 3) := by decide +kernel
theorem dX3_cut_24 : decode cX3_cut 24 = .ok (.getfield 58, 3) := by decide +kernel
theorem dX3_cut_27 : decode cX3_cut 27 = .ok (.ifCond .eq 5, 3) := by decide +kernel
theorem dX3_cut_30 : decode cX3_cut 30 = .ok (.iconst 0, 1) := by decide +kernel
theorem dX3_cut_31 : decode cX3_cut 31 = .ok (.ireturn, 1) := by decide +kernel
theorem dX3_cut_32 : decode cX3_cut 32 = .ok (.aload_n 0, 1) := by decide +kernel
theorem dX3_cut_33 : decode cX3_cut 33 = .ok (.getfield 12, 3) := by decide +kernel
theorem dX3_cut_36 : decode cX3_cut 36 = .ok (.iload_n 1, 1) := by decide +kernel
theorem dX3_cut_37 : decode cX3_cut 37 = .ok (.iload_n 2, 1) := by decide +kernel
theorem dX3_cut_38 : decode cX3_cut 38 = .ok (.invokevirtual 118, 3) := by decide +kernel
theorem dX3_cut_41 : decode cX3_cut 41 = .ok (.iconst 1, 1) := by decide +kernel
theorem dX3_cut_42 : decode cX3_cut 42 = .ok (.ireturn, 1) := by decide +kernel
set_option maxRecDepth 20000 in
theorem ggX3_power_X0_powerComes : GoodIn wsX3_power wsX0_powerComes := goodIn_r _ [5, 6, 7, 23, 24, 25, 26, 27, 28, 29, 30, 31] (by decide +kernel) (by decide +kernel)
set_option maxRecDepth 20000 in
theorem gX3_power_X0_powerComes_n122 : GoodIn wsX3_power (wsX0_powerComes) := ggX3_power_X0_powerComes
set_option maxRecDepth 20000 in
theorem ggX3_power_X3_stopRunning : GoodIn wsX3_power wsX3_stopRunning := goodIn_r _ [12, 13, 14, 15, 16, 17, 18, 19, 20, 21, 22] (by decide +kernel) (by decide +kernel)
set_option maxRecDepth 20000 in
theorem gX3_power_X3_stopRunning : GoodIn wsX3_power (wsV RX3 69 RX3 yX3_stopRunning wsX3_stopRunning) := goodIn_app (goodIn_of _ (by decide +kernel)) ggX3_power_X3_stopRunning
theorem dX3_power_0 : decode cX3_power 0 = .ok (.aload_n 0, 1) := by decide +kernel
theorem dX3_power_1 : decode cX3_power 1 = .ok (.getfield 12, 3) := by decide +kernel
theorem dX3_power_4 : decode cX3_power 4 = .ok (.invokevirtual 122, 3) := by decide +kernel
theorem dX3_power_7 : decode cX3_power 7 = .ok (.aload_n 0, 1) := by decide +kernel
theorem dX3_power_8 : decode cX3_power 8 = .ok (.invokevirtual 69, 3) := by decide +kernel
theorem dX3_power_11 : decode cX3_power 11 = .ok (.return_, 1) := by decide +kernel
set_option maxRecDepth 20000 in
theorem ggX3_harm_X0_has : GoodIn wsX3_harm wsX0_has := goodIn_r _ [4] (by decide +kernel) (by decide +kernel)
set_option maxRecDepth 20000 in
theorem gX3_harm_X0_has_n125 : GoodIn wsX3_harm (wsX0_has) := ggX3_harm_X0_has
set_option maxRecDepth 20000 in
theorem ggX3_harm_X0_keepBits : GoodIn wsX3_harm wsX0_keepBits := goodIn_r _ [7, 8, 17, 18, 19, 20, 21, 22, 23, 24, 25] (by decide +kernel) (by decide +kernel)
set_option maxRecDepth 20000 in
theorem gX3_harm_X0_keepBits_n128 : GoodIn wsX3_harm (wsX0_keepBits) := ggX3_harm_X0_keepBits
theorem dX3_harm_0 : decode cX3_harm 0 = .ok (.iload_n 1, 1) := by decide +kernel
theorem dX3_harm_1 : decode cX3_harm 1 = .ok (.invokestatic 125, 3) := by decide +kernel
theorem dX3_harm_4 : decode cX3_harm 4 = .ok (.ifCond .ne 5, 3) := by decide +kernel
theorem dX3_harm_7 : decode cX3_harm 7 = .ok (.iconst 0, 1) := by decide +kernel
theorem dX3_harm_8 : decode cX3_harm 8 = .ok (.ireturn, 1) := by decide +kernel
theorem dX3_harm_9 : decode cX3_harm 9 = .ok (.aload_n 0, 1) := by decide +kernel
theorem dX3_harm_10 : decode cX3_harm 10 = .ok (.getfield 12, 3) := by decide +kernel
theorem dX3_harm_13 : decode cX3_harm 13 = .ok (.iload_n 1, 1) := by decide +kernel
theorem dX3_harm_14 : decode cX3_harm 14 = .ok (.iload_n 2, 1) := by decide +kernel
theorem dX3_harm_15 : decode cX3_harm 15 = .ok (.invokevirtual 128, 3) := by decide +kernel
theorem dX3_harm_18 : decode cX3_harm 18 = .ok (.iconst 1, 1) := by decide +kernel
theorem dX3_harm_19 : decode cX3_harm 19 = .ok (.ireturn, 1) := by decide +kernel
set_option maxRecDepth 20000 in
theorem ggX3_flash_X0_has : GoodIn wsX3_flash wsX0_has := goodIn_r _ [4] (by decide +kernel) (by decide +kernel)
set_option maxRecDepth 20000 in
theorem gX3_flash_X0_has_n125 : GoodIn wsX3_flash (wsX0_has) := ggX3_flash_X0_has
set_option maxRecDepth 20000 in
theorem ggX3_flash_X0_byteAt : GoodIn wsX3_flash wsX0_byteAt := goodIn_r _ [7, 8, 17, 18, 19, 20, 21, 22, 23, 24, 25] (by decide +kernel) (by decide +kernel)
set_option maxRecDepth 20000 in
theorem gX3_flash_X0_byteAt_n131 : GoodIn wsX3_flash (wsX0_byteAt) := ggX3_flash_X0_byteAt
theorem dX3_flash_0 : decode cX3_flash 0 = .ok (.iload_n 1, 1) := by decide +kernel
theorem dX3_flash_1 : decode cX3_flash 1 = .ok (.invokestatic 125, 3) := by decide +kernel
theorem dX3_flash_4 : decode cX3_flash 4 = .ok (.ifCond .eq 14, 3) := by decide +kernel
theorem dX3_flash_7 : decode cX3_flash 7 = .ok (.aload_n 0, 1) := by decide +kernel
theorem dX3_flash_8 : decode cX3_flash 8 = .ok (.getfield 12, 3) := by decide +kernel
theorem dX3_flash_11 : decode cX3_flash 11 = .ok (.iload_n 1, 1) := by decide +kernel
theorem dX3_flash_12 : decode cX3_flash 12 = .ok (.invokevirtual 131, 3) := by decide +kernel
theorem dX3_flash_15 : decode cX3_flash 15 = .ok (.goto 4, 3) := by decide +kernel
theorem dX3_flash_18 : decode cX3_flash 18 = .ok (.iconst (-1), 1) := by decide +kernel
theorem dX3_flash_19 : decode cX3_flash 19 = .ok (.ireturn, 1) := by decide +kernel
set_option maxRecDepth 20000 in
theorem ggX3_due_X3_findDue : GoodIn wsX3_due wsX3_findDue := goodIn_r _ [5, 6, 7, 8, 4, 9, 10, 11, 12, 13, 14, 15, 16, 17, 18, 19, 20, 21, 22, 23, 24, 25, 26, 27, 28, 29, 30, 31, 32, 33, 34, 35, 36, 37, 38, 39, 40, 41, 42, 43, 44, 45, 46, 47, 48, 49, 50, 51, 52, 53, 54, 55, 56, 57, 58, 59, 60, 61, 62, 63, 64, 65, 66, 67, 68, 69, 70, 71, 72, 73, 74, 75, 76, 77, 78, 79, 80, 81, 82, 83, 84, 85, 86, 87, 88, 89, 90, 91, 92, 93, 94, 95, 96, 97, 98, 99, 100, 101, 102] (by decide +kernel) (by decide +kernel)
set_option maxRecDepth 20000 in
theorem gX3_due_X3_findDue : GoodIn wsX3_due (wsV RX3 105 RX3 yX3_findDue wsX3_findDue) := goodIn_app (goodIn_of _ (by decide +kernel)) ggX3_due_X3_findDue
theorem dX3_due_0 : decode cX3_due 0 = .ok (.aload_n 0, 1) := by decide +kernel
theorem dX3_due_1 : decode cX3_due 1 = .ok (.invokevirtual 105, 3) := by decide +kernel
theorem dX3_due_4 : decode cX3_due 4 = .ok (.ireturn, 1) := by decide +kernel
set_option maxRecDepth 20000 in
theorem ggX3_image_X3_isSlot : GoodIn wsX3_image wsX3_isSlot := goodIn_r _ [4] (by decide +kernel) (by decide +kernel)
set_option maxRecDepth 20000 in
theorem gX3_image_X3_isSlot : GoodIn wsX3_image (va_wsS RX3 61 yX3_isSlot wsX3_isSlot) := goodIn_app (goodIn_of _ (by decide +kernel)) ggX3_image_X3_isSlot
set_option maxRecDepth 20000 in
theorem ggX3_image_X3_isRight : GoodIn wsX3_image wsX3_isRight := goodIn_r _ [8, 9, 10, 11, 12, 13, 3, 14, 15, 16, 17, 18, 19, 20, 21, 22, 23, 24, 25, 26, 27, 28, 29, 30, 31, 32, 33, 34, 35, 36, 37, 38, 39, 40, 41, 42, 43, 44, 45, 46, 47, 48, 49, 50, 51, 52, 53, 54, 55, 56, 57, 62, 63, 64, 65, 66, 67, 68, 69, 70, 71, 72, 73, 74, 75, 76, 77, 78, 79, 80] (by decide +kernel) (by decide +kernel)
set_option maxRecDepth 20000 in
theorem gX3_image_X3_isRight : GoodIn wsX3_image (wsV RX3 111 RX3 yX3_isRight wsX3_isRight) := goodIn_app (goodIn_of _ (by decide +kernel)) ggX3_image_X3_isRight
set_option maxRecDepth 20000 in
theorem ggX3_image_X3_lengthIn : GoodIn wsX3_image wsX3_lengthIn := goodIn_r _ [14, 10, 15, 16, 3, 17, 18, 19, 20, 21, 22, 23, 24, 25, 26, 27, 28, 29, 62, 63, 64, 65, 66, 67, 68, 69, 70, 71, 72, 73, 74, 75, 76, 77, 78] (by decide +kernel) (by decide +kernel)
set_option maxRecDepth 20000 in
theorem gX3_image_X3_lengthIn : GoodIn wsX3_image (wsV RX3 134 RX3 yX3_lengthIn wsX3_lengthIn) := goodIn_app (goodIn_of _ (by decide +kernel)) ggX3_image_X3_lengthIn
set_option maxRecDepth 20000 in
theorem ggX3_image_X3_versionIn : GoodIn wsX3_image wsX3_versionIn := goodIn_r _ [61, 10, 15, 16, 3, 17, 18, 19, 20, 21, 22, 23, 24, 25, 26, 27, 28, 29, 62, 63, 64, 65, 66, 67, 68, 69, 70, 71, 72, 73, 74, 75, 76, 77, 78] (by decide +kernel) (by decide +kernel)
set_option maxRecDepth 20000 in
theorem gX3_image_X3_versionIn : GoodIn wsX3_image (wsV RX3 114 RX3 yX3_versionIn wsX3_versionIn) := goodIn_app (goodIn_of _ (by decide +kernel)) ggX3_image_X3_versionIn
theorem dX3_image_0 : decode cX3_image 0 = .ok (.iload_n 1, 1) := by decide +kernel
theorem dX3_image_1 : decode cX3_image 1 = .ok (.invokestatic 61, 3) := by decide +kernel
theorem dX3_image_4 : decode cX3_image 4 = .ok (.ifCond .eq 12, 3) := by decide +kernel
theorem dX3_image_7 : decode cX3_image 7 = .ok (.iload_n 2, 1) := by decide +kernel
theorem dX3_image_8 : decode cX3_image 8 = .ok (.ifCond .lt 8, 3) := by decide +kernel
theorem dX3_image_11 : decode cX3_image 11 = .ok (.iload_n 2, 1) := by decide +kernel
theorem dX3_image_12 : decode cX3_image 12 = .ok (.iconst 2, 1) := by decide +kernel
theorem dX3_image_13 : decode cX3_image 13 = .ok (.if_icmp .le 5, 3) := by decide +kernel
theorem dX3_image_16 : decode cX3_image 16 = .ok (.iconst (-1), 1) := by decide +kernel
theorem dX3_image_17 : decode cX3_image 17 = .ok (.ireturn, 1) := by decide +kernel
theorem dX3_image_18 : decode cX3_image 18 = .ok (.aload_n 0, 1) := by decide +kernel
theorem dX3_image_19 : decode cX3_image 19 = .ok (.iload_n 1, 1) := by decide +kernel
theorem dX3_image_20 : decode cX3_image 20 = .ok (.invokevirtual 111, 3) := by decide +kernel
theorem dX3_image_23 : decode cX3_image 23 = .ok (.ifCond .ne 5, 3) := by decide +kernel
theorem dX3_image_26 : decode cX3_image 26 = .ok (.iconst 0, 1) := by decide +kernel
theorem dX3_image_27 : decode cX3_image 27 = .ok (.ireturn, 1) := by decide +kernel
theorem dX3_image_28 : decode cX3_image 28 = .ok (.iload_n 2, 1) := by decide +kernel
theorem dX3_image_29 : decode cX3_image 29 = .ok (.lookupswitch 35 #[(0, 27), (1, 29)], 27) := by decide +kernel
theorem dX3_image_56 : decode cX3_image 56 = .ok (.iconst 1, 1) := by decide +kernel
theorem dX3_image_57 : decode cX3_image 57 = .ok (.ireturn, 1) := by decide +kernel
theorem dX3_image_58 : decode cX3_image 58 = .ok (.aload_n 0, 1) := by decide +kernel
theorem dX3_image_59 : decode cX3_image 59 = .ok (.iload_n 1, 1) := by decide +kernel
theorem dX3_image_60 : decode cX3_image 60 = .ok (.invokevirtual 134, 3) := by decide +kernel
theorem dX3_image_63 : decode cX3_image 63 = .ok (.ireturn, 1) := by decide +kernel
theorem dX3_image_64 : decode cX3_image 64 = .ok (.aload_n 0, 1) := by decide +kernel
theorem dX3_image_65 : decode cX3_image 65 = .ok (.iload_n 1, 1) := by decide +kernel
theorem dX3_image_66 : decode cX3_image 66 = .ok (.invokevirtual 114, 3) := by decide +kernel
theorem dX3_image_69 : decode cX3_image 69 = .ok (.ireturn, 1) := by decide +kernel
set_option maxRecDepth 20000 in
theorem ggX3_trailer_X3_isSlot : GoodIn wsX3_trailer wsX3_isSlot := goodIn_r _ [5] (by decide +kernel) (by decide +kernel)
set_option maxRecDepth 20000 in
theorem gX3_trailer_X3_isSlot : GoodIn wsX3_trailer (va_wsS RX3 61 yX3_isSlot wsX3_isSlot) := goodIn_app (goodIn_of _ (by decide +kernel)) ggX3_trailer_X3_isSlot
set_option maxRecDepth 20000 in
theorem ggX3_trailer_X3_trailerOf : GoodIn wsX3_trailer wsX3_trailerOf := goodIn_r _ [8] (by decide +kernel) (by decide +kernel)
set_option maxRecDepth 20000 in
theorem gX3_trailer_X3_trailerOf : GoodIn wsX3_trailer (va_wsS RX3 137 yX3_trailerOf wsX3_trailerOf) := goodIn_app (goodIn_of _ (by decide +kernel)) ggX3_trailer_X3_trailerOf
set_option maxRecDepth 20000 in
theorem ggX3_trailer_X0_hasMagic : GoodIn wsX3_trailer wsX0_hasMagic := goodIn_r _ [12, 13, 14, 10, 15, 16, 17, 18, 19, 20, 43, 44, 45, 46, 47, 48, 49, 50, 51] (by decide +kernel) (by decide +kernel)
set_option maxRecDepth 20000 in
theorem gX3_trailer_X0_hasMagic_n102 : GoodIn wsX3_trailer (wsX0_hasMagic) := ggX3_trailer_X0_hasMagic
set_option maxRecDepth 20000 in
theorem ggX3_trailer_X3_asNumber : GoodIn wsX3_trailer wsX3_asNumber := goodIn_r _ [23] (by decide +kernel) (by decide +kernel)
set_option maxRecDepth 20000 in
theorem gX3_trailer_X3_asNumber : GoodIn wsX3_trailer (va_wsS RX3 140 yX3_asNumber wsX3_asNumber) := goodIn_app (goodIn_of _ (by decide +kernel)) ggX3_trailer_X3_asNumber
set_option maxRecDepth 20000 in
theorem ggX3_trailer_X0_markIn : GoodIn wsX3_trailer wsX0_markIn := goodIn_r _ [26, 13, 14, 10, 15, 16, 17, 18, 19, 20, 43, 44, 45, 46, 47, 48, 49, 50, 51] (by decide +kernel) (by decide +kernel)
set_option maxRecDepth 20000 in
theorem gX3_trailer_X0_markIn_n144 : GoodIn wsX3_trailer (wsX0_markIn) := ggX3_trailer_X0_markIn
set_option maxRecDepth 20000 in
theorem ggX3_trailer_X3_isMarked : GoodIn wsX3_trailer wsX3_isMarked := goodIn_r _ [30, 1, 24, 10, 25, 26, 13, 14, 15, 16, 17, 18, 19, 20, 35, 36, 37, 38, 39, 40, 41, 42, 43, 44, 45, 46, 47, 48, 49, 50, 51] (by decide +kernel) (by decide +kernel)
set_option maxRecDepth 20000 in
theorem gX3_trailer_X3_isMarked : GoodIn wsX3_trailer (wsV RX3 98 RX3 yX3_isMarked wsX3_isMarked) := goodIn_app (goodIn_of _ (by decide +kernel)) ggX3_trailer_X3_isMarked
set_option maxRecDepth 20000 in
theorem ggX3_trailer_X3_stepsSet : GoodIn wsX3_trailer wsX3_stepsSet := goodIn_r _ [34, 27, 28, 29, 4, 30, 1, 24, 10, 25, 26, 13, 14, 15, 16, 17, 18, 19, 20, 35, 36, 37, 38, 39, 40, 41, 42, 43, 44, 45, 46, 47, 48, 49, 50, 51] (by decide +kernel) (by decide +kernel)
set_option maxRecDepth 20000 in
theorem gX3_trailer_X3_stepsSet : GoodIn wsX3_trailer (wsV RX3 148 RX3 yX3_stepsSet wsX3_stepsSet) := goodIn_app (goodIn_of _ (by decide +kernel)) ggX3_trailer_X3_stepsSet
theorem dX3_trailer_0 : decode cX3_trailer 0 = .ok (.iload_n 1, 1) := by decide +kernel
theorem dX3_trailer_1 : decode cX3_trailer 1 = .ok (.invokestatic 61, 3) := by decide +kernel
theorem dX3_trailer_4 : decode cX3_trailer 4 = .ok (.ifCond .ne 5, 3) := by decide +kernel
theorem dX3_trailer_7 : decode cX3_trailer 7 = .ok (.iconst (-1), 1) := by decide +kernel
theorem dX3_trailer_8 : decode cX3_trailer 8 = .ok (.ireturn, 1) := by decide +kernel
theorem dX3_trailer_9 : decode cX3_trailer 9 = .ok (.iload_n 1, 1) := by decide +kernel
theorem dX3_trailer_10 : decode cX3_trailer 10 = .ok (.invokestatic 137, 3) := by decide +kernel
theorem dX3_trailer_13 : decode cX3_trailer 13 = .ok (.istore_n 3, 1) := by decide +kernel
theorem dX3_trailer_14 : decode cX3_trailer 14 = .ok (.iload_n 2, 1) := by decide +kernel
theorem dX3_trailer_15 : decode cX3_trailer 15 = .ok (.tableswitch 81 0 4 #[33, 45, 55, 65, 75], 33) := by decide +kernel
theorem dX3_trailer_48 : decode cX3_trailer 48 = .ok (.aload_n 0, 1) := by decide +kernel
theorem dX3_trailer_49 : decode cX3_trailer 49 = .ok (.getfield 12, 3) := by decide +kernel
theorem dX3_trailer_52 : decode cX3_trailer 52 = .ok (.iload_n 3, 1) := by decide +kernel
theorem dX3_trailer_53 : decode cX3_trailer 53 = .ok (.invokevirtual 102, 3) := by decide +kernel
theorem dX3_trailer_56 : decode cX3_trailer 56 = .ok (.invokestatic 140, 3) := by decide +kernel
theorem dX3_trailer_59 : decode cX3_trailer 59 = .ok (.ireturn, 1) := by decide +kernel
theorem dX3_trailer_60 : decode cX3_trailer 60 = .ok (.aload_n 0, 1) := by decide +kernel
theorem dX3_trailer_61 : decode cX3_trailer 61 = .ok (.getfield 12, 3) := by decide +kernel
theorem dX3_trailer_64 : decode cX3_trailer 64 = .ok (.iload_n 3, 1) := by decide +kernel
theorem dX3_trailer_65 : decode cX3_trailer 65 = .ok (.iconst 1, 1) := by decide +kernel
theorem dX3_trailer_66 : decode cX3_trailer 66 = .ok (.invokevirtual 144, 3) := by decide +kernel
theorem dX3_trailer_69 : decode cX3_trailer 69 = .ok (.ireturn, 1) := by decide +kernel
theorem dX3_trailer_70 : decode cX3_trailer 70 = .ok (.aload_n 0, 1) := by decide +kernel
theorem dX3_trailer_71 : decode cX3_trailer 71 = .ok (.iload_n 3, 1) := by decide +kernel
theorem dX3_trailer_72 : decode cX3_trailer 72 = .ok (.iconst 2, 1) := by decide +kernel
theorem dX3_trailer_73 : decode cX3_trailer 73 = .ok (.invokevirtual 98, 3) := by decide +kernel
theorem dX3_trailer_76 : decode cX3_trailer 76 = .ok (.invokestatic 140, 3) := by decide +kernel
theorem dX3_trailer_79 : decode cX3_trailer 79 = .ok (.ireturn, 1) := by decide +kernel
theorem dX3_trailer_80 : decode cX3_trailer 80 = .ok (.aload_n 0, 1) := by decide +kernel
theorem dX3_trailer_81 : decode cX3_trailer 81 = .ok (.iload_n 3, 1) := by decide +kernel
theorem dX3_trailer_82 : decode cX3_trailer 82 = .ok (.iconst 3, 1) := by decide +kernel
theorem dX3_trailer_83 : decode cX3_trailer 83 = .ok (.invokevirtual 98, 3) := by decide +kernel
theorem dX3_trailer_86 : decode cX3_trailer 86 = .ok (.invokestatic 140, 3) := by decide +kernel
theorem dX3_trailer_89 : decode cX3_trailer 89 = .ok (.ireturn, 1) := by decide +kernel
theorem dX3_trailer_90 : decode cX3_trailer 90 = .ok (.aload_n 0, 1) := by decide +kernel
theorem dX3_trailer_91 : decode cX3_trailer 91 = .ok (.iload_n 3, 1) := by decide +kernel
theorem dX3_trailer_92 : decode cX3_trailer 92 = .ok (.invokevirtual 148, 3) := by decide +kernel
theorem dX3_trailer_95 : decode cX3_trailer 95 = .ok (.ireturn, 1) := by decide +kernel
theorem dX3_trailer_96 : decode cX3_trailer 96 = .ok (.iconst (-1), 1) := by decide +kernel
theorem dX3_trailer_97 : decode cX3_trailer 97 = .ok (.ireturn, 1) := by decide +kernel
set_option maxRecDepth 20000 in
theorem ggX3_wear_X0_hasSector : GoodIn wsX3_wear wsX0_hasSector := goodIn_r _ [4] (by decide +kernel) (by decide +kernel)
set_option maxRecDepth 20000 in
theorem gX3_wear_X0_hasSector_n151 : GoodIn wsX3_wear (wsX0_hasSector) := ggX3_wear_X0_hasSector
theorem dX3_wear_0 : decode cX3_wear 0 = .ok (.iload_n 1, 1) := by decide +kernel
theorem dX3_wear_1 : decode cX3_wear 1 = .ok (.invokestatic 151, 3) := by decide +kernel
theorem dX3_wear_4 : decode cX3_wear 4 = .ok (.ifCond .eq 15, 3) := by decide +kernel
theorem dX3_wear_7 : decode cX3_wear 7 = .ok (.aload_n 0, 1) := by decide +kernel
theorem dX3_wear_8 : decode cX3_wear 8 = .ok (.getfield 12, 3) := by decide +kernel
theorem dX3_wear_11 : decode cX3_wear 11 = .ok (.getfield 154, 3) := by decide +kernel
theorem dX3_wear_14 : decode cX3_wear 14 = .ok (.iload_n 1, 1) := by decide +kernel
theorem dX3_wear_15 : decode cX3_wear 15 = .ok (.iaload, 1) := by decide +kernel
theorem dX3_wear_16 : decode cX3_wear 16 = .ok (.goto 4, 3) := by decide +kernel
theorem dX3_wear_19 : decode cX3_wear 19 = .ok (.iconst (-1), 1) := by decide +kernel
theorem dX3_wear_20 : decode cX3_wear 20 = .ok (.ireturn, 1) := by decide +kernel
set_option maxRecDepth 20000 in
theorem ggX3_look_X3_asNumber : GoodIn wsX3_look wsX3_asNumber := goodIn_r _ [10] (by decide +kernel) (by decide +kernel)
set_option maxRecDepth 20000 in
theorem gX3_look_X3_asNumber : GoodIn wsX3_look (va_wsS RX3 140 yX3_asNumber wsX3_asNumber) := goodIn_app (goodIn_of _ (by decide +kernel)) ggX3_look_X3_asNumber
set_option maxRecDepth 20000 in
theorem ggX3_look_X0_actsStillDone : GoodIn wsX3_look wsX0_actsStillDone := goodIn_r _ [14, 15, 16, 17, 26, 27, 28, 29, 30, 31, 32, 33, 34] (by decide +kernel) (by decide +kernel)
set_option maxRecDepth 20000 in
theorem gX3_look_X0_actsStillDone_n160 : GoodIn wsX3_look (wsX0_actsStillDone) := ggX3_look_X0_actsStillDone
theorem dX3_look_0 : decode cX3_look 0 = .ok (.iload_n 1, 1) := by decide +kernel
theorem dX3_look_1 : decode cX3_look 1 = .ok (.tableswitch 114 0 8 #[51, 62, 70, 75, 83, 91, 96, 101, 106], 51) := by decide +kernel
theorem dX3_look_52 : decode cX3_look 52 = .ok (.aload_n 0, 1) := by decide +kernel
theorem dX3_look_53 : decode cX3_look 53 = .ok (.getfield 12, 3) := by decide +kernel
theorem dX3_look_56 : decode cX3_look 56 = .ok (.getfield 58, 3) := by decide +kernel
theorem dX3_look_59 : decode cX3_look 59 = .ok (.invokestatic 140, 3) := by decide +kernel
theorem dX3_look_62 : decode cX3_look 62 = .ok (.ireturn, 1) := by decide +kernel
theorem dX3_look_63 : decode cX3_look 63 = .ok (.aload_n 0, 1) := by decide +kernel
theorem dX3_look_64 : decode cX3_look 64 = .ok (.getfield 30, 3) := by decide +kernel
theorem dX3_look_67 : decode cX3_look 67 = .ok (.invokestatic 140, 3) := by decide +kernel
theorem dX3_look_70 : decode cX3_look 70 = .ok (.ireturn, 1) := by decide +kernel
theorem dX3_look_71 : decode cX3_look 71 = .ok (.aload_n 0, 1) := by decide +kernel
theorem dX3_look_72 : decode cX3_look 72 = .ok (.getfield 34, 3) := by decide +kernel
theorem dX3_look_75 : decode cX3_look 75 = .ok (.ireturn, 1) := by decide +kernel
theorem dX3_look_76 : decode cX3_look 76 = .ok (.aload_n 0, 1) := by decide +kernel
theorem dX3_look_77 : decode cX3_look 77 = .ok (.getfield 12, 3) := by decide +kernel
theorem dX3_look_80 : decode cX3_look 80 = .ok (.getfield 157, 3) := by decide +kernel
theorem dX3_look_83 : decode cX3_look 83 = .ok (.ireturn, 1) := by decide +kernel
theorem dX3_look_84 : decode cX3_look 84 = .ok (.aload_n 0, 1) := by decide +kernel
theorem dX3_look_85 : decode cX3_look 85 = .ok (.getfield 12, 3) := by decide +kernel
theorem dX3_look_88 : decode cX3_look 88 = .ok (.invokevirtual 160, 3) := by decide +kernel
theorem dX3_look_91 : decode cX3_look 91 = .ok (.ireturn, 1) := by decide +kernel
theorem dX3_look_92 : decode cX3_look 92 = .ok (.aload_n 0, 1) := by decide +kernel
theorem dX3_look_93 : decode cX3_look 93 = .ok (.getfield 38, 3) := by decide +kernel
theorem dX3_look_96 : decode cX3_look 96 = .ok (.ireturn, 1) := by decide +kernel
theorem dX3_look_97 : decode cX3_look 97 = .ok (.aload_n 0, 1) := by decide +kernel
theorem dX3_look_98 : decode cX3_look 98 = .ok (.getfield 41, 3) := by decide +kernel
theorem dX3_look_101 : decode cX3_look 101 = .ok (.ireturn, 1) := by decide +kernel
theorem dX3_look_102 : decode cX3_look 102 = .ok (.aload_n 0, 1) := by decide +kernel
theorem dX3_look_103 : decode cX3_look 103 = .ok (.getfield 44, 3) := by decide +kernel
theorem dX3_look_106 : decode cX3_look 106 = .ok (.ireturn, 1) := by decide +kernel
theorem dX3_look_107 : decode cX3_look 107 = .ok (.aload_n 0, 1) := by decide +kernel
theorem dX3_look_108 : decode cX3_look 108 = .ok (.getfield 12, 3) := by decide +kernel
theorem dX3_look_111 : decode cX3_look 111 = .ok (.getfield 163, 3) := by decide +kernel
theorem dX3_look_114 : decode cX3_look 114 = .ok (.ireturn, 1) := by decide +kernel
theorem dX3_look_115 : decode cX3_look 115 = .ok (.iconst (-1), 1) := by decide +kernel
theorem dX3_look_116 : decode cX3_look 116 = .ok (.ireturn, 1) := by decide +kernel
theorem dX3_asNumber_0 : decode cX3_asNumber 0 = .ok (.iload_n 0, 1) := by decide +kernel
theorem dX3_asNumber_1 : decode cX3_asNumber 1 = .ok (.ifCond .eq 7, 3) := by decide +kernel
theorem dX3_asNumber_4 : decode cX3_asNumber 4 = .ok (.iconst 1, 1) := by decide +kernel
theorem dX3_asNumber_5 : decode cX3_asNumber 5 = .ok (.goto 4, 3) := by decide +kernel
theorem dX3_asNumber_8 : decode cX3_asNumber 8 = .ok (.iconst 0, 1) := by decide +kernel
theorem dX3_asNumber_9 : decode cX3_asNumber 9 = .ok (.ireturn, 1) := by decide +kernel
theorem dX3_isSlot_0 : decode cX3_isSlot 0 = .ok (.iload_n 0, 1) := by decide +kernel
theorem dX3_isSlot_1 : decode cX3_isSlot 1 = .ok (.ifCond .eq 8, 3) := by decide +kernel
theorem dX3_isSlot_4 : decode cX3_isSlot 4 = .ok (.iload_n 0, 1) := by decide +kernel
theorem dX3_isSlot_5 : decode cX3_isSlot 5 = .ok (.iconst 1, 1) := by decide +kernel
theorem dX3_isSlot_6 : decode cX3_isSlot 6 = .ok (.if_icmp .ne 7, 3) := by decide +kernel
theorem dX3_isSlot_9 : decode cX3_isSlot 9 = .ok (.iconst 1, 1) := by decide +kernel
theorem dX3_isSlot_10 : decode cX3_isSlot 10 = .ok (.goto 4, 3) := by decide +kernel
theorem dX3_isSlot_13 : decode cX3_isSlot 13 = .ok (.iconst 0, 1) := by decide +kernel
theorem dX3_isSlot_14 : decode cX3_isSlot 14 = .ok (.ireturn, 1) := by decide +kernel
theorem dX3_firstSectorOf_0 : decode cX3_firstSectorOf 0 = .ok (.iload_n 0, 1) := by decide +kernel
theorem dX3_firstSectorOf_1 : decode cX3_firstSectorOf 1 = .ok (.ifCond .ne 7, 3) := by decide +kernel
theorem dX3_firstSectorOf_4 : decode cX3_firstSectorOf 4 = .ok (.iconst 0, 1) := by decide +kernel
theorem dX3_firstSectorOf_5 : decode cX3_firstSectorOf 5 = .ok (.goto 4, 3) := by decide +kernel
theorem dX3_firstSectorOf_8 : decode cX3_firstSectorOf 8 = .ok (.iconst 5, 1) := by decide +kernel
theorem dX3_firstSectorOf_9 : decode cX3_firstSectorOf 9 = .ok (.ireturn, 1) := by decide +kernel
set_option maxRecDepth 20000 in
theorem ggX3_firstByteOf_X3_firstSectorOf : GoodIn wsX3_firstByteOf wsX3_firstSectorOf := goodIn_r _ [4] (by decide +kernel) (by decide +kernel)
set_option maxRecDepth 20000 in
theorem gX3_firstByteOf_X3_firstSectorOf : GoodIn wsX3_firstByteOf (va_wsS RX3 166 yX3_firstSectorOf wsX3_firstSectorOf) := goodIn_app (goodIn_of _ (by decide +kernel)) ggX3_firstByteOf_X3_firstSectorOf
theorem dX3_firstByteOf_0 : decode cX3_firstByteOf 0 = .ok (.iload_n 0, 1) := by decide +kernel
theorem dX3_firstByteOf_1 : decode cX3_firstByteOf 1 = .ok (.invokestatic 166, 3) := by decide +kernel
theorem dX3_firstByteOf_4 : decode cX3_firstByteOf 4 = .ok (.sipush 256, 3) := by decide +kernel
theorem dX3_firstByteOf_7 : decode cX3_firstByteOf 7 = .ok (.imul, 1) := by decide +kernel
theorem dX3_firstByteOf_8 : decode cX3_firstByteOf 8 = .ok (.ireturn, 1) := by decide +kernel
theorem dX3_trailerOf_0 : decode cX3_trailerOf 0 = .ok (.iload_n 0, 1) := by decide +kernel
theorem dX3_trailerOf_1 : decode cX3_trailerOf 1 = .ok (.ifCond .ne 7, 3) := by decide +kernel
theorem dX3_trailerOf_4 : decode cX3_trailerOf 4 = .ok (.iconst 4, 1) := by decide +kernel
theorem dX3_trailerOf_5 : decode cX3_trailerOf 5 = .ok (.goto 5, 3) := by decide +kernel
theorem dX3_trailerOf_8 : decode cX3_trailerOf 8 = .ok (.bipush 9, 2) := by decide +kernel
theorem dX3_trailerOf_10 : decode cX3_trailerOf 10 = .ok (.ireturn, 1) := by decide +kernel
theorem dX3_stopRunning_0 : decode cX3_stopRunning 0 = .ok (.aload_n 0, 1) := by decide +kernel
theorem dX3_stopRunning_1 : decode cX3_stopRunning 1 = .ok (.iconst 0, 1) := by decide +kernel
theorem dX3_stopRunning_2 : decode cX3_stopRunning 2 = .ok (.putfield 30, 3) := by decide +kernel
theorem dX3_stopRunning_5 : decode cX3_stopRunning 5 = .ok (.aload_n 0, 1) := by decide +kernel
theorem dX3_stopRunning_6 : decode cX3_stopRunning 6 = .ok (.iconst 0, 1) := by decide +kernel
theorem dX3_stopRunning_7 : decode cX3_stopRunning 7 = .ok (.putfield 34, 3) := by decide +kernel
theorem dX3_stopRunning_10 : decode cX3_stopRunning 10 = .ok (.return_, 1) := by decide +kernel
set_option maxRecDepth 20000 in
theorem ggX3_powerWent_X3_stopRunning : GoodIn wsX3_powerWent wsX3_stopRunning := goodIn_r _ [5, 6, 7, 8, 9, 10, 11, 12, 13, 14, 15] (by decide +kernel) (by decide +kernel)
set_option maxRecDepth 20000 in
theorem gX3_powerWent_X3_stopRunning : GoodIn wsX3_powerWent (wsV RX3 69 RX3 yX3_stopRunning wsX3_stopRunning) := goodIn_app (goodIn_of _ (by decide +kernel)) ggX3_powerWent_X3_stopRunning
theorem dX3_powerWent_0 : decode cX3_powerWent 0 = .ok (.aload_n 0, 1) := by decide +kernel
theorem dX3_powerWent_1 : decode cX3_powerWent 1 = .ok (.invokevirtual 69, 3) := by decide +kernel
theorem dX3_powerWent_4 : decode cX3_powerWent 4 = .ok (.bipush (-9), 2) := by decide +kernel
theorem dX3_powerWent_6 : decode cX3_powerWent 6 = .ok (.ireturn, 1) := by decide +kernel
set_option maxRecDepth 20000 in
theorem ggX3_lengthIn_X3_firstByteOf : GoodIn wsX3_lengthIn wsX3_firstByteOf := goodIn_r _ [5, 6, 7, 4, 8] (by decide +kernel) (by decide +kernel)
set_option maxRecDepth 20000 in
theorem gX3_lengthIn_X3_firstByteOf : GoodIn wsX3_lengthIn (va_wsS RX3 75 yX3_firstByteOf wsX3_firstByteOf) := goodIn_app (goodIn_of _ (by decide +kernel)) ggX3_lengthIn_X3_firstByteOf
set_option maxRecDepth 20000 in
theorem ggX3_lengthIn_X0_intAt : GoodIn wsX3_lengthIn wsX0_intAt := goodIn_r _ [12, 13, 14, 15, 10, 16, 17, 26, 27, 28, 29, 30, 31, 32, 33, 34] (by decide +kernel) (by decide +kernel)
set_option maxRecDepth 20000 in
theorem gX3_lengthIn_X0_intAt_n169 : GoodIn wsX3_lengthIn (wsX0_intAt) := ggX3_lengthIn_X0_intAt
theorem dX3_lengthIn_0 : decode cX3_lengthIn 0 = .ok (.aload_n 0, 1) := by decide +kernel
theorem dX3_lengthIn_1 : decode cX3_lengthIn 1 = .ok (.getfield 12, 3) := by decide +kernel
theorem dX3_lengthIn_4 : decode cX3_lengthIn 4 = .ok (.iload_n 1, 1) := by decide +kernel
theorem dX3_lengthIn_5 : decode cX3_lengthIn 5 = .ok (.invokestatic 75, 3) := by decide +kernel
theorem dX3_lengthIn_8 : decode cX3_lengthIn 8 = .ok (.invokevirtual 169, 3) := by decide +kernel
theorem dX3_lengthIn_11 : decode cX3_lengthIn 11 = .ok (.ireturn, 1) := by decide +kernel
set_option maxRecDepth 20000 in
theorem ggX3_versionIn_X3_firstByteOf : GoodIn wsX3_versionIn wsX3_firstByteOf := goodIn_r _ [5, 6, 7, 4, 8] (by decide +kernel) (by decide +kernel)
set_option maxRecDepth 20000 in
theorem gX3_versionIn_X3_firstByteOf : GoodIn wsX3_versionIn (va_wsS RX3 75 yX3_firstByteOf wsX3_firstByteOf) := goodIn_app (goodIn_of _ (by decide +kernel)) ggX3_versionIn_X3_firstByteOf
set_option maxRecDepth 20000 in
theorem ggX3_versionIn_X0_intAt : GoodIn wsX3_versionIn wsX0_intAt := goodIn_r _ [12, 13, 14, 15, 10, 16, 17, 26, 27, 28, 29, 30, 31, 32, 33, 34] (by decide +kernel) (by decide +kernel)
set_option maxRecDepth 20000 in
theorem gX3_versionIn_X0_intAt_n169 : GoodIn wsX3_versionIn (wsX0_intAt) := ggX3_versionIn_X0_intAt
theorem dX3_versionIn_0 : decode cX3_versionIn 0 = .ok (.aload_n 0, 1) := by decide +kernel
theorem dX3_versionIn_1 : decode cX3_versionIn 1 = .ok (.getfield 12, 3) := by decide +kernel
theorem dX3_versionIn_4 : decode cX3_versionIn 4 = .ok (.iload_n 1, 1) := by decide +kernel
theorem dX3_versionIn_5 : decode cX3_versionIn 5 = .ok (.invokestatic 75, 3) := by decide +kernel
theorem dX3_versionIn_8 : decode cX3_versionIn 8 = .ok (.iconst 4, 1) := by decide +kernel
theorem dX3_versionIn_9 : decode cX3_versionIn 9 = .ok (.iadd, 1) := by decide +kernel
theorem dX3_versionIn_10 : decode cX3_versionIn 10 = .ok (.invokevirtual 169, 3) := by decide +kernel
theorem dX3_versionIn_13 : decode cX3_versionIn 13 = .ok (.ireturn, 1) := by decide +kernel
set_option maxRecDepth 20000 in
theorem ggX3_isRight_X3_lengthIn : GoodIn wsX3_isRight wsX3_lengthIn := goodIn_r _ [7, 2, 8, 9, 6, 10, 11, 12, 13, 14, 15, 16, 17, 18, 19, 20, 21, 22, 51, 52, 53, 54, 55, 56, 57, 58, 59, 60, 61, 62, 63, 64, 65, 66, 67] (by decide +kernel) (by decide +kernel)
set_option maxRecDepth 20000 in
theorem gX3_isRight_X3_lengthIn : GoodIn wsX3_isRight (wsV RX3 134 RX3 yX3_lengthIn wsX3_lengthIn) := goodIn_app (goodIn_of _ (by decide +kernel)) ggX3_isRight_X3_lengthIn
set_option maxRecDepth 20000 in
theorem ggX3_isRight_X3_firstByteOf : GoodIn wsX3_isRight wsX3_firstByteOf := goodIn_r _ [10, 11, 12, 6, 13] (by decide +kernel) (by decide +kernel)
set_option maxRecDepth 20000 in
theorem gX3_isRight_X3_firstByteOf : GoodIn wsX3_isRight (va_wsS RX3 75 yX3_firstByteOf wsX3_firstByteOf) := goodIn_app (goodIn_of _ (by decide +kernel)) ggX3_isRight_X3_firstByteOf
set_option maxRecDepth 20000 in
theorem ggX3_isRight_X1_digest : GoodIn wsX3_isRight wsX1_digest := goodIn_r _ [26, 27, 28, 29, 30, 31, 24, 32, 33, 34, 35, 36, 37, 38, 39, 40, 41, 42, 43, 44, 45, 46, 47, 68, 69] (by decide +kernel) (by decide +kernel)
set_option maxRecDepth 20000 in
theorem gX3_isRight_X1_digest_n173 : GoodIn wsX3_isRight (wsX1_digest) := ggX3_isRight_X1_digest
set_option maxRecDepth 20000 in
theorem ggX3_isRight_X0_byteAt : GoodIn wsX3_isRight wsX0_byteAt := goodIn_r _ [21, 22, 59, 60, 61, 62, 63, 64, 65, 66, 67] (by decide +kernel) (by decide +kernel)
set_option maxRecDepth 20000 in
theorem gX3_isRight_X0_byteAt_n131 : GoodIn wsX3_isRight (wsX0_byteAt) := ggX3_isRight_X0_byteAt
set_option maxRecDepth 20000 in
theorem ggX3_isRight_X1_digestByte : GoodIn wsX3_isRight wsX1_digestByte := goodIn_r _ [50, 27, 68, 69] (by decide +kernel) (by decide +kernel)
set_option maxRecDepth 20000 in
theorem gX3_isRight_X1_digestByte_n177 : GoodIn wsX3_isRight (wsX1_digestByte) := ggX3_isRight_X1_digestByte
theorem dX3_isRight_0 : decode cX3_isRight 0 = .ok (.aload_n 0, 1) := by decide +kernel
theorem dX3_isRight_1 : decode cX3_isRight 1 = .ok (.iload_n 1, 1) := by decide +kernel
theorem dX3_isRight_2 : decode cX3_isRight 2 = .ok (.invokevirtual 134, 3) := by decide +kernel
theorem dX3_isRight_5 : decode cX3_isRight 5 = .ok (.istore_n 2, 1) := by decide +kernel
theorem dX3_isRight_6 : decode cX3_isRight 6 = .ok (.iload_n 2, 1) := by decide +kernel
theorem dX3_isRight_7 : decode cX3_isRight 7 = .ok (.ifCond .lt 10, 3) := by decide +kernel
theorem dX3_isRight_10 : decode cX3_isRight 10 = .ok (.iload_n 2, 1) := by decide +kernel
theorem dX3_isRight_11 : decode cX3_isRight 11 = .ok (.sipush 984, 3) := by decide +kernel
theorem dX3_isRight_14 : decode cX3_isRight 14 = .ok (.if_icmp .le 5, 3) := by decide +kernel
theorem dX3_isRight_17 : decode cX3_isRight 17 = .ok (.iconst 0, 1) := by decide +kernel
theorem dX3_isRight_18 : decode cX3_isRight 18 = .ok (.ireturn, 1) := by decide +kernel
theorem dX3_isRight_19 : decode cX3_isRight 19 = .ok (.iload_n 1, 1) := by decide +kernel
theorem dX3_isRight_20 : decode cX3_isRight 20 = .ok (.invokestatic 75, 3) := by decide +kernel
theorem dX3_isRight_23 : decode cX3_isRight 23 = .ok (.istore_n 3, 1) := by decide +kernel
theorem dX3_isRight_24 : decode cX3_isRight 24 = .ok (.bipush 8, 2) := by decide +kernel
theorem dX3_isRight_26 : decode cX3_isRight 26 = .ok (.iload_n 2, 1) := by decide +kernel
theorem dX3_isRight_27 : decode cX3_isRight 27 = .ok (.iadd, 1) := by decide +kernel
theorem dX3_isRight_28 : decode cX3_isRight 28 = .ok (.istore 4, 2) := by decide +kernel
theorem dX3_isRight_30 : decode cX3_isRight 30 = .ok (.aload_n 0, 1) := by decide +kernel
theorem dX3_isRight_31 : decode cX3_isRight 31 = .ok (.getfield 26, 3) := by decide +kernel
theorem dX3_isRight_34 : decode cX3_isRight 34 = .ok (.aload_n 0, 1) := by decide +kernel
theorem dX3_isRight_35 : decode cX3_isRight 35 = .ok (.getfield 12, 3) := by decide +kernel
theorem dX3_isRight_38 : decode cX3_isRight 38 = .ok (.getfield 172, 3) := by decide +kernel
theorem dX3_isRight_41 : decode cX3_isRight 41 = .ok (.iload_n 3, 1) := by decide +kernel
theorem dX3_isRight_42 : decode cX3_isRight 42 = .ok (.iload 4, 2) := by decide +kernel
theorem dX3_isRight_44 : decode cX3_isRight 44 = .ok (.invokevirtual 173, 3) := by decide +kernel
theorem dX3_isRight_47 : decode cX3_isRight 47 = .ok (.iconst 0, 1) := by decide +kernel
theorem dX3_isRight_48 : decode cX3_isRight 48 = .ok (.istore 5, 2) := by decide +kernel
theorem dX3_isRight_50 : decode cX3_isRight 50 = .ok (.iload 5, 2) := by decide +kernel
theorem dX3_isRight_52 : decode cX3_isRight 52 = .ok (.bipush 32, 2) := by decide +kernel
theorem dX3_isRight_54 : decode cX3_isRight 54 = .ok (.if_icmp .ge 37, 3) := by decide +kernel
theorem dX3_isRight_57 : decode cX3_isRight 57 = .ok (.aload_n 0, 1) := by decide +kernel
theorem dX3_isRight_58 : decode cX3_isRight 58 = .ok (.getfield 12, 3) := by decide +kernel
theorem dX3_isRight_61 : decode cX3_isRight 61 = .ok (.iload_n 3, 1) := by decide +kernel
theorem dX3_isRight_62 : decode cX3_isRight 62 = .ok (.iload 4, 2) := by decide +kernel
theorem dX3_isRight_64 : decode cX3_isRight 64 = .ok (.iadd, 1) := by decide +kernel
theorem dX3_isRight_65 : decode cX3_isRight 65 = .ok (.iload 5, 2) := by decide +kernel
theorem dX3_isRight_67 : decode cX3_isRight 67 = .ok (.iadd, 1) := by decide +kernel
theorem dX3_isRight_68 : decode cX3_isRight 68 = .ok (.invokevirtual 131, 3) := by decide +kernel
theorem dX3_isRight_71 : decode cX3_isRight 71 = .ok (.aload_n 0, 1) := by decide +kernel
theorem dX3_isRight_72 : decode cX3_isRight 72 = .ok (.getfield 26, 3) := by decide +kernel
theorem dX3_isRight_75 : decode cX3_isRight 75 = .ok (.iload 5, 2) := by decide +kernel
theorem dX3_isRight_77 : decode cX3_isRight 77 = .ok (.invokevirtual 177, 3) := by decide +kernel
theorem dX3_isRight_80 : decode cX3_isRight 80 = .ok (.if_icmp .eq 5, 3) := by decide +kernel
theorem dX3_isRight_83 : decode cX3_isRight 83 = .ok (.iconst 0, 1) := by decide +kernel
theorem dX3_isRight_84 : decode cX3_isRight 84 = .ok (.ireturn, 1) := by decide +kernel
theorem dX3_isRight_85 : decode cX3_isRight 85 = .ok (.iinc 5 1, 3) := by decide +kernel
theorem dX3_isRight_88 : decode cX3_isRight 88 = .ok (.goto (-38), 3) := by decide +kernel
theorem dX3_isRight_91 : decode cX3_isRight 91 = .ok (.iconst 1, 1) := by decide +kernel
theorem dX3_isRight_92 : decode cX3_isRight 92 = .ok (.ireturn, 1) := by decide +kernel
set_option maxRecDepth 20000 in
theorem ggX3_isMarked_X0_markIn : GoodIn wsX3_isMarked wsX0_markIn := goodIn_r _ [5, 6, 7, 3, 8, 9, 10, 11, 12, 13, 22, 23, 24, 25, 26, 27, 28, 29, 30] (by decide +kernel) (by decide +kernel)
set_option maxRecDepth 20000 in
theorem gX3_isMarked_X0_markIn_n144 : GoodIn wsX3_isMarked (wsX0_markIn) := ggX3_isMarked_X0_markIn
theorem dX3_isMarked_0 : decode cX3_isMarked 0 = .ok (.aload_n 0, 1) := by decide +kernel
theorem dX3_isMarked_1 : decode cX3_isMarked 1 = .ok (.getfield 12, 3) := by decide +kernel
theorem dX3_isMarked_4 : decode cX3_isMarked 4 = .ok (.iload_n 1, 1) := by decide +kernel
theorem dX3_isMarked_5 : decode cX3_isMarked 5 = .ok (.iload_n 2, 1) := by decide +kernel
theorem dX3_isMarked_6 : decode cX3_isMarked 6 = .ok (.invokevirtual 144, 3) := by decide +kernel
theorem dX3_isMarked_9 : decode cX3_isMarked 9 = .ok (.iconst 1, 1) := by decide +kernel
theorem dX3_isMarked_10 : decode cX3_isMarked 10 = .ok (.if_icmp .ne 7, 3) := by decide +kernel
theorem dX3_isMarked_13 : decode cX3_isMarked 13 = .ok (.iconst 1, 1) := by decide +kernel
theorem dX3_isMarked_14 : decode cX3_isMarked 14 = .ok (.goto 4, 3) := by decide +kernel
theorem dX3_isMarked_17 : decode cX3_isMarked 17 = .ok (.iconst 0, 1) := by decide +kernel
theorem dX3_isMarked_18 : decode cX3_isMarked 18 = .ok (.ireturn, 1) := by decide +kernel
set_option maxRecDepth 20000 in
theorem ggX3_writeMagic_X0_unitAt : GoodIn wsX3_writeMagic wsX0_unitAt := goodIn_r _ [5] (by decide +kernel) (by decide +kernel)
set_option maxRecDepth 20000 in
theorem gX3_writeMagic_X0_unitAt_n180 : GoodIn wsX3_writeMagic (wsX0_unitAt) := ggX3_writeMagic_X0_unitAt
set_option maxRecDepth 20000 in
theorem ggX3_writeMagic_X0_writeRow : GoodIn wsX3_writeMagic wsX0_writeRow := goodIn_r _ [8, 9, 10, 11, 4, 12, 13, 14, 15, 16, 17, 18, 19, 20, 21, 22, 23, 24, 25, 26, 27, 28, 29, 30, 31, 40, 41, 42, 43, 44, 45, 46, 47, 48] (by decide +kernel) (by decide +kernel)
set_option maxRecDepth 20000 in
theorem gX3_writeMagic_X0_writeRow_n83 : GoodIn wsX3_writeMagic (wsX0_writeRow) := ggX3_writeMagic_X0_writeRow
theorem dX3_writeMagic_0 : decode cX3_writeMagic 0 = .ok (.aload_n 0, 1) := by decide +kernel
theorem dX3_writeMagic_1 : decode cX3_writeMagic 1 = .ok (.getfield 12, 3) := by decide +kernel
theorem dX3_writeMagic_4 : decode cX3_writeMagic 4 = .ok (.iload_n 1, 1) := by decide +kernel
theorem dX3_writeMagic_5 : decode cX3_writeMagic 5 = .ok (.iconst 0, 1) := by decide +kernel
theorem dX3_writeMagic_6 : decode cX3_writeMagic 6 = .ok (.invokestatic 180, 3) := by decide +kernel
theorem dX3_writeMagic_9 : decode cX3_writeMagic 9 = .ok (.getstatic 183, 3) := by decide +kernel
theorem dX3_writeMagic_12 : decode cX3_writeMagic 12 = .ok (.bipush 8, 2) := by decide +kernel
theorem dX3_writeMagic_14 : decode cX3_writeMagic 14 = .ok (.invokevirtual 83, 3) := by decide +kernel
theorem dX3_writeMagic_17 : decode cX3_writeMagic 17 = .ok (.ireturn, 1) := by decide +kernel
set_option maxRecDepth 20000 in
theorem ggX3_stepsSet_X3_isMarked : GoodIn wsX3_stepsSet wsX3_isMarked := goodIn_r _ [5, 6, 7, 8, 9, 10, 11, 12, 13, 14, 15, 16, 17, 18, 19, 20, 21, 22, 23, 24, 25, 26, 27, 28, 29, 30, 31, 32, 33, 34, 35] (by decide +kernel) (by decide +kernel)
set_option maxRecDepth 20000 in
theorem gX3_stepsSet_X3_isMarked : GoodIn wsX3_stepsSet (wsV RX3 98 RX3 yX3_isMarked wsX3_isMarked) := goodIn_app (goodIn_of _ (by decide +kernel)) ggX3_stepsSet_X3_isMarked
theorem dX3_stepsSet_0 : decode cX3_stepsSet 0 = .ok (.iconst 0, 1) := by decide +kernel
theorem dX3_stepsSet_1 : decode cX3_stepsSet 1 = .ok (.istore_n 2, 1) := by decide +kernel
theorem dX3_stepsSet_2 : decode cX3_stepsSet 2 = .ok (.iconst 0, 1) := by decide +kernel
theorem dX3_stepsSet_3 : decode cX3_stepsSet 3 = .ok (.istore_n 3, 1) := by decide +kernel
theorem dX3_stepsSet_4 : decode cX3_stepsSet 4 = .ok (.iload_n 3, 1) := by decide +kernel
theorem dX3_stepsSet_5 : decode cX3_stepsSet 5 = .ok (.bipush 12, 2) := by decide +kernel
theorem dX3_stepsSet_7 : decode cX3_stepsSet 7 = .ok (.if_icmp .ge 23, 3) := by decide +kernel
theorem dX3_stepsSet_10 : decode cX3_stepsSet 10 = .ok (.aload_n 0, 1) := by decide +kernel
theorem dX3_stepsSet_11 : decode cX3_stepsSet 11 = .ok (.iload_n 1, 1) := by decide +kernel
theorem dX3_stepsSet_12 : decode cX3_stepsSet 12 = .ok (.iconst 4, 1) := by decide +kernel
theorem dX3_stepsSet_13 : decode cX3_stepsSet 13 = .ok (.iload_n 3, 1) := by decide +kernel
theorem dX3_stepsSet_14 : decode cX3_stepsSet 14 = .ok (.iadd, 1) := by decide +kernel
theorem dX3_stepsSet_15 : decode cX3_stepsSet 15 = .ok (.invokevirtual 98, 3) := by decide +kernel
theorem dX3_stepsSet_18 : decode cX3_stepsSet 18 = .ok (.ifCond .eq 6, 3) := by decide +kernel
theorem dX3_stepsSet_21 : decode cX3_stepsSet 21 = .ok (.iinc 2 1, 3) := by decide +kernel
theorem dX3_stepsSet_24 : decode cX3_stepsSet 24 = .ok (.iinc 3 1, 3) := by decide +kernel
theorem dX3_stepsSet_27 : decode cX3_stepsSet 27 = .ok (.goto (-23), 3) := by decide +kernel
theorem dX3_stepsSet_30 : decode cX3_stepsSet 30 = .ok (.iload_n 2, 1) := by decide +kernel
theorem dX3_stepsSet_31 : decode cX3_stepsSet 31 = .ok (.ireturn, 1) := by decide +kernel
set_option maxRecDepth 20000 in
theorem ggX3_isUnderWay_X0_markIn : GoodIn wsX3_isUnderWay wsX0_markIn := goodIn_r _ [5, 6, 7, 3, 8, 9, 10, 11, 12, 13, 27, 28, 29, 30, 31, 32, 33, 34, 35] (by decide +kernel) (by decide +kernel)
set_option maxRecDepth 20000 in
theorem gX3_isUnderWay_X0_markIn_n144 : GoodIn wsX3_isUnderWay (wsX0_markIn) := ggX3_isUnderWay_X0_markIn
set_option maxRecDepth 20000 in
theorem ggX3_isUnderWay_X3_isMarked : GoodIn wsX3_isUnderWay wsX3_isMarked := goodIn_r _ [18, 1, 2, 3, 4, 5, 6, 7, 8, 9, 10, 11, 12, 13, 19, 20, 21, 22, 23, 24, 25, 26, 27, 28, 29, 30, 31, 32, 33, 34, 35] (by decide +kernel) (by decide +kernel)
set_option maxRecDepth 20000 in
theorem gX3_isUnderWay_X3_isMarked : GoodIn wsX3_isUnderWay (wsV RX3 98 RX3 yX3_isMarked wsX3_isMarked) := goodIn_app (goodIn_of _ (by decide +kernel)) ggX3_isUnderWay_X3_isMarked
theorem dX3_isUnderWay_0 : decode cX3_isUnderWay 0 = .ok (.aload_n 0, 1) := by decide +kernel
theorem dX3_isUnderWay_1 : decode cX3_isUnderWay 1 = .ok (.getfield 12, 3) := by decide +kernel
theorem dX3_isUnderWay_4 : decode cX3_isUnderWay 4 = .ok (.iconst 4, 1) := by decide +kernel
theorem dX3_isUnderWay_5 : decode cX3_isUnderWay 5 = .ok (.iconst 1, 1) := by decide +kernel
theorem dX3_isUnderWay_6 : decode cX3_isUnderWay 6 = .ok (.invokevirtual 144, 3) := by decide +kernel
theorem dX3_isUnderWay_9 : decode cX3_isUnderWay 9 = .ok (.ifCond .eq 16, 3) := by decide +kernel
theorem dX3_isUnderWay_12 : decode cX3_isUnderWay 12 = .ok (.aload_n 0, 1) := by decide +kernel
theorem dX3_isUnderWay_13 : decode cX3_isUnderWay 13 = .ok (.iconst 4, 1) := by decide +kernel
theorem dX3_isUnderWay_14 : decode cX3_isUnderWay 14 = .ok (.iconst 2, 1) := by decide +kernel
theorem dX3_isUnderWay_15 : decode cX3_isUnderWay 15 = .ok (.invokevirtual 98, 3) := by decide +kernel
theorem dX3_isUnderWay_18 : decode cX3_isUnderWay 18 = .ok (.ifCond .ne 7, 3) := by decide +kernel
theorem dX3_isUnderWay_21 : decode cX3_isUnderWay 21 = .ok (.iconst 1, 1) := by decide +kernel
theorem dX3_isUnderWay_22 : decode cX3_isUnderWay 22 = .ok (.goto 4, 3) := by decide +kernel
theorem dX3_isUnderWay_25 : decode cX3_isUnderWay 25 = .ok (.iconst 0, 1) := by decide +kernel
theorem dX3_isUnderWay_26 : decode cX3_isUnderWay 26 = .ok (.ireturn, 1) := by decide +kernel
set_option maxRecDepth 20000 in
theorem ggX3_findDue_X3_isUnderWay : GoodIn wsX3_findDue wsX3_isUnderWay := goodIn_r _ [5, 6, 7, 8, 9, 10, 11, 12, 13, 14, 15, 16, 17, 18, 19, 20, 21, 4, 22, 80, 81, 82, 83, 84, 85, 86, 87, 88, 89, 90, 91, 92, 93, 94, 95, 96] (by decide +kernel) (by decide +kernel)
set_option maxRecDepth 20000 in
theorem gX3_findDue_X3_isUnderWay : GoodIn wsX3_findDue (wsV RX3 65 RX3 yX3_isUnderWay wsX3_isUnderWay) := goodIn_app (goodIn_of _ (by decide +kernel)) ggX3_findDue_X3_isUnderWay
set_option maxRecDepth 20000 in
theorem ggX3_findDue_X3_kindAskedFor : GoodIn wsX3_findDue wsX3_kindAskedFor := goodIn_r _ [26, 6, 7, 8, 9, 10, 11, 12, 13, 14, 15, 16, 17, 18, 27, 28, 29, 19, 20, 21, 4, 22, 80, 81, 82, 83, 84, 85, 86, 87, 88, 89, 90, 91, 92, 93, 94, 95, 96] (by decide +kernel) (by decide +kernel)
set_option maxRecDepth 20000 in
theorem gX3_findDue_X3_kindAskedFor : GoodIn wsX3_findDue (wsV RX3 186 RX3 yX3_kindAskedFor wsX3_kindAskedFor) := goodIn_app (goodIn_of _ (by decide +kernel)) ggX3_findDue_X3_kindAskedFor
set_option maxRecDepth 20000 in
theorem ggX3_findDue_X3_isRight : GoodIn wsX3_findDue wsX3_isRight := goodIn_r _ [33, 34, 6, 35, 36, 37, 4, 38, 39, 40, 41, 42, 43, 44, 45, 8, 46, 47, 14, 15, 16, 17, 18, 48, 49, 50, 51, 52, 53, 54, 55, 56, 57, 58, 59, 60, 61, 62, 63, 64, 65, 66, 67, 68, 69, 70, 71, 72, 73, 74, 75, 80, 81, 82, 83, 84, 85, 86, 87, 88, 89, 90, 91, 92, 93, 94, 95, 96, 97, 98] (by decide +kernel) (by decide +kernel)
set_option maxRecDepth 20000 in
theorem gX3_findDue_X3_isRight : GoodIn wsX3_findDue (wsV RX3 111 RX3 yX3_isRight wsX3_isRight) := goodIn_app (goodIn_of _ (by decide +kernel)) ggX3_findDue_X3_isRight
set_option maxRecDepth 20000 in
theorem ggX3_findDue_X3_isTrialUnconfirmed : GoodIn wsX3_findDue wsX3_isTrialUnconfirmed := goodIn_r _ [79, 6, 27, 8, 28, 29, 11, 12, 13, 14, 15, 16, 17, 18, 7, 9, 10, 19, 20, 21, 4, 22, 80, 81, 82, 83, 84, 85, 86, 87, 88, 89, 90, 91, 92, 93, 94, 95, 96] (by decide +kernel) (by decide +kernel)
set_option maxRecDepth 20000 in
theorem gX3_findDue_X3_isTrialUnconfirmed : GoodIn wsX3_findDue (wsV RX3 189 RX3 yX3_isTrialUnconfirmed wsX3_isTrialUnconfirmed) := goodIn_app (goodIn_of _ (by decide +kernel)) ggX3_findDue_X3_isTrialUnconfirmed
theorem dX3_findDue_0 : decode cX3_findDue 0 = .ok (.aload_n 0, 1) := by decide +kernel
theorem dX3_findDue_1 : decode cX3_findDue 1 = .ok (.invokevirtual 65, 3) := by decide +kernel
theorem dX3_findDue_4 : decode cX3_findDue 4 = .ok (.ifCond .eq 5, 3) := by decide +kernel
theorem dX3_findDue_7 : decode cX3_findDue 7 = .ok (.iconst 5, 1) := by decide +kernel
theorem dX3_findDue_8 : decode cX3_findDue 8 = .ok (.ireturn, 1) := by decide +kernel
theorem dX3_findDue_9 : decode cX3_findDue 9 = .ok (.aload_n 0, 1) := by decide +kernel
theorem dX3_findDue_10 : decode cX3_findDue 10 = .ok (.invokevirtual 186, 3) := by decide +kernel
theorem dX3_findDue_13 : decode cX3_findDue 13 = .ok (.istore_n 1, 1) := by decide +kernel
theorem dX3_findDue_14 : decode cX3_findDue 14 = .ok (.iload_n 1, 1) := by decide +kernel
theorem dX3_findDue_15 : decode cX3_findDue 15 = .ok (.iconst 3, 1) := by decide +kernel
theorem dX3_findDue_16 : decode cX3_findDue 16 = .ok (.if_icmp .ne 5, 3) := by decide +kernel
theorem dX3_findDue_19 : decode cX3_findDue 19 = .ok (.iconst 3, 1) := by decide +kernel
theorem dX3_findDue_20 : decode cX3_findDue 20 = .ok (.ireturn, 1) := by decide +kernel
theorem dX3_findDue_21 : decode cX3_findDue 21 = .ok (.iload_n 1, 1) := by decide +kernel
theorem dX3_findDue_22 : decode cX3_findDue 22 = .ok (.ifCond .eq 17, 3) := by decide +kernel
theorem dX3_findDue_25 : decode cX3_findDue 25 = .ok (.aload_n 0, 1) := by decide +kernel
theorem dX3_findDue_26 : decode cX3_findDue 26 = .ok (.iconst 1, 1) := by decide +kernel
theorem dX3_findDue_27 : decode cX3_findDue 27 = .ok (.invokevirtual 111, 3) := by decide +kernel
theorem dX3_findDue_30 : decode cX3_findDue 30 = .ok (.ifCond .eq 7, 3) := by decide +kernel
theorem dX3_findDue_33 : decode cX3_findDue 33 = .ok (.iload_n 1, 1) := by decide +kernel
theorem dX3_findDue_34 : decode cX3_findDue 34 = .ok (.goto 4, 3) := by decide +kernel
theorem dX3_findDue_37 : decode cX3_findDue 37 = .ok (.iconst 4, 1) := by decide +kernel
theorem dX3_findDue_38 : decode cX3_findDue 38 = .ok (.ireturn, 1) := by decide +kernel
theorem dX3_findDue_39 : decode cX3_findDue 39 = .ok (.aload_n 0, 1) := by decide +kernel
theorem dX3_findDue_40 : decode cX3_findDue 40 = .ok (.invokevirtual 189, 3) := by decide +kernel
theorem dX3_findDue_43 : decode cX3_findDue 43 = .ok (.ifCond .eq 7, 3) := by decide +kernel
theorem dX3_findDue_46 : decode cX3_findDue 46 = .ok (.iconst 3, 1) := by decide +kernel
theorem dX3_findDue_47 : decode cX3_findDue 47 = .ok (.goto 4, 3) := by decide +kernel
theorem dX3_findDue_50 : decode cX3_findDue 50 = .ok (.iconst 0, 1) := by decide +kernel
theorem dX3_findDue_51 : decode cX3_findDue 51 = .ok (.ireturn, 1) := by decide +kernel
set_option maxRecDepth 20000 in
theorem ggX3_kindAskedFor_X0_markIn : GoodIn wsX3_kindAskedFor wsX0_markIn := goodIn_r _ [5, 6, 7, 3, 8, 9, 10, 11, 12, 13, 30, 31, 32, 33, 34, 35, 36, 37, 38] (by decide +kernel) (by decide +kernel)
set_option maxRecDepth 20000 in
theorem gX3_kindAskedFor_X0_markIn_n144 : GoodIn wsX3_kindAskedFor (wsX0_markIn) := ggX3_kindAskedFor_X0_markIn
set_option maxRecDepth 20000 in
theorem ggX3_kindAskedFor_X0_hasMagic : GoodIn wsX3_kindAskedFor wsX0_hasMagic := goodIn_r _ [16, 6, 7, 3, 8, 9, 10, 11, 12, 13, 30, 31, 32, 33, 34, 35, 36, 37, 38] (by decide +kernel) (by decide +kernel)
set_option maxRecDepth 20000 in
theorem gX3_kindAskedFor_X0_hasMagic_n102 : GoodIn wsX3_kindAskedFor (wsX0_hasMagic) := ggX3_kindAskedFor_X0_hasMagic
set_option maxRecDepth 20000 in
theorem ggX3_kindAskedFor_X3_isMarked : GoodIn wsX3_kindAskedFor wsX3_isMarked := goodIn_r _ [21, 1, 2, 3, 4, 5, 6, 7, 8, 9, 10, 11, 12, 13, 22, 23, 24, 25, 26, 27, 28, 29, 30, 31, 32, 33, 34, 35, 36, 37, 38] (by decide +kernel) (by decide +kernel)
set_option maxRecDepth 20000 in
theorem gX3_kindAskedFor_X3_isMarked : GoodIn wsX3_kindAskedFor (wsV RX3 98 RX3 yX3_isMarked wsX3_isMarked) := goodIn_app (goodIn_of _ (by decide +kernel)) ggX3_kindAskedFor_X3_isMarked
theorem dX3_kindAskedFor_0 : decode cX3_kindAskedFor 0 = .ok (.aload_n 0, 1) := by decide +kernel
theorem dX3_kindAskedFor_1 : decode cX3_kindAskedFor 1 = .ok (.getfield 12, 3) := by decide +kernel
theorem dX3_kindAskedFor_4 : decode cX3_kindAskedFor 4 = .ok (.bipush 9, 2) := by decide +kernel
theorem dX3_kindAskedFor_6 : decode cX3_kindAskedFor 6 = .ok (.iconst 1, 1) := by decide +kernel
theorem dX3_kindAskedFor_7 : decode cX3_kindAskedFor 7 = .ok (.invokevirtual 144, 3) := by decide +kernel
theorem dX3_kindAskedFor_10 : decode cX3_kindAskedFor 10 = .ok (.istore_n 1, 1) := by decide +kernel
theorem dX3_kindAskedFor_11 : decode cX3_kindAskedFor 11 = .ok (.iload_n 1, 1) := by decide +kernel
theorem dX3_kindAskedFor_12 : decode cX3_kindAskedFor 12 = .ok (.ifCond .eq 5, 3) := by decide +kernel
theorem dX3_kindAskedFor_15 : decode cX3_kindAskedFor 15 = .ok (.iload_n 1, 1) := by decide +kernel
theorem dX3_kindAskedFor_16 : decode cX3_kindAskedFor 16 = .ok (.ireturn, 1) := by decide +kernel
theorem dX3_kindAskedFor_17 : decode cX3_kindAskedFor 17 = .ok (.aload_n 0, 1) := by decide +kernel
theorem dX3_kindAskedFor_18 : decode cX3_kindAskedFor 18 = .ok (.getfield 12, 3) := by decide +kernel
theorem dX3_kindAskedFor_21 : decode cX3_kindAskedFor 21 = .ok (.bipush 9, 2) := by decide +kernel
theorem dX3_kindAskedFor_23 : decode cX3_kindAskedFor 23 = .ok (.invokevirtual 102, 3) := by decide +kernel
theorem dX3_kindAskedFor_26 : decode cX3_kindAskedFor 26 = .ok (.ifCond .ne 5, 3) := by decide +kernel
theorem dX3_kindAskedFor_29 : decode cX3_kindAskedFor 29 = .ok (.iconst 0, 1) := by decide +kernel
theorem dX3_kindAskedFor_30 : decode cX3_kindAskedFor 30 = .ok (.ireturn, 1) := by decide +kernel
theorem dX3_kindAskedFor_31 : decode cX3_kindAskedFor 31 = .ok (.aload_n 0, 1) := by decide +kernel
theorem dX3_kindAskedFor_32 : decode cX3_kindAskedFor 32 = .ok (.bipush 9, 2) := by decide +kernel
theorem dX3_kindAskedFor_34 : decode cX3_kindAskedFor 34 = .ok (.iconst 3, 1) := by decide +kernel
theorem dX3_kindAskedFor_35 : decode cX3_kindAskedFor 35 = .ok (.invokevirtual 98, 3) := by decide +kernel
theorem dX3_kindAskedFor_38 : decode cX3_kindAskedFor 38 = .ok (.ifCond .eq 7, 3) := by decide +kernel
theorem dX3_kindAskedFor_41 : decode cX3_kindAskedFor 41 = .ok (.iconst 2, 1) := by decide +kernel
theorem dX3_kindAskedFor_42 : decode cX3_kindAskedFor 42 = .ok (.goto 4, 3) := by decide +kernel
theorem dX3_kindAskedFor_45 : decode cX3_kindAskedFor 45 = .ok (.iconst 1, 1) := by decide +kernel
theorem dX3_kindAskedFor_46 : decode cX3_kindAskedFor 46 = .ok (.ireturn, 1) := by decide +kernel
set_option maxRecDepth 20000 in
theorem ggX3_isTrialUnconfirmed_X0_hasMagic : GoodIn wsX3_isTrialUnconfirmed wsX0_hasMagic := goodIn_r _ [5, 6, 7, 3, 8, 9, 10, 11, 12, 13, 30, 31, 32, 33, 34, 35, 36, 37, 38] (by decide +kernel) (by decide +kernel)
set_option maxRecDepth 20000 in
theorem gX3_isTrialUnconfirmed_X0_hasMagic_n102 : GoodIn wsX3_isTrialUnconfirmed (wsX0_hasMagic) := ggX3_isTrialUnconfirmed_X0_hasMagic
set_option maxRecDepth 20000 in
theorem ggX3_isTrialUnconfirmed_X0_markIn : GoodIn wsX3_isTrialUnconfirmed wsX0_markIn := goodIn_r _ [16, 6, 7, 3, 8, 9, 10, 11, 12, 13, 30, 31, 32, 33, 34, 35, 36, 37, 38] (by decide +kernel) (by decide +kernel)
set_option maxRecDepth 20000 in
theorem gX3_isTrialUnconfirmed_X0_markIn_n144 : GoodIn wsX3_isTrialUnconfirmed (wsX0_markIn) := ggX3_isTrialUnconfirmed_X0_markIn
set_option maxRecDepth 20000 in
theorem ggX3_isTrialUnconfirmed_X3_isMarked : GoodIn wsX3_isTrialUnconfirmed wsX3_isMarked := goodIn_r _ [21, 1, 14, 3, 15, 16, 6, 7, 8, 9, 10, 11, 12, 13, 22, 23, 24, 25, 26, 27, 28, 29, 30, 31, 32, 33, 34, 35, 36, 37, 38] (by decide +kernel) (by decide +kernel)
set_option maxRecDepth 20000 in
theorem gX3_isTrialUnconfirmed_X3_isMarked : GoodIn wsX3_isTrialUnconfirmed (wsV RX3 98 RX3 yX3_isMarked wsX3_isMarked) := goodIn_app (goodIn_of _ (by decide +kernel)) ggX3_isTrialUnconfirmed_X3_isMarked
theorem dX3_isTrialUnconfirmed_0 : decode cX3_isTrialUnconfirmed 0 = .ok (.aload_n 0, 1) := by decide +kernel
theorem dX3_isTrialUnconfirmed_1 : decode cX3_isTrialUnconfirmed 1 = .ok (.getfield 12, 3) := by decide +kernel
theorem dX3_isTrialUnconfirmed_4 : decode cX3_isTrialUnconfirmed 4 = .ok (.iconst 4, 1) := by decide +kernel
theorem dX3_isTrialUnconfirmed_5 : decode cX3_isTrialUnconfirmed 5 = .ok (.invokevirtual 102, 3) := by decide +kernel
theorem dX3_isTrialUnconfirmed_8 : decode cX3_isTrialUnconfirmed 8 = .ok (.ifCond .eq 38, 3) := by decide +kernel
theorem dX3_isTrialUnconfirmed_11 : decode cX3_isTrialUnconfirmed 11 = .ok (.aload_n 0, 1) := by decide +kernel
theorem dX3_isTrialUnconfirmed_12 : decode cX3_isTrialUnconfirmed 12 = .ok (.getfield 12, 3) := by decide +kernel
theorem dX3_isTrialUnconfirmed_15 : decode cX3_isTrialUnconfirmed 15 = .ok (.iconst 4, 1) := by decide +kernel
theorem dX3_isTrialUnconfirmed_16 : decode cX3_isTrialUnconfirmed 16 = .ok (.iconst 1, 1) := by decide +kernel
theorem dX3_isTrialUnconfirmed_17 : decode cX3_isTrialUnconfirmed 17 = .ok (.invokevirtual 144, 3) := by decide +kernel
theorem dX3_isTrialUnconfirmed_20 : decode cX3_isTrialUnconfirmed 20 = .ok (.iconst 1, 1) := by decide +kernel
theorem dX3_isTrialUnconfirmed_21 : decode cX3_isTrialUnconfirmed 21 = .ok (.if_icmp .ne 25, 3) := by decide +kernel
theorem dX3_isTrialUnconfirmed_24 : decode cX3_isTrialUnconfirmed 24 = .ok (.aload_n 0, 1) := by decide +kernel
theorem dX3_isTrialUnconfirmed_25 : decode cX3_isTrialUnconfirmed 25 = .ok (.iconst 4, 1) := by decide +kernel
theorem dX3_isTrialUnconfirmed_26 : decode cX3_isTrialUnconfirmed 26 = .ok (.iconst 2, 1) := by decide +kernel
theorem dX3_isTrialUnconfirmed_27 : decode cX3_isTrialUnconfirmed 27 = .ok (.invokevirtual 98, 3) := by decide +kernel
theorem dX3_isTrialUnconfirmed_30 : decode cX3_isTrialUnconfirmed 30 = .ok (.ifCond .eq 16, 3) := by decide +kernel
theorem dX3_isTrialUnconfirmed_33 : decode cX3_isTrialUnconfirmed 33 = .ok (.aload_n 0, 1) := by decide +kernel
theorem dX3_isTrialUnconfirmed_34 : decode cX3_isTrialUnconfirmed 34 = .ok (.iconst 4, 1) := by decide +kernel
theorem dX3_isTrialUnconfirmed_35 : decode cX3_isTrialUnconfirmed 35 = .ok (.iconst 3, 1) := by decide +kernel
theorem dX3_isTrialUnconfirmed_36 : decode cX3_isTrialUnconfirmed 36 = .ok (.invokevirtual 98, 3) := by decide +kernel
theorem dX3_isTrialUnconfirmed_39 : decode cX3_isTrialUnconfirmed 39 = .ok (.ifCond .ne 7, 3) := by decide +kernel
theorem dX3_isTrialUnconfirmed_42 : decode cX3_isTrialUnconfirmed 42 = .ok (.iconst 1, 1) := by decide +kernel
theorem dX3_isTrialUnconfirmed_43 : decode cX3_isTrialUnconfirmed 43 = .ok (.goto 4, 3) := by decide +kernel
theorem dX3_isTrialUnconfirmed_46 : decode cX3_isTrialUnconfirmed 46 = .ok (.iconst 0, 1) := by decide +kernel
theorem dX3_isTrialUnconfirmed_47 : decode cX3_isTrialUnconfirmed 47 = .ok (.ireturn, 1) := by decide +kernel
set_option maxRecDepth 20000 in
theorem ggX3_eraseSlot_X3_firstSectorOf : GoodIn wsX3_eraseSlot wsX3_firstSectorOf := goodIn_r _ [5] (by decide +kernel) (by decide +kernel)
set_option maxRecDepth 20000 in
theorem gX3_eraseSlot_X3_firstSectorOf : GoodIn wsX3_eraseSlot (va_wsS RX3 166 yX3_firstSectorOf wsX3_firstSectorOf) := goodIn_app (goodIn_of _ (by decide +kernel)) ggX3_eraseSlot_X3_firstSectorOf
set_option maxRecDepth 20000 in
theorem ggX3_eraseSlot_X0_eraseSector : GoodIn wsX3_eraseSlot wsX0_eraseSector := goodIn_r _ [9, 10, 11, 12, 13, 14, 15, 7, 16, 17, 18, 19, 20, 21, 22, 23, 24, 25, 26, 27, 39, 40, 41, 42, 43, 44, 45, 46, 47] (by decide +kernel) (by decide +kernel)
set_option maxRecDepth 20000 in
theorem gX3_eraseSlot_X0_eraseSector_n192 : GoodIn wsX3_eraseSlot (wsX0_eraseSector) := ggX3_eraseSlot_X0_eraseSector
set_option maxRecDepth 20000 in
theorem ggX3_eraseSlot_X3_trailerOf : GoodIn wsX3_eraseSlot wsX3_trailerOf := goodIn_r _ [30] (by decide +kernel) (by decide +kernel)
set_option maxRecDepth 20000 in
theorem gX3_eraseSlot_X3_trailerOf : GoodIn wsX3_eraseSlot (va_wsS RX3 137 yX3_trailerOf wsX3_trailerOf) := goodIn_app (goodIn_of _ (by decide +kernel)) ggX3_eraseSlot_X3_trailerOf
theorem dX3_eraseSlot_0 : decode cX3_eraseSlot 0 = .ok (.iload_n 1, 1) := by decide +kernel
theorem dX3_eraseSlot_1 : decode cX3_eraseSlot 1 = .ok (.invokestatic 166, 3) := by decide +kernel
theorem dX3_eraseSlot_4 : decode cX3_eraseSlot 4 = .ok (.istore_n 2, 1) := by decide +kernel
theorem dX3_eraseSlot_5 : decode cX3_eraseSlot 5 = .ok (.iconst 0, 1) := by decide +kernel
theorem dX3_eraseSlot_6 : decode cX3_eraseSlot 6 = .ok (.istore_n 3, 1) := by decide +kernel
theorem dX3_eraseSlot_7 : decode cX3_eraseSlot 7 = .ok (.iload_n 3, 1) := by decide +kernel
theorem dX3_eraseSlot_8 : decode cX3_eraseSlot 8 = .ok (.iconst 4, 1) := by decide +kernel
theorem dX3_eraseSlot_9 : decode cX3_eraseSlot 9 = .ok (.if_icmp .ge 24, 3) := by decide +kernel
theorem dX3_eraseSlot_12 : decode cX3_eraseSlot 12 = .ok (.aload_n 0, 1) := by decide +kernel
theorem dX3_eraseSlot_13 : decode cX3_eraseSlot 13 = .ok (.getfield 12, 3) := by decide +kernel
theorem dX3_eraseSlot_16 : decode cX3_eraseSlot 16 = .ok (.iload_n 2, 1) := by decide +kernel
theorem dX3_eraseSlot_17 : decode cX3_eraseSlot 17 = .ok (.iload_n 3, 1) := by decide +kernel
theorem dX3_eraseSlot_18 : decode cX3_eraseSlot 18 = .ok (.iadd, 1) := by decide +kernel
theorem dX3_eraseSlot_19 : decode cX3_eraseSlot 19 = .ok (.invokevirtual 192, 3) := by decide +kernel
theorem dX3_eraseSlot_22 : decode cX3_eraseSlot 22 = .ok (.ifCond .ne 5, 3) := by decide +kernel
theorem dX3_eraseSlot_25 : decode cX3_eraseSlot 25 = .ok (.iconst 0, 1) := by decide +kernel
theorem dX3_eraseSlot_26 : decode cX3_eraseSlot 26 = .ok (.ireturn, 1) := by decide +kernel
theorem dX3_eraseSlot_27 : decode cX3_eraseSlot 27 = .ok (.iinc 3 1, 3) := by decide +kernel
theorem dX3_eraseSlot_30 : decode cX3_eraseSlot 30 = .ok (.goto (-23), 3) := by decide +kernel
theorem dX3_eraseSlot_33 : decode cX3_eraseSlot 33 = .ok (.aload_n 0, 1) := by decide +kernel
theorem dX3_eraseSlot_34 : decode cX3_eraseSlot 34 = .ok (.getfield 12, 3) := by decide +kernel
theorem dX3_eraseSlot_37 : decode cX3_eraseSlot 37 = .ok (.iload_n 1, 1) := by decide +kernel
theorem dX3_eraseSlot_38 : decode cX3_eraseSlot 38 = .ok (.invokestatic 137, 3) := by decide +kernel
theorem dX3_eraseSlot_41 : decode cX3_eraseSlot 41 = .ok (.invokevirtual 192, 3) := by decide +kernel
theorem dX3_eraseSlot_44 : decode cX3_eraseSlot 44 = .ok (.ireturn, 1) := by decide +kernel
set_option maxRecDepth 20000 in
theorem ggX3_doWhatIsDue_X3_eraseWrong : GoodIn wsX3_doWhatIsDue wsX3_eraseWrong := goodIn_r _ [5, 6, 7, 8, 9, 10, 11, 12, 13, 14, 15, 16, 17, 18, 19, 20, 21, 22, 23, 24, 25, 26, 27, 28, 29, 89, 90, 91, 92, 93, 94, 95, 96, 97, 98, 99, 100, 101, 102, 103, 104, 105] (by decide +kernel) (by decide +kernel)
set_option maxRecDepth 20000 in
theorem gX3_doWhatIsDue_X3_eraseWrong : GoodIn wsX3_doWhatIsDue (wsV RX3 195 RX3 yX3_eraseWrong wsX3_eraseWrong) := goodIn_app (goodIn_of _ (by decide +kernel)) ggX3_doWhatIsDue_X3_eraseWrong
set_option maxRecDepth 20000 in
theorem ggX3_doWhatIsDue_X3_exchangeSectors : GoodIn wsX3_doWhatIsDue wsX3_exchangeSectors := goodIn_r _ [33, 34, 35, 36, 4, 37, 6, 38, 39, 40, 41, 42, 9, 43, 44, 45, 46, 47, 48, 49, 50, 51, 15, 52, 53, 54, 55, 8, 10, 11, 12, 13, 14, 16, 17, 18, 19, 20, 21, 22, 23, 24, 25, 26, 27, 28, 29, 56, 57, 58, 59, 60, 61, 62, 63, 64, 65, 66, 67, 68, 69, 70, 71, 89, 90, 91, 92, 93, 94, 95, 96, 97, 98, 99, 100, 101, 102, 103, 104, 105] (by decide +kernel) (by decide +kernel)
set_option maxRecDepth 20000 in
theorem gX3_doWhatIsDue_X3_exchangeSectors : GoodIn wsX3_doWhatIsDue (wsV RX3 198 RX3 yX3_exchangeSectors wsX3_exchangeSectors) := goodIn_app (goodIn_of _ (by decide +kernel)) ggX3_doWhatIsDue_X3_exchangeSectors
set_option maxRecDepth 20000 in
theorem ggX3_doWhatIsDue_X3_endExchange : GoodIn wsX3_doWhatIsDue wsX3_endExchange := goodIn_r _ [75, 6, 76, 8, 9, 10, 11, 12, 13, 14, 15, 16, 17, 18, 19, 20, 21, 22, 23, 24, 25, 26, 27, 28, 29, 42, 43, 44, 45, 46, 47, 48, 49, 50, 51, 38, 39, 40, 4, 41, 69, 70, 71, 65, 66, 67, 68, 77, 78, 79, 80, 81, 82, 83, 84, 56, 57, 58, 59, 60, 61, 62, 63, 64, 89, 90, 91, 92, 93, 94, 95, 96, 97, 98, 99, 100, 101, 102, 103, 104, 105] (by decide +kernel) (by decide +kernel)
set_option maxRecDepth 20000 in
theorem gX3_doWhatIsDue_X3_endExchange : GoodIn wsX3_doWhatIsDue (wsV RX3 201 RX3 yX3_endExchange wsX3_endExchange) := goodIn_app (goodIn_of _ (by decide +kernel)) ggX3_doWhatIsDue_X3_endExchange
set_option maxRecDepth 20000 in
theorem ggX3_doWhatIsDue_X3_beginExchange : GoodIn wsX3_doWhatIsDue wsX3_beginExchange := goodIn_r _ [88, 6, 42, 9, 43, 44, 45, 46, 47, 48, 49, 50, 51, 15, 69, 70, 71, 19, 20, 21, 22, 12, 23, 24, 25, 26, 65, 66, 67, 68, 8, 10, 11, 13, 14, 16, 17, 18, 27, 28, 29, 89, 90, 91, 92, 93, 94, 95, 96, 97, 98, 99, 100, 101, 102, 103, 104, 105] (by decide +kernel) (by decide +kernel)
set_option maxRecDepth 20000 in
theorem gX3_doWhatIsDue_X3_beginExchange : GoodIn wsX3_doWhatIsDue (wsV RX3 204 RX3 yX3_beginExchange wsX3_beginExchange) := goodIn_app (goodIn_of _ (by decide +kernel)) ggX3_doWhatIsDue_X3_beginExchange
theorem dX3_doWhatIsDue_0 : decode cX3_doWhatIsDue 0 = .ok (.iload_n 1, 1) := by decide +kernel
theorem dX3_doWhatIsDue_1 : decode cX3_doWhatIsDue 1 = .ok (.lookupswitch 62 #[(0, 35), (4, 37), (5, 42)], 35) := by decide +kernel
theorem dX3_doWhatIsDue_36 : decode cX3_doWhatIsDue 36 = .ok (.iconst 1, 1) := by decide +kernel
theorem dX3_doWhatIsDue_37 : decode cX3_doWhatIsDue 37 = .ok (.ireturn, 1) := by decide +kernel
theorem dX3_doWhatIsDue_38 : decode cX3_doWhatIsDue 38 = .ok (.aload_n 0, 1) := by decide +kernel
theorem dX3_doWhatIsDue_39 : decode cX3_doWhatIsDue 39 = .ok (.invokevirtual 195, 3) := by decide +kernel
theorem dX3_doWhatIsDue_42 : decode cX3_doWhatIsDue 42 = .ok (.ireturn, 1) := by decide +kernel
theorem dX3_doWhatIsDue_43 : decode cX3_doWhatIsDue 43 = .ok (.aload_n 0, 1) := by decide +kernel
theorem dX3_doWhatIsDue_44 : decode cX3_doWhatIsDue 44 = .ok (.invokevirtual 198, 3) := by decide +kernel
theorem dX3_doWhatIsDue_47 : decode cX3_doWhatIsDue 47 = .ok (.ifCond .eq 14, 3) := by decide +kernel
theorem dX3_doWhatIsDue_50 : decode cX3_doWhatIsDue 50 = .ok (.aload_n 0, 1) := by decide +kernel
theorem dX3_doWhatIsDue_51 : decode cX3_doWhatIsDue 51 = .ok (.invokevirtual 201, 3) := by decide +kernel
theorem dX3_doWhatIsDue_54 : decode cX3_doWhatIsDue 54 = .ok (.ifCond .eq 7, 3) := by decide +kernel
theorem dX3_doWhatIsDue_57 : decode cX3_doWhatIsDue 57 = .ok (.iconst 1, 1) := by decide +kernel
theorem dX3_doWhatIsDue_58 : decode cX3_doWhatIsDue 58 = .ok (.goto 4, 3) := by decide +kernel
theorem dX3_doWhatIsDue_61 : decode cX3_doWhatIsDue 61 = .ok (.iconst 0, 1) := by decide +kernel
theorem dX3_doWhatIsDue_62 : decode cX3_doWhatIsDue 62 = .ok (.ireturn, 1) := by decide +kernel
theorem dX3_doWhatIsDue_63 : decode cX3_doWhatIsDue 63 = .ok (.aload_n 0, 1) := by decide +kernel
theorem dX3_doWhatIsDue_64 : decode cX3_doWhatIsDue 64 = .ok (.iload_n 1, 1) := by decide +kernel
theorem dX3_doWhatIsDue_65 : decode cX3_doWhatIsDue 65 = .ok (.invokevirtual 204, 3) := by decide +kernel
theorem dX3_doWhatIsDue_68 : decode cX3_doWhatIsDue 68 = .ok (.ifCond .eq 21, 3) := by decide +kernel
theorem dX3_doWhatIsDue_71 : decode cX3_doWhatIsDue 71 = .ok (.aload_n 0, 1) := by decide +kernel
theorem dX3_doWhatIsDue_72 : decode cX3_doWhatIsDue 72 = .ok (.invokevirtual 198, 3) := by decide +kernel
theorem dX3_doWhatIsDue_75 : decode cX3_doWhatIsDue 75 = .ok (.ifCond .eq 14, 3) := by decide +kernel
theorem dX3_doWhatIsDue_78 : decode cX3_doWhatIsDue 78 = .ok (.aload_n 0, 1) := by decide +kernel
theorem dX3_doWhatIsDue_79 : decode cX3_doWhatIsDue 79 = .ok (.invokevirtual 201, 3) := by decide +kernel
theorem dX3_doWhatIsDue_82 : decode cX3_doWhatIsDue 82 = .ok (.ifCond .eq 7, 3) := by decide +kernel
theorem dX3_doWhatIsDue_85 : decode cX3_doWhatIsDue 85 = .ok (.iconst 1, 1) := by decide +kernel
theorem dX3_doWhatIsDue_86 : decode cX3_doWhatIsDue 86 = .ok (.goto 4, 3) := by decide +kernel
theorem dX3_doWhatIsDue_89 : decode cX3_doWhatIsDue 89 = .ok (.iconst 0, 1) := by decide +kernel
theorem dX3_doWhatIsDue_90 : decode cX3_doWhatIsDue 90 = .ok (.ireturn, 1) := by decide +kernel
set_option maxRecDepth 20000 in
theorem ggX3_eraseWrong_X0_eraseSector : GoodIn wsX3_eraseWrong wsX0_eraseSector := goodIn_r _ [6, 7, 8, 9, 10, 11, 12, 4, 13, 14, 15, 16, 17, 18, 19, 20, 21, 22, 23, 24, 33, 34, 35, 36, 37, 38, 39, 40, 41] (by decide +kernel) (by decide +kernel)
set_option maxRecDepth 20000 in
theorem gX3_eraseWrong_X0_eraseSector_n192 : GoodIn wsX3_eraseWrong (wsX0_eraseSector) := ggX3_eraseWrong_X0_eraseSector
theorem dX3_eraseWrong_0 : decode cX3_eraseWrong 0 = .ok (.aload_n 0, 1) := by decide +kernel
theorem dX3_eraseWrong_1 : decode cX3_eraseWrong 1 = .ok (.getfield 12, 3) := by decide +kernel
theorem dX3_eraseWrong_4 : decode cX3_eraseWrong 4 = .ok (.bipush 9, 2) := by decide +kernel
theorem dX3_eraseWrong_6 : decode cX3_eraseWrong 6 = .ok (.invokevirtual 192, 3) := by decide +kernel
theorem dX3_eraseWrong_9 : decode cX3_eraseWrong 9 = .ok (.ifCond .ne 5, 3) := by decide +kernel
theorem dX3_eraseWrong_12 : decode cX3_eraseWrong 12 = .ok (.iconst 0, 1) := by decide +kernel
theorem dX3_eraseWrong_13 : decode cX3_eraseWrong 13 = .ok (.ireturn, 1) := by decide +kernel
theorem dX3_eraseWrong_14 : decode cX3_eraseWrong 14 = .ok (.aload_n 0, 1) := by decide +kernel
theorem dX3_eraseWrong_15 : decode cX3_eraseWrong 15 = .ok (.dup, 1) := by decide +kernel
theorem dX3_eraseWrong_16 : decode cX3_eraseWrong 16 = .ok (.getfield 44, 3) := by decide +kernel
theorem dX3_eraseWrong_19 : decode cX3_eraseWrong 19 = .ok (.iconst 1, 1) := by decide +kernel
theorem dX3_eraseWrong_20 : decode cX3_eraseWrong 20 = .ok (.iadd, 1) := by decide +kernel
theorem dX3_eraseWrong_21 : decode cX3_eraseWrong 21 = .ok (.putfield 44, 3) := by decide +kernel
theorem dX3_eraseWrong_24 : decode cX3_eraseWrong 24 = .ok (.iconst 1, 1) := by decide +kernel
theorem dX3_eraseWrong_25 : decode cX3_eraseWrong 25 = .ok (.ireturn, 1) := by decide +kernel
set_option maxRecDepth 20000 in
theorem ggX3_beginExchange_X0_markIn : GoodIn wsX3_beginExchange wsX0_markIn := goodIn_r _ [5, 6, 7, 3, 8, 9, 10, 11, 12, 13, 49, 50, 51, 52, 53, 54, 55, 56, 57] (by decide +kernel) (by decide +kernel)
set_option maxRecDepth 20000 in
theorem gX3_beginExchange_X0_markIn_n144 : GoodIn wsX3_beginExchange (wsX0_markIn) := ggX3_beginExchange_X0_markIn
set_option maxRecDepth 20000 in
theorem ggX3_beginExchange_X0_markUnit : GoodIn wsX3_beginExchange wsX0_markUnit := goodIn_r _ [16, 17, 18, 19, 3, 20, 21, 22, 23, 24, 25, 6, 7, 8, 26, 27, 28, 29, 13, 49, 50, 51, 52, 53, 54, 55, 56, 57] (by decide +kernel) (by decide +kernel)
set_option maxRecDepth 20000 in
theorem gX3_beginExchange_X0_markUnit_n91 : GoodIn wsX3_beginExchange (wsX0_markUnit) := ggX3_beginExchange_X0_markUnit
set_option maxRecDepth 20000 in
theorem ggX3_beginExchange_X0_eraseSector : GoodIn wsX3_beginExchange wsX0_eraseSector := goodIn_r _ [32, 21, 33, 34, 13, 35, 36, 3, 37, 17, 18, 19, 20, 22, 23, 24, 25, 38, 39, 40, 49, 50, 51, 52, 53, 54, 55, 56, 57] (by decide +kernel) (by decide +kernel)
set_option maxRecDepth 20000 in
theorem gX3_beginExchange_X0_eraseSector_n192 : GoodIn wsX3_beginExchange (wsX0_eraseSector) := ggX3_beginExchange_X0_eraseSector
theorem dX3_beginExchange_0 : decode cX3_beginExchange 0 = .ok (.aload_n 0, 1) := by decide +kernel
theorem dX3_beginExchange_1 : decode cX3_beginExchange 1 = .ok (.getfield 12, 3) := by decide +kernel
theorem dX3_beginExchange_4 : decode cX3_beginExchange 4 = .ok (.bipush 9, 2) := by decide +kernel
theorem dX3_beginExchange_6 : decode cX3_beginExchange 6 = .ok (.iconst 1, 1) := by decide +kernel
theorem dX3_beginExchange_7 : decode cX3_beginExchange 7 = .ok (.invokevirtual 144, 3) := by decide +kernel
theorem dX3_beginExchange_10 : decode cX3_beginExchange 10 = .ok (.iload_n 1, 1) := by decide +kernel
theorem dX3_beginExchange_11 : decode cX3_beginExchange 11 = .ok (.if_icmp .eq 19, 3) := by decide +kernel
theorem dX3_beginExchange_14 : decode cX3_beginExchange 14 = .ok (.aload_n 0, 1) := by decide +kernel
theorem dX3_beginExchange_15 : decode cX3_beginExchange 15 = .ok (.getfield 12, 3) := by decide +kernel
theorem dX3_beginExchange_18 : decode cX3_beginExchange 18 = .ok (.bipush 9, 2) := by decide +kernel
theorem dX3_beginExchange_20 : decode cX3_beginExchange 20 = .ok (.iconst 1, 1) := by decide +kernel
theorem dX3_beginExchange_21 : decode cX3_beginExchange 21 = .ok (.iload_n 1, 1) := by decide +kernel
theorem dX3_beginExchange_22 : decode cX3_beginExchange 22 = .ok (.invokevirtual 91, 3) := by decide +kernel
theorem dX3_beginExchange_25 : decode cX3_beginExchange 25 = .ok (.ifCond .ne 5, 3) := by decide +kernel
theorem dX3_beginExchange_28 : decode cX3_beginExchange 28 = .ok (.iconst 0, 1) := by decide +kernel
theorem dX3_beginExchange_29 : decode cX3_beginExchange 29 = .ok (.ireturn, 1) := by decide +kernel
theorem dX3_beginExchange_30 : decode cX3_beginExchange 30 = .ok (.aload_n 0, 1) := by decide +kernel
theorem dX3_beginExchange_31 : decode cX3_beginExchange 31 = .ok (.getfield 12, 3) := by decide +kernel
theorem dX3_beginExchange_34 : decode cX3_beginExchange 34 = .ok (.iconst 4, 1) := by decide +kernel
theorem dX3_beginExchange_35 : decode cX3_beginExchange 35 = .ok (.invokevirtual 192, 3) := by decide +kernel
theorem dX3_beginExchange_38 : decode cX3_beginExchange 38 = .ok (.ifCond .eq 20, 3) := by decide +kernel
theorem dX3_beginExchange_41 : decode cX3_beginExchange 41 = .ok (.aload_n 0, 1) := by decide +kernel
theorem dX3_beginExchange_42 : decode cX3_beginExchange 42 = .ok (.getfield 12, 3) := by decide +kernel
theorem dX3_beginExchange_45 : decode cX3_beginExchange 45 = .ok (.iconst 4, 1) := by decide +kernel
theorem dX3_beginExchange_46 : decode cX3_beginExchange 46 = .ok (.iconst 1, 1) := by decide +kernel
theorem dX3_beginExchange_47 : decode cX3_beginExchange 47 = .ok (.iload_n 1, 1) := by decide +kernel
theorem dX3_beginExchange_48 : decode cX3_beginExchange 48 = .ok (.invokevirtual 91, 3) := by decide +kernel
theorem dX3_beginExchange_51 : decode cX3_beginExchange 51 = .ok (.ifCond .eq 7, 3) := by decide +kernel
theorem dX3_beginExchange_54 : decode cX3_beginExchange 54 = .ok (.iconst 1, 1) := by decide +kernel
theorem dX3_beginExchange_55 : decode cX3_beginExchange 55 = .ok (.goto 4, 3) := by decide +kernel
theorem dX3_beginExchange_58 : decode cX3_beginExchange 58 = .ok (.iconst 0, 1) := by decide +kernel
theorem dX3_beginExchange_59 : decode cX3_beginExchange 59 = .ok (.ireturn, 1) := by decide +kernel
set_option maxRecDepth 20000 in
theorem ggX3_exchangeSectors_X3_takeStep : GoodIn wsX3_exchangeSectors wsX3_takeStep := goodIn_r _ [5, 6, 7, 8, 9, 4, 10, 11, 12, 13, 14, 15, 16, 17, 18, 19, 20, 21, 22, 23, 24, 25, 26, 27, 28, 29, 30, 31, 32, 33, 34, 35, 36, 37, 38, 39, 40, 41, 42, 43, 44, 45, 46, 47, 48, 49, 50, 51, 52, 53, 54, 55, 56, 57, 58, 59, 60, 61, 62, 63, 64, 65, 66, 67, 68, 69, 70, 71, 72, 73, 74, 75, 76, 77, 78, 79] (by decide +kernel) (by decide +kernel)
set_option maxRecDepth 20000 in
theorem gX3_exchangeSectors_X3_takeStep : GoodIn wsX3_exchangeSectors (wsV RX3 207 RX3 yX3_takeStep wsX3_takeStep) := goodIn_app (goodIn_of _ (by decide +kernel)) ggX3_exchangeSectors_X3_takeStep
theorem dX3_exchangeSectors_0 : decode cX3_exchangeSectors 0 = .ok (.iconst 3, 1) := by decide +kernel
theorem dX3_exchangeSectors_1 : decode cX3_exchangeSectors 1 = .ok (.istore_n 1, 1) := by decide +kernel
theorem dX3_exchangeSectors_2 : decode cX3_exchangeSectors 2 = .ok (.iload_n 1, 1) := by decide +kernel
theorem dX3_exchangeSectors_3 : decode cX3_exchangeSectors 3 = .ok (.ifCond .lt 50, 3) := by decide +kernel
theorem dX3_exchangeSectors_6 : decode cX3_exchangeSectors 6 = .ok (.iconst 5, 1) := by decide +kernel
theorem dX3_exchangeSectors_7 : decode cX3_exchangeSectors 7 = .ok (.iload_n 1, 1) := by decide +kernel
theorem dX3_exchangeSectors_8 : decode cX3_exchangeSectors 8 = .ok (.iadd, 1) := by decide +kernel
theorem dX3_exchangeSectors_9 : decode cX3_exchangeSectors 9 = .ok (.istore_n 2, 1) := by decide +kernel
theorem dX3_exchangeSectors_10 : decode cX3_exchangeSectors 10 = .ok (.aload_n 0, 1) := by decide +kernel
theorem dX3_exchangeSectors_11 : decode cX3_exchangeSectors 11 = .ok (.iload_n 1, 1) := by decide +kernel
theorem dX3_exchangeSectors_12 : decode cX3_exchangeSectors 12 = .ok (.iconst 0, 1) := by decide +kernel
theorem dX3_exchangeSectors_13 : decode cX3_exchangeSectors 13 = .ok (.bipush 10, 2) := by decide +kernel
theorem dX3_exchangeSectors_15 : decode cX3_exchangeSectors 15 = .ok (.iload_n 2, 1) := by decide +kernel
theorem dX3_exchangeSectors_16 : decode cX3_exchangeSectors 16 = .ok (.invokevirtual 207, 3) := by decide +kernel
theorem dX3_exchangeSectors_19 : decode cX3_exchangeSectors 19 = .ok (.ifCond .eq 26, 3) := by decide +kernel
theorem dX3_exchangeSectors_22 : decode cX3_exchangeSectors 22 = .ok (.aload_n 0, 1) := by decide +kernel
theorem dX3_exchangeSectors_23 : decode cX3_exchangeSectors 23 = .ok (.iload_n 1, 1) := by decide +kernel
theorem dX3_exchangeSectors_24 : decode cX3_exchangeSectors 24 = .ok (.iconst 1, 1) := by decide +kernel
theorem dX3_exchangeSectors_25 : decode cX3_exchangeSectors 25 = .ok (.iload_n 2, 1) := by decide +kernel
theorem dX3_exchangeSectors_26 : decode cX3_exchangeSectors 26 = .ok (.iload_n 1, 1) := by decide +kernel
theorem dX3_exchangeSectors_27 : decode cX3_exchangeSectors 27 = .ok (.invokevirtual 207, 3) := by decide +kernel
theorem dX3_exchangeSectors_30 : decode cX3_exchangeSectors 30 = .ok (.ifCond .eq 15, 3) := by decide +kernel
theorem dX3_exchangeSectors_33 : decode cX3_exchangeSectors 33 = .ok (.aload_n 0, 1) := by decide +kernel
theorem dX3_exchangeSectors_34 : decode cX3_exchangeSectors 34 = .ok (.iload_n 1, 1) := by decide +kernel
theorem dX3_exchangeSectors_35 : decode cX3_exchangeSectors 35 = .ok (.iconst 2, 1) := by decide +kernel
theorem dX3_exchangeSectors_36 : decode cX3_exchangeSectors 36 = .ok (.iload_n 1, 1) := by decide +kernel
theorem dX3_exchangeSectors_37 : decode cX3_exchangeSectors 37 = .ok (.bipush 10, 2) := by decide +kernel
theorem dX3_exchangeSectors_39 : decode cX3_exchangeSectors 39 = .ok (.invokevirtual 207, 3) := by decide +kernel
theorem dX3_exchangeSectors_42 : decode cX3_exchangeSectors 42 = .ok (.ifCond .ne 5, 3) := by decide +kernel
theorem dX3_exchangeSectors_45 : decode cX3_exchangeSectors 45 = .ok (.iconst 0, 1) := by decide +kernel
theorem dX3_exchangeSectors_46 : decode cX3_exchangeSectors 46 = .ok (.ireturn, 1) := by decide +kernel
theorem dX3_exchangeSectors_47 : decode cX3_exchangeSectors 47 = .ok (.iinc 1 (-1), 3) := by decide +kernel
theorem dX3_exchangeSectors_50 : decode cX3_exchangeSectors 50 = .ok (.goto (-48), 3) := by decide +kernel
theorem dX3_exchangeSectors_53 : decode cX3_exchangeSectors 53 = .ok (.iconst 1, 1) := by decide +kernel
theorem dX3_exchangeSectors_54 : decode cX3_exchangeSectors 54 = .ok (.ireturn, 1) := by decide +kernel
set_option maxRecDepth 20000 in
theorem ggX3_takeStep_X3_isMarked : GoodIn wsX3_takeStep wsX3_isMarked := goodIn_r _ [6, 1, 7, 8, 9, 10, 11, 12, 13, 14, 15, 16, 17, 18, 59, 60, 61, 62, 63, 64, 65, 66, 67, 68, 69, 70, 71, 72, 73, 74, 75] (by decide +kernel) (by decide +kernel)
set_option maxRecDepth 20000 in
theorem gX3_takeStep_X3_isMarked : GoodIn wsX3_takeStep (wsV RX3 98 RX3 yX3_isMarked wsX3_isMarked) := goodIn_app (goodIn_of _ (by decide +kernel)) ggX3_takeStep_X3_isMarked
set_option maxRecDepth 20000 in
theorem ggX3_takeStep_X0_replaceSector : GoodIn wsX3_takeStep wsX0_replaceSector := goodIn_r _ [21, 18, 22, 23, 24, 8, 25, 26, 27, 28, 29, 30, 31, 32, 33, 34, 35, 36, 37, 38, 39, 40, 41, 42, 11, 12, 13, 43, 44, 45, 46, 47, 48, 49, 50, 51, 52, 53, 54, 55, 67, 68, 69, 70, 71, 72, 73, 74, 75] (by decide +kernel) (by decide +kernel)
set_option maxRecDepth 20000 in
theorem gX3_takeStep_X0_replaceSector_n211 : GoodIn wsX3_takeStep (wsX0_replaceSector) := ggX3_takeStep_X0_replaceSector
set_option maxRecDepth 20000 in
theorem ggX3_takeStep_X0_markUnit : GoodIn wsX3_takeStep wsX0_markUnit := goodIn_r _ [58, 32, 33, 34, 8, 35, 26, 36, 37, 38, 39, 11, 12, 13, 52, 53, 54, 55, 18, 67, 68, 69, 70, 71, 72, 73, 74, 75] (by decide +kernel) (by decide +kernel)
set_option maxRecDepth 20000 in
theorem gX3_takeStep_X0_markUnit_n91 : GoodIn wsX3_takeStep (wsX0_markUnit) := ggX3_takeStep_X0_markUnit
theorem dX3_takeStep_0 : decode cX3_takeStep 0 = .ok (.iconst 4, 1) := by decide +kernel
theorem dX3_takeStep_1 : decode cX3_takeStep 1 = .ok (.iconst 3, 1) := by decide +kernel
theorem dX3_takeStep_2 : decode cX3_takeStep 2 = .ok (.iload_n 1, 1) := by decide +kernel
theorem dX3_takeStep_3 : decode cX3_takeStep 3 = .ok (.imul, 1) := by decide +kernel
theorem dX3_takeStep_4 : decode cX3_takeStep 4 = .ok (.iadd, 1) := by decide +kernel
theorem dX3_takeStep_5 : decode cX3_takeStep 5 = .ok (.iload_n 2, 1) := by decide +kernel
theorem dX3_takeStep_6 : decode cX3_takeStep 6 = .ok (.iadd, 1) := by decide +kernel
theorem dX3_takeStep_7 : decode cX3_takeStep 7 = .ok (.istore 5, 2) := by decide +kernel
theorem dX3_takeStep_9 : decode cX3_takeStep 9 = .ok (.aload_n 0, 1) := by decide +kernel
theorem dX3_takeStep_10 : decode cX3_takeStep 10 = .ok (.iconst 4, 1) := by decide +kernel
theorem dX3_takeStep_11 : decode cX3_takeStep 11 = .ok (.iload 5, 2) := by decide +kernel
theorem dX3_takeStep_13 : decode cX3_takeStep 13 = .ok (.invokevirtual 98, 3) := by decide +kernel
theorem dX3_takeStep_16 : decode cX3_takeStep 16 = .ok (.ifCond .eq 5, 3) := by decide +kernel
theorem dX3_takeStep_19 : decode cX3_takeStep 19 = .ok (.iconst 1, 1) := by decide +kernel
theorem dX3_takeStep_20 : decode cX3_takeStep 20 = .ok (.ireturn, 1) := by decide +kernel
theorem dX3_takeStep_21 : decode cX3_takeStep 21 = .ok (.aload_n 0, 1) := by decide +kernel
theorem dX3_takeStep_22 : decode cX3_takeStep 22 = .ok (.getfield 12, 3) := by decide +kernel
theorem dX3_takeStep_25 : decode cX3_takeStep 25 = .ok (.iload_n 3, 1) := by decide +kernel
theorem dX3_takeStep_26 : decode cX3_takeStep 26 = .ok (.iload 4, 2) := by decide +kernel
theorem dX3_takeStep_28 : decode cX3_takeStep 28 = .ok (.invokevirtual 211, 3) := by decide +kernel
theorem dX3_takeStep_31 : decode cX3_takeStep 31 = .ok (.ifCond .eq 21, 3) := by decide +kernel
theorem dX3_takeStep_34 : decode cX3_takeStep 34 = .ok (.aload_n 0, 1) := by decide +kernel
theorem dX3_takeStep_35 : decode cX3_takeStep 35 = .ok (.getfield 12, 3) := by decide +kernel
theorem dX3_takeStep_38 : decode cX3_takeStep 38 = .ok (.iconst 4, 1) := by decide +kernel
theorem dX3_takeStep_39 : decode cX3_takeStep 39 = .ok (.iload 5, 2) := by decide +kernel
theorem dX3_takeStep_41 : decode cX3_takeStep 41 = .ok (.iconst 1, 1) := by decide +kernel
theorem dX3_takeStep_42 : decode cX3_takeStep 42 = .ok (.invokevirtual 91, 3) := by decide +kernel
theorem dX3_takeStep_45 : decode cX3_takeStep 45 = .ok (.ifCond .eq 7, 3) := by decide +kernel
theorem dX3_takeStep_48 : decode cX3_takeStep 48 = .ok (.iconst 1, 1) := by decide +kernel
theorem dX3_takeStep_49 : decode cX3_takeStep 49 = .ok (.goto 4, 3) := by decide +kernel
theorem dX3_takeStep_52 : decode cX3_takeStep 52 = .ok (.iconst 0, 1) := by decide +kernel
theorem dX3_takeStep_53 : decode cX3_takeStep 53 = .ok (.ireturn, 1) := by decide +kernel
set_option maxRecDepth 20000 in
theorem ggX3_endExchange_X0_eraseSector : GoodIn wsX3_endExchange wsX0_eraseSector := goodIn_r _ [6, 7, 8, 9, 10, 11, 12, 4, 13, 14, 15, 16, 17, 18, 19, 20, 21, 22, 23, 24, 72, 73, 74, 75, 76, 77, 78, 79, 80] (by decide +kernel) (by decide +kernel)
set_option maxRecDepth 20000 in
theorem gX3_endExchange_X0_eraseSector_n192 : GoodIn wsX3_endExchange (wsX0_eraseSector) := ggX3_endExchange_X0_eraseSector
set_option maxRecDepth 20000 in
theorem ggX3_endExchange_X0_markIn : GoodIn wsX3_endExchange wsX0_markIn := goodIn_r _ [27, 28, 29, 4, 30, 31, 32, 33, 34, 10, 72, 73, 74, 75, 76, 77, 78, 79, 80] (by decide +kernel) (by decide +kernel)
set_option maxRecDepth 20000 in
theorem gX3_endExchange_X0_markIn_n144 : GoodIn wsX3_endExchange (wsX0_markIn) := ggX3_endExchange_X0_markIn
set_option maxRecDepth 20000 in
theorem ggX3_endExchange_X3_isMarked : GoodIn wsX3_endExchange wsX3_isMarked := goodIn_r _ [39, 1, 25, 4, 26, 27, 28, 29, 30, 31, 32, 33, 34, 10, 64, 65, 66, 67, 68, 69, 70, 71, 72, 73, 74, 75, 76, 77, 78, 79, 80] (by decide +kernel) (by decide +kernel)
set_option maxRecDepth 20000 in
theorem gX3_endExchange_X3_isMarked : GoodIn wsX3_endExchange (wsV RX3 98 RX3 yX3_isMarked wsX3_isMarked) := goodIn_app (goodIn_of _ (by decide +kernel)) ggX3_endExchange_X3_isMarked
set_option maxRecDepth 20000 in
theorem ggX3_endExchange_X0_markUnit : GoodIn wsX3_endExchange wsX0_markUnit := goodIn_r _ [42, 14, 15, 16, 4, 17, 7, 18, 19, 20, 21, 28, 29, 30, 43, 44, 45, 46, 10, 72, 73, 74, 75, 76, 77, 78, 79, 80] (by decide +kernel) (by decide +kernel)
set_option maxRecDepth 20000 in
theorem gX3_endExchange_X0_markUnit_n91 : GoodIn wsX3_endExchange (wsX0_markUnit) := ggX3_endExchange_X0_markUnit
set_option maxRecDepth 20000 in
theorem ggX3_endExchange_X3_writeMagic : GoodIn wsX3_endExchange wsX3_writeMagic := goodIn_r _ [50, 1, 51, 29, 4, 30, 52, 53, 54, 55, 56, 57, 58, 59, 60, 61, 62, 63, 14, 15, 16, 17, 7, 18, 19, 20, 21, 43, 44, 45, 46, 10, 64, 65, 66, 67, 68, 69, 70, 71, 72, 73, 74, 75, 76, 77, 78, 79, 80] (by decide +kernel) (by decide +kernel)
set_option maxRecDepth 20000 in
theorem gX3_endExchange_X3_writeMagic : GoodIn wsX3_endExchange (wsV RX3 95 RX3 yX3_writeMagic wsX3_writeMagic) := goodIn_app (goodIn_of _ (by decide +kernel)) ggX3_endExchange_X3_writeMagic
theorem dX3_endExchange_0 : decode cX3_endExchange 0 = .ok (.aload_n 0, 1) := by decide +kernel
theorem dX3_endExchange_1 : decode cX3_endExchange 1 = .ok (.getfield 12, 3) := by decide +kernel
theorem dX3_endExchange_4 : decode cX3_endExchange 4 = .ok (.bipush 9, 2) := by decide +kernel
theorem dX3_endExchange_6 : decode cX3_endExchange 6 = .ok (.invokevirtual 192, 3) := by decide +kernel
theorem dX3_endExchange_9 : decode cX3_endExchange 9 = .ok (.ifCond .ne 5, 3) := by decide +kernel
theorem dX3_endExchange_12 : decode cX3_endExchange 12 = .ok (.iconst 0, 1) := by decide +kernel
theorem dX3_endExchange_13 : decode cX3_endExchange 13 = .ok (.ireturn, 1) := by decide +kernel
theorem dX3_endExchange_14 : decode cX3_endExchange 14 = .ok (.aload_n 0, 1) := by decide +kernel
theorem dX3_endExchange_15 : decode cX3_endExchange 15 = .ok (.getfield 12, 3) := by decide +kernel
theorem dX3_endExchange_18 : decode cX3_endExchange 18 = .ok (.iconst 4, 1) := by decide +kernel
theorem dX3_endExchange_19 : decode cX3_endExchange 19 = .ok (.iconst 1, 1) := by decide +kernel
theorem dX3_endExchange_20 : decode cX3_endExchange 20 = .ok (.invokevirtual 144, 3) := by decide +kernel
theorem dX3_endExchange_23 : decode cX3_endExchange 23 = .ok (.iconst 1, 1) := by decide +kernel
theorem dX3_endExchange_24 : decode cX3_endExchange 24 = .ok (.if_icmp .ne 7, 3) := by decide +kernel
theorem dX3_endExchange_27 : decode cX3_endExchange 27 = .ok (.iconst 1, 1) := by decide +kernel
theorem dX3_endExchange_28 : decode cX3_endExchange 28 = .ok (.goto 4, 3) := by decide +kernel
theorem dX3_endExchange_31 : decode cX3_endExchange 31 = .ok (.iconst 0, 1) := by decide +kernel
theorem dX3_endExchange_32 : decode cX3_endExchange 32 = .ok (.istore_n 1, 1) := by decide +kernel
theorem dX3_endExchange_33 : decode cX3_endExchange 33 = .ok (.iload_n 1, 1) := by decide +kernel
theorem dX3_endExchange_34 : decode cX3_endExchange 34 = .ok (.ifCond .ne 27, 3) := by decide +kernel
theorem dX3_endExchange_37 : decode cX3_endExchange 37 = .ok (.aload_n 0, 1) := by decide +kernel
theorem dX3_endExchange_38 : decode cX3_endExchange 38 = .ok (.iconst 4, 1) := by decide +kernel
theorem dX3_endExchange_39 : decode cX3_endExchange 39 = .ok (.iconst 3, 1) := by decide +kernel
theorem dX3_endExchange_40 : decode cX3_endExchange 40 = .ok (.invokevirtual 98, 3) := by decide +kernel
theorem dX3_endExchange_43 : decode cX3_endExchange 43 = .ok (.ifCond .ne 18, 3) := by decide +kernel
theorem dX3_endExchange_46 : decode cX3_endExchange 46 = .ok (.aload_n 0, 1) := by decide +kernel
theorem dX3_endExchange_47 : decode cX3_endExchange 47 = .ok (.getfield 12, 3) := by decide +kernel
theorem dX3_endExchange_50 : decode cX3_endExchange 50 = .ok (.iconst 4, 1) := by decide +kernel
theorem dX3_endExchange_51 : decode cX3_endExchange 51 = .ok (.iconst 3, 1) := by decide +kernel
theorem dX3_endExchange_52 : decode cX3_endExchange 52 = .ok (.iconst 1, 1) := by decide +kernel
theorem dX3_endExchange_53 : decode cX3_endExchange 53 = .ok (.invokevirtual 91, 3) := by decide +kernel
theorem dX3_endExchange_56 : decode cX3_endExchange 56 = .ok (.ifCond .ne 5, 3) := by decide +kernel
theorem dX3_endExchange_59 : decode cX3_endExchange 59 = .ok (.iconst 0, 1) := by decide +kernel
theorem dX3_endExchange_60 : decode cX3_endExchange 60 = .ok (.ireturn, 1) := by decide +kernel
theorem dX3_endExchange_61 : decode cX3_endExchange 61 = .ok (.aload_n 0, 1) := by decide +kernel
theorem dX3_endExchange_62 : decode cX3_endExchange 62 = .ok (.iconst 4, 1) := by decide +kernel
theorem dX3_endExchange_63 : decode cX3_endExchange 63 = .ok (.invokevirtual 95, 3) := by decide +kernel
theorem dX3_endExchange_66 : decode cX3_endExchange 66 = .ok (.ifCond .eq 16, 3) := by decide +kernel
theorem dX3_endExchange_69 : decode cX3_endExchange 69 = .ok (.aload_n 0, 1) := by decide +kernel
theorem dX3_endExchange_70 : decode cX3_endExchange 70 = .ok (.getfield 12, 3) := by decide +kernel
theorem dX3_endExchange_73 : decode cX3_endExchange 73 = .ok (.iconst 4, 1) := by decide +kernel
theorem dX3_endExchange_74 : decode cX3_endExchange 74 = .ok (.iconst 2, 1) := by decide +kernel
theorem dX3_endExchange_75 : decode cX3_endExchange 75 = .ok (.iconst 1, 1) := by decide +kernel
theorem dX3_endExchange_76 : decode cX3_endExchange 76 = .ok (.invokevirtual 91, 3) := by decide +kernel
theorem dX3_endExchange_79 : decode cX3_endExchange 79 = .ok (.ifCond .ne 5, 3) := by decide +kernel
theorem dX3_endExchange_82 : decode cX3_endExchange 82 = .ok (.iconst 0, 1) := by decide +kernel
theorem dX3_endExchange_83 : decode cX3_endExchange 83 = .ok (.ireturn, 1) := by decide +kernel
theorem dX3_endExchange_84 : decode cX3_endExchange 84 = .ok (.aload_n 0, 1) := by decide +kernel
theorem dX3_endExchange_85 : decode cX3_endExchange 85 = .ok (.dup, 1) := by decide +kernel
theorem dX3_endExchange_86 : decode cX3_endExchange 86 = .ok (.getfield 41, 3) := by decide +kernel
theorem dX3_endExchange_89 : decode cX3_endExchange 89 = .ok (.iconst 1, 1) := by decide +kernel
theorem dX3_endExchange_90 : decode cX3_endExchange 90 = .ok (.iadd, 1) := by decide +kernel
theorem dX3_endExchange_91 : decode cX3_endExchange 91 = .ok (.putfield 41, 3) := by decide +kernel
theorem dX3_endExchange_94 : decode cX3_endExchange 94 = .ok (.iconst 1, 1) := by decide +kernel
theorem dX3_endExchange_95 : decode cX3_endExchange 95 = .ok (.ireturn, 1) := by decide +kernel
end
section
theorem dX4_init_0 : decode cX4_init 0 = .ok (.aload_n 0, 1) := by decide +kernel
theorem dX4_init_1 : decode cX4_init 1 = .ok (.invokespecial 3, 3) := by decide +kernel
theorem dX4_init_4 : decode cX4_init 4 = .ok (.aload_n 0, 1) := by decide +kernel
theorem dX4_init_5 : decode cX4_init 5 = .ok (.sipush 2816, 3) := by decide +kernel
theorem dX4_init_8 : decode cX4_init 8 = .ok (.newarray .byte, 2) := by decide +kernel
theorem dX4_init_10 : decode cX4_init 10 = .ok (.putfield 9, 3) := by decide +kernel
theorem dX4_init_13 : decode cX4_init 13 = .ok (.aload_n 0, 1) := by decide +kernel
theorem dX4_init_14 : decode cX4_init 14 = .ok (.sipush 2816, 3) := by decide +kernel
theorem dX4_init_17 : decode cX4_init 17 = .ok (.newarray .byte, 2) := by decide +kernel
theorem dX4_init_19 : decode cX4_init 19 = .ok (.putfield 13, 3) := by decide +kernel
theorem dX4_init_22 : decode cX4_init 22 = .ok (.aload_n 0, 1) := by decide +kernel
theorem dX4_init_23 : decode cX4_init 23 = .ok (.sipush 700, 3) := by decide +kernel
theorem dX4_init_26 : decode cX4_init 26 = .ok (.newarray .int, 2) := by decide +kernel
theorem dX4_init_28 : decode cX4_init 28 = .ok (.putfield 16, 3) := by decide +kernel
theorem dX4_init_31 : decode cX4_init 31 = .ok (.aload_n 0, 1) := by decide +kernel
theorem dX4_init_32 : decode cX4_init 32 = .ok (.sipush 700, 3) := by decide +kernel
theorem dX4_init_35 : decode cX4_init 35 = .ok (.newarray .int, 2) := by decide +kernel
theorem dX4_init_37 : decode cX4_init 37 = .ok (.putfield 20, 3) := by decide +kernel
theorem dX4_init_40 : decode cX4_init 40 = .ok (.aload_n 0, 1) := by decide +kernel
theorem dX4_init_41 : decode cX4_init 41 = .ok (.sipush 5600, 3) := by decide +kernel
theorem dX4_init_44 : decode cX4_init 44 = .ok (.newarray .byte, 2) := by decide +kernel
theorem dX4_init_46 : decode cX4_init 46 = .ok (.putfield 23, 3) := by decide +kernel
theorem dX4_init_49 : decode cX4_init 49 = .ok (.aload_n 0, 1) := by decide +kernel
theorem dX4_init_50 : decode cX4_init 50 = .ok (.sipush 1024, 3) := by decide +kernel
theorem dX4_init_53 : decode cX4_init 53 = .ok (.newarray .byte, 2) := by decide +kernel
theorem dX4_init_55 : decode cX4_init 55 = .ok (.putfield 26, 3) := by decide +kernel
theorem dX4_init_58 : decode cX4_init 58 = .ok (.aload_n 0, 1) := by decide +kernel
theorem dX4_init_59 : decode cX4_init 59 = .ok (.iconst (-1), 1) := by decide +kernel
theorem dX4_init_60 : decode cX4_init 60 = .ok (.putfield 29, 3) := by decide +kernel
theorem dX4_init_63 : decode cX4_init 63 = .ok (.aload_n 0, 1) := by decide +kernel
theorem dX4_init_64 : decode cX4_init 64 = .ok (.bipush 11, 2) := by decide +kernel
theorem dX4_init_66 : decode cX4_init 66 = .ok (.newarray .int, 2) := by decide +kernel
theorem dX4_init_68 : decode cX4_init 68 = .ok (.putfield 33, 3) := by decide +kernel
theorem dX4_init_71 : decode cX4_init 71 = .ok (.aload_n 0, 1) := by decide +kernel
theorem dX4_init_72 : decode cX4_init 72 = .ok (.bipush 8, 2) := by decide +kernel
theorem dX4_init_74 : decode cX4_init 74 = .ok (.newarray .byte, 2) := by decide +kernel
theorem dX4_init_76 : decode cX4_init 76 = .ok (.putfield 36, 3) := by decide +kernel
theorem dX4_init_79 : decode cX4_init 79 = .ok (.aload_n 0, 1) := by decide +kernel
theorem dX4_init_80 : decode cX4_init 80 = .ok (.bipush 32, 2) := by decide +kernel
theorem dX4_init_82 : decode cX4_init 82 = .ok (.newarray .byte, 2) := by decide +kernel
theorem dX4_init_84 : decode cX4_init 84 = .ok (.putfield 39, 3) := by decide +kernel
theorem dX4_init_87 : decode cX4_init 87 = .ok (.aload_n 0, 1) := by decide +kernel
theorem dX4_init_88 : decode cX4_init 88 = .ok (.bipush 64, 2) := by decide +kernel
theorem dX4_init_90 : decode cX4_init 90 = .ok (.newarray .int, 2) := by decide +kernel
theorem dX4_init_92 : decode cX4_init 92 = .ok (.putfield 42, 3) := by decide +kernel
theorem dX4_init_95 : decode cX4_init 95 = .ok (.aload_n 0, 1) := by decide +kernel
theorem dX4_init_96 : decode cX4_init 96 = .ok (.sipush 1152, 3) := by decide +kernel
theorem dX4_init_99 : decode cX4_init 99 = .ok (.newarray .byte, 2) := by decide +kernel
theorem dX4_init_101 : decode cX4_init 101 = .ok (.putfield 45, 3) := by decide +kernel
theorem dX4_init_104 : decode cX4_init 104 = .ok (.aload_n 0, 1) := by decide +kernel
theorem dX4_init_105 : decode cX4_init 105 = .ok (.bipush 8, 2) := by decide +kernel
theorem dX4_init_107 : decode cX4_init 107 = .ok (.newarray .int, 2) := by decide +kernel
theorem dX4_init_109 : decode cX4_init 109 = .ok (.putfield 48, 3) := by decide +kernel
theorem dX4_init_112 : decode cX4_init 112 = .ok (.aload_n 0, 1) := by decide +kernel
theorem dX4_init_113 : decode cX4_init 113 = .ok (.iconst 5, 1) := by decide +kernel
theorem dX4_init_114 : decode cX4_init 114 = .ok (.newarray .int, 2) := by decide +kernel
theorem dX4_init_116 : decode cX4_init 116 = .ok (.putfield 51, 3) := by decide +kernel
theorem dX4_init_119 : decode cX4_init 119 = .ok (.iconst 0, 1) := by decide +kernel
theorem dX4_init_120 : decode cX4_init 120 = .ok (.istore_n 1, 1) := by decide +kernel
theorem dX4_init_121 : decode cX4_init 121 = .ok (.iload_n 1, 1) := by decide +kernel
theorem dX4_init_122 : decode cX4_init 122 = .ok (.sipush 2816, 3) := by decide +kernel
theorem dX4_init_125 : decode cX4_init 125 = .ok (.if_icmp .ge 16, 3) := by decide +kernel
theorem dX4_init_128 : decode cX4_init 128 = .ok (.aload_n 0, 1) := by decide +kernel
theorem dX4_init_129 : decode cX4_init 129 = .ok (.getfield 9, 3) := by decide +kernel
theorem dX4_init_132 : decode cX4_init 132 = .ok (.iload_n 1, 1) := by decide +kernel
theorem dX4_init_133 : decode cX4_init 133 = .ok (.iconst (-1), 1) := by decide +kernel
theorem dX4_init_134 : decode cX4_init 134 = .ok (.bastore, 1) := by decide +kernel
theorem dX4_init_135 : decode cX4_init 135 = .ok (.iinc 1 1, 3) := by decide +kernel
theorem dX4_init_138 : decode cX4_init 138 = .ok (.goto (-17), 3) := by decide +kernel
theorem dX4_init_141 : decode cX4_init 141 = .ok (.return_, 1) := by decide +kernel
theorem dX4_begins_0 : decode cX4_begins 0 = .ok (.iconst 0, 1) := by decide +kernel
theorem dX4_begins_1 : decode cX4_begins 1 = .ok (.istore_n 1, 1) := by decide +kernel
theorem dX4_begins_2 : decode cX4_begins 2 = .ok (.iload_n 1, 1) := by decide +kernel
theorem dX4_begins_3 : decode cX4_begins 3 = .ok (.sipush 2816, 3) := by decide +kernel
theorem dX4_begins_6 : decode cX4_begins 6 = .ok (.if_icmp .ge 21, 3) := by decide +kernel
theorem dX4_begins_9 : decode cX4_begins 9 = .ok (.aload_n 0, 1) := by decide +kernel
theorem dX4_begins_10 : decode cX4_begins 10 = .ok (.getfield 13, 3) := by decide +kernel
theorem dX4_begins_13 : decode cX4_begins 13 = .ok (.iload_n 1, 1) := by decide +kernel
theorem dX4_begins_14 : decode cX4_begins 14 = .ok (.aload_n 0, 1) := by decide +kernel
theorem dX4_begins_15 : decode cX4_begins 15 = .ok (.getfield 9, 3) := by decide +kernel
theorem dX4_begins_18 : decode cX4_begins 18 = .ok (.iload_n 1, 1) := by decide +kernel
theorem dX4_begins_19 : decode cX4_begins 19 = .ok (.baload, 1) := by decide +kernel
theorem dX4_begins_20 : decode cX4_begins 20 = .ok (.bastore, 1) := by decide +kernel
theorem dX4_begins_21 : decode cX4_begins 21 = .ok (.iinc 1 1, 3) := by decide +kernel
theorem dX4_begins_24 : decode cX4_begins 24 = .ok (.goto (-22), 3) := by decide +kernel
theorem dX4_begins_27 : decode cX4_begins 27 = .ok (.aload_n 0, 1) := by decide +kernel
theorem dX4_begins_28 : decode cX4_begins 28 = .ok (.iconst 0, 1) := by decide +kernel
theorem dX4_begins_29 : decode cX4_begins 29 = .ok (.putfield 54, 3) := by decide +kernel
theorem dX4_begins_32 : decode cX4_begins 32 = .ok (.aload_n 0, 1) := by decide +kernel
theorem dX4_begins_33 : decode cX4_begins 33 = .ok (.iconst (-1), 1) := by decide +kernel
theorem dX4_begins_34 : decode cX4_begins 34 = .ok (.putfield 57, 3) := by decide +kernel
theorem dX4_begins_37 : decode cX4_begins 37 = .ok (.return_, 1) := by decide +kernel
theorem dX4_erase_0 : decode cX4_erase 0 = .ok (.iconst 0, 1) := by decide +kernel
theorem dX4_erase_1 : decode cX4_erase 1 = .ok (.istore_n 2, 1) := by decide +kernel
theorem dX4_erase_2 : decode cX4_erase 2 = .ok (.iload_n 2, 1) := by decide +kernel
theorem dX4_erase_3 : decode cX4_erase 3 = .ok (.sipush 256, 3) := by decide +kernel
theorem dX4_erase_6 : decode cX4_erase 6 = .ok (.if_icmp .ge 22, 3) := by decide +kernel
theorem dX4_erase_9 : decode cX4_erase 9 = .ok (.aload_n 0, 1) := by decide +kernel
theorem dX4_erase_10 : decode cX4_erase 10 = .ok (.getfield 13, 3) := by decide +kernel
theorem dX4_erase_13 : decode cX4_erase 13 = .ok (.sipush 256, 3) := by decide +kernel
theorem dX4_erase_16 : decode cX4_erase 16 = .ok (.iload_n 1, 1) := by decide +kernel
theorem dX4_erase_17 : decode cX4_erase 17 = .ok (.imul, 1) := by decide +kernel
theorem dX4_erase_18 : decode cX4_erase 18 = .ok (.iload_n 2, 1) := by decide +kernel
theorem dX4_erase_19 : decode cX4_erase 19 = .ok (.iadd, 1) := by decide +kernel
theorem dX4_erase_20 : decode cX4_erase 20 = .ok (.iconst (-1), 1) := by decide +kernel
theorem dX4_erase_21 : decode cX4_erase 21 = .ok (.bastore, 1) := by decide +kernel
theorem dX4_erase_22 : decode cX4_erase 22 = .ok (.iinc 2 1, 3) := by decide +kernel
theorem dX4_erase_25 : decode cX4_erase 25 = .ok (.goto (-23), 3) := by decide +kernel
theorem dX4_erase_28 : decode cX4_erase 28 = .ok (.aload_n 0, 1) := by decide +kernel
theorem dX4_erase_29 : decode cX4_erase 29 = .ok (.getfield 16, 3) := by decide +kernel
theorem dX4_erase_32 : decode cX4_erase 32 = .ok (.aload_n 0, 1) := by decide +kernel
theorem dX4_erase_33 : decode cX4_erase 33 = .ok (.getfield 54, 3) := by decide +kernel
theorem dX4_erase_36 : decode cX4_erase 36 = .ok (.iload_n 1, 1) := by decide +kernel
theorem dX4_erase_37 : decode cX4_erase 37 = .ok (.iastore, 1) := by decide +kernel
theorem dX4_erase_38 : decode cX4_erase 38 = .ok (.aload_n 0, 1) := by decide +kernel
theorem dX4_erase_39 : decode cX4_erase 39 = .ok (.getfield 20, 3) := by decide +kernel
theorem dX4_erase_42 : decode cX4_erase 42 = .ok (.aload_n 0, 1) := by decide +kernel
theorem dX4_erase_43 : decode cX4_erase 43 = .ok (.getfield 54, 3) := by decide +kernel
theorem dX4_erase_46 : decode cX4_erase 46 = .ok (.iconst (-1), 1) := by decide +kernel
theorem dX4_erase_47 : decode cX4_erase 47 = .ok (.iastore, 1) := by decide +kernel
theorem dX4_erase_48 : decode cX4_erase 48 = .ok (.aload_n 0, 1) := by decide +kernel
theorem dX4_erase_49 : decode cX4_erase 49 = .ok (.dup, 1) := by decide +kernel
theorem dX4_erase_50 : decode cX4_erase 50 = .ok (.getfield 54, 3) := by decide +kernel
theorem dX4_erase_53 : decode cX4_erase 53 = .ok (.iconst 1, 1) := by decide +kernel
theorem dX4_erase_54 : decode cX4_erase 54 = .ok (.iadd, 1) := by decide +kernel
theorem dX4_erase_55 : decode cX4_erase 55 = .ok (.putfield 54, 3) := by decide +kernel
theorem dX4_erase_58 : decode cX4_erase 58 = .ok (.return_, 1) := by decide +kernel
theorem dX4_write_0 : decode cX4_write 0 = .ok (.iconst 0, 1) := by decide +kernel
theorem dX4_write_1 : decode cX4_write 1 = .ok (.istore 4, 2) := by decide +kernel
theorem dX4_write_3 : decode cX4_write 3 = .ok (.iload 4, 2) := by decide +kernel
theorem dX4_write_5 : decode cX4_write 5 = .ok (.bipush 8, 2) := by decide +kernel
theorem dX4_write_7 : decode cX4_write 7 = .ok (.if_icmp .ge 49, 3) := by decide +kernel
theorem dX4_write_10 : decode cX4_write 10 = .ok (.aload_n 0, 1) := by decide +kernel
theorem dX4_write_11 : decode cX4_write 11 = .ok (.getfield 23, 3) := by decide +kernel
theorem dX4_write_14 : decode cX4_write 14 = .ok (.bipush 8, 2) := by decide +kernel
theorem dX4_write_16 : decode cX4_write 16 = .ok (.aload_n 0, 1) := by decide +kernel
theorem dX4_write_17 : decode cX4_write 17 = .ok (.getfield 54, 3) := by decide +kernel
theorem dX4_write_20 : decode cX4_write 20 = .ok (.imul, 1) := by decide +kernel
theorem dX4_write_21 : decode cX4_write 21 = .ok (.iload 4, 2) := by decide +kernel
theorem dX4_write_23 : decode cX4_write 23 = .ok (.iadd, 1) := by decide +kernel
theorem dX4_write_24 : decode cX4_write 24 = .ok (.aload_n 2, 1) := by decide +kernel
theorem dX4_write_25 : decode cX4_write 25 = .ok (.iload_n 3, 1) := by decide +kernel
theorem dX4_write_26 : decode cX4_write 26 = .ok (.iload 4, 2) := by decide +kernel
theorem dX4_write_28 : decode cX4_write 28 = .ok (.iadd, 1) := by decide +kernel
theorem dX4_write_29 : decode cX4_write 29 = .ok (.baload, 1) := by decide +kernel
theorem dX4_write_30 : decode cX4_write 30 = .ok (.bastore, 1) := by decide +kernel
theorem dX4_write_31 : decode cX4_write 31 = .ok (.aload_n 0, 1) := by decide +kernel
theorem dX4_write_32 : decode cX4_write 32 = .ok (.getfield 13, 3) := by decide +kernel
theorem dX4_write_35 : decode cX4_write 35 = .ok (.iload_n 1, 1) := by decide +kernel
theorem dX4_write_36 : decode cX4_write 36 = .ok (.iload 4, 2) := by decide +kernel
theorem dX4_write_38 : decode cX4_write 38 = .ok (.iadd, 1) := by decide +kernel
theorem dX4_write_39 : decode cX4_write 39 = .ok (.dup2, 1) := by decide +kernel
theorem dX4_write_40 : decode cX4_write 40 = .ok (.baload, 1) := by decide +kernel
theorem dX4_write_41 : decode cX4_write 41 = .ok (.aload_n 2, 1) := by decide +kernel
theorem dX4_write_42 : decode cX4_write 42 = .ok (.iload_n 3, 1) := by decide +kernel
theorem dX4_write_43 : decode cX4_write 43 = .ok (.iload 4, 2) := by decide +kernel
theorem dX4_write_45 : decode cX4_write 45 = .ok (.iadd, 1) := by decide +kernel
theorem dX4_write_46 : decode cX4_write 46 = .ok (.baload, 1) := by decide +kernel
theorem dX4_write_47 : decode cX4_write 47 = .ok (.iand, 1) := by decide +kernel
theorem dX4_write_48 : decode cX4_write 48 = .ok (.i2b, 1) := by decide +kernel
theorem dX4_write_49 : decode cX4_write 49 = .ok (.bastore, 1) := by decide +kernel
theorem dX4_write_50 : decode cX4_write 50 = .ok (.iinc 4 1, 3) := by decide +kernel
theorem dX4_write_53 : decode cX4_write 53 = .ok (.goto (-50), 3) := by decide +kernel
theorem dX4_write_56 : decode cX4_write 56 = .ok (.aload_n 0, 1) := by decide +kernel
theorem dX4_write_57 : decode cX4_write 57 = .ok (.getfield 16, 3) := by decide +kernel
theorem dX4_write_60 : decode cX4_write 60 = .ok (.aload_n 0, 1) := by decide +kernel
theorem dX4_write_61 : decode cX4_write 61 = .ok (.getfield 54, 3) := by decide +kernel
theorem dX4_write_64 : decode cX4_write 64 = .ok (.iconst (-1), 1) := by decide +kernel
theorem dX4_write_65 : decode cX4_write 65 = .ok (.iastore, 1) := by decide +kernel
theorem dX4_write_66 : decode cX4_write 66 = .ok (.aload_n 0, 1) := by decide +kernel
theorem dX4_write_67 : decode cX4_write 67 = .ok (.getfield 20, 3) := by decide +kernel
theorem dX4_write_70 : decode cX4_write 70 = .ok (.aload_n 0, 1) := by decide +kernel
theorem dX4_write_71 : decode cX4_write 71 = .ok (.getfield 54, 3) := by decide +kernel
theorem dX4_write_74 : decode cX4_write 74 = .ok (.iload_n 1, 1) := by decide +kernel
theorem dX4_write_75 : decode cX4_write 75 = .ok (.iastore, 1) := by decide +kernel
theorem dX4_write_76 : decode cX4_write 76 = .ok (.aload_n 0, 1) := by decide +kernel
theorem dX4_write_77 : decode cX4_write 77 = .ok (.dup, 1) := by decide +kernel
theorem dX4_write_78 : decode cX4_write 78 = .ok (.getfield 54, 3) := by decide +kernel
theorem dX4_write_81 : decode cX4_write 81 = .ok (.iconst 1, 1) := by decide +kernel
theorem dX4_write_82 : decode cX4_write 82 = .ok (.iadd, 1) := by decide +kernel
theorem dX4_write_83 : decode cX4_write 83 = .ok (.putfield 54, 3) := by decide +kernel
theorem dX4_write_86 : decode cX4_write 86 = .ok (.return_, 1) := by decide +kernel
theorem dX4_unit_0 : decode cX4_unit 0 = .ok (.sipush 256, 3) := by decide +kernel
theorem dX4_unit_3 : decode cX4_unit 3 = .ok (.iload_n 0, 1) := by decide +kernel
theorem dX4_unit_4 : decode cX4_unit 4 = .ok (.imul, 1) := by decide +kernel
theorem dX4_unit_5 : decode cX4_unit 5 = .ok (.bipush 8, 2) := by decide +kernel
theorem dX4_unit_7 : decode cX4_unit 7 = .ok (.iload_n 1, 1) := by decide +kernel
theorem dX4_unit_8 : decode cX4_unit 8 = .ok (.imul, 1) := by decide +kernel
theorem dX4_unit_9 : decode cX4_unit 9 = .ok (.iadd, 1) := by decide +kernel
theorem dX4_unit_10 : decode cX4_unit 10 = .ok (.ireturn, 1) := by decide +kernel
set_option maxRecDepth 20000 in
theorem ggX4_mark_X4_unit : GoodIn wsX4_mark wsX4_unit := goodIn_r _ [5] (by decide +kernel) (by decide +kernel)
set_option maxRecDepth 20000 in
theorem gX4_mark_X4_unit : GoodIn wsX4_mark (va_wsS RX4 60 yX4_unit wsX4_unit) := goodIn_app (goodIn_of _ (by decide +kernel)) ggX4_mark_X4_unit
set_option maxRecDepth 20000 in
theorem ggX4_mark_X4_write : GoodIn wsX4_mark wsX4_write := goodIn_r _ [9, 10, 11, 12, 13, 14, 15, 16, 17, 18, 19, 20, 21, 22, 23, 24, 25, 26, 27, 28, 29, 30, 31, 32, 33, 34, 35, 36, 37, 38, 39, 40] (by decide +kernel) (by decide +kernel)
set_option maxRecDepth 20000 in
theorem gX4_mark_X4_write : GoodIn wsX4_mark (wsV RX4 64 RX4 yX4_write wsX4_write) := goodIn_app (goodIn_of _ (by decide +kernel)) ggX4_mark_X4_write
theorem dX4_mark_0 : decode cX4_mark 0 = .ok (.iconst 0, 1) := by decide +kernel
theorem dX4_mark_1 : decode cX4_mark 1 = .ok (.istore 4, 2) := by decide +kernel
theorem dX4_mark_3 : decode cX4_mark 3 = .ok (.iload 4, 2) := by decide +kernel
theorem dX4_mark_5 : decode cX4_mark 5 = .ok (.bipush 8, 2) := by decide +kernel
theorem dX4_mark_7 : decode cX4_mark 7 = .ok (.if_icmp .ge 18, 3) := by decide +kernel
theorem dX4_mark_10 : decode cX4_mark 10 = .ok (.aload_n 0, 1) := by decide +kernel
theorem dX4_mark_11 : decode cX4_mark 11 = .ok (.getfield 36, 3) := by decide +kernel
theorem dX4_mark_14 : decode cX4_mark 14 = .ok (.iload 4, 2) := by decide +kernel
theorem dX4_mark_16 : decode cX4_mark 16 = .ok (.iload_n 3, 1) := by decide +kernel
theorem dX4_mark_17 : decode cX4_mark 17 = .ok (.i2b, 1) := by decide +kernel
theorem dX4_mark_18 : decode cX4_mark 18 = .ok (.bastore, 1) := by decide +kernel
theorem dX4_mark_19 : decode cX4_mark 19 = .ok (.iinc 4 1, 3) := by decide +kernel
theorem dX4_mark_22 : decode cX4_mark 22 = .ok (.goto (-19), 3) := by decide +kernel
theorem dX4_mark_25 : decode cX4_mark 25 = .ok (.aload_n 0, 1) := by decide +kernel
theorem dX4_mark_26 : decode cX4_mark 26 = .ok (.iload_n 1, 1) := by decide +kernel
theorem dX4_mark_27 : decode cX4_mark 27 = .ok (.iload_n 2, 1) := by decide +kernel
theorem dX4_mark_28 : decode cX4_mark 28 = .ok (.invokestatic 60, 3) := by decide +kernel
theorem dX4_mark_31 : decode cX4_mark 31 = .ok (.aload_n 0, 1) := by decide +kernel
theorem dX4_mark_32 : decode cX4_mark 32 = .ok (.getfield 36, 3) := by decide +kernel
theorem dX4_mark_35 : decode cX4_mark 35 = .ok (.iconst 0, 1) := by decide +kernel
theorem dX4_mark_36 : decode cX4_mark 36 = .ok (.invokevirtual 64, 3) := by decide +kernel
theorem dX4_mark_39 : decode cX4_mark 39 = .ok (.return_, 1) := by decide +kernel
set_option maxRecDepth 20000 in
theorem ggX4_magic_X4_unit : GoodIn wsX4_magic wsX4_unit := goodIn_r _ [6] (by decide +kernel) (by decide +kernel)
set_option maxRecDepth 20000 in
theorem gX4_magic_X4_unit : GoodIn wsX4_magic (va_wsS RX4 60 yX4_unit wsX4_unit) := goodIn_app (goodIn_of _ (by decide +kernel)) ggX4_magic_X4_unit
set_option maxRecDepth 20000 in
theorem ggX4_magic_X4_write : GoodIn wsX4_magic wsX4_write := goodIn_r _ [10, 11, 12, 13, 14, 15, 16, 17, 18, 19, 20, 21, 22, 23, 24, 25, 26, 27, 28, 29, 30, 31, 32, 33, 34, 35, 36, 37, 38, 39, 40, 41] (by decide +kernel) (by decide +kernel)
set_option maxRecDepth 20000 in
theorem gX4_magic_X4_write : GoodIn wsX4_magic (wsV RX4 64 RX4 yX4_write wsX4_write) := goodIn_app (goodIn_of _ (by decide +kernel)) ggX4_magic_X4_write
theorem dX4_magic_0 : decode cX4_magic 0 = .ok (.iconst 0, 1) := by decide +kernel
theorem dX4_magic_1 : decode cX4_magic 1 = .ok (.istore_n 2, 1) := by decide +kernel
theorem dX4_magic_2 : decode cX4_magic 2 = .ok (.iload_n 2, 1) := by decide +kernel
theorem dX4_magic_3 : decode cX4_magic 3 = .ok (.bipush 8, 2) := by decide +kernel
theorem dX4_magic_5 : decode cX4_magic 5 = .ok (.if_icmp .ge 21, 3) := by decide +kernel
theorem dX4_magic_8 : decode cX4_magic 8 = .ok (.aload_n 0, 1) := by decide +kernel
theorem dX4_magic_9 : decode cX4_magic 9 = .ok (.getfield 36, 3) := by decide +kernel
theorem dX4_magic_12 : decode cX4_magic 12 = .ok (.iload_n 2, 1) := by decide +kernel
theorem dX4_magic_13 : decode cX4_magic 13 = .ok (.getstatic 68, 3) := by decide +kernel
theorem dX4_magic_16 : decode cX4_magic 16 = .ok (.iload_n 2, 1) := by decide +kernel
theorem dX4_magic_17 : decode cX4_magic 17 = .ok (.iaload, 1) := by decide +kernel
theorem dX4_magic_18 : decode cX4_magic 18 = .ok (.i2b, 1) := by decide +kernel
theorem dX4_magic_19 : decode cX4_magic 19 = .ok (.bastore, 1) := by decide +kernel
theorem dX4_magic_20 : decode cX4_magic 20 = .ok (.iinc 2 1, 3) := by decide +kernel
theorem dX4_magic_23 : decode cX4_magic 23 = .ok (.goto (-21), 3) := by decide +kernel
theorem dX4_magic_26 : decode cX4_magic 26 = .ok (.aload_n 0, 1) := by decide +kernel
theorem dX4_magic_27 : decode cX4_magic 27 = .ok (.iload_n 1, 1) := by decide +kernel
theorem dX4_magic_28 : decode cX4_magic 28 = .ok (.iconst 0, 1) := by decide +kernel
theorem dX4_magic_29 : decode cX4_magic 29 = .ok (.invokestatic 60, 3) := by decide +kernel
theorem dX4_magic_32 : decode cX4_magic 32 = .ok (.aload_n 0, 1) := by decide +kernel
theorem dX4_magic_33 : decode cX4_magic 33 = .ok (.getfield 36, 3) := by decide +kernel
theorem dX4_magic_36 : decode cX4_magic 36 = .ok (.iconst 0, 1) := by decide +kernel
theorem dX4_magic_37 : decode cX4_magic 37 = .ok (.invokevirtual 64, 3) := by decide +kernel
theorem dX4_magic_40 : decode cX4_magic 40 = .ok (.return_, 1) := by decide +kernel
theorem dX4_isBlank_0 : decode cX4_isBlank 0 = .ok (.iconst 1, 1) := by decide +kernel
theorem dX4_isBlank_1 : decode cX4_isBlank 1 = .ok (.istore_n 2, 1) := by decide +kernel
theorem dX4_isBlank_2 : decode cX4_isBlank 2 = .ok (.iconst 0, 1) := by decide +kernel
theorem dX4_isBlank_3 : decode cX4_isBlank 3 = .ok (.istore_n 3, 1) := by decide +kernel
theorem dX4_isBlank_4 : decode cX4_isBlank 4 = .ok (.iload_n 3, 1) := by decide +kernel
theorem dX4_isBlank_5 : decode cX4_isBlank 5 = .ok (.bipush 8, 2) := by decide +kernel
theorem dX4_isBlank_7 : decode cX4_isBlank 7 = .ok (.if_icmp .ge 28, 3) := by decide +kernel
theorem dX4_isBlank_10 : decode cX4_isBlank 10 = .ok (.iload_n 2, 1) := by decide +kernel
theorem dX4_isBlank_11 : decode cX4_isBlank 11 = .ok (.ifCond .eq 16, 3) := by decide +kernel
theorem dX4_isBlank_14 : decode cX4_isBlank 14 = .ok (.aload_n 0, 1) := by decide +kernel
theorem dX4_isBlank_15 : decode cX4_isBlank 15 = .ok (.iload_n 1, 1) := by decide +kernel
theorem dX4_isBlank_16 : decode cX4_isBlank 16 = .ok (.iload_n 3, 1) := by decide +kernel
theorem dX4_isBlank_17 : decode cX4_isBlank 17 = .ok (.iadd, 1) := by decide +kernel
theorem dX4_isBlank_18 : decode cX4_isBlank 18 = .ok (.baload, 1) := by decide +kernel
theorem dX4_isBlank_19 : decode cX4_isBlank 19 = .ok (.iconst (-1), 1) := by decide +kernel
theorem dX4_isBlank_20 : decode cX4_isBlank 20 = .ok (.if_icmp .ne 7, 3) := by decide +kernel
theorem dX4_isBlank_23 : decode cX4_isBlank 23 = .ok (.iconst 1, 1) := by decide +kernel
theorem dX4_isBlank_24 : decode cX4_isBlank 24 = .ok (.goto 4, 3) := by decide +kernel
theorem dX4_isBlank_27 : decode cX4_isBlank 27 = .ok (.iconst 0, 1) := by decide +kernel
theorem dX4_isBlank_28 : decode cX4_isBlank 28 = .ok (.istore_n 2, 1) := by decide +kernel
theorem dX4_isBlank_29 : decode cX4_isBlank 29 = .ok (.iinc 3 1, 3) := by decide +kernel
theorem dX4_isBlank_32 : decode cX4_isBlank 32 = .ok (.goto (-28), 3) := by decide +kernel
theorem dX4_isBlank_35 : decode cX4_isBlank 35 = .ok (.iload_n 2, 1) := by decide +kernel
theorem dX4_isBlank_36 : decode cX4_isBlank 36 = .ok (.ireturn, 1) := by decide +kernel
set_option maxRecDepth 20000 in
theorem ggX4_copy_X4_unit : GoodIn wsX4_copy wsX4_unit := goodIn_r _ [5] (by decide +kernel) (by decide +kernel)
set_option maxRecDepth 20000 in
theorem gX4_copy_X4_unit : GoodIn wsX4_copy (va_wsS RX4 60 yX4_unit wsX4_unit) := goodIn_app (goodIn_of _ (by decide +kernel)) ggX4_copy_X4_unit
set_option maxRecDepth 20000 in
theorem ggX4_copy_X4_isBlank : GoodIn wsX4_copy wsX4_isBlank := goodIn_r _ [8] (by decide +kernel) (by decide +kernel)
set_option maxRecDepth 20000 in
theorem gX4_copy_X4_isBlank : GoodIn wsX4_copy (va_wsS RX4 71 yX4_isBlank wsX4_isBlank) := goodIn_app (goodIn_of _ (by decide +kernel)) ggX4_copy_X4_isBlank
set_option maxRecDepth 20000 in
theorem ggX4_copy_X4_write : GoodIn wsX4_copy wsX4_write := goodIn_r _ [12, 13, 14, 1, 15, 16, 17, 18, 19, 20, 21, 22, 23, 24, 25, 26, 27, 28, 29, 30, 31, 32, 33, 34, 35, 36, 37, 38, 39, 40, 41, 42] (by decide +kernel) (by decide +kernel)
set_option maxRecDepth 20000 in
theorem gX4_copy_X4_write : GoodIn wsX4_copy (wsV RX4 64 RX4 yX4_write wsX4_write) := goodIn_app (goodIn_of _ (by decide +kernel)) ggX4_copy_X4_write
theorem dX4_copy_0 : decode cX4_copy 0 = .ok (.iconst 0, 1) := by decide +kernel
theorem dX4_copy_1 : decode cX4_copy 1 = .ok (.istore_n 3, 1) := by decide +kernel
theorem dX4_copy_2 : decode cX4_copy 2 = .ok (.iload_n 3, 1) := by decide +kernel
theorem dX4_copy_3 : decode cX4_copy 3 = .ok (.bipush 32, 2) := by decide +kernel
theorem dX4_copy_5 : decode cX4_copy 5 = .ok (.if_icmp .ge 42, 3) := by decide +kernel
theorem dX4_copy_8 : decode cX4_copy 8 = .ok (.aload_n 0, 1) := by decide +kernel
theorem dX4_copy_9 : decode cX4_copy 9 = .ok (.getfield 13, 3) := by decide +kernel
theorem dX4_copy_12 : decode cX4_copy 12 = .ok (.iload_n 1, 1) := by decide +kernel
theorem dX4_copy_13 : decode cX4_copy 13 = .ok (.iload_n 3, 1) := by decide +kernel
theorem dX4_copy_14 : decode cX4_copy 14 = .ok (.invokestatic 60, 3) := by decide +kernel
theorem dX4_copy_17 : decode cX4_copy 17 = .ok (.invokestatic 71, 3) := by decide +kernel
theorem dX4_copy_20 : decode cX4_copy 20 = .ok (.ifCond .ne 21, 3) := by decide +kernel
theorem dX4_copy_23 : decode cX4_copy 23 = .ok (.aload_n 0, 1) := by decide +kernel
theorem dX4_copy_24 : decode cX4_copy 24 = .ok (.iload_n 2, 1) := by decide +kernel
theorem dX4_copy_25 : decode cX4_copy 25 = .ok (.iload_n 3, 1) := by decide +kernel
theorem dX4_copy_26 : decode cX4_copy 26 = .ok (.invokestatic 60, 3) := by decide +kernel
theorem dX4_copy_29 : decode cX4_copy 29 = .ok (.aload_n 0, 1) := by decide +kernel
theorem dX4_copy_30 : decode cX4_copy 30 = .ok (.getfield 13, 3) := by decide +kernel
theorem dX4_copy_33 : decode cX4_copy 33 = .ok (.iload_n 1, 1) := by decide +kernel
theorem dX4_copy_34 : decode cX4_copy 34 = .ok (.iload_n 3, 1) := by decide +kernel
theorem dX4_copy_35 : decode cX4_copy 35 = .ok (.invokestatic 60, 3) := by decide +kernel
theorem dX4_copy_38 : decode cX4_copy 38 = .ok (.invokevirtual 64, 3) := by decide +kernel
theorem dX4_copy_41 : decode cX4_copy 41 = .ok (.iinc 3 1, 3) := by decide +kernel
theorem dX4_copy_44 : decode cX4_copy 44 = .ok (.goto (-42), 3) := by decide +kernel
theorem dX4_copy_47 : decode cX4_copy 47 = .ok (.return_, 1) := by decide +kernel
set_option maxRecDepth 20000 in
theorem ggX4_does_X4_act : GoodIn wsX4_does wsX4_act := goodIn_r _ [17, 6, 7, 9, 18, 19, 20, 21, 22, 23, 24, 25, 26, 27, 28, 29, 30, 31, 32, 33, 34, 35, 36, 37, 38, 39, 40, 41, 42, 43, 44, 45] (by decide +kernel) (by decide +kernel)
set_option maxRecDepth 20000 in
theorem gX4_does_X4_act : GoodIn wsX4_does (wsV RX4 75 RX4 yX4_act wsX4_act) := goodIn_app (goodIn_of _ (by decide +kernel)) ggX4_does_X4_act
theorem dX4_does_0 : decode cX4_does 0 = .ok (.iconst 0, 1) := by decide +kernel
theorem dX4_does_1 : decode cX4_does 1 = .ok (.istore_n 1, 1) := by decide +kernel
theorem dX4_does_2 : decode cX4_does 2 = .ok (.iload_n 1, 1) := by decide +kernel
theorem dX4_does_3 : decode cX4_does 3 = .ok (.aload_n 0, 1) := by decide +kernel
theorem dX4_does_4 : decode cX4_does 4 = .ok (.getfield 54, 3) := by decide +kernel
theorem dX4_does_7 : decode cX4_does 7 = .ok (.if_icmp .ge 66, 3) := by decide +kernel
theorem dX4_does_10 : decode cX4_does 10 = .ok (.aload_n 0, 1) := by decide +kernel
theorem dX4_does_11 : decode cX4_does 11 = .ok (.getfield 29, 3) := by decide +kernel
theorem dX4_does_14 : decode cX4_does 14 = .ok (.ifCond .eq 59, 3) := by decide +kernel
theorem dX4_does_17 : decode cX4_does 17 = .ok (.aload_n 0, 1) := by decide +kernel
theorem dX4_does_18 : decode cX4_does 18 = .ok (.iload_n 1, 1) := by decide +kernel
theorem dX4_does_19 : decode cX4_does 19 = .ok (.invokevirtual 75, 3) := by decide +kernel
theorem dX4_does_22 : decode cX4_does 22 = .ok (.aload_n 0, 1) := by decide +kernel
theorem dX4_does_23 : decode cX4_does 23 = .ok (.getfield 29, 3) := by decide +kernel
theorem dX4_does_26 : decode cX4_does 26 = .ok (.ifCond .le 13, 3) := by decide +kernel
theorem dX4_does_29 : decode cX4_does 29 = .ok (.aload_n 0, 1) := by decide +kernel
theorem dX4_does_30 : decode cX4_does 30 = .ok (.dup, 1) := by decide +kernel
theorem dX4_does_31 : decode cX4_does 31 = .ok (.getfield 29, 3) := by decide +kernel
theorem dX4_does_34 : decode cX4_does 34 = .ok (.iconst 1, 1) := by decide +kernel
theorem dX4_does_35 : decode cX4_does 35 = .ok (.isub, 1) := by decide +kernel
theorem dX4_does_36 : decode cX4_does 36 = .ok (.putfield 29, 3) := by decide +kernel
theorem dX4_does_39 : decode cX4_does 39 = .ok (.aload_n 0, 1) := by decide +kernel
theorem dX4_does_40 : decode cX4_does 40 = .ok (.dup, 1) := by decide +kernel
theorem dX4_does_41 : decode cX4_does 41 = .ok (.getfield 79, 3) := by decide +kernel
theorem dX4_does_44 : decode cX4_does 44 = .ok (.iconst 1, 1) := by decide +kernel
theorem dX4_does_45 : decode cX4_does 45 = .ok (.iadd, 1) := by decide +kernel
theorem dX4_does_46 : decode cX4_does 46 = .ok (.putfield 79, 3) := by decide +kernel
theorem dX4_does_49 : decode cX4_does 49 = .ok (.iload_n 1, 1) := by decide +kernel
theorem dX4_does_50 : decode cX4_does 50 = .ok (.aload_n 0, 1) := by decide +kernel
theorem dX4_does_51 : decode cX4_does 51 = .ok (.getfield 57, 3) := by decide +kernel
theorem dX4_does_54 : decode cX4_does 54 = .ok (.if_icmp .ne 13, 3) := by decide +kernel
theorem dX4_does_57 : decode cX4_does 57 = .ok (.aload_n 0, 1) := by decide +kernel
theorem dX4_does_58 : decode cX4_does 58 = .ok (.dup, 1) := by decide +kernel
theorem dX4_does_59 : decode cX4_does 59 = .ok (.getfield 82, 3) := by decide +kernel
theorem dX4_does_62 : decode cX4_does 62 = .ok (.iconst 1, 1) := by decide +kernel
theorem dX4_does_63 : decode cX4_does 63 = .ok (.iadd, 1) := by decide +kernel
theorem dX4_does_64 : decode cX4_does 64 = .ok (.putfield 82, 3) := by decide +kernel
theorem dX4_does_67 : decode cX4_does 67 = .ok (.iinc 1 1, 3) := by decide +kernel
theorem dX4_does_70 : decode cX4_does 70 = .ok (.goto (-68), 3) := by decide +kernel
theorem dX4_does_73 : decode cX4_does 73 = .ok (.iload_n 1, 1) := by decide +kernel
theorem dX4_does_74 : decode cX4_does 74 = .ok (.aload_n 0, 1) := by decide +kernel
theorem dX4_does_75 : decode cX4_does 75 = .ok (.getfield 54, 3) := by decide +kernel
theorem dX4_does_78 : decode cX4_does 78 = .ok (.if_icmp .ne 5, 3) := by decide +kernel
theorem dX4_does_81 : decode cX4_does 81 = .ok (.iconst 1, 1) := by decide +kernel
theorem dX4_does_82 : decode cX4_does 82 = .ok (.ireturn, 1) := by decide +kernel
theorem dX4_does_83 : decode cX4_does 83 = .ok (.aload_n 0, 1) := by decide +kernel
theorem dX4_does_84 : decode cX4_does 84 = .ok (.getfield 16, 3) := by decide +kernel
theorem dX4_does_87 : decode cX4_does 87 = .ok (.iload_n 1, 1) := by decide +kernel
theorem dX4_does_88 : decode cX4_does 88 = .ok (.iaload, 1) := by decide +kernel
theorem dX4_does_89 : decode cX4_does 89 = .ok (.ifCond .lt 55, 3) := by decide +kernel
theorem dX4_does_92 : decode cX4_does 92 = .ok (.aload_n 0, 1) := by decide +kernel
theorem dX4_does_93 : decode cX4_does 93 = .ok (.getfield 33, 3) := by decide +kernel
theorem dX4_does_96 : decode cX4_does 96 = .ok (.aload_n 0, 1) := by decide +kernel
theorem dX4_does_97 : decode cX4_does 97 = .ok (.getfield 16, 3) := by decide +kernel
theorem dX4_does_100 : decode cX4_does 100 = .ok (.iload_n 1, 1) := by decide +kernel
theorem dX4_does_101 : decode cX4_does 101 = .ok (.iaload, 1) := by decide +kernel
theorem dX4_does_102 : decode cX4_does 102 = .ok (.dup2, 1) := by decide +kernel
theorem dX4_does_103 : decode cX4_does 103 = .ok (.iaload, 1) := by decide +kernel
theorem dX4_does_104 : decode cX4_does 104 = .ok (.iconst 1, 1) := by decide +kernel
theorem dX4_does_105 : decode cX4_does 105 = .ok (.iadd, 1) := by decide +kernel
theorem dX4_does_106 : decode cX4_does 106 = .ok (.iastore, 1) := by decide +kernel
theorem dX4_does_107 : decode cX4_does 107 = .ok (.iconst 0, 1) := by decide +kernel
theorem dX4_does_108 : decode cX4_does 108 = .ok (.istore_n 2, 1) := by decide +kernel
theorem dX4_does_109 : decode cX4_does 109 = .ok (.iload_n 2, 1) := by decide +kernel
theorem dX4_does_110 : decode cX4_does 110 = .ok (.bipush 8, 2) := by decide +kernel
theorem dX4_does_112 : decode cX4_does 112 = .ok (.aload_n 0, 1) := by decide +kernel
theorem dX4_does_113 : decode cX4_does 113 = .ok (.getfield 85, 3) := by decide +kernel
theorem dX4_does_116 : decode cX4_does 116 = .ok (.imul, 1) := by decide +kernel
theorem dX4_does_117 : decode cX4_does 117 = .ok (.if_icmp .ge 27, 3) := by decide +kernel
theorem dX4_does_120 : decode cX4_does 120 = .ok (.aload_n 0, 1) := by decide +kernel
theorem dX4_does_121 : decode cX4_does 121 = .ok (.getfield 9, 3) := by decide +kernel
theorem dX4_does_124 : decode cX4_does 124 = .ok (.sipush 256, 3) := by decide +kernel
theorem dX4_does_127 : decode cX4_does 127 = .ok (.aload_n 0, 1) := by decide +kernel
theorem dX4_does_128 : decode cX4_does 128 = .ok (.getfield 16, 3) := by decide +kernel
theorem dX4_does_131 : decode cX4_does 131 = .ok (.iload_n 1, 1) := by decide +kernel
theorem dX4_does_132 : decode cX4_does 132 = .ok (.iaload, 1) := by decide +kernel
theorem dX4_does_133 : decode cX4_does 133 = .ok (.imul, 1) := by decide +kernel
theorem dX4_does_134 : decode cX4_does 134 = .ok (.iload_n 2, 1) := by decide +kernel
theorem dX4_does_135 : decode cX4_does 135 = .ok (.iadd, 1) := by decide +kernel
theorem dX4_does_136 : decode cX4_does 136 = .ok (.iconst (-1), 1) := by decide +kernel
theorem dX4_does_137 : decode cX4_does 137 = .ok (.bastore, 1) := by decide +kernel
theorem dX4_does_138 : decode cX4_does 138 = .ok (.iinc 2 1, 3) := by decide +kernel
theorem dX4_does_141 : decode cX4_does 141 = .ok (.goto (-32), 3) := by decide +kernel
theorem dX4_does_144 : decode cX4_does 144 = .ok (.aload_n 0, 1) := by decide +kernel
theorem dX4_does_145 : decode cX4_does 145 = .ok (.iconst 1, 1) := by decide +kernel
theorem dX4_does_146 : decode cX4_does 146 = .ok (.putfield 88, 3) := by decide +kernel
theorem dX4_does_149 : decode cX4_does 149 = .ok (.aload_n 0, 1) := by decide +kernel
theorem dX4_does_150 : decode cX4_does 150 = .ok (.iconst 0, 1) := by decide +kernel
theorem dX4_does_151 : decode cX4_does 151 = .ok (.putfield 92, 3) := by decide +kernel
theorem dX4_does_154 : decode cX4_does 154 = .ok (.aload_n 0, 1) := by decide +kernel
theorem dX4_does_155 : decode cX4_does 155 = .ok (.dup, 1) := by decide +kernel
theorem dX4_does_156 : decode cX4_does 156 = .ok (.getfield 95, 3) := by decide +kernel
theorem dX4_does_159 : decode cX4_does 159 = .ok (.iconst 1, 1) := by decide +kernel
theorem dX4_does_160 : decode cX4_does 160 = .ok (.iadd, 1) := by decide +kernel
theorem dX4_does_161 : decode cX4_does 161 = .ok (.putfield 95, 3) := by decide +kernel
theorem dX4_does_164 : decode cX4_does 164 = .ok (.iconst 0, 1) := by decide +kernel
theorem dX4_does_165 : decode cX4_does 165 = .ok (.ireturn, 1) := by decide +kernel
theorem dX4_act_0 : decode cX4_act 0 = .ok (.aload_n 0, 1) := by decide +kernel
theorem dX4_act_1 : decode cX4_act 1 = .ok (.getfield 16, 3) := by decide +kernel
theorem dX4_act_4 : decode cX4_act 4 = .ok (.iload_n 1, 1) := by decide +kernel
theorem dX4_act_5 : decode cX4_act 5 = .ok (.iaload, 1) := by decide +kernel
theorem dX4_act_6 : decode cX4_act 6 = .ok (.ifCond .lt 54, 3) := by decide +kernel
theorem dX4_act_9 : decode cX4_act 9 = .ok (.aload_n 0, 1) := by decide +kernel
theorem dX4_act_10 : decode cX4_act 10 = .ok (.getfield 33, 3) := by decide +kernel
theorem dX4_act_13 : decode cX4_act 13 = .ok (.aload_n 0, 1) := by decide +kernel
theorem dX4_act_14 : decode cX4_act 14 = .ok (.getfield 16, 3) := by decide +kernel
theorem dX4_act_17 : decode cX4_act 17 = .ok (.iload_n 1, 1) := by decide +kernel
theorem dX4_act_18 : decode cX4_act 18 = .ok (.iaload, 1) := by decide +kernel
theorem dX4_act_19 : decode cX4_act 19 = .ok (.dup2, 1) := by decide +kernel
theorem dX4_act_20 : decode cX4_act 20 = .ok (.iaload, 1) := by decide +kernel
theorem dX4_act_21 : decode cX4_act 21 = .ok (.iconst 1, 1) := by decide +kernel
theorem dX4_act_22 : decode cX4_act 22 = .ok (.iadd, 1) := by decide +kernel
theorem dX4_act_23 : decode cX4_act 23 = .ok (.iastore, 1) := by decide +kernel
theorem dX4_act_24 : decode cX4_act 24 = .ok (.iconst 0, 1) := by decide +kernel
theorem dX4_act_25 : decode cX4_act 25 = .ok (.istore_n 2, 1) := by decide +kernel
theorem dX4_act_26 : decode cX4_act 26 = .ok (.iload_n 2, 1) := by decide +kernel
theorem dX4_act_27 : decode cX4_act 27 = .ok (.sipush 256, 3) := by decide +kernel
theorem dX4_act_30 : decode cX4_act 30 = .ok (.if_icmp .ge 27, 3) := by decide +kernel
theorem dX4_act_33 : decode cX4_act 33 = .ok (.aload_n 0, 1) := by decide +kernel
theorem dX4_act_34 : decode cX4_act 34 = .ok (.getfield 9, 3) := by decide +kernel
theorem dX4_act_37 : decode cX4_act 37 = .ok (.sipush 256, 3) := by decide +kernel
theorem dX4_act_40 : decode cX4_act 40 = .ok (.aload_n 0, 1) := by decide +kernel
theorem dX4_act_41 : decode cX4_act 41 = .ok (.getfield 16, 3) := by decide +kernel
theorem dX4_act_44 : decode cX4_act 44 = .ok (.iload_n 1, 1) := by decide +kernel
theorem dX4_act_45 : decode cX4_act 45 = .ok (.iaload, 1) := by decide +kernel
theorem dX4_act_46 : decode cX4_act 46 = .ok (.imul, 1) := by decide +kernel
theorem dX4_act_47 : decode cX4_act 47 = .ok (.iload_n 2, 1) := by decide +kernel
theorem dX4_act_48 : decode cX4_act 48 = .ok (.iadd, 1) := by decide +kernel
theorem dX4_act_49 : decode cX4_act 49 = .ok (.iconst (-1), 1) := by decide +kernel
theorem dX4_act_50 : decode cX4_act 50 = .ok (.bastore, 1) := by decide +kernel
theorem dX4_act_51 : decode cX4_act 51 = .ok (.iinc 2 1, 3) := by decide +kernel
theorem dX4_act_54 : decode cX4_act 54 = .ok (.goto (-28), 3) := by decide +kernel
theorem dX4_act_57 : decode cX4_act 57 = .ok (.goto 45, 3) := by decide +kernel
theorem dX4_act_60 : decode cX4_act 60 = .ok (.iconst 0, 1) := by decide +kernel
theorem dX4_act_61 : decode cX4_act 61 = .ok (.istore_n 2, 1) := by decide +kernel
theorem dX4_act_62 : decode cX4_act 62 = .ok (.iload_n 2, 1) := by decide +kernel
theorem dX4_act_63 : decode cX4_act 63 = .ok (.bipush 8, 2) := by decide +kernel
theorem dX4_act_65 : decode cX4_act 65 = .ok (.if_icmp .ge 37, 3) := by decide +kernel
theorem dX4_act_68 : decode cX4_act 68 = .ok (.aload_n 0, 1) := by decide +kernel
theorem dX4_act_69 : decode cX4_act 69 = .ok (.getfield 9, 3) := by decide +kernel
theorem dX4_act_72 : decode cX4_act 72 = .ok (.aload_n 0, 1) := by decide +kernel
theorem dX4_act_73 : decode cX4_act 73 = .ok (.getfield 20, 3) := by decide +kernel
theorem dX4_act_76 : decode cX4_act 76 = .ok (.iload_n 1, 1) := by decide +kernel
theorem dX4_act_77 : decode cX4_act 77 = .ok (.iaload, 1) := by decide +kernel
theorem dX4_act_78 : decode cX4_act 78 = .ok (.iload_n 2, 1) := by decide +kernel
theorem dX4_act_79 : decode cX4_act 79 = .ok (.iadd, 1) := by decide +kernel
theorem dX4_act_80 : decode cX4_act 80 = .ok (.dup2, 1) := by decide +kernel
theorem dX4_act_81 : decode cX4_act 81 = .ok (.baload, 1) := by decide +kernel
theorem dX4_act_82 : decode cX4_act 82 = .ok (.aload_n 0, 1) := by decide +kernel
theorem dX4_act_83 : decode cX4_act 83 = .ok (.getfield 23, 3) := by decide +kernel
theorem dX4_act_86 : decode cX4_act 86 = .ok (.bipush 8, 2) := by decide +kernel
theorem dX4_act_88 : decode cX4_act 88 = .ok (.iload_n 1, 1) := by decide +kernel
theorem dX4_act_89 : decode cX4_act 89 = .ok (.imul, 1) := by decide +kernel
theorem dX4_act_90 : decode cX4_act 90 = .ok (.iload_n 2, 1) := by decide +kernel
theorem dX4_act_91 : decode cX4_act 91 = .ok (.iadd, 1) := by decide +kernel
theorem dX4_act_92 : decode cX4_act 92 = .ok (.baload, 1) := by decide +kernel
theorem dX4_act_93 : decode cX4_act 93 = .ok (.iand, 1) := by decide +kernel
theorem dX4_act_94 : decode cX4_act 94 = .ok (.i2b, 1) := by decide +kernel
theorem dX4_act_95 : decode cX4_act 95 = .ok (.bastore, 1) := by decide +kernel
theorem dX4_act_96 : decode cX4_act 96 = .ok (.iinc 2 1, 3) := by decide +kernel
theorem dX4_act_99 : decode cX4_act 99 = .ok (.goto (-37), 3) := by decide +kernel
theorem dX4_act_102 : decode cX4_act 102 = .ok (.return_, 1) := by decide +kernel
set_option maxRecDepth 20000 in
theorem ggX4_set_X4_unit : GoodIn wsX4_set wsX4_unit := goodIn_r _ [4] (by decide +kernel) (by decide +kernel)
set_option maxRecDepth 20000 in
theorem gX4_set_X4_unit : GoodIn wsX4_set (va_wsS RX4 60 yX4_unit wsX4_unit) := goodIn_app (goodIn_of _ (by decide +kernel)) ggX4_set_X4_unit
theorem dX4_set_0 : decode cX4_set 0 = .ok (.iload_n 1, 1) := by decide +kernel
theorem dX4_set_1 : decode cX4_set 1 = .ok (.iload_n 2, 1) := by decide +kernel
theorem dX4_set_2 : decode cX4_set 2 = .ok (.invokestatic 60, 3) := by decide +kernel
theorem dX4_set_5 : decode cX4_set 5 = .ok (.istore_n 3, 1) := by decide +kernel
theorem dX4_set_6 : decode cX4_set 6 = .ok (.aload_n 0, 1) := by decide +kernel
theorem dX4_set_7 : decode cX4_set 7 = .ok (.iload_n 3, 1) := by decide +kernel
theorem dX4_set_8 : decode cX4_set 8 = .ok (.baload, 1) := by decide +kernel
theorem dX4_set_9 : decode cX4_set 9 = .ok (.istore 4, 2) := by decide +kernel
theorem dX4_set_11 : decode cX4_set 11 = .ok (.iload 4, 2) := by decide +kernel
theorem dX4_set_13 : decode cX4_set 13 = .ok (.iconst 1, 1) := by decide +kernel
theorem dX4_set_14 : decode cX4_set 14 = .ok (.if_icmp .lt 13, 3) := by decide +kernel
theorem dX4_set_17 : decode cX4_set 17 = .ok (.iload 4, 2) := by decide +kernel
theorem dX4_set_19 : decode cX4_set 19 = .ok (.iconst 3, 1) := by decide +kernel
theorem dX4_set_20 : decode cX4_set 20 = .ok (.if_icmp .gt 7, 3) := by decide +kernel
theorem dX4_set_23 : decode cX4_set 23 = .ok (.iconst 1, 1) := by decide +kernel
theorem dX4_set_24 : decode cX4_set 24 = .ok (.goto 4, 3) := by decide +kernel
theorem dX4_set_27 : decode cX4_set 27 = .ok (.iconst 0, 1) := by decide +kernel
theorem dX4_set_28 : decode cX4_set 28 = .ok (.istore 5, 2) := by decide +kernel
theorem dX4_set_30 : decode cX4_set 30 = .ok (.iconst 1, 1) := by decide +kernel
theorem dX4_set_31 : decode cX4_set 31 = .ok (.istore 6, 2) := by decide +kernel
theorem dX4_set_33 : decode cX4_set 33 = .ok (.iload 6, 2) := by decide +kernel
theorem dX4_set_35 : decode cX4_set 35 = .ok (.bipush 8, 2) := by decide +kernel
theorem dX4_set_37 : decode cX4_set 37 = .ok (.if_icmp .ge 32, 3) := by decide +kernel
theorem dX4_set_40 : decode cX4_set 40 = .ok (.iload 5, 2) := by decide +kernel
theorem dX4_set_42 : decode cX4_set 42 = .ok (.ifCond .eq 18, 3) := by decide +kernel
theorem dX4_set_45 : decode cX4_set 45 = .ok (.aload_n 0, 1) := by decide +kernel
theorem dX4_set_46 : decode cX4_set 46 = .ok (.iload_n 3, 1) := by decide +kernel
theorem dX4_set_47 : decode cX4_set 47 = .ok (.iload 6, 2) := by decide +kernel
theorem dX4_set_49 : decode cX4_set 49 = .ok (.iadd, 1) := by decide +kernel
theorem dX4_set_50 : decode cX4_set 50 = .ok (.baload, 1) := by decide +kernel
theorem dX4_set_51 : decode cX4_set 51 = .ok (.iload 4, 2) := by decide +kernel
theorem dX4_set_53 : decode cX4_set 53 = .ok (.if_icmp .ne 7, 3) := by decide +kernel
theorem dX4_set_56 : decode cX4_set 56 = .ok (.iconst 1, 1) := by decide +kernel
theorem dX4_set_57 : decode cX4_set 57 = .ok (.goto 4, 3) := by decide +kernel
theorem dX4_set_60 : decode cX4_set 60 = .ok (.iconst 0, 1) := by decide +kernel
theorem dX4_set_61 : decode cX4_set 61 = .ok (.istore 5, 2) := by decide +kernel
theorem dX4_set_63 : decode cX4_set 63 = .ok (.iinc 6 1, 3) := by decide +kernel
theorem dX4_set_66 : decode cX4_set 66 = .ok (.goto (-33), 3) := by decide +kernel
theorem dX4_set_69 : decode cX4_set 69 = .ok (.iload 5, 2) := by decide +kernel
theorem dX4_set_71 : decode cX4_set 71 = .ok (.ifCond .eq 8, 3) := by decide +kernel
theorem dX4_set_74 : decode cX4_set 74 = .ok (.iload 4, 2) := by decide +kernel
theorem dX4_set_76 : decode cX4_set 76 = .ok (.goto 4, 3) := by decide +kernel
theorem dX4_set_79 : decode cX4_set 79 = .ok (.iconst 0, 1) := by decide +kernel
theorem dX4_set_80 : decode cX4_set 80 = .ok (.ireturn, 1) := by decide +kernel
set_option maxRecDepth 20000 in
theorem ggX4_isSet_X4_set : GoodIn wsX4_isSet wsX4_set := goodIn_r _ [4, 5, 6, 3, 7] (by decide +kernel) (by decide +kernel)
set_option maxRecDepth 20000 in
theorem gX4_isSet_X4_set : GoodIn wsX4_isSet (va_wsS RX4 98 yX4_set wsX4_set) := goodIn_app (goodIn_of _ (by decide +kernel)) ggX4_isSet_X4_set
theorem dX4_isSet_0 : decode cX4_isSet 0 = .ok (.aload_n 0, 1) := by decide +kernel
theorem dX4_isSet_1 : decode cX4_isSet 1 = .ok (.iload_n 1, 1) := by decide +kernel
theorem dX4_isSet_2 : decode cX4_isSet 2 = .ok (.iload_n 2, 1) := by decide +kernel
theorem dX4_isSet_3 : decode cX4_isSet 3 = .ok (.invokestatic 98, 3) := by decide +kernel
theorem dX4_isSet_6 : decode cX4_isSet 6 = .ok (.iconst 1, 1) := by decide +kernel
theorem dX4_isSet_7 : decode cX4_isSet 7 = .ok (.if_icmp .ne 7, 3) := by decide +kernel
theorem dX4_isSet_10 : decode cX4_isSet 10 = .ok (.iconst 1, 1) := by decide +kernel
theorem dX4_isSet_11 : decode cX4_isSet 11 = .ok (.goto 4, 3) := by decide +kernel
theorem dX4_isSet_14 : decode cX4_isSet 14 = .ok (.iconst 0, 1) := by decide +kernel
theorem dX4_isSet_15 : decode cX4_isSet 15 = .ok (.ireturn, 1) := by decide +kernel
set_option maxRecDepth 20000 in
theorem ggX4_isMagic_X4_unit : GoodIn wsX4_isMagic wsX4_unit := goodIn_r _ [5] (by decide +kernel) (by decide +kernel)
set_option maxRecDepth 20000 in
theorem gX4_isMagic_X4_unit : GoodIn wsX4_isMagic (va_wsS RX4 60 yX4_unit wsX4_unit) := goodIn_app (goodIn_of _ (by decide +kernel)) ggX4_isMagic_X4_unit
theorem dX4_isMagic_0 : decode cX4_isMagic 0 = .ok (.iconst 1, 1) := by decide +kernel
theorem dX4_isMagic_1 : decode cX4_isMagic 1 = .ok (.istore_n 2, 1) := by decide +kernel
theorem dX4_isMagic_2 : decode cX4_isMagic 2 = .ok (.iconst 0, 1) := by decide +kernel
theorem dX4_isMagic_3 : decode cX4_isMagic 3 = .ok (.istore_n 3, 1) := by decide +kernel
theorem dX4_isMagic_4 : decode cX4_isMagic 4 = .ok (.iload_n 3, 1) := by decide +kernel
theorem dX4_isMagic_5 : decode cX4_isMagic 5 = .ok (.bipush 8, 2) := by decide +kernel
theorem dX4_isMagic_7 : decode cX4_isMagic 7 = .ok (.if_icmp .ge 36, 3) := by decide +kernel
theorem dX4_isMagic_10 : decode cX4_isMagic 10 = .ok (.iload_n 2, 1) := by decide +kernel
theorem dX4_isMagic_11 : decode cX4_isMagic 11 = .ok (.ifCond .eq 24, 3) := by decide +kernel
theorem dX4_isMagic_14 : decode cX4_isMagic 14 = .ok (.aload_n 0, 1) := by decide +kernel
theorem dX4_isMagic_15 : decode cX4_isMagic 15 = .ok (.iload_n 1, 1) := by decide +kernel
theorem dX4_isMagic_16 : decode cX4_isMagic 16 = .ok (.iconst 0, 1) := by decide +kernel
theorem dX4_isMagic_17 : decode cX4_isMagic 17 = .ok (.invokestatic 60, 3) := by decide +kernel
theorem dX4_isMagic_20 : decode cX4_isMagic 20 = .ok (.iload_n 3, 1) := by decide +kernel
theorem dX4_isMagic_21 : decode cX4_isMagic 21 = .ok (.iadd, 1) := by decide +kernel
theorem dX4_isMagic_22 : decode cX4_isMagic 22 = .ok (.baload, 1) := by decide +kernel
theorem dX4_isMagic_23 : decode cX4_isMagic 23 = .ok (.getstatic 68, 3) := by decide +kernel
theorem dX4_isMagic_26 : decode cX4_isMagic 26 = .ok (.iload_n 3, 1) := by decide +kernel
theorem dX4_isMagic_27 : decode cX4_isMagic 27 = .ok (.iaload, 1) := by decide +kernel
theorem dX4_isMagic_28 : decode cX4_isMagic 28 = .ok (.if_icmp .ne 7, 3) := by decide +kernel
theorem dX4_isMagic_31 : decode cX4_isMagic 31 = .ok (.iconst 1, 1) := by decide +kernel
theorem dX4_isMagic_32 : decode cX4_isMagic 32 = .ok (.goto 4, 3) := by decide +kernel
theorem dX4_isMagic_35 : decode cX4_isMagic 35 = .ok (.iconst 0, 1) := by decide +kernel
theorem dX4_isMagic_36 : decode cX4_isMagic 36 = .ok (.istore_n 2, 1) := by decide +kernel
theorem dX4_isMagic_37 : decode cX4_isMagic 37 = .ok (.iinc 3 1, 3) := by decide +kernel
theorem dX4_isMagic_40 : decode cX4_isMagic 40 = .ok (.goto (-36), 3) := by decide +kernel
theorem dX4_isMagic_43 : decode cX4_isMagic 43 = .ok (.iload_n 2, 1) := by decide +kernel
theorem dX4_isMagic_44 : decode cX4_isMagic 44 = .ok (.ireturn, 1) := by decide +kernel
theorem dX4_intAt_0 : decode cX4_intAt 0 = .ok (.aload_n 0, 1) := by decide +kernel
theorem dX4_intAt_1 : decode cX4_intAt 1 = .ok (.iload_n 1, 1) := by decide +kernel
theorem dX4_intAt_2 : decode cX4_intAt 2 = .ok (.baload, 1) := by decide +kernel
theorem dX4_intAt_3 : decode cX4_intAt 3 = .ok (.sipush 255, 3) := by decide +kernel
theorem dX4_intAt_6 : decode cX4_intAt 6 = .ok (.iand, 1) := by decide +kernel
theorem dX4_intAt_7 : decode cX4_intAt 7 = .ok (.aload_n 0, 1) := by decide +kernel
theorem dX4_intAt_8 : decode cX4_intAt 8 = .ok (.iload_n 1, 1) := by decide +kernel
theorem dX4_intAt_9 : decode cX4_intAt 9 = .ok (.iconst 1, 1) := by decide +kernel
theorem dX4_intAt_10 : decode cX4_intAt 10 = .ok (.iadd, 1) := by decide +kernel
theorem dX4_intAt_11 : decode cX4_intAt 11 = .ok (.baload, 1) := by decide +kernel
theorem dX4_intAt_12 : decode cX4_intAt 12 = .ok (.sipush 255, 3) := by decide +kernel
theorem dX4_intAt_15 : decode cX4_intAt 15 = .ok (.iand, 1) := by decide +kernel
theorem dX4_intAt_16 : decode cX4_intAt 16 = .ok (.bipush 8, 2) := by decide +kernel
theorem dX4_intAt_18 : decode cX4_intAt 18 = .ok (.ishl, 1) := by decide +kernel
theorem dX4_intAt_19 : decode cX4_intAt 19 = .ok (.ior, 1) := by decide +kernel
theorem dX4_intAt_20 : decode cX4_intAt 20 = .ok (.aload_n 0, 1) := by decide +kernel
theorem dX4_intAt_21 : decode cX4_intAt 21 = .ok (.iload_n 1, 1) := by decide +kernel
theorem dX4_intAt_22 : decode cX4_intAt 22 = .ok (.iconst 2, 1) := by decide +kernel
theorem dX4_intAt_23 : decode cX4_intAt 23 = .ok (.iadd, 1) := by decide +kernel
theorem dX4_intAt_24 : decode cX4_intAt 24 = .ok (.baload, 1) := by decide +kernel
theorem dX4_intAt_25 : decode cX4_intAt 25 = .ok (.sipush 255, 3) := by decide +kernel
theorem dX4_intAt_28 : decode cX4_intAt 28 = .ok (.iand, 1) := by decide +kernel
theorem dX4_intAt_29 : decode cX4_intAt 29 = .ok (.bipush 16, 2) := by decide +kernel
theorem dX4_intAt_31 : decode cX4_intAt 31 = .ok (.ishl, 1) := by decide +kernel
theorem dX4_intAt_32 : decode cX4_intAt 32 = .ok (.ior, 1) := by decide +kernel
theorem dX4_intAt_33 : decode cX4_intAt 33 = .ok (.aload_n 0, 1) := by decide +kernel
theorem dX4_intAt_34 : decode cX4_intAt 34 = .ok (.iload_n 1, 1) := by decide +kernel
theorem dX4_intAt_35 : decode cX4_intAt 35 = .ok (.iconst 3, 1) := by decide +kernel
theorem dX4_intAt_36 : decode cX4_intAt 36 = .ok (.iadd, 1) := by decide +kernel
theorem dX4_intAt_37 : decode cX4_intAt 37 = .ok (.baload, 1) := by decide +kernel
theorem dX4_intAt_38 : decode cX4_intAt 38 = .ok (.bipush 24, 2) := by decide +kernel
theorem dX4_intAt_40 : decode cX4_intAt 40 = .ok (.ishl, 1) := by decide +kernel
theorem dX4_intAt_41 : decode cX4_intAt 41 = .ok (.ior, 1) := by decide +kernel
theorem dX4_intAt_42 : decode cX4_intAt 42 = .ok (.ireturn, 1) := by decide +kernel
set_option maxRecDepth 20000 in
theorem ggX4_isRight_X4_unit : GoodIn wsX4_isRight wsX4_unit := goodIn_r _ [6] (by decide +kernel) (by decide +kernel)
set_option maxRecDepth 20000 in
theorem gX4_isRight_X4_unit : GoodIn wsX4_isRight (va_wsS RX4 60 yX4_unit wsX4_unit) := goodIn_app (goodIn_of _ (by decide +kernel)) ggX4_isRight_X4_unit
set_option maxRecDepth 20000 in
theorem ggX4_isRight_X4_intAt : GoodIn wsX4_isRight wsX4_intAt := goodIn_r _ [9] (by decide +kernel) (by decide +kernel)
set_option maxRecDepth 20000 in
theorem gX4_isRight_X4_intAt : GoodIn wsX4_isRight (va_wsS RX4 102 yX4_intAt wsX4_intAt) := goodIn_app (goodIn_of _ (by decide +kernel)) ggX4_isRight_X4_intAt
set_option maxRecDepth 20000 in
theorem ggX4_isRight_X4_sha : GoodIn wsX4_isRight wsX4_sha := goodIn_r _ [13, 14, 15, 16, 2, 17, 18, 19, 5, 20, 21, 22, 23, 24, 25, 26, 27, 28, 29, 30, 31, 32, 33, 34, 35, 36, 37, 38, 39, 40, 41, 42, 43, 44, 45, 46, 47, 48, 49, 50, 51] (by decide +kernel) (by decide +kernel)
set_option maxRecDepth 20000 in
theorem gX4_isRight_X4_sha : GoodIn wsX4_isRight (wsV RX4 106 RX4 yX4_sha wsX4_sha) := goodIn_app (goodIn_of _ (by decide +kernel)) ggX4_isRight_X4_sha
theorem dX4_isRight_0 : decode cX4_isRight 0 = .ok (.iconst 5, 1) := by decide +kernel
theorem dX4_isRight_1 : decode cX4_isRight 1 = .ok (.iload_n 1, 1) := by decide +kernel
theorem dX4_isRight_2 : decode cX4_isRight 2 = .ok (.imul, 1) := by decide +kernel
theorem dX4_isRight_3 : decode cX4_isRight 3 = .ok (.iconst 0, 1) := by decide +kernel
theorem dX4_isRight_4 : decode cX4_isRight 4 = .ok (.invokestatic 60, 3) := by decide +kernel
theorem dX4_isRight_7 : decode cX4_isRight 7 = .ok (.istore_n 2, 1) := by decide +kernel
theorem dX4_isRight_8 : decode cX4_isRight 8 = .ok (.aload_n 0, 1) := by decide +kernel
theorem dX4_isRight_9 : decode cX4_isRight 9 = .ok (.getfield 9, 3) := by decide +kernel
theorem dX4_isRight_12 : decode cX4_isRight 12 = .ok (.iload_n 2, 1) := by decide +kernel
theorem dX4_isRight_13 : decode cX4_isRight 13 = .ok (.invokestatic 102, 3) := by decide +kernel
theorem dX4_isRight_16 : decode cX4_isRight 16 = .ok (.istore_n 3, 1) := by decide +kernel
theorem dX4_isRight_17 : decode cX4_isRight 17 = .ok (.iload_n 3, 1) := by decide +kernel
theorem dX4_isRight_18 : decode cX4_isRight 18 = .ok (.ifCond .lt 10, 3) := by decide +kernel
theorem dX4_isRight_21 : decode cX4_isRight 21 = .ok (.iload_n 3, 1) := by decide +kernel
theorem dX4_isRight_22 : decode cX4_isRight 22 = .ok (.sipush 984, 3) := by decide +kernel
theorem dX4_isRight_25 : decode cX4_isRight 25 = .ok (.if_icmp .le 5, 3) := by decide +kernel
theorem dX4_isRight_28 : decode cX4_isRight 28 = .ok (.iconst 0, 1) := by decide +kernel
theorem dX4_isRight_29 : decode cX4_isRight 29 = .ok (.ireturn, 1) := by decide +kernel
theorem dX4_isRight_30 : decode cX4_isRight 30 = .ok (.aload_n 0, 1) := by decide +kernel
theorem dX4_isRight_31 : decode cX4_isRight 31 = .ok (.aload_n 0, 1) := by decide +kernel
theorem dX4_isRight_32 : decode cX4_isRight 32 = .ok (.getfield 9, 3) := by decide +kernel
theorem dX4_isRight_35 : decode cX4_isRight 35 = .ok (.iload_n 2, 1) := by decide +kernel
theorem dX4_isRight_36 : decode cX4_isRight 36 = .ok (.iload_n 3, 1) := by decide +kernel
theorem dX4_isRight_37 : decode cX4_isRight 37 = .ok (.bipush 8, 2) := by decide +kernel
theorem dX4_isRight_39 : decode cX4_isRight 39 = .ok (.iadd, 1) := by decide +kernel
theorem dX4_isRight_40 : decode cX4_isRight 40 = .ok (.invokevirtual 106, 3) := by decide +kernel
theorem dX4_isRight_43 : decode cX4_isRight 43 = .ok (.iconst 1, 1) := by decide +kernel
theorem dX4_isRight_44 : decode cX4_isRight 44 = .ok (.istore 4, 2) := by decide +kernel
theorem dX4_isRight_46 : decode cX4_isRight 46 = .ok (.iconst 0, 1) := by decide +kernel
theorem dX4_isRight_47 : decode cX4_isRight 47 = .ok (.istore 5, 2) := by decide +kernel
theorem dX4_isRight_49 : decode cX4_isRight 49 = .ok (.iload 5, 2) := by decide +kernel
theorem dX4_isRight_51 : decode cX4_isRight 51 = .ok (.bipush 32, 2) := by decide +kernel
theorem dX4_isRight_53 : decode cX4_isRight 53 = .ok (.if_icmp .ge 45, 3) := by decide +kernel
theorem dX4_isRight_56 : decode cX4_isRight 56 = .ok (.iload 4, 2) := by decide +kernel
theorem dX4_isRight_58 : decode cX4_isRight 58 = .ok (.ifCond .eq 31, 3) := by decide +kernel
theorem dX4_isRight_61 : decode cX4_isRight 61 = .ok (.aload_n 0, 1) := by decide +kernel
theorem dX4_isRight_62 : decode cX4_isRight 62 = .ok (.getfield 39, 3) := by decide +kernel
theorem dX4_isRight_65 : decode cX4_isRight 65 = .ok (.iload 5, 2) := by decide +kernel
theorem dX4_isRight_67 : decode cX4_isRight 67 = .ok (.baload, 1) := by decide +kernel
theorem dX4_isRight_68 : decode cX4_isRight 68 = .ok (.aload_n 0, 1) := by decide +kernel
theorem dX4_isRight_69 : decode cX4_isRight 69 = .ok (.getfield 9, 3) := by decide +kernel
theorem dX4_isRight_72 : decode cX4_isRight 72 = .ok (.iload_n 2, 1) := by decide +kernel
theorem dX4_isRight_73 : decode cX4_isRight 73 = .ok (.bipush 8, 2) := by decide +kernel
theorem dX4_isRight_75 : decode cX4_isRight 75 = .ok (.iadd, 1) := by decide +kernel
theorem dX4_isRight_76 : decode cX4_isRight 76 = .ok (.iload_n 3, 1) := by decide +kernel
theorem dX4_isRight_77 : decode cX4_isRight 77 = .ok (.iadd, 1) := by decide +kernel
theorem dX4_isRight_78 : decode cX4_isRight 78 = .ok (.iload 5, 2) := by decide +kernel
theorem dX4_isRight_80 : decode cX4_isRight 80 = .ok (.iadd, 1) := by decide +kernel
theorem dX4_isRight_81 : decode cX4_isRight 81 = .ok (.baload, 1) := by decide +kernel
theorem dX4_isRight_82 : decode cX4_isRight 82 = .ok (.if_icmp .ne 7, 3) := by decide +kernel
theorem dX4_isRight_85 : decode cX4_isRight 85 = .ok (.iconst 1, 1) := by decide +kernel
theorem dX4_isRight_86 : decode cX4_isRight 86 = .ok (.goto 4, 3) := by decide +kernel
theorem dX4_isRight_89 : decode cX4_isRight 89 = .ok (.iconst 0, 1) := by decide +kernel
theorem dX4_isRight_90 : decode cX4_isRight 90 = .ok (.istore 4, 2) := by decide +kernel
theorem dX4_isRight_92 : decode cX4_isRight 92 = .ok (.iinc 5 1, 3) := by decide +kernel
theorem dX4_isRight_95 : decode cX4_isRight 95 = .ok (.goto (-46), 3) := by decide +kernel
theorem dX4_isRight_98 : decode cX4_isRight 98 = .ok (.iload 4, 2) := by decide +kernel
theorem dX4_isRight_100 : decode cX4_isRight 100 = .ok (.ireturn, 1) := by decide +kernel
set_option maxRecDepth 20000 in
theorem ggX4_due_X4_set : GoodIn wsX4_due wsX4_set := goodIn_r _ [5, 6, 7, 4, 8] (by decide +kernel) (by decide +kernel)
set_option maxRecDepth 20000 in
theorem gX4_due_X4_set : GoodIn wsX4_due (va_wsS RX4 98 yX4_set wsX4_set) := goodIn_app (goodIn_of _ (by decide +kernel)) ggX4_due_X4_set
set_option maxRecDepth 20000 in
theorem ggX4_due_X4_isSet : GoodIn wsX4_due wsX4_isSet := goodIn_r _ [11, 2, 3, 4, 5, 6, 7, 8] (by decide +kernel) (by decide +kernel)
set_option maxRecDepth 20000 in
theorem gX4_due_X4_isSet : GoodIn wsX4_due (va_wsS RX4 110 yX4_isSet wsX4_isSet) := goodIn_app (goodIn_of _ (by decide +kernel)) ggX4_due_X4_isSet
set_option maxRecDepth 20000 in
theorem ggX4_due_X4_isMagic : GoodIn wsX4_due wsX4_isMagic := goodIn_r _ [14, 15, 6, 7, 4, 8] (by decide +kernel) (by decide +kernel)
set_option maxRecDepth 20000 in
theorem gX4_due_X4_isMagic : GoodIn wsX4_due (va_wsS RX4 114 yX4_isMagic wsX4_isMagic) := goodIn_app (goodIn_of _ (by decide +kernel)) ggX4_due_X4_isMagic
set_option maxRecDepth 20000 in
theorem ggX4_due_X4_isRight : GoodIn wsX4_due wsX4_isRight := goodIn_r _ [19, 1, 20, 6, 7, 4, 8, 21, 22, 23, 24, 25, 26, 27, 28, 29, 30, 31, 32, 33, 34, 35, 36, 37, 38, 39, 40, 41, 42, 43, 44, 45, 46, 47, 48, 49, 50, 51, 52, 53, 54, 55, 56, 57, 58, 59, 60, 61, 62, 63, 64, 65] (by decide +kernel) (by decide +kernel)
set_option maxRecDepth 20000 in
theorem gX4_due_X4_isRight : GoodIn wsX4_due (wsV RX4 117 RX4 yX4_isRight wsX4_isRight) := goodIn_app (goodIn_of _ (by decide +kernel)) ggX4_due_X4_isRight
theorem dX4_due_0 : decode cX4_due 0 = .ok (.aload_n 0, 1) := by decide +kernel
theorem dX4_due_1 : decode cX4_due 1 = .ok (.getfield 9, 3) := by decide +kernel
theorem dX4_due_4 : decode cX4_due 4 = .ok (.iconst 4, 1) := by decide +kernel
theorem dX4_due_5 : decode cX4_due 5 = .ok (.iconst 1, 1) := by decide +kernel
theorem dX4_due_6 : decode cX4_due 6 = .ok (.invokestatic 98, 3) := by decide +kernel
theorem dX4_due_9 : decode cX4_due 9 = .ok (.ifCond .le 17, 3) := by decide +kernel
theorem dX4_due_12 : decode cX4_due 12 = .ok (.aload_n 0, 1) := by decide +kernel
theorem dX4_due_13 : decode cX4_due 13 = .ok (.getfield 9, 3) := by decide +kernel
theorem dX4_due_16 : decode cX4_due 16 = .ok (.iconst 4, 1) := by decide +kernel
theorem dX4_due_17 : decode cX4_due 17 = .ok (.iconst 2, 1) := by decide +kernel
theorem dX4_due_18 : decode cX4_due 18 = .ok (.invokestatic 110, 3) := by decide +kernel
theorem dX4_due_21 : decode cX4_due 21 = .ok (.ifCond .ne 5, 3) := by decide +kernel
theorem dX4_due_24 : decode cX4_due 24 = .ok (.iconst 5, 1) := by decide +kernel
theorem dX4_due_25 : decode cX4_due 25 = .ok (.ireturn, 1) := by decide +kernel
theorem dX4_due_26 : decode cX4_due 26 = .ok (.aload_n 0, 1) := by decide +kernel
theorem dX4_due_27 : decode cX4_due 27 = .ok (.getfield 9, 3) := by decide +kernel
theorem dX4_due_30 : decode cX4_due 30 = .ok (.bipush 9, 2) := by decide +kernel
theorem dX4_due_32 : decode cX4_due 32 = .ok (.iconst 1, 1) := by decide +kernel
theorem dX4_due_33 : decode cX4_due 33 = .ok (.invokestatic 98, 3) := by decide +kernel
theorem dX4_due_36 : decode cX4_due 36 = .ok (.istore_n 1, 1) := by decide +kernel
theorem dX4_due_37 : decode cX4_due 37 = .ok (.iload_n 1, 1) := by decide +kernel
theorem dX4_due_38 : decode cX4_due 38 = .ok (.iconst 3, 1) := by decide +kernel
theorem dX4_due_39 : decode cX4_due 39 = .ok (.if_icmp .ne 5, 3) := by decide +kernel
theorem dX4_due_42 : decode cX4_due 42 = .ok (.iconst 3, 1) := by decide +kernel
theorem dX4_due_43 : decode cX4_due 43 = .ok (.ireturn, 1) := by decide +kernel
theorem dX4_due_44 : decode cX4_due 44 = .ok (.iload_n 1, 1) := by decide +kernel
theorem dX4_due_45 : decode cX4_due 45 = .ok (.ifCond .ne 34, 3) := by decide +kernel
theorem dX4_due_48 : decode cX4_due 48 = .ok (.aload_n 0, 1) := by decide +kernel
theorem dX4_due_49 : decode cX4_due 49 = .ok (.getfield 9, 3) := by decide +kernel
theorem dX4_due_52 : decode cX4_due 52 = .ok (.bipush 9, 2) := by decide +kernel
theorem dX4_due_54 : decode cX4_due 54 = .ok (.invokestatic 114, 3) := by decide +kernel
theorem dX4_due_57 : decode cX4_due 57 = .ok (.ifCond .eq 22, 3) := by decide +kernel
theorem dX4_due_60 : decode cX4_due 60 = .ok (.aload_n 0, 1) := by decide +kernel
theorem dX4_due_61 : decode cX4_due 61 = .ok (.getfield 9, 3) := by decide +kernel
theorem dX4_due_64 : decode cX4_due 64 = .ok (.bipush 9, 2) := by decide +kernel
theorem dX4_due_66 : decode cX4_due 66 = .ok (.iconst 3, 1) := by decide +kernel
theorem dX4_due_67 : decode cX4_due 67 = .ok (.invokestatic 110, 3) := by decide +kernel
theorem dX4_due_70 : decode cX4_due 70 = .ok (.ifCond .eq 7, 3) := by decide +kernel
theorem dX4_due_73 : decode cX4_due 73 = .ok (.iconst 2, 1) := by decide +kernel
theorem dX4_due_74 : decode cX4_due 74 = .ok (.goto 4, 3) := by decide +kernel
theorem dX4_due_77 : decode cX4_due 77 = .ok (.iconst 1, 1) := by decide +kernel
theorem dX4_due_78 : decode cX4_due 78 = .ok (.istore_n 1, 1) := by decide +kernel
theorem dX4_due_79 : decode cX4_due 79 = .ok (.iload_n 1, 1) := by decide +kernel
theorem dX4_due_80 : decode cX4_due 80 = .ok (.ifCond .le 17, 3) := by decide +kernel
theorem dX4_due_83 : decode cX4_due 83 = .ok (.aload_n 0, 1) := by decide +kernel
theorem dX4_due_84 : decode cX4_due 84 = .ok (.iconst 1, 1) := by decide +kernel
theorem dX4_due_85 : decode cX4_due 85 = .ok (.invokevirtual 117, 3) := by decide +kernel
theorem dX4_due_88 : decode cX4_due 88 = .ok (.ifCond .eq 7, 3) := by decide +kernel
theorem dX4_due_91 : decode cX4_due 91 = .ok (.iload_n 1, 1) := by decide +kernel
theorem dX4_due_92 : decode cX4_due 92 = .ok (.goto 4, 3) := by decide +kernel
theorem dX4_due_95 : decode cX4_due 95 = .ok (.iconst 4, 1) := by decide +kernel
theorem dX4_due_96 : decode cX4_due 96 = .ok (.ireturn, 1) := by decide +kernel
theorem dX4_due_97 : decode cX4_due 97 = .ok (.aload_n 0, 1) := by decide +kernel
theorem dX4_due_98 : decode cX4_due 98 = .ok (.getfield 9, 3) := by decide +kernel
theorem dX4_due_101 : decode cX4_due 101 = .ok (.iconst 4, 1) := by decide +kernel
theorem dX4_due_102 : decode cX4_due 102 = .ok (.invokestatic 114, 3) := by decide +kernel
theorem dX4_due_105 : decode cX4_due 105 = .ok (.ifCond .eq 43, 3) := by decide +kernel
theorem dX4_due_108 : decode cX4_due 108 = .ok (.aload_n 0, 1) := by decide +kernel
theorem dX4_due_109 : decode cX4_due 109 = .ok (.getfield 9, 3) := by decide +kernel
theorem dX4_due_112 : decode cX4_due 112 = .ok (.iconst 4, 1) := by decide +kernel
theorem dX4_due_113 : decode cX4_due 113 = .ok (.iconst 1, 1) := by decide +kernel
theorem dX4_due_114 : decode cX4_due 114 = .ok (.invokestatic 110, 3) := by decide +kernel
theorem dX4_due_117 : decode cX4_due 117 = .ok (.ifCond .eq 31, 3) := by decide +kernel
theorem dX4_due_120 : decode cX4_due 120 = .ok (.aload_n 0, 1) := by decide +kernel
theorem dX4_due_121 : decode cX4_due 121 = .ok (.getfield 9, 3) := by decide +kernel
theorem dX4_due_124 : decode cX4_due 124 = .ok (.iconst 4, 1) := by decide +kernel
theorem dX4_due_125 : decode cX4_due 125 = .ok (.iconst 2, 1) := by decide +kernel
theorem dX4_due_126 : decode cX4_due 126 = .ok (.invokestatic 110, 3) := by decide +kernel
theorem dX4_due_129 : decode cX4_due 129 = .ok (.ifCond .eq 19, 3) := by decide +kernel
theorem dX4_due_132 : decode cX4_due 132 = .ok (.aload_n 0, 1) := by decide +kernel
theorem dX4_due_133 : decode cX4_due 133 = .ok (.getfield 9, 3) := by decide +kernel
theorem dX4_due_136 : decode cX4_due 136 = .ok (.iconst 4, 1) := by decide +kernel
theorem dX4_due_137 : decode cX4_due 137 = .ok (.iconst 3, 1) := by decide +kernel
theorem dX4_due_138 : decode cX4_due 138 = .ok (.invokestatic 110, 3) := by decide +kernel
theorem dX4_due_141 : decode cX4_due 141 = .ok (.ifCond .ne 7, 3) := by decide +kernel
theorem dX4_due_144 : decode cX4_due 144 = .ok (.iconst 1, 1) := by decide +kernel
theorem dX4_due_145 : decode cX4_due 145 = .ok (.goto 4, 3) := by decide +kernel
theorem dX4_due_148 : decode cX4_due 148 = .ok (.iconst 0, 1) := by decide +kernel
theorem dX4_due_149 : decode cX4_due 149 = .ok (.istore_n 2, 1) := by decide +kernel
theorem dX4_due_150 : decode cX4_due 150 = .ok (.iload_n 2, 1) := by decide +kernel
theorem dX4_due_151 : decode cX4_due 151 = .ok (.ifCond .eq 7, 3) := by decide +kernel
theorem dX4_due_154 : decode cX4_due 154 = .ok (.iconst 3, 1) := by decide +kernel
theorem dX4_due_155 : decode cX4_due 155 = .ok (.goto 4, 3) := by decide +kernel
theorem dX4_due_158 : decode cX4_due 158 = .ok (.iconst 0, 1) := by decide +kernel
theorem dX4_due_159 : decode cX4_due 159 = .ok (.ireturn, 1) := by decide +kernel
theorem dX4_turned_0 : decode cX4_turned 0 = .ok (.iload_n 0, 1) := by decide +kernel
theorem dX4_turned_1 : decode cX4_turned 1 = .ok (.iload_n 1, 1) := by decide +kernel
theorem dX4_turned_2 : decode cX4_turned 2 = .ok (.iushr, 1) := by decide +kernel
theorem dX4_turned_3 : decode cX4_turned 3 = .ok (.iload_n 0, 1) := by decide +kernel
theorem dX4_turned_4 : decode cX4_turned 4 = .ok (.bipush 32, 2) := by decide +kernel
theorem dX4_turned_6 : decode cX4_turned 6 = .ok (.iload_n 1, 1) := by decide +kernel
theorem dX4_turned_7 : decode cX4_turned 7 = .ok (.isub, 1) := by decide +kernel
theorem dX4_turned_8 : decode cX4_turned 8 = .ok (.ishl, 1) := by decide +kernel
theorem dX4_turned_9 : decode cX4_turned 9 = .ok (.ior, 1) := by decide +kernel
theorem dX4_turned_10 : decode cX4_turned 10 = .ok (.ireturn, 1) := by decide +kernel
set_option maxRecDepth 20000 in
theorem ggX4_sha_X4_block : GoodIn wsX4_sha wsX4_block := goodIn_r _ [9, 10, 1, 2, 11, 12, 13, 8, 14, 15, 16, 17, 18, 19, 20, 21, 22, 23, 24, 25, 26, 27, 28, 29, 30, 31, 32, 33, 34, 35, 36, 37, 38, 39, 40] (by decide +kernel) (by decide +kernel)
set_option maxRecDepth 20000 in
theorem gX4_sha_X4_block : GoodIn wsX4_sha (wsV RX4 124 RX4 yX4_block wsX4_block) := goodIn_app (goodIn_of _ (by decide +kernel)) ggX4_sha_X4_block
theorem dX4_sha_0 : decode cX4_sha 0 = .ok (.iload_n 3, 1) := by decide +kernel
theorem dX4_sha_1 : decode cX4_sha 1 = .ok (.bipush 9, 2) := by decide +kernel
theorem dX4_sha_3 : decode cX4_sha 3 = .ok (.iadd, 1) := by decide +kernel
theorem dX4_sha_4 : decode cX4_sha 4 = .ok (.bipush 63, 2) := by decide +kernel
theorem dX4_sha_6 : decode cX4_sha 6 = .ok (.iadd, 1) := by decide +kernel
theorem dX4_sha_7 : decode cX4_sha 7 = .ok (.bipush 64, 2) := by decide +kernel
theorem dX4_sha_9 : decode cX4_sha 9 = .ok (.idiv, 1) := by decide +kernel
theorem dX4_sha_10 : decode cX4_sha 10 = .ok (.bipush 64, 2) := by decide +kernel
theorem dX4_sha_12 : decode cX4_sha 12 = .ok (.imul, 1) := by decide +kernel
theorem dX4_sha_13 : decode cX4_sha 13 = .ok (.istore 4, 2) := by decide +kernel
theorem dX4_sha_15 : decode cX4_sha 15 = .ok (.iconst 0, 1) := by decide +kernel
theorem dX4_sha_16 : decode cX4_sha 16 = .ok (.istore 5, 2) := by decide +kernel
theorem dX4_sha_18 : decode cX4_sha 18 = .ok (.iload 5, 2) := by decide +kernel
theorem dX4_sha_20 : decode cX4_sha 20 = .ok (.iload 4, 2) := by decide +kernel
theorem dX4_sha_22 : decode cX4_sha 22 = .ok (.if_icmp .ge 43, 3) := by decide +kernel
theorem dX4_sha_25 : decode cX4_sha 25 = .ok (.aload_n 0, 1) := by decide +kernel
theorem dX4_sha_26 : decode cX4_sha 26 = .ok (.getfield 45, 3) := by decide +kernel
theorem dX4_sha_29 : decode cX4_sha 29 = .ok (.iload 5, 2) := by decide +kernel
theorem dX4_sha_31 : decode cX4_sha 31 = .ok (.iload 5, 2) := by decide +kernel
theorem dX4_sha_33 : decode cX4_sha 33 = .ok (.iload_n 3, 1) := by decide +kernel
theorem dX4_sha_34 : decode cX4_sha 34 = .ok (.if_icmp .ge 12, 3) := by decide +kernel
theorem dX4_sha_37 : decode cX4_sha 37 = .ok (.aload_n 1, 1) := by decide +kernel
theorem dX4_sha_38 : decode cX4_sha 38 = .ok (.iload_n 2, 1) := by decide +kernel
theorem dX4_sha_39 : decode cX4_sha 39 = .ok (.iload 5, 2) := by decide +kernel
theorem dX4_sha_41 : decode cX4_sha 41 = .ok (.iadd, 1) := by decide +kernel
theorem dX4_sha_42 : decode cX4_sha 42 = .ok (.baload, 1) := by decide +kernel
theorem dX4_sha_43 : decode cX4_sha 43 = .ok (.goto 15, 3) := by decide +kernel
theorem dX4_sha_46 : decode cX4_sha 46 = .ok (.iload 5, 2) := by decide +kernel
theorem dX4_sha_48 : decode cX4_sha 48 = .ok (.iload_n 3, 1) := by decide +kernel
theorem dX4_sha_49 : decode cX4_sha 49 = .ok (.if_icmp .ne 8, 3) := by decide +kernel
theorem dX4_sha_52 : decode cX4_sha 52 = .ok (.bipush (-128), 2) := by decide +kernel
theorem dX4_sha_54 : decode cX4_sha 54 = .ok (.goto 4, 3) := by decide +kernel
theorem dX4_sha_57 : decode cX4_sha 57 = .ok (.iconst 0, 1) := by decide +kernel
theorem dX4_sha_58 : decode cX4_sha 58 = .ok (.bastore, 1) := by decide +kernel
theorem dX4_sha_59 : decode cX4_sha 59 = .ok (.iinc 5 1, 3) := by decide +kernel
theorem dX4_sha_62 : decode cX4_sha 62 = .ok (.goto (-44), 3) := by decide +kernel
theorem dX4_sha_65 : decode cX4_sha 65 = .ok (.iconst 0, 1) := by decide +kernel
theorem dX4_sha_66 : decode cX4_sha 66 = .ok (.istore 5, 2) := by decide +kernel
theorem dX4_sha_68 : decode cX4_sha 68 = .ok (.iload 5, 2) := by decide +kernel
theorem dX4_sha_70 : decode cX4_sha 70 = .ok (.iconst 4, 1) := by decide +kernel
theorem dX4_sha_71 : decode cX4_sha 71 = .ok (.if_icmp .ge 32, 3) := by decide +kernel
theorem dX4_sha_74 : decode cX4_sha 74 = .ok (.aload_n 0, 1) := by decide +kernel
theorem dX4_sha_75 : decode cX4_sha 75 = .ok (.getfield 45, 3) := by decide +kernel
theorem dX4_sha_78 : decode cX4_sha 78 = .ok (.iload 4, 2) := by decide +kernel
theorem dX4_sha_80 : decode cX4_sha 80 = .ok (.iconst 1, 1) := by decide +kernel
theorem dX4_sha_81 : decode cX4_sha 81 = .ok (.isub, 1) := by decide +kernel
theorem dX4_sha_82 : decode cX4_sha 82 = .ok (.iload 5, 2) := by decide +kernel
theorem dX4_sha_84 : decode cX4_sha 84 = .ok (.isub, 1) := by decide +kernel
theorem dX4_sha_85 : decode cX4_sha 85 = .ok (.bipush 8, 2) := by decide +kernel
theorem dX4_sha_87 : decode cX4_sha 87 = .ok (.iload_n 3, 1) := by decide +kernel
theorem dX4_sha_88 : decode cX4_sha 88 = .ok (.imul, 1) := by decide +kernel
theorem dX4_sha_89 : decode cX4_sha 89 = .ok (.bipush 8, 2) := by decide +kernel
theorem dX4_sha_91 : decode cX4_sha 91 = .ok (.iload 5, 2) := by decide +kernel
theorem dX4_sha_93 : decode cX4_sha 93 = .ok (.imul, 1) := by decide +kernel
theorem dX4_sha_94 : decode cX4_sha 94 = .ok (.ishr, 1) := by decide +kernel
theorem dX4_sha_95 : decode cX4_sha 95 = .ok (.i2b, 1) := by decide +kernel
theorem dX4_sha_96 : decode cX4_sha 96 = .ok (.bastore, 1) := by decide +kernel
theorem dX4_sha_97 : decode cX4_sha 97 = .ok (.iinc 5 1, 3) := by decide +kernel
theorem dX4_sha_100 : decode cX4_sha 100 = .ok (.goto (-32), 3) := by decide +kernel
theorem dX4_sha_103 : decode cX4_sha 103 = .ok (.iconst 0, 1) := by decide +kernel
theorem dX4_sha_104 : decode cX4_sha 104 = .ok (.istore 5, 2) := by decide +kernel
theorem dX4_sha_106 : decode cX4_sha 106 = .ok (.iload 5, 2) := by decide +kernel
theorem dX4_sha_108 : decode cX4_sha 108 = .ok (.bipush 8, 2) := by decide +kernel
theorem dX4_sha_110 : decode cX4_sha 110 = .ok (.if_icmp .ge 22, 3) := by decide +kernel
theorem dX4_sha_113 : decode cX4_sha 113 = .ok (.aload_n 0, 1) := by decide +kernel
theorem dX4_sha_114 : decode cX4_sha 114 = .ok (.getfield 48, 3) := by decide +kernel
theorem dX4_sha_117 : decode cX4_sha 117 = .ok (.iload 5, 2) := by decide +kernel
theorem dX4_sha_119 : decode cX4_sha 119 = .ok (.getstatic 121, 3) := by decide +kernel
theorem dX4_sha_122 : decode cX4_sha 122 = .ok (.iload 5, 2) := by decide +kernel
theorem dX4_sha_124 : decode cX4_sha 124 = .ok (.iaload, 1) := by decide +kernel
theorem dX4_sha_125 : decode cX4_sha 125 = .ok (.iastore, 1) := by decide +kernel
theorem dX4_sha_126 : decode cX4_sha 126 = .ok (.iinc 5 1, 3) := by decide +kernel
theorem dX4_sha_129 : decode cX4_sha 129 = .ok (.goto (-23), 3) := by decide +kernel
theorem dX4_sha_132 : decode cX4_sha 132 = .ok (.iconst 0, 1) := by decide +kernel
theorem dX4_sha_133 : decode cX4_sha 133 = .ok (.istore 5, 2) := by decide +kernel
theorem dX4_sha_135 : decode cX4_sha 135 = .ok (.iload 5, 2) := by decide +kernel
theorem dX4_sha_137 : decode cX4_sha 137 = .ok (.iload 4, 2) := by decide +kernel
theorem dX4_sha_139 : decode cX4_sha 139 = .ok (.if_icmp .ge 15, 3) := by decide +kernel
theorem dX4_sha_142 : decode cX4_sha 142 = .ok (.aload_n 0, 1) := by decide +kernel
theorem dX4_sha_143 : decode cX4_sha 143 = .ok (.iload 5, 2) := by decide +kernel
theorem dX4_sha_145 : decode cX4_sha 145 = .ok (.invokevirtual 124, 3) := by decide +kernel
theorem dX4_sha_148 : decode cX4_sha 148 = .ok (.iinc 5 64, 3) := by decide +kernel
theorem dX4_sha_151 : decode cX4_sha 151 = .ok (.goto (-16), 3) := by decide +kernel
theorem dX4_sha_154 : decode cX4_sha 154 = .ok (.iconst 0, 1) := by decide +kernel
theorem dX4_sha_155 : decode cX4_sha 155 = .ok (.istore 5, 2) := by decide +kernel
theorem dX4_sha_157 : decode cX4_sha 157 = .ok (.iload 5, 2) := by decide +kernel
theorem dX4_sha_159 : decode cX4_sha 159 = .ok (.bipush 32, 2) := by decide +kernel
theorem dX4_sha_161 : decode cX4_sha 161 = .ok (.if_icmp .ge 37, 3) := by decide +kernel
theorem dX4_sha_164 : decode cX4_sha 164 = .ok (.aload_n 0, 1) := by decide +kernel
theorem dX4_sha_165 : decode cX4_sha 165 = .ok (.getfield 39, 3) := by decide +kernel
theorem dX4_sha_168 : decode cX4_sha 168 = .ok (.iload 5, 2) := by decide +kernel
theorem dX4_sha_170 : decode cX4_sha 170 = .ok (.aload_n 0, 1) := by decide +kernel
theorem dX4_sha_171 : decode cX4_sha 171 = .ok (.getfield 48, 3) := by decide +kernel
theorem dX4_sha_174 : decode cX4_sha 174 = .ok (.iload 5, 2) := by decide +kernel
theorem dX4_sha_176 : decode cX4_sha 176 = .ok (.iconst 4, 1) := by decide +kernel
theorem dX4_sha_177 : decode cX4_sha 177 = .ok (.idiv, 1) := by decide +kernel
theorem dX4_sha_178 : decode cX4_sha 178 = .ok (.iaload, 1) := by decide +kernel
theorem dX4_sha_179 : decode cX4_sha 179 = .ok (.bipush 24, 2) := by decide +kernel
theorem dX4_sha_181 : decode cX4_sha 181 = .ok (.bipush 8, 2) := by decide +kernel
theorem dX4_sha_183 : decode cX4_sha 183 = .ok (.iload 5, 2) := by decide +kernel
theorem dX4_sha_185 : decode cX4_sha 185 = .ok (.iconst 4, 1) := by decide +kernel
theorem dX4_sha_186 : decode cX4_sha 186 = .ok (.irem, 1) := by decide +kernel
theorem dX4_sha_187 : decode cX4_sha 187 = .ok (.imul, 1) := by decide +kernel
theorem dX4_sha_188 : decode cX4_sha 188 = .ok (.isub, 1) := by decide +kernel
theorem dX4_sha_189 : decode cX4_sha 189 = .ok (.ishr, 1) := by decide +kernel
theorem dX4_sha_190 : decode cX4_sha 190 = .ok (.i2b, 1) := by decide +kernel
theorem dX4_sha_191 : decode cX4_sha 191 = .ok (.bastore, 1) := by decide +kernel
theorem dX4_sha_192 : decode cX4_sha 192 = .ok (.iinc 5 1, 3) := by decide +kernel
theorem dX4_sha_195 : decode cX4_sha 195 = .ok (.goto (-38), 3) := by decide +kernel
theorem dX4_sha_198 : decode cX4_sha 198 = .ok (.return_, 1) := by decide +kernel
end
section
set_option maxRecDepth 20000 in
theorem ggX4_block_X4_turned : GoodIn wsX4_block wsX4_turned := goodIn_r _ [8] (by decide +kernel) (by decide +kernel)
set_option maxRecDepth 20000 in
theorem gX4_block_X4_turned : GoodIn wsX4_block (va_wsS RX4 127 yX4_turned wsX4_turned) := goodIn_app (goodIn_of _ (by decide +kernel)) ggX4_block_X4_turned
theorem dX4_block_0 : decode cX4_block 0 = .ok (.iconst 0, 1) := by decide +kernel
theorem dX4_block_1 : decode cX4_block 1 = .ok (.istore_n 2, 1) := by decide +kernel
theorem dX4_block_2 : decode cX4_block 2 = .ok (.iload_n 2, 1) := by decide +kernel
theorem dX4_block_3 : decode cX4_block 3 = .ok (.bipush 64, 2) := by decide +kernel
theorem dX4_block_5 : decode cX4_block 5 = .ok (.if_icmp .ge 179, 3) := by decide +kernel
theorem dX4_block_8 : decode cX4_block 8 = .ok (.iload_n 2, 1) := by decide +kernel
theorem dX4_block_9 : decode cX4_block 9 = .ok (.bipush 16, 2) := by decide +kernel
theorem dX4_block_11 : decode cX4_block 11 = .ok (.if_icmp .ge 82, 3) := by decide +kernel
theorem dX4_block_14 : decode cX4_block 14 = .ok (.aload_n 0, 1) := by decide +kernel
theorem dX4_block_15 : decode cX4_block 15 = .ok (.getfield 42, 3) := by decide +kernel
theorem dX4_block_18 : decode cX4_block 18 = .ok (.iload_n 2, 1) := by decide +kernel
theorem dX4_block_19 : decode cX4_block 19 = .ok (.aload_n 0, 1) := by decide +kernel
theorem dX4_block_20 : decode cX4_block 20 = .ok (.getfield 45, 3) := by decide +kernel
theorem dX4_block_23 : decode cX4_block 23 = .ok (.iload_n 1, 1) := by decide +kernel
theorem dX4_block_24 : decode cX4_block 24 = .ok (.iconst 4, 1) := by decide +kernel
theorem dX4_block_25 : decode cX4_block 25 = .ok (.iload_n 2, 1) := by decide +kernel
theorem dX4_block_26 : decode cX4_block 26 = .ok (.imul, 1) := by decide +kernel
theorem dX4_block_27 : decode cX4_block 27 = .ok (.iadd, 1) := by decide +kernel
theorem dX4_block_28 : decode cX4_block 28 = .ok (.baload, 1) := by decide +kernel
theorem dX4_block_29 : decode cX4_block 29 = .ok (.bipush 24, 2) := by decide +kernel
theorem dX4_block_31 : decode cX4_block 31 = .ok (.ishl, 1) := by decide +kernel
theorem dX4_block_32 : decode cX4_block 32 = .ok (.aload_n 0, 1) := by decide +kernel
theorem dX4_block_33 : decode cX4_block 33 = .ok (.getfield 45, 3) := by decide +kernel
theorem dX4_block_36 : decode cX4_block 36 = .ok (.iload_n 1, 1) := by decide +kernel
theorem dX4_block_37 : decode cX4_block 37 = .ok (.iconst 4, 1) := by decide +kernel
theorem dX4_block_38 : decode cX4_block 38 = .ok (.iload_n 2, 1) := by decide +kernel
theorem dX4_block_39 : decode cX4_block 39 = .ok (.imul, 1) := by decide +kernel
theorem dX4_block_40 : decode cX4_block 40 = .ok (.iadd, 1) := by decide +kernel
theorem dX4_block_41 : decode cX4_block 41 = .ok (.iconst 1, 1) := by decide +kernel
theorem dX4_block_42 : decode cX4_block 42 = .ok (.iadd, 1) := by decide +kernel
theorem dX4_block_43 : decode cX4_block 43 = .ok (.baload, 1) := by decide +kernel
theorem dX4_block_44 : decode cX4_block 44 = .ok (.sipush 255, 3) := by decide +kernel
theorem dX4_block_47 : decode cX4_block 47 = .ok (.iand, 1) := by decide +kernel
theorem dX4_block_48 : decode cX4_block 48 = .ok (.bipush 16, 2) := by decide +kernel
theorem dX4_block_50 : decode cX4_block 50 = .ok (.ishl, 1) := by decide +kernel
theorem dX4_block_51 : decode cX4_block 51 = .ok (.ior, 1) := by decide +kernel
theorem dX4_block_52 : decode cX4_block 52 = .ok (.aload_n 0, 1) := by decide +kernel
theorem dX4_block_53 : decode cX4_block 53 = .ok (.getfield 45, 3) := by decide +kernel
theorem dX4_block_56 : decode cX4_block 56 = .ok (.iload_n 1, 1) := by decide +kernel
theorem dX4_block_57 : decode cX4_block 57 = .ok (.iconst 4, 1) := by decide +kernel
theorem dX4_block_58 : decode cX4_block 58 = .ok (.iload_n 2, 1) := by decide +kernel
theorem dX4_block_59 : decode cX4_block 59 = .ok (.imul, 1) := by decide +kernel
theorem dX4_block_60 : decode cX4_block 60 = .ok (.iadd, 1) := by decide +kernel
theorem dX4_block_61 : decode cX4_block 61 = .ok (.iconst 2, 1) := by decide +kernel
theorem dX4_block_62 : decode cX4_block 62 = .ok (.iadd, 1) := by decide +kernel
theorem dX4_block_63 : decode cX4_block 63 = .ok (.baload, 1) := by decide +kernel
theorem dX4_block_64 : decode cX4_block 64 = .ok (.sipush 255, 3) := by decide +kernel
theorem dX4_block_67 : decode cX4_block 67 = .ok (.iand, 1) := by decide +kernel
theorem dX4_block_68 : decode cX4_block 68 = .ok (.bipush 8, 2) := by decide +kernel
theorem dX4_block_70 : decode cX4_block 70 = .ok (.ishl, 1) := by decide +kernel
theorem dX4_block_71 : decode cX4_block 71 = .ok (.ior, 1) := by decide +kernel
theorem dX4_block_72 : decode cX4_block 72 = .ok (.aload_n 0, 1) := by decide +kernel
theorem dX4_block_73 : decode cX4_block 73 = .ok (.getfield 45, 3) := by decide +kernel
theorem dX4_block_76 : decode cX4_block 76 = .ok (.iload_n 1, 1) := by decide +kernel
theorem dX4_block_77 : decode cX4_block 77 = .ok (.iconst 4, 1) := by decide +kernel
theorem dX4_block_78 : decode cX4_block 78 = .ok (.iload_n 2, 1) := by decide +kernel
theorem dX4_block_79 : decode cX4_block 79 = .ok (.imul, 1) := by decide +kernel
theorem dX4_block_80 : decode cX4_block 80 = .ok (.iadd, 1) := by decide +kernel
theorem dX4_block_81 : decode cX4_block 81 = .ok (.iconst 3, 1) := by decide +kernel
theorem dX4_block_82 : decode cX4_block 82 = .ok (.iadd, 1) := by decide +kernel
theorem dX4_block_83 : decode cX4_block 83 = .ok (.baload, 1) := by decide +kernel
theorem dX4_block_84 : decode cX4_block 84 = .ok (.sipush 255, 3) := by decide +kernel
theorem dX4_block_87 : decode cX4_block 87 = .ok (.iand, 1) := by decide +kernel
theorem dX4_block_88 : decode cX4_block 88 = .ok (.ior, 1) := by decide +kernel
theorem dX4_block_89 : decode cX4_block 89 = .ok (.iastore, 1) := by decide +kernel
theorem dX4_block_90 : decode cX4_block 90 = .ok (.goto 88, 3) := by decide +kernel
theorem dX4_block_93 : decode cX4_block 93 = .ok (.aload_n 0, 1) := by decide +kernel
theorem dX4_block_94 : decode cX4_block 94 = .ok (.getfield 42, 3) := by decide +kernel
theorem dX4_block_97 : decode cX4_block 97 = .ok (.iload_n 2, 1) := by decide +kernel
theorem dX4_block_98 : decode cX4_block 98 = .ok (.bipush 15, 2) := by decide +kernel
theorem dX4_block_100 : decode cX4_block 100 = .ok (.isub, 1) := by decide +kernel
theorem dX4_block_101 : decode cX4_block 101 = .ok (.iaload, 1) := by decide +kernel
theorem dX4_block_102 : decode cX4_block 102 = .ok (.istore_n 3, 1) := by decide +kernel
theorem dX4_block_103 : decode cX4_block 103 = .ok (.aload_n 0, 1) := by decide +kernel
theorem dX4_block_104 : decode cX4_block 104 = .ok (.getfield 42, 3) := by decide +kernel
theorem dX4_block_107 : decode cX4_block 107 = .ok (.iload_n 2, 1) := by decide +kernel
theorem dX4_block_108 : decode cX4_block 108 = .ok (.iconst 2, 1) := by decide +kernel
theorem dX4_block_109 : decode cX4_block 109 = .ok (.isub, 1) := by decide +kernel
theorem dX4_block_110 : decode cX4_block 110 = .ok (.iaload, 1) := by decide +kernel
theorem dX4_block_111 : decode cX4_block 111 = .ok (.istore 4, 2) := by decide +kernel
theorem dX4_block_113 : decode cX4_block 113 = .ok (.aload_n 0, 1) := by decide +kernel
theorem dX4_block_114 : decode cX4_block 114 = .ok (.getfield 42, 3) := by decide +kernel
theorem dX4_block_117 : decode cX4_block 117 = .ok (.iload_n 2, 1) := by decide +kernel
theorem dX4_block_118 : decode cX4_block 118 = .ok (.aload_n 0, 1) := by decide +kernel
theorem dX4_block_119 : decode cX4_block 119 = .ok (.getfield 42, 3) := by decide +kernel
theorem dX4_block_122 : decode cX4_block 122 = .ok (.iload_n 2, 1) := by decide +kernel
theorem dX4_block_123 : decode cX4_block 123 = .ok (.bipush 16, 2) := by decide +kernel
theorem dX4_block_125 : decode cX4_block 125 = .ok (.isub, 1) := by decide +kernel
theorem dX4_block_126 : decode cX4_block 126 = .ok (.iaload, 1) := by decide +kernel
theorem dX4_block_127 : decode cX4_block 127 = .ok (.aload_n 0, 1) := by decide +kernel
theorem dX4_block_128 : decode cX4_block 128 = .ok (.getfield 42, 3) := by decide +kernel
theorem dX4_block_131 : decode cX4_block 131 = .ok (.iload_n 2, 1) := by decide +kernel
theorem dX4_block_132 : decode cX4_block 132 = .ok (.bipush 7, 2) := by decide +kernel
theorem dX4_block_134 : decode cX4_block 134 = .ok (.isub, 1) := by decide +kernel
theorem dX4_block_135 : decode cX4_block 135 = .ok (.iaload, 1) := by decide +kernel
theorem dX4_block_136 : decode cX4_block 136 = .ok (.iadd, 1) := by decide +kernel
theorem dX4_block_137 : decode cX4_block 137 = .ok (.iload_n 3, 1) := by decide +kernel
theorem dX4_block_138 : decode cX4_block 138 = .ok (.bipush 7, 2) := by decide +kernel
theorem dX4_block_140 : decode cX4_block 140 = .ok (.invokestatic 127, 3) := by decide +kernel
theorem dX4_block_143 : decode cX4_block 143 = .ok (.iload_n 3, 1) := by decide +kernel
theorem dX4_block_144 : decode cX4_block 144 = .ok (.bipush 18, 2) := by decide +kernel
theorem dX4_block_146 : decode cX4_block 146 = .ok (.invokestatic 127, 3) := by decide +kernel
theorem dX4_block_149 : decode cX4_block 149 = .ok (.ixor, 1) := by decide +kernel
theorem dX4_block_150 : decode cX4_block 150 = .ok (.iload_n 3, 1) := by decide +kernel
theorem dX4_block_151 : decode cX4_block 151 = .ok (.iconst 3, 1) := by decide +kernel
theorem dX4_block_152 : decode cX4_block 152 = .ok (.iushr, 1) := by decide +kernel
theorem dX4_block_153 : decode cX4_block 153 = .ok (.ixor, 1) := by decide +kernel
theorem dX4_block_154 : decode cX4_block 154 = .ok (.iadd, 1) := by decide +kernel
theorem dX4_block_155 : decode cX4_block 155 = .ok (.iload 4, 2) := by decide +kernel
theorem dX4_block_157 : decode cX4_block 157 = .ok (.bipush 17, 2) := by decide +kernel
theorem dX4_block_159 : decode cX4_block 159 = .ok (.invokestatic 127, 3) := by decide +kernel
theorem dX4_block_162 : decode cX4_block 162 = .ok (.iload 4, 2) := by decide +kernel
theorem dX4_block_164 : decode cX4_block 164 = .ok (.bipush 19, 2) := by decide +kernel
theorem dX4_block_166 : decode cX4_block 166 = .ok (.invokestatic 127, 3) := by decide +kernel
theorem dX4_block_169 : decode cX4_block 169 = .ok (.ixor, 1) := by decide +kernel
theorem dX4_block_170 : decode cX4_block 170 = .ok (.iload 4, 2) := by decide +kernel
theorem dX4_block_172 : decode cX4_block 172 = .ok (.bipush 10, 2) := by decide +kernel
theorem dX4_block_174 : decode cX4_block 174 = .ok (.iushr, 1) := by decide +kernel
theorem dX4_block_175 : decode cX4_block 175 = .ok (.ixor, 1) := by decide +kernel
theorem dX4_block_176 : decode cX4_block 176 = .ok (.iadd, 1) := by decide +kernel
theorem dX4_block_177 : decode cX4_block 177 = .ok (.iastore, 1) := by decide +kernel
theorem dX4_block_178 : decode cX4_block 178 = .ok (.iinc 2 1, 3) := by decide +kernel
theorem dX4_block_181 : decode cX4_block 181 = .ok (.goto (-179), 3) := by decide +kernel
theorem dX4_block_184 : decode cX4_block 184 = .ok (.aload_n 0, 1) := by decide +kernel
theorem dX4_block_185 : decode cX4_block 185 = .ok (.getfield 48, 3) := by decide +kernel
theorem dX4_block_188 : decode cX4_block 188 = .ok (.iconst 0, 1) := by decide +kernel
theorem dX4_block_189 : decode cX4_block 189 = .ok (.iaload, 1) := by decide +kernel
theorem dX4_block_190 : decode cX4_block 190 = .ok (.istore_n 2, 1) := by decide +kernel
theorem dX4_block_191 : decode cX4_block 191 = .ok (.aload_n 0, 1) := by decide +kernel
theorem dX4_block_192 : decode cX4_block 192 = .ok (.getfield 48, 3) := by decide +kernel
theorem dX4_block_195 : decode cX4_block 195 = .ok (.iconst 1, 1) := by decide +kernel
theorem dX4_block_196 : decode cX4_block 196 = .ok (.iaload, 1) := by decide +kernel
theorem dX4_block_197 : decode cX4_block 197 = .ok (.istore_n 3, 1) := by decide +kernel
theorem dX4_block_198 : decode cX4_block 198 = .ok (.aload_n 0, 1) := by decide +kernel
theorem dX4_block_199 : decode cX4_block 199 = .ok (.getfield 48, 3) := by decide +kernel
theorem dX4_block_202 : decode cX4_block 202 = .ok (.iconst 2, 1) := by decide +kernel
theorem dX4_block_203 : decode cX4_block 203 = .ok (.iaload, 1) := by decide +kernel
theorem dX4_block_204 : decode cX4_block 204 = .ok (.istore 4, 2) := by decide +kernel
theorem dX4_block_206 : decode cX4_block 206 = .ok (.aload_n 0, 1) := by decide +kernel
theorem dX4_block_207 : decode cX4_block 207 = .ok (.getfield 48, 3) := by decide +kernel
theorem dX4_block_210 : decode cX4_block 210 = .ok (.iconst 3, 1) := by decide +kernel
theorem dX4_block_211 : decode cX4_block 211 = .ok (.iaload, 1) := by decide +kernel
theorem dX4_block_212 : decode cX4_block 212 = .ok (.istore 5, 2) := by decide +kernel
theorem dX4_block_214 : decode cX4_block 214 = .ok (.aload_n 0, 1) := by decide +kernel
theorem dX4_block_215 : decode cX4_block 215 = .ok (.getfield 48, 3) := by decide +kernel
theorem dX4_block_218 : decode cX4_block 218 = .ok (.iconst 4, 1) := by decide +kernel
theorem dX4_block_219 : decode cX4_block 219 = .ok (.iaload, 1) := by decide +kernel
theorem dX4_block_220 : decode cX4_block 220 = .ok (.istore 6, 2) := by decide +kernel
theorem dX4_block_222 : decode cX4_block 222 = .ok (.aload_n 0, 1) := by decide +kernel
theorem dX4_block_223 : decode cX4_block 223 = .ok (.getfield 48, 3) := by decide +kernel
theorem dX4_block_226 : decode cX4_block 226 = .ok (.iconst 5, 1) := by decide +kernel
theorem dX4_block_227 : decode cX4_block 227 = .ok (.iaload, 1) := by decide +kernel
theorem dX4_block_228 : decode cX4_block 228 = .ok (.istore 7, 2) := by decide +kernel
theorem dX4_block_230 : decode cX4_block 230 = .ok (.aload_n 0, 1) := by decide +kernel
theorem dX4_block_231 : decode cX4_block 231 = .ok (.getfield 48, 3) := by decide +kernel
theorem dX4_block_234 : decode cX4_block 234 = .ok (.bipush 6, 2) := by decide +kernel
theorem dX4_block_236 : decode cX4_block 236 = .ok (.iaload, 1) := by decide +kernel
theorem dX4_block_237 : decode cX4_block 237 = .ok (.istore 8, 2) := by decide +kernel
theorem dX4_block_239 : decode cX4_block 239 = .ok (.aload_n 0, 1) := by decide +kernel
theorem dX4_block_240 : decode cX4_block 240 = .ok (.getfield 48, 3) := by decide +kernel
theorem dX4_block_243 : decode cX4_block 243 = .ok (.bipush 7, 2) := by decide +kernel
theorem dX4_block_245 : decode cX4_block 245 = .ok (.iaload, 1) := by decide +kernel
theorem dX4_block_246 : decode cX4_block 246 = .ok (.istore 9, 2) := by decide +kernel
theorem dX4_block_248 : decode cX4_block 248 = .ok (.iconst 0, 1) := by decide +kernel
theorem dX4_block_249 : decode cX4_block 249 = .ok (.istore 10, 2) := by decide +kernel
theorem dX4_block_251 : decode cX4_block 251 = .ok (.iload 10, 2) := by decide +kernel
theorem dX4_block_253 : decode cX4_block 253 = .ok (.bipush 64, 2) := by decide +kernel
theorem dX4_block_255 : decode cX4_block 255 = .ok (.if_icmp .ge 135, 3) := by decide +kernel
theorem dX4_block_258 : decode cX4_block 258 = .ok (.iload 9, 2) := by decide +kernel
theorem dX4_block_260 : decode cX4_block 260 = .ok (.iload 6, 2) := by decide +kernel
theorem dX4_block_262 : decode cX4_block 262 = .ok (.bipush 6, 2) := by decide +kernel
theorem dX4_block_264 : decode cX4_block 264 = .ok (.invokestatic 127, 3) := by decide +kernel
theorem dX4_block_267 : decode cX4_block 267 = .ok (.iload 6, 2) := by decide +kernel
theorem dX4_block_269 : decode cX4_block 269 = .ok (.bipush 11, 2) := by decide +kernel
theorem dX4_block_271 : decode cX4_block 271 = .ok (.invokestatic 127, 3) := by decide +kernel
theorem dX4_block_274 : decode cX4_block 274 = .ok (.ixor, 1) := by decide +kernel
theorem dX4_block_275 : decode cX4_block 275 = .ok (.iload 6, 2) := by decide +kernel
theorem dX4_block_277 : decode cX4_block 277 = .ok (.bipush 25, 2) := by decide +kernel
theorem dX4_block_279 : decode cX4_block 279 = .ok (.invokestatic 127, 3) := by decide +kernel
theorem dX4_block_282 : decode cX4_block 282 = .ok (.ixor, 1) := by decide +kernel
theorem dX4_block_283 : decode cX4_block 283 = .ok (.iadd, 1) := by decide +kernel
theorem dX4_block_284 : decode cX4_block 284 = .ok (.iload 6, 2) := by decide +kernel
theorem dX4_block_286 : decode cX4_block 286 = .ok (.iload 7, 2) := by decide +kernel
theorem dX4_block_288 : decode cX4_block 288 = .ok (.iand, 1) := by decide +kernel
theorem dX4_block_289 : decode cX4_block 289 = .ok (.iload 6, 2) := by decide +kernel
theorem dX4_block_291 : decode cX4_block 291 = .ok (.iconst (-1), 1) := by decide +kernel
theorem dX4_block_292 : decode cX4_block 292 = .ok (.ixor, 1) := by decide +kernel
theorem dX4_block_293 : decode cX4_block 293 = .ok (.iload 8, 2) := by decide +kernel
theorem dX4_block_295 : decode cX4_block 295 = .ok (.iand, 1) := by decide +kernel
theorem dX4_block_296 : decode cX4_block 296 = .ok (.ixor, 1) := by decide +kernel
theorem dX4_block_297 : decode cX4_block 297 = .ok (.iadd, 1) := by decide +kernel
theorem dX4_block_298 : decode cX4_block 298 = .ok (.getstatic 130, 3) := by decide +kernel
theorem dX4_block_301 : decode cX4_block 301 = .ok (.iload 10, 2) := by decide +kernel
theorem dX4_block_303 : decode cX4_block 303 = .ok (.iaload, 1) := by decide +kernel
theorem dX4_block_304 : decode cX4_block 304 = .ok (.iadd, 1) := by decide +kernel
theorem dX4_block_305 : decode cX4_block 305 = .ok (.aload_n 0, 1) := by decide +kernel
theorem dX4_block_306 : decode cX4_block 306 = .ok (.getfield 42, 3) := by decide +kernel
theorem dX4_block_309 : decode cX4_block 309 = .ok (.iload 10, 2) := by decide +kernel
theorem dX4_block_311 : decode cX4_block 311 = .ok (.iaload, 1) := by decide +kernel
theorem dX4_block_312 : decode cX4_block 312 = .ok (.iadd, 1) := by decide +kernel
theorem dX4_block_313 : decode cX4_block 313 = .ok (.istore 11, 2) := by decide +kernel
theorem dX4_block_315 : decode cX4_block 315 = .ok (.iload_n 2, 1) := by decide +kernel
theorem dX4_block_316 : decode cX4_block 316 = .ok (.iconst 2, 1) := by decide +kernel
theorem dX4_block_317 : decode cX4_block 317 = .ok (.invokestatic 127, 3) := by decide +kernel
theorem dX4_block_320 : decode cX4_block 320 = .ok (.iload_n 2, 1) := by decide +kernel
theorem dX4_block_321 : decode cX4_block 321 = .ok (.bipush 13, 2) := by decide +kernel
theorem dX4_block_323 : decode cX4_block 323 = .ok (.invokestatic 127, 3) := by decide +kernel
theorem dX4_block_326 : decode cX4_block 326 = .ok (.ixor, 1) := by decide +kernel
theorem dX4_block_327 : decode cX4_block 327 = .ok (.iload_n 2, 1) := by decide +kernel
theorem dX4_block_328 : decode cX4_block 328 = .ok (.bipush 22, 2) := by decide +kernel
theorem dX4_block_330 : decode cX4_block 330 = .ok (.invokestatic 127, 3) := by decide +kernel
theorem dX4_block_333 : decode cX4_block 333 = .ok (.ixor, 1) := by decide +kernel
theorem dX4_block_334 : decode cX4_block 334 = .ok (.iload_n 2, 1) := by decide +kernel
theorem dX4_block_335 : decode cX4_block 335 = .ok (.iload_n 3, 1) := by decide +kernel
theorem dX4_block_336 : decode cX4_block 336 = .ok (.iand, 1) := by decide +kernel
theorem dX4_block_337 : decode cX4_block 337 = .ok (.iload_n 2, 1) := by decide +kernel
theorem dX4_block_338 : decode cX4_block 338 = .ok (.iload 4, 2) := by decide +kernel
theorem dX4_block_340 : decode cX4_block 340 = .ok (.iand, 1) := by decide +kernel
theorem dX4_block_341 : decode cX4_block 341 = .ok (.ixor, 1) := by decide +kernel
theorem dX4_block_342 : decode cX4_block 342 = .ok (.iload_n 3, 1) := by decide +kernel
theorem dX4_block_343 : decode cX4_block 343 = .ok (.iload 4, 2) := by decide +kernel
theorem dX4_block_345 : decode cX4_block 345 = .ok (.iand, 1) := by decide +kernel
theorem dX4_block_346 : decode cX4_block 346 = .ok (.ixor, 1) := by decide +kernel
theorem dX4_block_347 : decode cX4_block 347 = .ok (.iadd, 1) := by decide +kernel
theorem dX4_block_348 : decode cX4_block 348 = .ok (.istore 12, 2) := by decide +kernel
theorem dX4_block_350 : decode cX4_block 350 = .ok (.iload 8, 2) := by decide +kernel
theorem dX4_block_352 : decode cX4_block 352 = .ok (.istore 9, 2) := by decide +kernel
theorem dX4_block_354 : decode cX4_block 354 = .ok (.iload 7, 2) := by decide +kernel
theorem dX4_block_356 : decode cX4_block 356 = .ok (.istore 8, 2) := by decide +kernel
theorem dX4_block_358 : decode cX4_block 358 = .ok (.iload 6, 2) := by decide +kernel
theorem dX4_block_360 : decode cX4_block 360 = .ok (.istore 7, 2) := by decide +kernel
theorem dX4_block_362 : decode cX4_block 362 = .ok (.iload 5, 2) := by decide +kernel
theorem dX4_block_364 : decode cX4_block 364 = .ok (.iload 11, 2) := by decide +kernel
theorem dX4_block_366 : decode cX4_block 366 = .ok (.iadd, 1) := by decide +kernel
theorem dX4_block_367 : decode cX4_block 367 = .ok (.istore 6, 2) := by decide +kernel
theorem dX4_block_369 : decode cX4_block 369 = .ok (.iload 4, 2) := by decide +kernel
theorem dX4_block_371 : decode cX4_block 371 = .ok (.istore 5, 2) := by decide +kernel
theorem dX4_block_373 : decode cX4_block 373 = .ok (.iload_n 3, 1) := by decide +kernel
theorem dX4_block_374 : decode cX4_block 374 = .ok (.istore 4, 2) := by decide +kernel
theorem dX4_block_376 : decode cX4_block 376 = .ok (.iload_n 2, 1) := by decide +kernel
theorem dX4_block_377 : decode cX4_block 377 = .ok (.istore_n 3, 1) := by decide +kernel
theorem dX4_block_378 : decode cX4_block 378 = .ok (.iload 11, 2) := by decide +kernel
theorem dX4_block_380 : decode cX4_block 380 = .ok (.iload 12, 2) := by decide +kernel
theorem dX4_block_382 : decode cX4_block 382 = .ok (.iadd, 1) := by decide +kernel
theorem dX4_block_383 : decode cX4_block 383 = .ok (.istore_n 2, 1) := by decide +kernel
theorem dX4_block_384 : decode cX4_block 384 = .ok (.iinc 10 1, 3) := by decide +kernel
theorem dX4_block_387 : decode cX4_block 387 = .ok (.goto (-136), 3) := by decide +kernel
theorem dX4_block_390 : decode cX4_block 390 = .ok (.aload_n 0, 1) := by decide +kernel
theorem dX4_block_391 : decode cX4_block 391 = .ok (.getfield 48, 3) := by decide +kernel
theorem dX4_block_394 : decode cX4_block 394 = .ok (.iconst 0, 1) := by decide +kernel
theorem dX4_block_395 : decode cX4_block 395 = .ok (.dup2, 1) := by decide +kernel
theorem dX4_block_396 : decode cX4_block 396 = .ok (.iaload, 1) := by decide +kernel
theorem dX4_block_397 : decode cX4_block 397 = .ok (.iload_n 2, 1) := by decide +kernel
theorem dX4_block_398 : decode cX4_block 398 = .ok (.iadd, 1) := by decide +kernel
theorem dX4_block_399 : decode cX4_block 399 = .ok (.iastore, 1) := by decide +kernel
theorem dX4_block_400 : decode cX4_block 400 = .ok (.aload_n 0, 1) := by decide +kernel
theorem dX4_block_401 : decode cX4_block 401 = .ok (.getfield 48, 3) := by decide +kernel
theorem dX4_block_404 : decode cX4_block 404 = .ok (.iconst 1, 1) := by decide +kernel
theorem dX4_block_405 : decode cX4_block 405 = .ok (.dup2, 1) := by decide +kernel
theorem dX4_block_406 : decode cX4_block 406 = .ok (.iaload, 1) := by decide +kernel
theorem dX4_block_407 : decode cX4_block 407 = .ok (.iload_n 3, 1) := by decide +kernel
theorem dX4_block_408 : decode cX4_block 408 = .ok (.iadd, 1) := by decide +kernel
theorem dX4_block_409 : decode cX4_block 409 = .ok (.iastore, 1) := by decide +kernel
theorem dX4_block_410 : decode cX4_block 410 = .ok (.aload_n 0, 1) := by decide +kernel
theorem dX4_block_411 : decode cX4_block 411 = .ok (.getfield 48, 3) := by decide +kernel
theorem dX4_block_414 : decode cX4_block 414 = .ok (.iconst 2, 1) := by decide +kernel
theorem dX4_block_415 : decode cX4_block 415 = .ok (.dup2, 1) := by decide +kernel
theorem dX4_block_416 : decode cX4_block 416 = .ok (.iaload, 1) := by decide +kernel
theorem dX4_block_417 : decode cX4_block 417 = .ok (.iload 4, 2) := by decide +kernel
theorem dX4_block_419 : decode cX4_block 419 = .ok (.iadd, 1) := by decide +kernel
theorem dX4_block_420 : decode cX4_block 420 = .ok (.iastore, 1) := by decide +kernel
theorem dX4_block_421 : decode cX4_block 421 = .ok (.aload_n 0, 1) := by decide +kernel
theorem dX4_block_422 : decode cX4_block 422 = .ok (.getfield 48, 3) := by decide +kernel
theorem dX4_block_425 : decode cX4_block 425 = .ok (.iconst 3, 1) := by decide +kernel
theorem dX4_block_426 : decode cX4_block 426 = .ok (.dup2, 1) := by decide +kernel
theorem dX4_block_427 : decode cX4_block 427 = .ok (.iaload, 1) := by decide +kernel
theorem dX4_block_428 : decode cX4_block 428 = .ok (.iload 5, 2) := by decide +kernel
theorem dX4_block_430 : decode cX4_block 430 = .ok (.iadd, 1) := by decide +kernel
theorem dX4_block_431 : decode cX4_block 431 = .ok (.iastore, 1) := by decide +kernel
theorem dX4_block_432 : decode cX4_block 432 = .ok (.aload_n 0, 1) := by decide +kernel
theorem dX4_block_433 : decode cX4_block 433 = .ok (.getfield 48, 3) := by decide +kernel
theorem dX4_block_436 : decode cX4_block 436 = .ok (.iconst 4, 1) := by decide +kernel
theorem dX4_block_437 : decode cX4_block 437 = .ok (.dup2, 1) := by decide +kernel
theorem dX4_block_438 : decode cX4_block 438 = .ok (.iaload, 1) := by decide +kernel
theorem dX4_block_439 : decode cX4_block 439 = .ok (.iload 6, 2) := by decide +kernel
theorem dX4_block_441 : decode cX4_block 441 = .ok (.iadd, 1) := by decide +kernel
theorem dX4_block_442 : decode cX4_block 442 = .ok (.iastore, 1) := by decide +kernel
theorem dX4_block_443 : decode cX4_block 443 = .ok (.aload_n 0, 1) := by decide +kernel
theorem dX4_block_444 : decode cX4_block 444 = .ok (.getfield 48, 3) := by decide +kernel
theorem dX4_block_447 : decode cX4_block 447 = .ok (.iconst 5, 1) := by decide +kernel
theorem dX4_block_448 : decode cX4_block 448 = .ok (.dup2, 1) := by decide +kernel
theorem dX4_block_449 : decode cX4_block 449 = .ok (.iaload, 1) := by decide +kernel
theorem dX4_block_450 : decode cX4_block 450 = .ok (.iload 7, 2) := by decide +kernel
theorem dX4_block_452 : decode cX4_block 452 = .ok (.iadd, 1) := by decide +kernel
theorem dX4_block_453 : decode cX4_block 453 = .ok (.iastore, 1) := by decide +kernel
theorem dX4_block_454 : decode cX4_block 454 = .ok (.aload_n 0, 1) := by decide +kernel
theorem dX4_block_455 : decode cX4_block 455 = .ok (.getfield 48, 3) := by decide +kernel
theorem dX4_block_458 : decode cX4_block 458 = .ok (.bipush 6, 2) := by decide +kernel
theorem dX4_block_460 : decode cX4_block 460 = .ok (.dup2, 1) := by decide +kernel
theorem dX4_block_461 : decode cX4_block 461 = .ok (.iaload, 1) := by decide +kernel
theorem dX4_block_462 : decode cX4_block 462 = .ok (.iload 8, 2) := by decide +kernel
theorem dX4_block_464 : decode cX4_block 464 = .ok (.iadd, 1) := by decide +kernel
theorem dX4_block_465 : decode cX4_block 465 = .ok (.iastore, 1) := by decide +kernel
theorem dX4_block_466 : decode cX4_block 466 = .ok (.aload_n 0, 1) := by decide +kernel
theorem dX4_block_467 : decode cX4_block 467 = .ok (.getfield 48, 3) := by decide +kernel
theorem dX4_block_470 : decode cX4_block 470 = .ok (.bipush 7, 2) := by decide +kernel
theorem dX4_block_472 : decode cX4_block 472 = .ok (.dup2, 1) := by decide +kernel
theorem dX4_block_473 : decode cX4_block 473 = .ok (.iaload, 1) := by decide +kernel
theorem dX4_block_474 : decode cX4_block 474 = .ok (.iload 9, 2) := by decide +kernel
theorem dX4_block_476 : decode cX4_block 476 = .ok (.iadd, 1) := by decide +kernel
theorem dX4_block_477 : decode cX4_block 477 = .ok (.iastore, 1) := by decide +kernel
theorem dX4_block_478 : decode cX4_block 478 = .ok (.return_, 1) := by decide +kernel
theorem dX4_feed_0 : decode cX4_feed 0 = .ok (.aload_n 0, 1) := by decide +kernel
theorem dX4_feed_1 : decode cX4_feed 1 = .ok (.getfield 133, 3) := by decide +kernel
theorem dX4_feed_4 : decode cX4_feed 4 = .ok (.bipush 20, 2) := by decide +kernel
theorem dX4_feed_6 : decode cX4_feed 6 = .ok (.iadd, 1) := by decide +kernel
theorem dX4_feed_7 : decode cX4_feed 7 = .ok (.sipush 1024, 3) := by decide +kernel
theorem dX4_feed_10 : decode cX4_feed 10 = .ok (.if_icmp .le 5, 3) := by decide +kernel
theorem dX4_feed_13 : decode cX4_feed 13 = .ok (.iconst (-1), 1) := by decide +kernel
theorem dX4_feed_14 : decode cX4_feed 14 = .ok (.ireturn, 1) := by decide +kernel
theorem dX4_feed_15 : decode cX4_feed 15 = .ok (.aload_n 0, 1) := by decide +kernel
theorem dX4_feed_16 : decode cX4_feed 16 = .ok (.getfield 51, 3) := by decide +kernel
theorem dX4_feed_19 : decode cX4_feed 19 = .ok (.iconst 0, 1) := by decide +kernel
theorem dX4_feed_20 : decode cX4_feed 20 = .ok (.iload_n 1, 1) := by decide +kernel
theorem dX4_feed_21 : decode cX4_feed 21 = .ok (.iastore, 1) := by decide +kernel
theorem dX4_feed_22 : decode cX4_feed 22 = .ok (.aload_n 0, 1) := by decide +kernel
theorem dX4_feed_23 : decode cX4_feed 23 = .ok (.getfield 51, 3) := by decide +kernel
theorem dX4_feed_26 : decode cX4_feed 26 = .ok (.iconst 1, 1) := by decide +kernel
theorem dX4_feed_27 : decode cX4_feed 27 = .ok (.iload_n 2, 1) := by decide +kernel
theorem dX4_feed_28 : decode cX4_feed 28 = .ok (.iastore, 1) := by decide +kernel
theorem dX4_feed_29 : decode cX4_feed 29 = .ok (.aload_n 0, 1) := by decide +kernel
theorem dX4_feed_30 : decode cX4_feed 30 = .ok (.getfield 51, 3) := by decide +kernel
theorem dX4_feed_33 : decode cX4_feed 33 = .ok (.iconst 2, 1) := by decide +kernel
theorem dX4_feed_34 : decode cX4_feed 34 = .ok (.iload_n 3, 1) := by decide +kernel
theorem dX4_feed_35 : decode cX4_feed 35 = .ok (.iastore, 1) := by decide +kernel
theorem dX4_feed_36 : decode cX4_feed 36 = .ok (.aload_n 0, 1) := by decide +kernel
theorem dX4_feed_37 : decode cX4_feed 37 = .ok (.getfield 51, 3) := by decide +kernel
theorem dX4_feed_40 : decode cX4_feed 40 = .ok (.iconst 3, 1) := by decide +kernel
theorem dX4_feed_41 : decode cX4_feed 41 = .ok (.iload 4, 2) := by decide +kernel
theorem dX4_feed_43 : decode cX4_feed 43 = .ok (.iastore, 1) := by decide +kernel
theorem dX4_feed_44 : decode cX4_feed 44 = .ok (.aload_n 0, 1) := by decide +kernel
theorem dX4_feed_45 : decode cX4_feed 45 = .ok (.getfield 51, 3) := by decide +kernel
theorem dX4_feed_48 : decode cX4_feed 48 = .ok (.iconst 4, 1) := by decide +kernel
theorem dX4_feed_49 : decode cX4_feed 49 = .ok (.iload 5, 2) := by decide +kernel
theorem dX4_feed_51 : decode cX4_feed 51 = .ok (.iastore, 1) := by decide +kernel
theorem dX4_feed_52 : decode cX4_feed 52 = .ok (.iconst 0, 1) := by decide +kernel
theorem dX4_feed_53 : decode cX4_feed 53 = .ok (.istore 6, 2) := by decide +kernel
theorem dX4_feed_55 : decode cX4_feed 55 = .ok (.iload 6, 2) := by decide +kernel
theorem dX4_feed_57 : decode cX4_feed 57 = .ok (.bipush 20, 2) := by decide +kernel
theorem dX4_feed_59 : decode cX4_feed 59 = .ok (.if_icmp .ge 42, 3) := by decide +kernel
theorem dX4_feed_62 : decode cX4_feed 62 = .ok (.aload_n 0, 1) := by decide +kernel
theorem dX4_feed_63 : decode cX4_feed 63 = .ok (.getfield 26, 3) := by decide +kernel
theorem dX4_feed_66 : decode cX4_feed 66 = .ok (.aload_n 0, 1) := by decide +kernel
theorem dX4_feed_67 : decode cX4_feed 67 = .ok (.getfield 133, 3) := by decide +kernel
theorem dX4_feed_70 : decode cX4_feed 70 = .ok (.iload 6, 2) := by decide +kernel
theorem dX4_feed_72 : decode cX4_feed 72 = .ok (.iadd, 1) := by decide +kernel
theorem dX4_feed_73 : decode cX4_feed 73 = .ok (.aload_n 0, 1) := by decide +kernel
theorem dX4_feed_74 : decode cX4_feed 74 = .ok (.getfield 51, 3) := by decide +kernel
theorem dX4_feed_77 : decode cX4_feed 77 = .ok (.iload 6, 2) := by decide +kernel
theorem dX4_feed_79 : decode cX4_feed 79 = .ok (.iconst 4, 1) := by decide +kernel
theorem dX4_feed_80 : decode cX4_feed 80 = .ok (.idiv, 1) := by decide +kernel
theorem dX4_feed_81 : decode cX4_feed 81 = .ok (.iaload, 1) := by decide +kernel
theorem dX4_feed_82 : decode cX4_feed 82 = .ok (.bipush 24, 2) := by decide +kernel
theorem dX4_feed_84 : decode cX4_feed 84 = .ok (.bipush 8, 2) := by decide +kernel
theorem dX4_feed_86 : decode cX4_feed 86 = .ok (.iload 6, 2) := by decide +kernel
theorem dX4_feed_88 : decode cX4_feed 88 = .ok (.iconst 4, 1) := by decide +kernel
theorem dX4_feed_89 : decode cX4_feed 89 = .ok (.irem, 1) := by decide +kernel
theorem dX4_feed_90 : decode cX4_feed 90 = .ok (.imul, 1) := by decide +kernel
theorem dX4_feed_91 : decode cX4_feed 91 = .ok (.isub, 1) := by decide +kernel
theorem dX4_feed_92 : decode cX4_feed 92 = .ok (.ishr, 1) := by decide +kernel
theorem dX4_feed_93 : decode cX4_feed 93 = .ok (.i2b, 1) := by decide +kernel
theorem dX4_feed_94 : decode cX4_feed 94 = .ok (.bastore, 1) := by decide +kernel
theorem dX4_feed_95 : decode cX4_feed 95 = .ok (.iinc 6 1, 3) := by decide +kernel
theorem dX4_feed_98 : decode cX4_feed 98 = .ok (.goto (-43), 3) := by decide +kernel
theorem dX4_feed_101 : decode cX4_feed 101 = .ok (.aload_n 0, 1) := by decide +kernel
theorem dX4_feed_102 : decode cX4_feed 102 = .ok (.dup, 1) := by decide +kernel
theorem dX4_feed_103 : decode cX4_feed 103 = .ok (.getfield 133, 3) := by decide +kernel
theorem dX4_feed_106 : decode cX4_feed 106 = .ok (.bipush 20, 2) := by decide +kernel
theorem dX4_feed_108 : decode cX4_feed 108 = .ok (.iadd, 1) := by decide +kernel
theorem dX4_feed_109 : decode cX4_feed 109 = .ok (.putfield 133, 3) := by decide +kernel
theorem dX4_feed_112 : decode cX4_feed 112 = .ok (.aload_n 0, 1) := by decide +kernel
theorem dX4_feed_113 : decode cX4_feed 113 = .ok (.getfield 133, 3) := by decide +kernel
theorem dX4_feed_116 : decode cX4_feed 116 = .ok (.ireturn, 1) := by decide +kernel
theorem dX4_end_0 : decode cX4_end 0 = .ok (.iload_n 1, 1) := by decide +kernel
theorem dX4_end_1 : decode cX4_end 1 = .ok (.ifCond .lt 11, 3) := by decide +kernel
theorem dX4_end_4 : decode cX4_end 4 = .ok (.iload_n 1, 1) := by decide +kernel
theorem dX4_end_5 : decode cX4_end 5 = .ok (.aload_n 0, 1) := by decide +kernel
theorem dX4_end_6 : decode cX4_end 6 = .ok (.getfield 133, 3) := by decide +kernel
theorem dX4_end_9 : decode cX4_end 9 = .ok (.if_icmp .le 5, 3) := by decide +kernel
theorem dX4_end_12 : decode cX4_end 12 = .ok (.iconst 0, 1) := by decide +kernel
theorem dX4_end_13 : decode cX4_end 13 = .ok (.ireturn, 1) := by decide +kernel
theorem dX4_end_14 : decode cX4_end 14 = .ok (.aload_n 0, 1) := by decide +kernel
theorem dX4_end_15 : decode cX4_end 15 = .ok (.iload_n 1, 1) := by decide +kernel
theorem dX4_end_16 : decode cX4_end 16 = .ok (.putfield 133, 3) := by decide +kernel
theorem dX4_end_19 : decode cX4_end 19 = .ok (.iconst 1, 1) := by decide +kernel
theorem dX4_end_20 : decode cX4_end 20 = .ok (.ireturn, 1) := by decide +kernel
theorem dX4_taped_0 : decode cX4_taped 0 = .ok (.aload_n 0, 1) := by decide +kernel
theorem dX4_taped_1 : decode cX4_taped 1 = .ok (.getfield 133, 3) := by decide +kernel
theorem dX4_taped_4 : decode cX4_taped 4 = .ok (.ireturn, 1) := by decide +kernel
set_option maxRecDepth 20000 in
theorem ggX4_pack_X4_sha : GoodIn wsX4_pack wsX4_sha := goodIn_r _ [8, 9, 10, 11, 3, 12, 13, 14, 7, 15, 16, 17, 18, 19, 20, 21, 22, 23, 24, 25, 26, 27, 28, 29, 30, 31, 32, 33, 34, 35, 36, 37, 38, 39, 40, 41, 42, 43, 44, 45, 46] (by decide +kernel) (by decide +kernel)
set_option maxRecDepth 20000 in
theorem gX4_pack_X4_sha : GoodIn wsX4_pack (wsV RX4 106 RX4 yX4_sha wsX4_sha) := goodIn_app (goodIn_of _ (by decide +kernel)) ggX4_pack_X4_sha
theorem dX4_pack_0 : decode cX4_pack 0 = .ok (.aload_n 0, 1) := by decide +kernel
theorem dX4_pack_1 : decode cX4_pack 1 = .ok (.getfield 133, 3) := by decide +kernel
theorem dX4_pack_4 : decode cX4_pack 4 = .ok (.istore_n 2, 1) := by decide +kernel
theorem dX4_pack_5 : decode cX4_pack 5 = .ok (.iload_n 2, 1) := by decide +kernel
theorem dX4_pack_6 : decode cX4_pack 6 = .ok (.sipush 984, 3) := by decide +kernel
theorem dX4_pack_9 : decode cX4_pack 9 = .ok (.if_icmp .le 5, 3) := by decide +kernel
theorem dX4_pack_12 : decode cX4_pack 12 = .ok (.iconst (-1), 1) := by decide +kernel
theorem dX4_pack_13 : decode cX4_pack 13 = .ok (.ireturn, 1) := by decide +kernel
theorem dX4_pack_14 : decode cX4_pack 14 = .ok (.iload_n 2, 1) := by decide +kernel
theorem dX4_pack_15 : decode cX4_pack 15 = .ok (.iconst 1, 1) := by decide +kernel
theorem dX4_pack_16 : decode cX4_pack 16 = .ok (.isub, 1) := by decide +kernel
theorem dX4_pack_17 : decode cX4_pack 17 = .ok (.istore_n 3, 1) := by decide +kernel
theorem dX4_pack_18 : decode cX4_pack 18 = .ok (.iload_n 3, 1) := by decide +kernel
theorem dX4_pack_19 : decode cX4_pack 19 = .ok (.ifCond .lt 24, 3) := by decide +kernel
theorem dX4_pack_22 : decode cX4_pack 22 = .ok (.aload_n 0, 1) := by decide +kernel
theorem dX4_pack_23 : decode cX4_pack 23 = .ok (.getfield 26, 3) := by decide +kernel
theorem dX4_pack_26 : decode cX4_pack 26 = .ok (.iload_n 3, 1) := by decide +kernel
theorem dX4_pack_27 : decode cX4_pack 27 = .ok (.bipush 8, 2) := by decide +kernel
theorem dX4_pack_29 : decode cX4_pack 29 = .ok (.iadd, 1) := by decide +kernel
theorem dX4_pack_30 : decode cX4_pack 30 = .ok (.aload_n 0, 1) := by decide +kernel
theorem dX4_pack_31 : decode cX4_pack 31 = .ok (.getfield 26, 3) := by decide +kernel
theorem dX4_pack_34 : decode cX4_pack 34 = .ok (.iload_n 3, 1) := by decide +kernel
theorem dX4_pack_35 : decode cX4_pack 35 = .ok (.baload, 1) := by decide +kernel
theorem dX4_pack_36 : decode cX4_pack 36 = .ok (.bastore, 1) := by decide +kernel
theorem dX4_pack_37 : decode cX4_pack 37 = .ok (.iinc 3 (-1), 3) := by decide +kernel
theorem dX4_pack_40 : decode cX4_pack 40 = .ok (.goto (-22), 3) := by decide +kernel
theorem dX4_pack_43 : decode cX4_pack 43 = .ok (.iconst 0, 1) := by decide +kernel
theorem dX4_pack_44 : decode cX4_pack 44 = .ok (.istore_n 3, 1) := by decide +kernel
theorem dX4_pack_45 : decode cX4_pack 45 = .ok (.iload_n 3, 1) := by decide +kernel
theorem dX4_pack_46 : decode cX4_pack 46 = .ok (.iconst 4, 1) := by decide +kernel
theorem dX4_pack_47 : decode cX4_pack 47 = .ok (.if_icmp .ge 37, 3) := by decide +kernel
theorem dX4_pack_50 : decode cX4_pack 50 = .ok (.aload_n 0, 1) := by decide +kernel
theorem dX4_pack_51 : decode cX4_pack 51 = .ok (.getfield 26, 3) := by decide +kernel
theorem dX4_pack_54 : decode cX4_pack 54 = .ok (.iload_n 3, 1) := by decide +kernel
theorem dX4_pack_55 : decode cX4_pack 55 = .ok (.iload_n 2, 1) := by decide +kernel
theorem dX4_pack_56 : decode cX4_pack 56 = .ok (.bipush 8, 2) := by decide +kernel
theorem dX4_pack_58 : decode cX4_pack 58 = .ok (.iload_n 3, 1) := by decide +kernel
theorem dX4_pack_59 : decode cX4_pack 59 = .ok (.imul, 1) := by decide +kernel
theorem dX4_pack_60 : decode cX4_pack 60 = .ok (.ishr, 1) := by decide +kernel
theorem dX4_pack_61 : decode cX4_pack 61 = .ok (.i2b, 1) := by decide +kernel
theorem dX4_pack_62 : decode cX4_pack 62 = .ok (.bastore, 1) := by decide +kernel
theorem dX4_pack_63 : decode cX4_pack 63 = .ok (.aload_n 0, 1) := by decide +kernel
theorem dX4_pack_64 : decode cX4_pack 64 = .ok (.getfield 26, 3) := by decide +kernel
theorem dX4_pack_67 : decode cX4_pack 67 = .ok (.iconst 4, 1) := by decide +kernel
theorem dX4_pack_68 : decode cX4_pack 68 = .ok (.iload_n 3, 1) := by decide +kernel
theorem dX4_pack_69 : decode cX4_pack 69 = .ok (.iadd, 1) := by decide +kernel
theorem dX4_pack_70 : decode cX4_pack 70 = .ok (.iload_n 1, 1) := by decide +kernel
theorem dX4_pack_71 : decode cX4_pack 71 = .ok (.bipush 8, 2) := by decide +kernel
theorem dX4_pack_73 : decode cX4_pack 73 = .ok (.iload_n 3, 1) := by decide +kernel
theorem dX4_pack_74 : decode cX4_pack 74 = .ok (.imul, 1) := by decide +kernel
theorem dX4_pack_75 : decode cX4_pack 75 = .ok (.ishr, 1) := by decide +kernel
theorem dX4_pack_76 : decode cX4_pack 76 = .ok (.i2b, 1) := by decide +kernel
theorem dX4_pack_77 : decode cX4_pack 77 = .ok (.bastore, 1) := by decide +kernel
theorem dX4_pack_78 : decode cX4_pack 78 = .ok (.iinc 3 1, 3) := by decide +kernel
theorem dX4_pack_81 : decode cX4_pack 81 = .ok (.goto (-36), 3) := by decide +kernel
theorem dX4_pack_84 : decode cX4_pack 84 = .ok (.aload_n 0, 1) := by decide +kernel
theorem dX4_pack_85 : decode cX4_pack 85 = .ok (.aload_n 0, 1) := by decide +kernel
theorem dX4_pack_86 : decode cX4_pack 86 = .ok (.getfield 26, 3) := by decide +kernel
theorem dX4_pack_89 : decode cX4_pack 89 = .ok (.iconst 0, 1) := by decide +kernel
theorem dX4_pack_90 : decode cX4_pack 90 = .ok (.iload_n 2, 1) := by decide +kernel
theorem dX4_pack_91 : decode cX4_pack 91 = .ok (.bipush 8, 2) := by decide +kernel
theorem dX4_pack_93 : decode cX4_pack 93 = .ok (.iadd, 1) := by decide +kernel
theorem dX4_pack_94 : decode cX4_pack 94 = .ok (.invokevirtual 106, 3) := by decide +kernel
theorem dX4_pack_97 : decode cX4_pack 97 = .ok (.iconst 0, 1) := by decide +kernel
theorem dX4_pack_98 : decode cX4_pack 98 = .ok (.istore_n 3, 1) := by decide +kernel
theorem dX4_pack_99 : decode cX4_pack 99 = .ok (.iload_n 3, 1) := by decide +kernel
theorem dX4_pack_100 : decode cX4_pack 100 = .ok (.bipush 32, 2) := by decide +kernel
theorem dX4_pack_102 : decode cX4_pack 102 = .ok (.if_icmp .ge 26, 3) := by decide +kernel
theorem dX4_pack_105 : decode cX4_pack 105 = .ok (.aload_n 0, 1) := by decide +kernel
theorem dX4_pack_106 : decode cX4_pack 106 = .ok (.getfield 26, 3) := by decide +kernel
theorem dX4_pack_109 : decode cX4_pack 109 = .ok (.iload_n 2, 1) := by decide +kernel
theorem dX4_pack_110 : decode cX4_pack 110 = .ok (.bipush 8, 2) := by decide +kernel
theorem dX4_pack_112 : decode cX4_pack 112 = .ok (.iadd, 1) := by decide +kernel
theorem dX4_pack_113 : decode cX4_pack 113 = .ok (.iload_n 3, 1) := by decide +kernel
theorem dX4_pack_114 : decode cX4_pack 114 = .ok (.iadd, 1) := by decide +kernel
theorem dX4_pack_115 : decode cX4_pack 115 = .ok (.aload_n 0, 1) := by decide +kernel
theorem dX4_pack_116 : decode cX4_pack 116 = .ok (.getfield 39, 3) := by decide +kernel
theorem dX4_pack_119 : decode cX4_pack 119 = .ok (.iload_n 3, 1) := by decide +kernel
theorem dX4_pack_120 : decode cX4_pack 120 = .ok (.baload, 1) := by decide +kernel
theorem dX4_pack_121 : decode cX4_pack 121 = .ok (.bastore, 1) := by decide +kernel
theorem dX4_pack_122 : decode cX4_pack 122 = .ok (.iinc 3 1, 3) := by decide +kernel
theorem dX4_pack_125 : decode cX4_pack 125 = .ok (.goto (-26), 3) := by decide +kernel
theorem dX4_pack_128 : decode cX4_pack 128 = .ok (.aload_n 0, 1) := by decide +kernel
theorem dX4_pack_129 : decode cX4_pack 129 = .ok (.iload_n 2, 1) := by decide +kernel
theorem dX4_pack_130 : decode cX4_pack 130 = .ok (.bipush 40, 2) := by decide +kernel
theorem dX4_pack_132 : decode cX4_pack 132 = .ok (.iadd, 1) := by decide +kernel
theorem dX4_pack_133 : decode cX4_pack 133 = .ok (.putfield 133, 3) := by decide +kernel
theorem dX4_pack_136 : decode cX4_pack 136 = .ok (.aload_n 0, 1) := by decide +kernel
theorem dX4_pack_137 : decode cX4_pack 137 = .ok (.getfield 133, 3) := by decide +kernel
theorem dX4_pack_140 : decode cX4_pack 140 = .ok (.ireturn, 1) := by decide +kernel
set_option maxRecDepth 20000 in
theorem ggX4_install_X4_due : GoodIn wsX4_install wsX4_due := goodIn_r _ [10, 11, 12, 13, 9, 14, 15, 16, 17, 18, 19, 20, 21, 22, 23, 24, 25, 26, 27, 28, 29, 30, 31, 32, 33, 34, 35, 36, 37, 38, 39, 40, 41, 42, 43, 44, 45, 46, 47, 48, 84, 85, 86, 87, 88, 89, 90, 91, 92, 93, 94, 95, 96, 97, 98, 99, 100, 101, 102, 103, 104, 105, 106, 107, 108, 109] (by decide +kernel) (by decide +kernel)
set_option maxRecDepth 20000 in
theorem gX4_install_X4_due : GoodIn wsX4_install (wsV RX4 136 RX4 yX4_due wsX4_due) := goodIn_app (goodIn_of _ (by decide +kernel)) ggX4_install_X4_due
set_option maxRecDepth 20000 in
theorem ggX4_install_X4_begins : GoodIn wsX4_install wsX4_begins := goodIn_r _ [52, 53, 11, 54, 55, 84, 85, 86, 87, 88, 89, 90, 91, 92, 93, 94, 95, 96, 97, 98, 99, 100, 101, 102, 103, 104, 105, 106, 107, 108, 109] (by decide +kernel) (by decide +kernel)
set_option maxRecDepth 20000 in
theorem gX4_install_X4_begins : GoodIn wsX4_install (wsV RX4 140 RX4 yX4_begins wsX4_begins) := goodIn_app (goodIn_of _ (by decide +kernel)) ggX4_install_X4_begins
set_option maxRecDepth 20000 in
theorem ggX4_install_X4_erase : GoodIn wsX4_install wsX4_erase := goodIn_r _ [59, 53, 60, 54, 61, 84, 85, 86, 87, 88, 89, 90, 91, 92, 93, 94, 95, 96, 97, 98, 99, 100, 101, 102, 103, 104, 105, 106, 107, 108, 109] (by decide +kernel) (by decide +kernel)
set_option maxRecDepth 20000 in
theorem gX4_install_X4_erase : GoodIn wsX4_install (wsV RX4 143 RX4 yX4_erase wsX4_erase) := goodIn_app (goodIn_of _ (by decide +kernel)) ggX4_install_X4_erase
set_option maxRecDepth 20000 in
theorem ggX4_install_X4_isBlank : GoodIn wsX4_install wsX4_isBlank := goodIn_r _ [64] (by decide +kernel) (by decide +kernel)
set_option maxRecDepth 20000 in
theorem gX4_install_X4_isBlank : GoodIn wsX4_install (va_wsS RX4 71 yX4_isBlank wsX4_isBlank) := goodIn_app (goodIn_of _ (by decide +kernel)) ggX4_install_X4_isBlank
set_option maxRecDepth 20000 in
theorem ggX4_install_X4_unit : GoodIn wsX4_install wsX4_unit := goodIn_r _ [17] (by decide +kernel) (by decide +kernel)
set_option maxRecDepth 20000 in
theorem gX4_install_X4_unit : GoodIn wsX4_install (va_wsS RX4 60 yX4_unit wsX4_unit) := goodIn_app (goodIn_of _ (by decide +kernel)) ggX4_install_X4_unit
set_option maxRecDepth 20000 in
theorem ggX4_install_X4_write : GoodIn wsX4_install wsX4_write := goodIn_r _ [68, 69, 54, 53, 60, 61, 84, 85, 86, 87, 88, 89, 90, 91, 92, 93, 94, 95, 96, 97, 98, 99, 100, 101, 102, 103, 104, 105, 106, 107, 108, 109] (by decide +kernel) (by decide +kernel)
set_option maxRecDepth 20000 in
theorem gX4_install_X4_write : GoodIn wsX4_install (wsV RX4 64 RX4 yX4_write wsX4_write) := goodIn_app (goodIn_of _ (by decide +kernel)) ggX4_install_X4_write
set_option maxRecDepth 20000 in
theorem ggX4_install_X4_does : GoodIn wsX4_install wsX4_does := goodIn_r _ [73, 54, 74, 75, 55, 76, 60, 77, 78, 11, 2, 3, 79, 80, 81, 82, 9, 83, 61, 69, 84, 85, 86, 87, 88, 89, 90, 91, 92, 93, 94, 95, 96, 97, 98, 99, 100, 101, 102, 103, 104, 105, 106, 107, 108, 109] (by decide +kernel) (by decide +kernel)
set_option maxRecDepth 20000 in
theorem gX4_install_X4_does : GoodIn wsX4_install (wsV RX4 146 RX4 yX4_does wsX4_does) := goodIn_app (goodIn_of _ (by decide +kernel)) ggX4_install_X4_does
theorem dX4_install_0 : decode cX4_install 0 = .ok (.aload_n 0, 1) := by decide +kernel
theorem dX4_install_1 : decode cX4_install 1 = .ok (.getfield 133, 3) := by decide +kernel
theorem dX4_install_4 : decode cX4_install 4 = .ok (.istore_n 2, 1) := by decide +kernel
theorem dX4_install_5 : decode cX4_install 5 = .ok (.aload_n 0, 1) := by decide +kernel
theorem dX4_install_6 : decode cX4_install 6 = .ok (.iconst 0, 1) := by decide +kernel
theorem dX4_install_7 : decode cX4_install 7 = .ok (.putfield 133, 3) := by decide +kernel
theorem dX4_install_10 : decode cX4_install 10 = .ok (.aload_n 0, 1) := by decide +kernel
theorem dX4_install_11 : decode cX4_install 11 = .ok (.getfield 88, 3) := by decide +kernel
theorem dX4_install_14 : decode cX4_install 14 = .ok (.ifCond .eq 6, 3) := by decide +kernel
theorem dX4_install_17 : decode cX4_install 17 = .ok (.bipush (-9), 2) := by decide +kernel
theorem dX4_install_19 : decode cX4_install 19 = .ok (.ireturn, 1) := by decide +kernel
theorem dX4_install_20 : decode cX4_install 20 = .ok (.iload_n 1, 1) := by decide +kernel
theorem dX4_install_21 : decode cX4_install 21 = .ok (.ifCond .eq 10, 3) := by decide +kernel
theorem dX4_install_24 : decode cX4_install 24 = .ok (.iload_n 1, 1) := by decide +kernel
theorem dX4_install_25 : decode cX4_install 25 = .ok (.iconst 1, 1) := by decide +kernel
theorem dX4_install_26 : decode cX4_install 26 = .ok (.if_icmp .eq 5, 3) := by decide +kernel
theorem dX4_install_29 : decode cX4_install 29 = .ok (.iconst (-1), 1) := by decide +kernel
theorem dX4_install_30 : decode cX4_install 30 = .ok (.ireturn, 1) := by decide +kernel
theorem dX4_install_31 : decode cX4_install 31 = .ok (.aload_n 0, 1) := by decide +kernel
theorem dX4_install_32 : decode cX4_install 32 = .ok (.invokevirtual 136, 3) := by decide +kernel
theorem dX4_install_35 : decode cX4_install 35 = .ok (.iconst 5, 1) := by decide +kernel
theorem dX4_install_36 : decode cX4_install 36 = .ok (.if_icmp .ne 6, 3) := by decide +kernel
theorem dX4_install_39 : decode cX4_install 39 = .ok (.bipush (-3), 2) := by decide +kernel
theorem dX4_install_41 : decode cX4_install 41 = .ok (.ireturn, 1) := by decide +kernel
theorem dX4_install_42 : decode cX4_install 42 = .ok (.iload_n 1, 1) := by decide +kernel
theorem dX4_install_43 : decode cX4_install 43 = .ok (.ifCond .ne 8, 3) := by decide +kernel
theorem dX4_install_46 : decode cX4_install 46 = .ok (.aload_n 0, 1) := by decide +kernel
theorem dX4_install_47 : decode cX4_install 47 = .ok (.iconst 0, 1) := by decide +kernel
theorem dX4_install_48 : decode cX4_install 48 = .ok (.putfield 92, 3) := by decide +kernel
theorem dX4_install_51 : decode cX4_install 51 = .ok (.aload_n 0, 1) := by decide +kernel
theorem dX4_install_52 : decode cX4_install 52 = .ok (.invokevirtual 140, 3) := by decide +kernel
theorem dX4_install_55 : decode cX4_install 55 = .ok (.iconst 0, 1) := by decide +kernel
theorem dX4_install_56 : decode cX4_install 56 = .ok (.istore_n 3, 1) := by decide +kernel
theorem dX4_install_57 : decode cX4_install 57 = .ok (.iload_n 3, 1) := by decide +kernel
theorem dX4_install_58 : decode cX4_install 58 = .ok (.iconst 5, 1) := by decide +kernel
theorem dX4_install_59 : decode cX4_install 59 = .ok (.if_icmp .ge 18, 3) := by decide +kernel
theorem dX4_install_62 : decode cX4_install 62 = .ok (.aload_n 0, 1) := by decide +kernel
theorem dX4_install_63 : decode cX4_install 63 = .ok (.iconst 5, 1) := by decide +kernel
theorem dX4_install_64 : decode cX4_install 64 = .ok (.iload_n 1, 1) := by decide +kernel
theorem dX4_install_65 : decode cX4_install 65 = .ok (.imul, 1) := by decide +kernel
theorem dX4_install_66 : decode cX4_install 66 = .ok (.iload_n 3, 1) := by decide +kernel
theorem dX4_install_67 : decode cX4_install 67 = .ok (.iadd, 1) := by decide +kernel
theorem dX4_install_68 : decode cX4_install 68 = .ok (.invokevirtual 143, 3) := by decide +kernel
theorem dX4_install_71 : decode cX4_install 71 = .ok (.iinc 3 1, 3) := by decide +kernel
theorem dX4_install_74 : decode cX4_install 74 = .ok (.goto (-17), 3) := by decide +kernel
theorem dX4_install_77 : decode cX4_install 77 = .ok (.iconst 0, 1) := by decide +kernel
theorem dX4_install_78 : decode cX4_install 78 = .ok (.istore_n 3, 1) := by decide +kernel
theorem dX4_install_79 : decode cX4_install 79 = .ok (.iload_n 3, 1) := by decide +kernel
theorem dX4_install_80 : decode cX4_install 80 = .ok (.iload_n 2, 1) := by decide +kernel
theorem dX4_install_81 : decode cX4_install 81 = .ok (.if_icmp .ge 82, 3) := by decide +kernel
theorem dX4_install_84 : decode cX4_install 84 = .ok (.iconst 0, 1) := by decide +kernel
theorem dX4_install_85 : decode cX4_install 85 = .ok (.istore 4, 2) := by decide +kernel
theorem dX4_install_87 : decode cX4_install 87 = .ok (.iload 4, 2) := by decide +kernel
theorem dX4_install_89 : decode cX4_install 89 = .ok (.bipush 8, 2) := by decide +kernel
theorem dX4_install_91 : decode cX4_install 91 = .ok (.if_icmp .ge 37, 3) := by decide +kernel
theorem dX4_install_94 : decode cX4_install 94 = .ok (.aload_n 0, 1) := by decide +kernel
theorem dX4_install_95 : decode cX4_install 95 = .ok (.getfield 36, 3) := by decide +kernel
theorem dX4_install_98 : decode cX4_install 98 = .ok (.iload 4, 2) := by decide +kernel
theorem dX4_install_100 : decode cX4_install 100 = .ok (.iload_n 3, 1) := by decide +kernel
theorem dX4_install_101 : decode cX4_install 101 = .ok (.iload 4, 2) := by decide +kernel
theorem dX4_install_103 : decode cX4_install 103 = .ok (.iadd, 1) := by decide +kernel
theorem dX4_install_104 : decode cX4_install 104 = .ok (.iload_n 2, 1) := by decide +kernel
theorem dX4_install_105 : decode cX4_install 105 = .ok (.if_icmp .ge 15, 3) := by decide +kernel
theorem dX4_install_108 : decode cX4_install 108 = .ok (.aload_n 0, 1) := by decide +kernel
theorem dX4_install_109 : decode cX4_install 109 = .ok (.getfield 26, 3) := by decide +kernel
theorem dX4_install_112 : decode cX4_install 112 = .ok (.iload_n 3, 1) := by decide +kernel
theorem dX4_install_113 : decode cX4_install 113 = .ok (.iload 4, 2) := by decide +kernel
theorem dX4_install_115 : decode cX4_install 115 = .ok (.iadd, 1) := by decide +kernel
theorem dX4_install_116 : decode cX4_install 116 = .ok (.baload, 1) := by decide +kernel
theorem dX4_install_117 : decode cX4_install 117 = .ok (.goto 4, 3) := by decide +kernel
theorem dX4_install_120 : decode cX4_install 120 = .ok (.iconst (-1), 1) := by decide +kernel
theorem dX4_install_121 : decode cX4_install 121 = .ok (.bastore, 1) := by decide +kernel
theorem dX4_install_122 : decode cX4_install 122 = .ok (.iinc 4 1, 3) := by decide +kernel
theorem dX4_install_125 : decode cX4_install 125 = .ok (.goto (-38), 3) := by decide +kernel
theorem dX4_install_128 : decode cX4_install 128 = .ok (.aload_n 0, 1) := by decide +kernel
theorem dX4_install_129 : decode cX4_install 129 = .ok (.getfield 36, 3) := by decide +kernel
theorem dX4_install_132 : decode cX4_install 132 = .ok (.iconst 0, 1) := by decide +kernel
theorem dX4_install_133 : decode cX4_install 133 = .ok (.invokestatic 71, 3) := by decide +kernel
theorem dX4_install_136 : decode cX4_install 136 = .ok (.ifCond .ne 21, 3) := by decide +kernel
theorem dX4_install_139 : decode cX4_install 139 = .ok (.aload_n 0, 1) := by decide +kernel
theorem dX4_install_140 : decode cX4_install 140 = .ok (.iconst 5, 1) := by decide +kernel
theorem dX4_install_141 : decode cX4_install 141 = .ok (.iload_n 1, 1) := by decide +kernel
theorem dX4_install_142 : decode cX4_install 142 = .ok (.imul, 1) := by decide +kernel
theorem dX4_install_143 : decode cX4_install 143 = .ok (.iconst 0, 1) := by decide +kernel
theorem dX4_install_144 : decode cX4_install 144 = .ok (.invokestatic 60, 3) := by decide +kernel
theorem dX4_install_147 : decode cX4_install 147 = .ok (.iload_n 3, 1) := by decide +kernel
theorem dX4_install_148 : decode cX4_install 148 = .ok (.iadd, 1) := by decide +kernel
theorem dX4_install_149 : decode cX4_install 149 = .ok (.aload_n 0, 1) := by decide +kernel
theorem dX4_install_150 : decode cX4_install 150 = .ok (.getfield 36, 3) := by decide +kernel
theorem dX4_install_153 : decode cX4_install 153 = .ok (.iconst 0, 1) := by decide +kernel
theorem dX4_install_154 : decode cX4_install 154 = .ok (.invokevirtual 64, 3) := by decide +kernel
theorem dX4_install_157 : decode cX4_install 157 = .ok (.iinc 3 8, 3) := by decide +kernel
theorem dX4_install_160 : decode cX4_install 160 = .ok (.goto (-81), 3) := by decide +kernel
theorem dX4_install_163 : decode cX4_install 163 = .ok (.aload_n 0, 1) := by decide +kernel
theorem dX4_install_164 : decode cX4_install 164 = .ok (.invokevirtual 146, 3) := by decide +kernel
theorem dX4_install_167 : decode cX4_install 167 = .ok (.ifCond .eq 7, 3) := by decide +kernel
theorem dX4_install_170 : decode cX4_install 170 = .ok (.iload_n 2, 1) := by decide +kernel
theorem dX4_install_171 : decode cX4_install 171 = .ok (.goto 5, 3) := by decide +kernel
theorem dX4_install_174 : decode cX4_install 174 = .ok (.bipush (-9), 2) := by decide +kernel
theorem dX4_install_176 : decode cX4_install 176 = .ok (.ireturn, 1) := by decide +kernel
set_option maxRecDepth 20000 in
theorem ggX4_request_X4_begins : GoodIn wsX4_request wsX4_begins := goodIn_r _ [7, 8, 9, 10, 11, 46, 47, 48, 49, 50, 51, 52, 53, 54, 55, 56, 57, 58, 59, 60, 61, 62, 63, 64, 65, 66, 67, 68, 69, 70, 71] (by decide +kernel) (by decide +kernel)
set_option maxRecDepth 20000 in
theorem gX4_request_X4_begins : GoodIn wsX4_request (wsV RX4 140 RX4 yX4_begins wsX4_begins) := goodIn_app (goodIn_of _ (by decide +kernel)) ggX4_request_X4_begins
set_option maxRecDepth 20000 in
theorem ggX4_request_X4_mark : GoodIn wsX4_request wsX4_mark := goodIn_r _ [15, 16, 17, 18, 6, 19, 20, 21, 22, 23, 24, 10, 8, 25, 26, 46, 47, 48, 49, 50, 51, 52, 53, 54, 55, 56, 57, 58, 59, 60, 61, 62, 63, 64, 65, 66, 67, 68, 69, 70, 71] (by decide +kernel) (by decide +kernel)
set_option maxRecDepth 20000 in
theorem gX4_request_X4_mark : GoodIn wsX4_request (wsV RX4 150 RX4 yX4_mark wsX4_mark) := goodIn_app (goodIn_of _ (by decide +kernel)) ggX4_request_X4_mark
set_option maxRecDepth 20000 in
theorem ggX4_request_X4_magic : GoodIn wsX4_request wsX4_magic := goodIn_r _ [30, 16, 31, 17, 18, 6, 19, 20, 21, 22, 23, 24, 10, 8, 25, 26, 46, 47, 48, 49, 50, 51, 52, 53, 54, 55, 56, 57, 58, 59, 60, 61, 62, 63, 64, 65, 66, 67, 68, 69, 70, 71] (by decide +kernel) (by decide +kernel)
set_option maxRecDepth 20000 in
theorem gX4_request_X4_magic : GoodIn wsX4_request (wsV RX4 154 RX4 yX4_magic wsX4_magic) := goodIn_app (goodIn_of _ (by decide +kernel)) ggX4_request_X4_magic
set_option maxRecDepth 20000 in
theorem ggX4_request_X4_does : GoodIn wsX4_request wsX4_does := goodIn_r _ [35, 10, 36, 37, 11, 38, 25, 39, 40, 9, 1, 2, 41, 42, 43, 44, 6, 45, 26, 24, 46, 47, 48, 49, 50, 51, 52, 53, 54, 55, 56, 57, 58, 59, 60, 61, 62, 63, 64, 65, 66, 67, 68, 69, 70, 71] (by decide +kernel) (by decide +kernel)
set_option maxRecDepth 20000 in
theorem gX4_request_X4_does : GoodIn wsX4_request (wsV RX4 146 RX4 yX4_does wsX4_does) := goodIn_app (goodIn_of _ (by decide +kernel)) ggX4_request_X4_does
theorem dX4_request_0 : decode cX4_request 0 = .ok (.aload_n 0, 1) := by decide +kernel
theorem dX4_request_1 : decode cX4_request 1 = .ok (.getfield 88, 3) := by decide +kernel
theorem dX4_request_4 : decode cX4_request 4 = .ok (.ifCond .eq 6, 3) := by decide +kernel
theorem dX4_request_7 : decode cX4_request 7 = .ok (.bipush (-9), 2) := by decide +kernel
theorem dX4_request_9 : decode cX4_request 9 = .ok (.ireturn, 1) := by decide +kernel
theorem dX4_request_10 : decode cX4_request 10 = .ok (.aload_n 0, 1) := by decide +kernel
theorem dX4_request_11 : decode cX4_request 11 = .ok (.getfield 92, 3) := by decide +kernel
theorem dX4_request_14 : decode cX4_request 14 = .ok (.ifCond .ne 6, 3) := by decide +kernel
theorem dX4_request_17 : decode cX4_request 17 = .ok (.bipush (-2), 2) := by decide +kernel
theorem dX4_request_19 : decode cX4_request 19 = .ok (.ireturn, 1) := by decide +kernel
theorem dX4_request_20 : decode cX4_request 20 = .ok (.aload_n 0, 1) := by decide +kernel
theorem dX4_request_21 : decode cX4_request 21 = .ok (.invokevirtual 140, 3) := by decide +kernel
theorem dX4_request_24 : decode cX4_request 24 = .ok (.iload_n 1, 1) := by decide +kernel
theorem dX4_request_25 : decode cX4_request 25 = .ok (.ifCond .eq 11, 3) := by decide +kernel
theorem dX4_request_28 : decode cX4_request 28 = .ok (.aload_n 0, 1) := by decide +kernel
theorem dX4_request_29 : decode cX4_request 29 = .ok (.bipush 9, 2) := by decide +kernel
theorem dX4_request_31 : decode cX4_request 31 = .ok (.iconst 3, 1) := by decide +kernel
theorem dX4_request_32 : decode cX4_request 32 = .ok (.iconst 1, 1) := by decide +kernel
theorem dX4_request_33 : decode cX4_request 33 = .ok (.invokevirtual 150, 3) := by decide +kernel
theorem dX4_request_36 : decode cX4_request 36 = .ok (.aload_n 0, 1) := by decide +kernel
theorem dX4_request_37 : decode cX4_request 37 = .ok (.bipush 9, 2) := by decide +kernel
theorem dX4_request_39 : decode cX4_request 39 = .ok (.invokevirtual 154, 3) := by decide +kernel
theorem dX4_request_42 : decode cX4_request 42 = .ok (.aload_n 0, 1) := by decide +kernel
theorem dX4_request_43 : decode cX4_request 43 = .ok (.invokevirtual 146, 3) := by decide +kernel
theorem dX4_request_46 : decode cX4_request 46 = .ok (.ifCond .eq 7, 3) := by decide +kernel
theorem dX4_request_49 : decode cX4_request 49 = .ok (.iconst 0, 1) := by decide +kernel
theorem dX4_request_50 : decode cX4_request 50 = .ok (.goto 5, 3) := by decide +kernel
theorem dX4_request_53 : decode cX4_request 53 = .ok (.bipush (-9), 2) := by decide +kernel
theorem dX4_request_55 : decode cX4_request 55 = .ok (.ireturn, 1) := by decide +kernel
set_option maxRecDepth 20000 in
theorem ggX4_confirm_X4_isSet : GoodIn wsX4_confirm wsX4_isSet := goodIn_r _ [7, 8, 9, 6, 10, 11, 12, 13] (by decide +kernel) (by decide +kernel)
set_option maxRecDepth 20000 in
theorem gX4_confirm_X4_isSet : GoodIn wsX4_confirm (va_wsS RX4 110 yX4_isSet wsX4_isSet) := goodIn_app (goodIn_of _ (by decide +kernel)) ggX4_confirm_X4_isSet
set_option maxRecDepth 20000 in
theorem ggX4_confirm_X4_isMagic : GoodIn wsX4_confirm wsX4_isMagic := goodIn_r _ [16, 17, 11, 12, 6, 13] (by decide +kernel) (by decide +kernel)
set_option maxRecDepth 20000 in
theorem gX4_confirm_X4_isMagic : GoodIn wsX4_confirm (va_wsS RX4 114 yX4_isMagic wsX4_isMagic) := goodIn_app (goodIn_of _ (by decide +kernel)) ggX4_confirm_X4_isMagic
set_option maxRecDepth 20000 in
theorem ggX4_confirm_X4_begins : GoodIn wsX4_confirm wsX4_begins := goodIn_r _ [21, 22, 3, 23, 24, 51, 52, 53, 54, 55, 56, 57, 58, 59, 60, 61, 62, 63, 64, 65, 66, 67, 68, 69, 70, 71, 72, 73, 74, 75, 76] (by decide +kernel) (by decide +kernel)
set_option maxRecDepth 20000 in
theorem gX4_confirm_X4_begins : GoodIn wsX4_confirm (wsV RX4 140 RX4 yX4_begins wsX4_begins) := goodIn_app (goodIn_of _ (by decide +kernel)) ggX4_confirm_X4_begins
set_option maxRecDepth 20000 in
theorem ggX4_confirm_X4_mark : GoodIn wsX4_confirm wsX4_mark := goodIn_r _ [28, 29, 11, 12, 6, 13, 30, 31, 32, 33, 34, 23, 22, 35, 36, 51, 52, 53, 54, 55, 56, 57, 58, 59, 60, 61, 62, 63, 64, 65, 66, 67, 68, 69, 70, 71, 72, 73, 74, 75, 76] (by decide +kernel) (by decide +kernel)
set_option maxRecDepth 20000 in
theorem gX4_confirm_X4_mark : GoodIn wsX4_confirm (wsV RX4 150 RX4 yX4_mark wsX4_mark) := goodIn_app (goodIn_of _ (by decide +kernel)) ggX4_confirm_X4_mark
set_option maxRecDepth 20000 in
theorem ggX4_confirm_X4_does : GoodIn wsX4_confirm wsX4_does := goodIn_r _ [40, 23, 41, 42, 24, 43, 35, 44, 45, 3, 1, 2, 46, 47, 48, 49, 6, 50, 36, 34, 51, 52, 53, 54, 55, 56, 57, 58, 59, 60, 61, 62, 63, 64, 65, 66, 67, 68, 69, 70, 71, 72, 73, 74, 75, 76] (by decide +kernel) (by decide +kernel)
set_option maxRecDepth 20000 in
theorem gX4_confirm_X4_does : GoodIn wsX4_confirm (wsV RX4 146 RX4 yX4_does wsX4_does) := goodIn_app (goodIn_of _ (by decide +kernel)) ggX4_confirm_X4_does
theorem dX4_confirm_0 : decode cX4_confirm 0 = .ok (.aload_n 0, 1) := by decide +kernel
theorem dX4_confirm_1 : decode cX4_confirm 1 = .ok (.getfield 88, 3) := by decide +kernel
theorem dX4_confirm_4 : decode cX4_confirm 4 = .ok (.ifCond .eq 6, 3) := by decide +kernel
theorem dX4_confirm_7 : decode cX4_confirm 7 = .ok (.bipush (-9), 2) := by decide +kernel
theorem dX4_confirm_9 : decode cX4_confirm 9 = .ok (.ireturn, 1) := by decide +kernel
theorem dX4_confirm_10 : decode cX4_confirm 10 = .ok (.aload_n 0, 1) := by decide +kernel
theorem dX4_confirm_11 : decode cX4_confirm 11 = .ok (.getfield 92, 3) := by decide +kernel
theorem dX4_confirm_14 : decode cX4_confirm 14 = .ok (.ifCond .ne 6, 3) := by decide +kernel
theorem dX4_confirm_17 : decode cX4_confirm 17 = .ok (.bipush (-2), 2) := by decide +kernel
theorem dX4_confirm_19 : decode cX4_confirm 19 = .ok (.ireturn, 1) := by decide +kernel
theorem dX4_confirm_20 : decode cX4_confirm 20 = .ok (.aload_n 0, 1) := by decide +kernel
theorem dX4_confirm_21 : decode cX4_confirm 21 = .ok (.getfield 9, 3) := by decide +kernel
theorem dX4_confirm_24 : decode cX4_confirm 24 = .ok (.iconst 4, 1) := by decide +kernel
theorem dX4_confirm_25 : decode cX4_confirm 25 = .ok (.iconst 3, 1) := by decide +kernel
theorem dX4_confirm_26 : decode cX4_confirm 26 = .ok (.invokestatic 110, 3) := by decide +kernel
theorem dX4_confirm_29 : decode cX4_confirm 29 = .ok (.ifCond .ne 14, 3) := by decide +kernel
theorem dX4_confirm_32 : decode cX4_confirm 32 = .ok (.aload_n 0, 1) := by decide +kernel
theorem dX4_confirm_33 : decode cX4_confirm 33 = .ok (.getfield 9, 3) := by decide +kernel
theorem dX4_confirm_36 : decode cX4_confirm 36 = .ok (.iconst 4, 1) := by decide +kernel
theorem dX4_confirm_37 : decode cX4_confirm 37 = .ok (.invokestatic 114, 3) := by decide +kernel
theorem dX4_confirm_40 : decode cX4_confirm 40 = .ok (.ifCond .ne 5, 3) := by decide +kernel
theorem dX4_confirm_43 : decode cX4_confirm 43 = .ok (.iconst 0, 1) := by decide +kernel
theorem dX4_confirm_44 : decode cX4_confirm 44 = .ok (.ireturn, 1) := by decide +kernel
theorem dX4_confirm_45 : decode cX4_confirm 45 = .ok (.aload_n 0, 1) := by decide +kernel
theorem dX4_confirm_46 : decode cX4_confirm 46 = .ok (.invokevirtual 140, 3) := by decide +kernel
theorem dX4_confirm_49 : decode cX4_confirm 49 = .ok (.aload_n 0, 1) := by decide +kernel
theorem dX4_confirm_50 : decode cX4_confirm 50 = .ok (.iconst 4, 1) := by decide +kernel
theorem dX4_confirm_51 : decode cX4_confirm 51 = .ok (.iconst 3, 1) := by decide +kernel
theorem dX4_confirm_52 : decode cX4_confirm 52 = .ok (.iconst 1, 1) := by decide +kernel
theorem dX4_confirm_53 : decode cX4_confirm 53 = .ok (.invokevirtual 150, 3) := by decide +kernel
theorem dX4_confirm_56 : decode cX4_confirm 56 = .ok (.aload_n 0, 1) := by decide +kernel
theorem dX4_confirm_57 : decode cX4_confirm 57 = .ok (.invokevirtual 146, 3) := by decide +kernel
theorem dX4_confirm_60 : decode cX4_confirm 60 = .ok (.ifCond .eq 7, 3) := by decide +kernel
theorem dX4_confirm_63 : decode cX4_confirm 63 = .ok (.iconst 1, 1) := by decide +kernel
theorem dX4_confirm_64 : decode cX4_confirm 64 = .ok (.goto 5, 3) := by decide +kernel
theorem dX4_confirm_67 : decode cX4_confirm 67 = .ok (.bipush (-9), 2) := by decide +kernel
theorem dX4_confirm_69 : decode cX4_confirm 69 = .ok (.ireturn, 1) := by decide +kernel
set_option maxRecDepth 20000 in
theorem ggX4_lists_X4_isSet : GoodIn wsX4_lists wsX4_isSet := goodIn_r _ [7, 8, 9, 6, 10, 11, 12, 13] (by decide +kernel) (by decide +kernel)
set_option maxRecDepth 20000 in
theorem gX4_lists_X4_isSet : GoodIn wsX4_lists (va_wsS RX4 110 yX4_isSet wsX4_isSet) := goodIn_app (goodIn_of _ (by decide +kernel)) ggX4_lists_X4_isSet
set_option maxRecDepth 20000 in
theorem ggX4_lists_X4_erase : GoodIn wsX4_lists wsX4_erase := goodIn_r _ [17, 1, 18, 2, 19, 42, 43, 44, 45, 46, 47, 48, 49, 50, 51, 52, 53, 54, 55, 56, 57, 58, 59, 60, 61, 62, 63, 64, 65, 66, 67] (by decide +kernel) (by decide +kernel)
set_option maxRecDepth 20000 in
theorem gX4_lists_X4_erase : GoodIn wsX4_lists (wsV RX4 143 RX4 yX4_erase wsX4_erase) := goodIn_app (goodIn_of _ (by decide +kernel)) ggX4_lists_X4_erase
set_option maxRecDepth 20000 in
theorem ggX4_lists_X4_copy : GoodIn wsX4_lists wsX4_copy := goodIn_r _ [23, 1, 11, 12, 6, 13, 24, 25, 26, 27, 28, 29, 30, 31, 2, 18, 19, 42, 43, 44, 45, 46, 47, 48, 49, 50, 51, 52, 53, 54, 55, 56, 57, 58, 59, 60, 61, 62, 63, 64, 65, 66, 67] (by decide +kernel) (by decide +kernel)
set_option maxRecDepth 20000 in
theorem gX4_lists_X4_copy : GoodIn wsX4_lists (wsV RX4 157 RX4 yX4_copy wsX4_copy) := goodIn_app (goodIn_of _ (by decide +kernel)) ggX4_lists_X4_copy
set_option maxRecDepth 20000 in
theorem ggX4_lists_X4_mark : GoodIn wsX4_lists wsX4_mark := goodIn_r _ [35, 36, 11, 12, 6, 13, 27, 28, 29, 30, 31, 2, 1, 18, 19, 42, 43, 44, 45, 46, 47, 48, 49, 50, 51, 52, 53, 54, 55, 56, 57, 58, 59, 60, 61, 62, 63, 64, 65, 66, 67] (by decide +kernel) (by decide +kernel)
set_option maxRecDepth 20000 in
theorem gX4_lists_X4_mark : GoodIn wsX4_lists (wsV RX4 150 RX4 yX4_mark wsX4_mark) := goodIn_app (goodIn_of _ (by decide +kernel)) ggX4_lists_X4_mark
set_option maxRecDepth 20000 in
theorem ggX4_lists_X4_magic : GoodIn wsX4_lists wsX4_magic := goodIn_r _ [40, 36, 41, 11, 12, 6, 13, 27, 28, 29, 30, 31, 2, 1, 18, 19, 42, 43, 44, 45, 46, 47, 48, 49, 50, 51, 52, 53, 54, 55, 56, 57, 58, 59, 60, 61, 62, 63, 64, 65, 66, 67] (by decide +kernel) (by decide +kernel)
set_option maxRecDepth 20000 in
theorem gX4_lists_X4_magic : GoodIn wsX4_lists (wsV RX4 154 RX4 yX4_magic wsX4_magic) := goodIn_app (goodIn_of _ (by decide +kernel)) ggX4_lists_X4_magic
theorem dX4_lists_0 : decode cX4_lists 0 = .ok (.iconst 3, 1) := by decide +kernel
theorem dX4_lists_1 : decode cX4_lists 1 = .ok (.istore_n 2, 1) := by decide +kernel
theorem dX4_lists_2 : decode cX4_lists 2 = .ok (.iload_n 2, 1) := by decide +kernel
theorem dX4_lists_3 : decode cX4_lists 3 = .ok (.ifCond .lt 111, 3) := by decide +kernel
theorem dX4_lists_6 : decode cX4_lists 6 = .ok (.iconst 0, 1) := by decide +kernel
theorem dX4_lists_7 : decode cX4_lists 7 = .ok (.istore_n 3, 1) := by decide +kernel
theorem dX4_lists_8 : decode cX4_lists 8 = .ok (.iload_n 3, 1) := by decide +kernel
theorem dX4_lists_9 : decode cX4_lists 9 = .ok (.iconst 3, 1) := by decide +kernel
theorem dX4_lists_10 : decode cX4_lists 10 = .ok (.if_icmp .ge 98, 3) := by decide +kernel
theorem dX4_lists_13 : decode cX4_lists 13 = .ok (.iconst 4, 1) := by decide +kernel
theorem dX4_lists_14 : decode cX4_lists 14 = .ok (.iconst 3, 1) := by decide +kernel
theorem dX4_lists_15 : decode cX4_lists 15 = .ok (.iload_n 2, 1) := by decide +kernel
theorem dX4_lists_16 : decode cX4_lists 16 = .ok (.imul, 1) := by decide +kernel
theorem dX4_lists_17 : decode cX4_lists 17 = .ok (.iadd, 1) := by decide +kernel
theorem dX4_lists_18 : decode cX4_lists 18 = .ok (.iload_n 3, 1) := by decide +kernel
theorem dX4_lists_19 : decode cX4_lists 19 = .ok (.iadd, 1) := by decide +kernel
theorem dX4_lists_20 : decode cX4_lists 20 = .ok (.istore 4, 2) := by decide +kernel
theorem dX4_lists_22 : decode cX4_lists 22 = .ok (.aload_n 0, 1) := by decide +kernel
theorem dX4_lists_23 : decode cX4_lists 23 = .ok (.getfield 13, 3) := by decide +kernel
theorem dX4_lists_26 : decode cX4_lists 26 = .ok (.iconst 4, 1) := by decide +kernel
theorem dX4_lists_27 : decode cX4_lists 27 = .ok (.iload 4, 2) := by decide +kernel
theorem dX4_lists_29 : decode cX4_lists 29 = .ok (.invokestatic 110, 3) := by decide +kernel
theorem dX4_lists_32 : decode cX4_lists 32 = .ok (.ifCond .eq 6, 3) := by decide +kernel
theorem dX4_lists_35 : decode cX4_lists 35 = .ok (.goto 67, 3) := by decide +kernel
theorem dX4_lists_38 : decode cX4_lists 38 = .ok (.iload_n 3, 1) := by decide +kernel
theorem dX4_lists_39 : decode cX4_lists 39 = .ok (.ifCond .ne 8, 3) := by decide +kernel
theorem dX4_lists_42 : decode cX4_lists 42 = .ok (.bipush 10, 2) := by decide +kernel
theorem dX4_lists_44 : decode cX4_lists 44 = .ok (.goto 15, 3) := by decide +kernel
theorem dX4_lists_47 : decode cX4_lists 47 = .ok (.iload_n 3, 1) := by decide +kernel
theorem dX4_lists_48 : decode cX4_lists 48 = .ok (.iconst 1, 1) := by decide +kernel
theorem dX4_lists_49 : decode cX4_lists 49 = .ok (.if_icmp .ne 9, 3) := by decide +kernel
theorem dX4_lists_52 : decode cX4_lists 52 = .ok (.iconst 5, 1) := by decide +kernel
theorem dX4_lists_53 : decode cX4_lists 53 = .ok (.iload_n 2, 1) := by decide +kernel
theorem dX4_lists_54 : decode cX4_lists 54 = .ok (.iadd, 1) := by decide +kernel
theorem dX4_lists_55 : decode cX4_lists 55 = .ok (.goto 4, 3) := by decide +kernel
theorem dX4_lists_58 : decode cX4_lists 58 = .ok (.iload_n 2, 1) := by decide +kernel
theorem dX4_lists_59 : decode cX4_lists 59 = .ok (.istore 5, 2) := by decide +kernel
theorem dX4_lists_61 : decode cX4_lists 61 = .ok (.aload_n 0, 1) := by decide +kernel
theorem dX4_lists_62 : decode cX4_lists 62 = .ok (.iload 5, 2) := by decide +kernel
theorem dX4_lists_64 : decode cX4_lists 64 = .ok (.invokevirtual 143, 3) := by decide +kernel
theorem dX4_lists_67 : decode cX4_lists 67 = .ok (.aload_n 0, 1) := by decide +kernel
theorem dX4_lists_68 : decode cX4_lists 68 = .ok (.iload_n 3, 1) := by decide +kernel
theorem dX4_lists_69 : decode cX4_lists 69 = .ok (.ifCond .ne 9, 3) := by decide +kernel
theorem dX4_lists_72 : decode cX4_lists 72 = .ok (.iconst 5, 1) := by decide +kernel
theorem dX4_lists_73 : decode cX4_lists 73 = .ok (.iload_n 2, 1) := by decide +kernel
theorem dX4_lists_74 : decode cX4_lists 74 = .ok (.iadd, 1) := by decide +kernel
theorem dX4_lists_75 : decode cX4_lists 75 = .ok (.goto 14, 3) := by decide +kernel
theorem dX4_lists_78 : decode cX4_lists 78 = .ok (.iload_n 3, 1) := by decide +kernel
theorem dX4_lists_79 : decode cX4_lists 79 = .ok (.iconst 1, 1) := by decide +kernel
theorem dX4_lists_80 : decode cX4_lists 80 = .ok (.if_icmp .ne 7, 3) := by decide +kernel
theorem dX4_lists_83 : decode cX4_lists 83 = .ok (.iload_n 2, 1) := by decide +kernel
theorem dX4_lists_84 : decode cX4_lists 84 = .ok (.goto 5, 3) := by decide +kernel
theorem dX4_lists_87 : decode cX4_lists 87 = .ok (.bipush 10, 2) := by decide +kernel
theorem dX4_lists_89 : decode cX4_lists 89 = .ok (.iload 5, 2) := by decide +kernel
theorem dX4_lists_91 : decode cX4_lists 91 = .ok (.invokevirtual 157, 3) := by decide +kernel
theorem dX4_lists_94 : decode cX4_lists 94 = .ok (.aload_n 0, 1) := by decide +kernel
theorem dX4_lists_95 : decode cX4_lists 95 = .ok (.iconst 4, 1) := by decide +kernel
theorem dX4_lists_96 : decode cX4_lists 96 = .ok (.iload 4, 2) := by decide +kernel
theorem dX4_lists_98 : decode cX4_lists 98 = .ok (.iconst 1, 1) := by decide +kernel
theorem dX4_lists_99 : decode cX4_lists 99 = .ok (.invokevirtual 150, 3) := by decide +kernel
theorem dX4_lists_102 : decode cX4_lists 102 = .ok (.iinc 3 1, 3) := by decide +kernel
theorem dX4_lists_105 : decode cX4_lists 105 = .ok (.goto (-97), 3) := by decide +kernel
theorem dX4_lists_108 : decode cX4_lists 108 = .ok (.iinc 2 (-1), 3) := by decide +kernel
theorem dX4_lists_111 : decode cX4_lists 111 = .ok (.goto (-109), 3) := by decide +kernel
theorem dX4_lists_114 : decode cX4_lists 114 = .ok (.aload_n 0, 1) := by decide +kernel
theorem dX4_lists_115 : decode cX4_lists 115 = .ok (.bipush 9, 2) := by decide +kernel
theorem dX4_lists_117 : decode cX4_lists 117 = .ok (.invokevirtual 143, 3) := by decide +kernel
theorem dX4_lists_120 : decode cX4_lists 120 = .ok (.iload_n 1, 1) := by decide +kernel
theorem dX4_lists_121 : decode cX4_lists 121 = .ok (.iconst 1, 1) := by decide +kernel
theorem dX4_lists_122 : decode cX4_lists 122 = .ok (.if_icmp .le 22, 3) := by decide +kernel
theorem dX4_lists_125 : decode cX4_lists 125 = .ok (.aload_n 0, 1) := by decide +kernel
theorem dX4_lists_126 : decode cX4_lists 126 = .ok (.getfield 13, 3) := by decide +kernel
theorem dX4_lists_129 : decode cX4_lists 129 = .ok (.iconst 4, 1) := by decide +kernel
theorem dX4_lists_130 : decode cX4_lists 130 = .ok (.iconst 3, 1) := by decide +kernel
theorem dX4_lists_131 : decode cX4_lists 131 = .ok (.invokestatic 110, 3) := by decide +kernel
theorem dX4_lists_134 : decode cX4_lists 134 = .ok (.ifCond .ne 10, 3) := by decide +kernel
theorem dX4_lists_137 : decode cX4_lists 137 = .ok (.aload_n 0, 1) := by decide +kernel
theorem dX4_lists_138 : decode cX4_lists 138 = .ok (.iconst 4, 1) := by decide +kernel
theorem dX4_lists_139 : decode cX4_lists 139 = .ok (.iconst 3, 1) := by decide +kernel
theorem dX4_lists_140 : decode cX4_lists 140 = .ok (.iconst 1, 1) := by decide +kernel
theorem dX4_lists_141 : decode cX4_lists 141 = .ok (.invokevirtual 150, 3) := by decide +kernel
theorem dX4_lists_144 : decode cX4_lists 144 = .ok (.aload_n 0, 1) := by decide +kernel
theorem dX4_lists_145 : decode cX4_lists 145 = .ok (.iconst 4, 1) := by decide +kernel
theorem dX4_lists_146 : decode cX4_lists 146 = .ok (.invokevirtual 154, 3) := by decide +kernel
theorem dX4_lists_149 : decode cX4_lists 149 = .ok (.aload_n 0, 1) := by decide +kernel
theorem dX4_lists_150 : decode cX4_lists 150 = .ok (.aload_n 0, 1) := by decide +kernel
theorem dX4_lists_151 : decode cX4_lists 151 = .ok (.getfield 54, 3) := by decide +kernel
theorem dX4_lists_154 : decode cX4_lists 154 = .ok (.putfield 57, 3) := by decide +kernel
theorem dX4_lists_157 : decode cX4_lists 157 = .ok (.aload_n 0, 1) := by decide +kernel
theorem dX4_lists_158 : decode cX4_lists 158 = .ok (.iconst 4, 1) := by decide +kernel
theorem dX4_lists_159 : decode cX4_lists 159 = .ok (.iconst 2, 1) := by decide +kernel
theorem dX4_lists_160 : decode cX4_lists 160 = .ok (.iconst 1, 1) := by decide +kernel
theorem dX4_lists_161 : decode cX4_lists 161 = .ok (.invokevirtual 150, 3) := by decide +kernel
theorem dX4_lists_164 : decode cX4_lists 164 = .ok (.return_, 1) := by decide +kernel
set_option maxRecDepth 20000 in
theorem ggX4_boot_X4_due : GoodIn wsX4_boot wsX4_due := goodIn_r _ [12, 6, 13, 14, 11, 15, 16, 17, 18, 19, 20, 21, 22, 23, 24, 25, 26, 27, 28, 29, 30, 31, 32, 33, 34, 35, 36, 37, 38, 39, 40, 41, 42, 43, 44, 45, 46, 47, 48, 49, 101, 102, 103, 104, 105, 106, 107, 108, 109, 110, 111, 112, 113, 114, 115, 116, 117, 118, 119, 120, 121, 122, 123, 124, 125, 126] (by decide +kernel) (by decide +kernel)
set_option maxRecDepth 20000 in
theorem gX4_boot_X4_due : GoodIn wsX4_boot (wsV RX4 136 RX4 yX4_due wsX4_due) := goodIn_app (goodIn_of _ (by decide +kernel)) ggX4_boot_X4_due
set_option maxRecDepth 20000 in
theorem ggX4_boot_X4_begins : GoodIn wsX4_boot wsX4_begins := goodIn_r _ [53, 3, 6, 54, 55, 101, 102, 103, 104, 105, 106, 107, 108, 109, 110, 111, 112, 113, 114, 115, 116, 117, 118, 119, 120, 121, 122, 123, 124, 125, 126] (by decide +kernel) (by decide +kernel)
set_option maxRecDepth 20000 in
theorem gX4_boot_X4_begins : GoodIn wsX4_boot (wsV RX4 140 RX4 yX4_begins wsX4_begins) := goodIn_app (goodIn_of _ (by decide +kernel)) ggX4_boot_X4_begins
set_option maxRecDepth 20000 in
theorem ggX4_boot_X4_erase : GoodIn wsX4_boot wsX4_erase := goodIn_r _ [59, 3, 60, 54, 61, 101, 102, 103, 104, 105, 106, 107, 108, 109, 110, 111, 112, 113, 114, 115, 116, 117, 118, 119, 120, 121, 122, 123, 124, 125, 126] (by decide +kernel) (by decide +kernel)
set_option maxRecDepth 20000 in
theorem gX4_boot_X4_erase : GoodIn wsX4_boot (wsV RX4 143 RX4 yX4_erase wsX4_erase) := goodIn_app (goodIn_of _ (by decide +kernel)) ggX4_boot_X4_erase
set_option maxRecDepth 20000 in
theorem ggX4_boot_X4_set : GoodIn wsX4_boot wsX4_set := goodIn_r _ [15, 16, 17, 11, 18] (by decide +kernel) (by decide +kernel)
set_option maxRecDepth 20000 in
theorem gX4_boot_X4_set : GoodIn wsX4_boot (va_wsS RX4 98 yX4_set wsX4_set) := goodIn_app (goodIn_of _ (by decide +kernel)) ggX4_boot_X4_set
set_option maxRecDepth 20000 in
theorem ggX4_boot_X4_mark : GoodIn wsX4_boot wsX4_mark := goodIn_r _ [65, 66, 16, 17, 11, 18, 67, 68, 69, 70, 71, 54, 3, 60, 61, 101, 102, 103, 104, 105, 106, 107, 108, 109, 110, 111, 112, 113, 114, 115, 116, 117, 118, 119, 120, 121, 122, 123, 124, 125, 126] (by decide +kernel) (by decide +kernel)
set_option maxRecDepth 20000 in
theorem gX4_boot_X4_mark : GoodIn wsX4_boot (wsV RX4 150 RX4 yX4_mark wsX4_mark) := goodIn_app (goodIn_of _ (by decide +kernel)) ggX4_boot_X4_mark
set_option maxRecDepth 20000 in
theorem ggX4_boot_X4_lists : GoodIn wsX4_boot wsX4_lists := goodIn_r _ [75, 3, 54, 55, 19, 20, 11, 21, 13, 14, 15, 16, 17, 18, 56, 57, 58, 59, 60, 61, 76, 77, 78, 79, 80, 81, 82, 67, 68, 69, 70, 71, 62, 63, 64, 65, 66, 83, 84, 85, 86, 25, 101, 102, 103, 104, 105, 106, 107, 108, 109, 110, 111, 112, 113, 114, 115, 116, 117, 118, 119, 120, 121, 122, 123, 124, 125, 126] (by decide +kernel) (by decide +kernel)
set_option maxRecDepth 20000 in
theorem gX4_boot_X4_lists : GoodIn wsX4_boot (wsV RX4 161 RX4 yX4_lists wsX4_lists) := goodIn_app (goodIn_of _ (by decide +kernel)) ggX4_boot_X4_lists
set_option maxRecDepth 20000 in
theorem ggX4_boot_X4_does : GoodIn wsX4_boot wsX4_does := goodIn_r _ [90, 54, 91, 92, 55, 93, 60, 94, 95, 6, 1, 2, 96, 97, 98, 99, 11, 100, 61, 71, 101, 102, 103, 104, 105, 106, 107, 108, 109, 110, 111, 112, 113, 114, 115, 116, 117, 118, 119, 120, 121, 122, 123, 124, 125, 126] (by decide +kernel) (by decide +kernel)
set_option maxRecDepth 20000 in
theorem gX4_boot_X4_does : GoodIn wsX4_boot (wsV RX4 146 RX4 yX4_does wsX4_does) := goodIn_app (goodIn_of _ (by decide +kernel)) ggX4_boot_X4_does
set_option maxRecDepth 20000 in
theorem ggX4_boot_X4_isRight : GoodIn wsX4_boot wsX4_isRight := goodIn_r _ [29, 6, 30, 16, 17, 11, 18, 31, 32, 33, 34, 35, 36, 37, 38, 39, 40, 41, 42, 43, 44, 45, 46, 47, 48, 49, 101, 102, 103, 104, 105, 106, 107, 108, 109, 110, 111, 112, 113, 114, 115, 116, 117, 118, 119, 120, 121, 122, 123, 124, 125, 126] (by decide +kernel) (by decide +kernel)
set_option maxRecDepth 20000 in
theorem gX4_boot_X4_isRight : GoodIn wsX4_boot (wsV RX4 117 RX4 yX4_isRight wsX4_isRight) := goodIn_app (goodIn_of _ (by decide +kernel)) ggX4_boot_X4_isRight
set_option maxRecDepth 20000 in
theorem ggX4_boot_X4_intAt : GoodIn wsX4_boot wsX4_intAt := goodIn_r _ [33] (by decide +kernel) (by decide +kernel)
set_option maxRecDepth 20000 in
theorem gX4_boot_X4_intAt : GoodIn wsX4_boot (va_wsS RX4 102 yX4_intAt wsX4_intAt) := goodIn_app (goodIn_of _ (by decide +kernel)) ggX4_boot_X4_intAt
theorem dX4_boot_0 : decode cX4_boot 0 = .ok (.aload_n 0, 1) := by decide +kernel
theorem dX4_boot_1 : decode cX4_boot 1 = .ok (.getfield 88, 3) := by decide +kernel
theorem dX4_boot_4 : decode cX4_boot 4 = .ok (.ifCond .eq 6, 3) := by decide +kernel
theorem dX4_boot_7 : decode cX4_boot 7 = .ok (.bipush (-9), 2) := by decide +kernel
theorem dX4_boot_9 : decode cX4_boot 9 = .ok (.ireturn, 1) := by decide +kernel
theorem dX4_boot_10 : decode cX4_boot 10 = .ok (.aload_n 0, 1) := by decide +kernel
theorem dX4_boot_11 : decode cX4_boot 11 = .ok (.iconst 0, 1) := by decide +kernel
theorem dX4_boot_12 : decode cX4_boot 12 = .ok (.putfield 92, 3) := by decide +kernel
theorem dX4_boot_15 : decode cX4_boot 15 = .ok (.aload_n 0, 1) := by decide +kernel
theorem dX4_boot_16 : decode cX4_boot 16 = .ok (.invokevirtual 136, 3) := by decide +kernel
theorem dX4_boot_19 : decode cX4_boot 19 = .ok (.istore_n 1, 1) := by decide +kernel
theorem dX4_boot_20 : decode cX4_boot 20 = .ok (.aload_n 0, 1) := by decide +kernel
theorem dX4_boot_21 : decode cX4_boot 21 = .ok (.invokevirtual 140, 3) := by decide +kernel
theorem dX4_boot_24 : decode cX4_boot 24 = .ok (.iload_n 1, 1) := by decide +kernel
theorem dX4_boot_25 : decode cX4_boot 25 = .ok (.iconst 4, 1) := by decide +kernel
theorem dX4_boot_26 : decode cX4_boot 26 = .ok (.if_icmp .ne 12, 3) := by decide +kernel
theorem dX4_boot_29 : decode cX4_boot 29 = .ok (.aload_n 0, 1) := by decide +kernel
theorem dX4_boot_30 : decode cX4_boot 30 = .ok (.bipush 9, 2) := by decide +kernel
theorem dX4_boot_32 : decode cX4_boot 32 = .ok (.invokevirtual 143, 3) := by decide +kernel
theorem dX4_boot_35 : decode cX4_boot 35 = .ok (.goto 68, 3) := by decide +kernel
theorem dX4_boot_38 : decode cX4_boot 38 = .ok (.iload_n 1, 1) := by decide +kernel
theorem dX4_boot_39 : decode cX4_boot 39 = .ok (.ifCond .le 64, 3) := by decide +kernel
theorem dX4_boot_42 : decode cX4_boot 42 = .ok (.iload_n 1, 1) := by decide +kernel
theorem dX4_boot_43 : decode cX4_boot 43 = .ok (.iconst 4, 1) := by decide +kernel
theorem dX4_boot_44 : decode cX4_boot 44 = .ok (.if_icmp .ge 37, 3) := by decide +kernel
theorem dX4_boot_47 : decode cX4_boot 47 = .ok (.aload_n 0, 1) := by decide +kernel
theorem dX4_boot_48 : decode cX4_boot 48 = .ok (.getfield 13, 3) := by decide +kernel
theorem dX4_boot_51 : decode cX4_boot 51 = .ok (.bipush 9, 2) := by decide +kernel
theorem dX4_boot_53 : decode cX4_boot 53 = .ok (.iconst 1, 1) := by decide +kernel
theorem dX4_boot_54 : decode cX4_boot 54 = .ok (.invokestatic 98, 3) := by decide +kernel
theorem dX4_boot_57 : decode cX4_boot 57 = .ok (.iload_n 1, 1) := by decide +kernel
theorem dX4_boot_58 : decode cX4_boot 58 = .ok (.if_icmp .eq 11, 3) := by decide +kernel
theorem dX4_boot_61 : decode cX4_boot 61 = .ok (.aload_n 0, 1) := by decide +kernel
theorem dX4_boot_62 : decode cX4_boot 62 = .ok (.bipush 9, 2) := by decide +kernel
theorem dX4_boot_64 : decode cX4_boot 64 = .ok (.iconst 1, 1) := by decide +kernel
theorem dX4_boot_65 : decode cX4_boot 65 = .ok (.iload_n 1, 1) := by decide +kernel
theorem dX4_boot_66 : decode cX4_boot 66 = .ok (.invokevirtual 150, 3) := by decide +kernel
theorem dX4_boot_69 : decode cX4_boot 69 = .ok (.aload_n 0, 1) := by decide +kernel
theorem dX4_boot_70 : decode cX4_boot 70 = .ok (.iconst 4, 1) := by decide +kernel
theorem dX4_boot_71 : decode cX4_boot 71 = .ok (.invokevirtual 143, 3) := by decide +kernel
theorem dX4_boot_74 : decode cX4_boot 74 = .ok (.aload_n 0, 1) := by decide +kernel
theorem dX4_boot_75 : decode cX4_boot 75 = .ok (.iconst 4, 1) := by decide +kernel
theorem dX4_boot_76 : decode cX4_boot 76 = .ok (.iconst 1, 1) := by decide +kernel
theorem dX4_boot_77 : decode cX4_boot 77 = .ok (.iload_n 1, 1) := by decide +kernel
theorem dX4_boot_78 : decode cX4_boot 78 = .ok (.invokevirtual 150, 3) := by decide +kernel
theorem dX4_boot_81 : decode cX4_boot 81 = .ok (.aload_n 0, 1) := by decide +kernel
theorem dX4_boot_82 : decode cX4_boot 82 = .ok (.iload_n 1, 1) := by decide +kernel
theorem dX4_boot_83 : decode cX4_boot 83 = .ok (.iconst 4, 1) := by decide +kernel
theorem dX4_boot_84 : decode cX4_boot 84 = .ok (.if_icmp .ge 7, 3) := by decide +kernel
theorem dX4_boot_87 : decode cX4_boot 87 = .ok (.iload_n 1, 1) := by decide +kernel
theorem dX4_boot_88 : decode cX4_boot 88 = .ok (.goto 12, 3) := by decide +kernel
theorem dX4_boot_91 : decode cX4_boot 91 = .ok (.aload_n 0, 1) := by decide +kernel
theorem dX4_boot_92 : decode cX4_boot 92 = .ok (.getfield 13, 3) := by decide +kernel
theorem dX4_boot_95 : decode cX4_boot 95 = .ok (.iconst 4, 1) := by decide +kernel
theorem dX4_boot_96 : decode cX4_boot 96 = .ok (.iconst 1, 1) := by decide +kernel
theorem dX4_boot_97 : decode cX4_boot 97 = .ok (.invokestatic 98, 3) := by decide +kernel
theorem dX4_boot_100 : decode cX4_boot 100 = .ok (.invokevirtual 161, 3) := by decide +kernel
theorem dX4_boot_103 : decode cX4_boot 103 = .ok (.aload_n 0, 1) := by decide +kernel
theorem dX4_boot_104 : decode cX4_boot 104 = .ok (.invokevirtual 146, 3) := by decide +kernel
theorem dX4_boot_107 : decode cX4_boot 107 = .ok (.istore_n 2, 1) := by decide +kernel
theorem dX4_boot_108 : decode cX4_boot 108 = .ok (.iload_n 2, 1) := by decide +kernel
theorem dX4_boot_109 : decode cX4_boot 109 = .ok (.ifCond .ne 6, 3) := by decide +kernel
theorem dX4_boot_112 : decode cX4_boot 112 = .ok (.bipush (-9), 2) := by decide +kernel
theorem dX4_boot_114 : decode cX4_boot 114 = .ok (.ireturn, 1) := by decide +kernel
theorem dX4_boot_115 : decode cX4_boot 115 = .ok (.iload_n 1, 1) := by decide +kernel
theorem dX4_boot_116 : decode cX4_boot 116 = .ok (.iconst 4, 1) := by decide +kernel
theorem dX4_boot_117 : decode cX4_boot 117 = .ok (.if_icmp .ne 13, 3) := by decide +kernel
theorem dX4_boot_120 : decode cX4_boot 120 = .ok (.aload_n 0, 1) := by decide +kernel
theorem dX4_boot_121 : decode cX4_boot 121 = .ok (.dup, 1) := by decide +kernel
theorem dX4_boot_122 : decode cX4_boot 122 = .ok (.getfield 164, 3) := by decide +kernel
theorem dX4_boot_125 : decode cX4_boot 125 = .ok (.iconst 1, 1) := by decide +kernel
theorem dX4_boot_126 : decode cX4_boot 126 = .ok (.iadd, 1) := by decide +kernel
theorem dX4_boot_127 : decode cX4_boot 127 = .ok (.putfield 164, 3) := by decide +kernel
theorem dX4_boot_130 : decode cX4_boot 130 = .ok (.aload_n 0, 1) := by decide +kernel
theorem dX4_boot_131 : decode cX4_boot 131 = .ok (.dup, 1) := by decide +kernel
theorem dX4_boot_132 : decode cX4_boot 132 = .ok (.getfield 167, 3) := by decide +kernel
theorem dX4_boot_135 : decode cX4_boot 135 = .ok (.iconst 1, 1) := by decide +kernel
theorem dX4_boot_136 : decode cX4_boot 136 = .ok (.iadd, 1) := by decide +kernel
theorem dX4_boot_137 : decode cX4_boot 137 = .ok (.putfield 167, 3) := by decide +kernel
theorem dX4_boot_140 : decode cX4_boot 140 = .ok (.aload_n 0, 1) := by decide +kernel
theorem dX4_boot_141 : decode cX4_boot 141 = .ok (.aload_n 0, 1) := by decide +kernel
theorem dX4_boot_142 : decode cX4_boot 142 = .ok (.iconst 0, 1) := by decide +kernel
theorem dX4_boot_143 : decode cX4_boot 143 = .ok (.invokevirtual 117, 3) := by decide +kernel
theorem dX4_boot_146 : decode cX4_boot 146 = .ok (.putfield 92, 3) := by decide +kernel
theorem dX4_boot_149 : decode cX4_boot 149 = .ok (.aload_n 0, 1) := by decide +kernel
theorem dX4_boot_150 : decode cX4_boot 150 = .ok (.aload_n 0, 1) := by decide +kernel
theorem dX4_boot_151 : decode cX4_boot 151 = .ok (.getfield 9, 3) := by decide +kernel
theorem dX4_boot_154 : decode cX4_boot 154 = .ok (.iconst 4, 1) := by decide +kernel
theorem dX4_boot_155 : decode cX4_boot 155 = .ok (.invokestatic 102, 3) := by decide +kernel
theorem dX4_boot_158 : decode cX4_boot 158 = .ok (.putfield 170, 3) := by decide +kernel
theorem dX4_boot_161 : decode cX4_boot 161 = .ok (.aload_n 0, 1) := by decide +kernel
theorem dX4_boot_162 : decode cX4_boot 162 = .ok (.getfield 92, 3) := by decide +kernel
theorem dX4_boot_165 : decode cX4_boot 165 = .ok (.ifCond .eq 7, 3) := by decide +kernel
theorem dX4_boot_168 : decode cX4_boot 168 = .ok (.iconst 1, 1) := by decide +kernel
theorem dX4_boot_169 : decode cX4_boot 169 = .ok (.goto 4, 3) := by decide +kernel
theorem dX4_boot_172 : decode cX4_boot 172 = .ok (.iconst 0, 1) := by decide +kernel
theorem dX4_boot_173 : decode cX4_boot 173 = .ok (.ireturn, 1) := by decide +kernel
theorem dX4_cut_0 : decode cX4_cut 0 = .ok (.iload_n 1, 1) := by decide +kernel
theorem dX4_cut_1 : decode cX4_cut 1 = .ok (.ifCond .lt 26, 3) := by decide +kernel
theorem dX4_cut_4 : decode cX4_cut 4 = .ok (.iload_n 1, 1) := by decide +kernel
theorem dX4_cut_5 : decode cX4_cut 5 = .ok (.ldc 173, 2) := by decide +kernel
theorem dX4_cut_7 : decode cX4_cut 7 = .ok (.if_icmp .gt 20, 3) := by decide +kernel
theorem dX4_cut_10 : decode cX4_cut 10 = .ok (.iload_n 2, 1) := by decide +kernel
theorem dX4_cut_11 : decode cX4_cut 11 = .ok (.ifCond .lt 16, 3) := by decide +kernel
theorem dX4_cut_14 : decode cX4_cut 14 = .ok (.iload_n 2, 1) := by decide +kernel
theorem dX4_cut_15 : decode cX4_cut 15 = .ok (.bipush 31, 2) := by decide +kernel
theorem dX4_cut_17 : decode cX4_cut 17 = .ok (.if_icmp .gt 10, 3) := by decide +kernel
theorem dX4_cut_20 : decode cX4_cut 20 = .ok (.aload_n 0, 1) := by decide +kernel
theorem dX4_cut_21 : decode cX4_cut 21 = .ok (.getfield 88, 3) := by decide +kernel
theorem dX4_cut_24 : decode cX4_cut 24 = .ok (.ifCond .eq 5, 3) := by decide +kernel
theorem dX4_cut_27 : decode cX4_cut 27 = .ok (.iconst 0, 1) := by decide +kernel
theorem dX4_cut_28 : decode cX4_cut 28 = .ok (.ireturn, 1) := by decide +kernel
theorem dX4_cut_29 : decode cX4_cut 29 = .ok (.aload_n 0, 1) := by decide +kernel
theorem dX4_cut_30 : decode cX4_cut 30 = .ok (.iload_n 1, 1) := by decide +kernel
theorem dX4_cut_31 : decode cX4_cut 31 = .ok (.putfield 29, 3) := by decide +kernel
theorem dX4_cut_34 : decode cX4_cut 34 = .ok (.aload_n 0, 1) := by decide +kernel
theorem dX4_cut_35 : decode cX4_cut 35 = .ok (.iload_n 2, 1) := by decide +kernel
theorem dX4_cut_36 : decode cX4_cut 36 = .ok (.putfield 85, 3) := by decide +kernel
theorem dX4_cut_39 : decode cX4_cut 39 = .ok (.iconst 1, 1) := by decide +kernel
theorem dX4_cut_40 : decode cX4_cut 40 = .ok (.ireturn, 1) := by decide +kernel
theorem dX4_power_0 : decode cX4_power 0 = .ok (.aload_n 0, 1) := by decide +kernel
theorem dX4_power_1 : decode cX4_power 1 = .ok (.iconst 0, 1) := by decide +kernel
theorem dX4_power_2 : decode cX4_power 2 = .ok (.putfield 88, 3) := by decide +kernel
theorem dX4_power_5 : decode cX4_power 5 = .ok (.aload_n 0, 1) := by decide +kernel
theorem dX4_power_6 : decode cX4_power 6 = .ok (.iconst 0, 1) := by decide +kernel
theorem dX4_power_7 : decode cX4_power 7 = .ok (.putfield 92, 3) := by decide +kernel
theorem dX4_power_10 : decode cX4_power 10 = .ok (.aload_n 0, 1) := by decide +kernel
theorem dX4_power_11 : decode cX4_power 11 = .ok (.iconst (-1), 1) := by decide +kernel
theorem dX4_power_12 : decode cX4_power 12 = .ok (.putfield 29, 3) := by decide +kernel
theorem dX4_power_15 : decode cX4_power 15 = .ok (.return_, 1) := by decide +kernel
theorem dX4_harm_0 : decode cX4_harm 0 = .ok (.iload_n 1, 1) := by decide +kernel
theorem dX4_harm_1 : decode cX4_harm 1 = .ok (.ifCond .lt 10, 3) := by decide +kernel
theorem dX4_harm_4 : decode cX4_harm 4 = .ok (.iload_n 1, 1) := by decide +kernel
theorem dX4_harm_5 : decode cX4_harm 5 = .ok (.sipush 2816, 3) := by decide +kernel
theorem dX4_harm_8 : decode cX4_harm 8 = .ok (.if_icmp .lt 5, 3) := by decide +kernel
theorem dX4_harm_11 : decode cX4_harm 11 = .ok (.iconst 0, 1) := by decide +kernel
theorem dX4_harm_12 : decode cX4_harm 12 = .ok (.ireturn, 1) := by decide +kernel
theorem dX4_harm_13 : decode cX4_harm 13 = .ok (.aload_n 0, 1) := by decide +kernel
theorem dX4_harm_14 : decode cX4_harm 14 = .ok (.getfield 9, 3) := by decide +kernel
theorem dX4_harm_17 : decode cX4_harm 17 = .ok (.iload_n 1, 1) := by decide +kernel
theorem dX4_harm_18 : decode cX4_harm 18 = .ok (.dup2, 1) := by decide +kernel
theorem dX4_harm_19 : decode cX4_harm 19 = .ok (.baload, 1) := by decide +kernel
theorem dX4_harm_20 : decode cX4_harm 20 = .ok (.iload_n 2, 1) := by decide +kernel
theorem dX4_harm_21 : decode cX4_harm 21 = .ok (.i2b, 1) := by decide +kernel
theorem dX4_harm_22 : decode cX4_harm 22 = .ok (.iand, 1) := by decide +kernel
theorem dX4_harm_23 : decode cX4_harm 23 = .ok (.i2b, 1) := by decide +kernel
theorem dX4_harm_24 : decode cX4_harm 24 = .ok (.bastore, 1) := by decide +kernel
theorem dX4_harm_25 : decode cX4_harm 25 = .ok (.iconst 1, 1) := by decide +kernel
theorem dX4_harm_26 : decode cX4_harm 26 = .ok (.ireturn, 1) := by decide +kernel
theorem dX4_flash_0 : decode cX4_flash 0 = .ok (.iload_n 1, 1) := by decide +kernel
theorem dX4_flash_1 : decode cX4_flash 1 = .ok (.ifCond .lt 10, 3) := by decide +kernel
theorem dX4_flash_4 : decode cX4_flash 4 = .ok (.iload_n 1, 1) := by decide +kernel
theorem dX4_flash_5 : decode cX4_flash 5 = .ok (.sipush 2816, 3) := by decide +kernel
theorem dX4_flash_8 : decode cX4_flash 8 = .ok (.if_icmp .lt 7, 3) := by decide +kernel
theorem dX4_flash_11 : decode cX4_flash 11 = .ok (.iconst (-1), 1) := by decide +kernel
theorem dX4_flash_12 : decode cX4_flash 12 = .ok (.goto 13, 3) := by decide +kernel
theorem dX4_flash_15 : decode cX4_flash 15 = .ok (.aload_n 0, 1) := by decide +kernel
theorem dX4_flash_16 : decode cX4_flash 16 = .ok (.getfield 9, 3) := by decide +kernel
theorem dX4_flash_19 : decode cX4_flash 19 = .ok (.iload_n 1, 1) := by decide +kernel
theorem dX4_flash_20 : decode cX4_flash 20 = .ok (.baload, 1) := by decide +kernel
theorem dX4_flash_21 : decode cX4_flash 21 = .ok (.sipush 255, 3) := by decide +kernel
theorem dX4_flash_24 : decode cX4_flash 24 = .ok (.iand, 1) := by decide +kernel
theorem dX4_flash_25 : decode cX4_flash 25 = .ok (.ireturn, 1) := by decide +kernel
set_option maxRecDepth 20000 in
theorem ggX4_image_X4_isRight : GoodIn wsX4_image wsX4_isRight := goodIn_r _ [6, 1, 7, 8, 9, 5, 10, 11, 12, 13, 14, 15, 16, 17, 18, 19, 20, 21, 22, 23, 24, 25, 26, 27, 28, 29, 30, 31, 32, 33, 34, 35, 36, 37, 38, 39, 40, 41, 42, 43, 44, 45, 46, 47, 48, 49, 50, 51, 52, 53, 54, 55] (by decide +kernel) (by decide +kernel)
set_option maxRecDepth 20000 in
theorem gX4_image_X4_isRight : GoodIn wsX4_image (wsV RX4 117 RX4 yX4_isRight wsX4_isRight) := goodIn_app (goodIn_of _ (by decide +kernel)) ggX4_image_X4_isRight
set_option maxRecDepth 20000 in
theorem ggX4_image_X4_unit : GoodIn wsX4_image wsX4_unit := goodIn_r _ [10] (by decide +kernel) (by decide +kernel)
set_option maxRecDepth 20000 in
theorem gX4_image_X4_unit : GoodIn wsX4_image (va_wsS RX4 60 yX4_unit wsX4_unit) := goodIn_app (goodIn_of _ (by decide +kernel)) ggX4_image_X4_unit
set_option maxRecDepth 20000 in
theorem ggX4_image_X4_intAt : GoodIn wsX4_image wsX4_intAt := goodIn_r _ [13] (by decide +kernel) (by decide +kernel)
set_option maxRecDepth 20000 in
theorem gX4_image_X4_intAt : GoodIn wsX4_image (va_wsS RX4 102 yX4_intAt wsX4_intAt) := goodIn_app (goodIn_of _ (by decide +kernel)) ggX4_image_X4_intAt
theorem dX4_image_0 : decode cX4_image 0 = .ok (.iload_n 1, 1) := by decide +kernel
theorem dX4_image_1 : decode cX4_image 1 = .ok (.ifCond .eq 8, 3) := by decide +kernel
theorem dX4_image_4 : decode cX4_image 4 = .ok (.iload_n 1, 1) := by decide +kernel
theorem dX4_image_5 : decode cX4_image 5 = .ok (.iconst 1, 1) := by decide +kernel
theorem dX4_image_6 : decode cX4_image 6 = .ok (.if_icmp .ne 12, 3) := by decide +kernel
theorem dX4_image_9 : decode cX4_image 9 = .ok (.iload_n 2, 1) := by decide +kernel
theorem dX4_image_10 : decode cX4_image 10 = .ok (.ifCond .lt 8, 3) := by decide +kernel
theorem dX4_image_13 : decode cX4_image 13 = .ok (.iload_n 2, 1) := by decide +kernel
theorem dX4_image_14 : decode cX4_image 14 = .ok (.iconst 2, 1) := by decide +kernel
theorem dX4_image_15 : decode cX4_image 15 = .ok (.if_icmp .le 5, 3) := by decide +kernel
theorem dX4_image_18 : decode cX4_image 18 = .ok (.iconst (-1), 1) := by decide +kernel
theorem dX4_image_19 : decode cX4_image 19 = .ok (.ireturn, 1) := by decide +kernel
theorem dX4_image_20 : decode cX4_image 20 = .ok (.aload_n 0, 1) := by decide +kernel
theorem dX4_image_21 : decode cX4_image 21 = .ok (.iload_n 1, 1) := by decide +kernel
theorem dX4_image_22 : decode cX4_image 22 = .ok (.invokevirtual 117, 3) := by decide +kernel
theorem dX4_image_25 : decode cX4_image 25 = .ok (.ifCond .ne 5, 3) := by decide +kernel
theorem dX4_image_28 : decode cX4_image 28 = .ok (.iconst 0, 1) := by decide +kernel
theorem dX4_image_29 : decode cX4_image 29 = .ok (.ireturn, 1) := by decide +kernel
theorem dX4_image_30 : decode cX4_image 30 = .ok (.iload_n 2, 1) := by decide +kernel
theorem dX4_image_31 : decode cX4_image 31 = .ok (.ifCond .ne 7, 3) := by decide +kernel
theorem dX4_image_34 : decode cX4_image 34 = .ok (.iconst 1, 1) := by decide +kernel
theorem dX4_image_35 : decode cX4_image 35 = .ok (.goto 23, 3) := by decide +kernel
theorem dX4_image_38 : decode cX4_image 38 = .ok (.aload_n 0, 1) := by decide +kernel
theorem dX4_image_39 : decode cX4_image 39 = .ok (.getfield 9, 3) := by decide +kernel
theorem dX4_image_42 : decode cX4_image 42 = .ok (.iconst 5, 1) := by decide +kernel
theorem dX4_image_43 : decode cX4_image 43 = .ok (.iload_n 1, 1) := by decide +kernel
theorem dX4_image_44 : decode cX4_image 44 = .ok (.imul, 1) := by decide +kernel
theorem dX4_image_45 : decode cX4_image 45 = .ok (.iconst 0, 1) := by decide +kernel
theorem dX4_image_46 : decode cX4_image 46 = .ok (.invokestatic 60, 3) := by decide +kernel
theorem dX4_image_49 : decode cX4_image 49 = .ok (.iconst 4, 1) := by decide +kernel
theorem dX4_image_50 : decode cX4_image 50 = .ok (.iload_n 2, 1) := by decide +kernel
theorem dX4_image_51 : decode cX4_image 51 = .ok (.iconst 1, 1) := by decide +kernel
theorem dX4_image_52 : decode cX4_image 52 = .ok (.isub, 1) := by decide +kernel
theorem dX4_image_53 : decode cX4_image 53 = .ok (.imul, 1) := by decide +kernel
theorem dX4_image_54 : decode cX4_image 54 = .ok (.iadd, 1) := by decide +kernel
theorem dX4_image_55 : decode cX4_image 55 = .ok (.invokestatic 102, 3) := by decide +kernel
theorem dX4_image_58 : decode cX4_image 58 = .ok (.ireturn, 1) := by decide +kernel
set_option maxRecDepth 20000 in
theorem ggX4_trailer_X4_isMagic : GoodIn wsX4_trailer wsX4_isMagic := goodIn_r _ [5, 6, 7, 8, 4, 9] (by decide +kernel) (by decide +kernel)
set_option maxRecDepth 20000 in
theorem gX4_trailer_X4_isMagic : GoodIn wsX4_trailer (va_wsS RX4 114 yX4_isMagic wsX4_isMagic) := goodIn_app (goodIn_of _ (by decide +kernel)) ggX4_trailer_X4_isMagic
set_option maxRecDepth 20000 in
theorem ggX4_trailer_X4_set : GoodIn wsX4_trailer wsX4_set := goodIn_r _ [12, 7, 8, 4, 9] (by decide +kernel) (by decide +kernel)
set_option maxRecDepth 20000 in
theorem gX4_trailer_X4_set : GoodIn wsX4_trailer (va_wsS RX4 98 yX4_set wsX4_set) := goodIn_app (goodIn_of _ (by decide +kernel)) ggX4_trailer_X4_set
set_option maxRecDepth 20000 in
theorem ggX4_trailer_X4_isSet : GoodIn wsX4_trailer wsX4_isSet := goodIn_r _ [15, 10, 11, 4, 12, 7, 8, 9] (by decide +kernel) (by decide +kernel)
set_option maxRecDepth 20000 in
theorem gX4_trailer_X4_isSet : GoodIn wsX4_trailer (va_wsS RX4 110 yX4_isSet wsX4_isSet) := goodIn_app (goodIn_of _ (by decide +kernel)) ggX4_trailer_X4_isSet
theorem dX4_trailer_0 : decode cX4_trailer 0 = .ok (.iload_n 1, 1) := by decide +kernel
theorem dX4_trailer_1 : decode cX4_trailer 1 = .ok (.ifCond .eq 10, 3) := by decide +kernel
theorem dX4_trailer_4 : decode cX4_trailer 4 = .ok (.iload_n 1, 1) := by decide +kernel
theorem dX4_trailer_5 : decode cX4_trailer 5 = .ok (.iconst 1, 1) := by decide +kernel
theorem dX4_trailer_6 : decode cX4_trailer 6 = .ok (.if_icmp .eq 5, 3) := by decide +kernel
theorem dX4_trailer_9 : decode cX4_trailer 9 = .ok (.iconst (-1), 1) := by decide +kernel
theorem dX4_trailer_10 : decode cX4_trailer 10 = .ok (.ireturn, 1) := by decide +kernel
theorem dX4_trailer_11 : decode cX4_trailer 11 = .ok (.iload_n 1, 1) := by decide +kernel
theorem dX4_trailer_12 : decode cX4_trailer 12 = .ok (.ifCond .ne 7, 3) := by decide +kernel
theorem dX4_trailer_15 : decode cX4_trailer 15 = .ok (.iconst 4, 1) := by decide +kernel
theorem dX4_trailer_16 : decode cX4_trailer 16 = .ok (.goto 5, 3) := by decide +kernel
theorem dX4_trailer_19 : decode cX4_trailer 19 = .ok (.bipush 9, 2) := by decide +kernel
theorem dX4_trailer_21 : decode cX4_trailer 21 = .ok (.istore_n 3, 1) := by decide +kernel
theorem dX4_trailer_22 : decode cX4_trailer 22 = .ok (.iload_n 2, 1) := by decide +kernel
theorem dX4_trailer_23 : decode cX4_trailer 23 = .ok (.tableswitch 141 0 4 #[33, 50, 60, 78, 96], 33) := by decide +kernel
theorem dX4_trailer_56 : decode cX4_trailer 56 = .ok (.aload_n 0, 1) := by decide +kernel
theorem dX4_trailer_57 : decode cX4_trailer 57 = .ok (.getfield 9, 3) := by decide +kernel
theorem dX4_trailer_60 : decode cX4_trailer 60 = .ok (.iload_n 3, 1) := by decide +kernel
theorem dX4_trailer_61 : decode cX4_trailer 61 = .ok (.invokestatic 114, 3) := by decide +kernel
theorem dX4_trailer_64 : decode cX4_trailer 64 = .ok (.ifCond .eq 7, 3) := by decide +kernel
theorem dX4_trailer_67 : decode cX4_trailer 67 = .ok (.iconst 1, 1) := by decide +kernel
theorem dX4_trailer_68 : decode cX4_trailer 68 = .ok (.goto 4, 3) := by decide +kernel
theorem dX4_trailer_71 : decode cX4_trailer 71 = .ok (.iconst 0, 1) := by decide +kernel
theorem dX4_trailer_72 : decode cX4_trailer 72 = .ok (.ireturn, 1) := by decide +kernel
theorem dX4_trailer_73 : decode cX4_trailer 73 = .ok (.aload_n 0, 1) := by decide +kernel
theorem dX4_trailer_74 : decode cX4_trailer 74 = .ok (.getfield 9, 3) := by decide +kernel
theorem dX4_trailer_77 : decode cX4_trailer 77 = .ok (.iload_n 3, 1) := by decide +kernel
theorem dX4_trailer_78 : decode cX4_trailer 78 = .ok (.iconst 1, 1) := by decide +kernel
theorem dX4_trailer_79 : decode cX4_trailer 79 = .ok (.invokestatic 98, 3) := by decide +kernel
theorem dX4_trailer_82 : decode cX4_trailer 82 = .ok (.ireturn, 1) := by decide +kernel
theorem dX4_trailer_83 : decode cX4_trailer 83 = .ok (.aload_n 0, 1) := by decide +kernel
theorem dX4_trailer_84 : decode cX4_trailer 84 = .ok (.getfield 9, 3) := by decide +kernel
theorem dX4_trailer_87 : decode cX4_trailer 87 = .ok (.iload_n 3, 1) := by decide +kernel
theorem dX4_trailer_88 : decode cX4_trailer 88 = .ok (.iconst 2, 1) := by decide +kernel
theorem dX4_trailer_89 : decode cX4_trailer 89 = .ok (.invokestatic 110, 3) := by decide +kernel
theorem dX4_trailer_92 : decode cX4_trailer 92 = .ok (.ifCond .eq 7, 3) := by decide +kernel
theorem dX4_trailer_95 : decode cX4_trailer 95 = .ok (.iconst 1, 1) := by decide +kernel
theorem dX4_trailer_96 : decode cX4_trailer 96 = .ok (.goto 4, 3) := by decide +kernel
theorem dX4_trailer_99 : decode cX4_trailer 99 = .ok (.iconst 0, 1) := by decide +kernel
theorem dX4_trailer_100 : decode cX4_trailer 100 = .ok (.ireturn, 1) := by decide +kernel
theorem dX4_trailer_101 : decode cX4_trailer 101 = .ok (.aload_n 0, 1) := by decide +kernel
theorem dX4_trailer_102 : decode cX4_trailer 102 = .ok (.getfield 9, 3) := by decide +kernel
theorem dX4_trailer_105 : decode cX4_trailer 105 = .ok (.iload_n 3, 1) := by decide +kernel
theorem dX4_trailer_106 : decode cX4_trailer 106 = .ok (.iconst 3, 1) := by decide +kernel
theorem dX4_trailer_107 : decode cX4_trailer 107 = .ok (.invokestatic 110, 3) := by decide +kernel
theorem dX4_trailer_110 : decode cX4_trailer 110 = .ok (.ifCond .eq 7, 3) := by decide +kernel
theorem dX4_trailer_113 : decode cX4_trailer 113 = .ok (.iconst 1, 1) := by decide +kernel
theorem dX4_trailer_114 : decode cX4_trailer 114 = .ok (.goto 4, 3) := by decide +kernel
theorem dX4_trailer_117 : decode cX4_trailer 117 = .ok (.iconst 0, 1) := by decide +kernel
theorem dX4_trailer_118 : decode cX4_trailer 118 = .ok (.ireturn, 1) := by decide +kernel
theorem dX4_trailer_119 : decode cX4_trailer 119 = .ok (.iconst 0, 1) := by decide +kernel
theorem dX4_trailer_120 : decode cX4_trailer 120 = .ok (.istore 4, 2) := by decide +kernel
theorem dX4_trailer_122 : decode cX4_trailer 122 = .ok (.iconst 4, 1) := by decide +kernel
theorem dX4_trailer_123 : decode cX4_trailer 123 = .ok (.istore 5, 2) := by decide +kernel
theorem dX4_trailer_125 : decode cX4_trailer 125 = .ok (.iload 5, 2) := by decide +kernel
theorem dX4_trailer_127 : decode cX4_trailer 127 = .ok (.bipush 16, 2) := by decide +kernel
theorem dX4_trailer_129 : decode cX4_trailer 129 = .ok (.if_icmp .ge 32, 3) := by decide +kernel
theorem dX4_trailer_132 : decode cX4_trailer 132 = .ok (.iload 4, 2) := by decide +kernel
theorem dX4_trailer_134 : decode cX4_trailer 134 = .ok (.aload_n 0, 1) := by decide +kernel
theorem dX4_trailer_135 : decode cX4_trailer 135 = .ok (.getfield 9, 3) := by decide +kernel
theorem dX4_trailer_138 : decode cX4_trailer 138 = .ok (.iload_n 3, 1) := by decide +kernel
theorem dX4_trailer_139 : decode cX4_trailer 139 = .ok (.iload 5, 2) := by decide +kernel
theorem dX4_trailer_141 : decode cX4_trailer 141 = .ok (.invokestatic 110, 3) := by decide +kernel
theorem dX4_trailer_144 : decode cX4_trailer 144 = .ok (.ifCond .eq 7, 3) := by decide +kernel
theorem dX4_trailer_147 : decode cX4_trailer 147 = .ok (.iconst 1, 1) := by decide +kernel
theorem dX4_trailer_148 : decode cX4_trailer 148 = .ok (.goto 4, 3) := by decide +kernel
theorem dX4_trailer_151 : decode cX4_trailer 151 = .ok (.iconst 0, 1) := by decide +kernel
theorem dX4_trailer_152 : decode cX4_trailer 152 = .ok (.iadd, 1) := by decide +kernel
theorem dX4_trailer_153 : decode cX4_trailer 153 = .ok (.istore 4, 2) := by decide +kernel
theorem dX4_trailer_155 : decode cX4_trailer 155 = .ok (.iinc 5 1, 3) := by decide +kernel
theorem dX4_trailer_158 : decode cX4_trailer 158 = .ok (.goto (-33), 3) := by decide +kernel
theorem dX4_trailer_161 : decode cX4_trailer 161 = .ok (.iload 4, 2) := by decide +kernel
theorem dX4_trailer_163 : decode cX4_trailer 163 = .ok (.ireturn, 1) := by decide +kernel
theorem dX4_trailer_164 : decode cX4_trailer 164 = .ok (.iconst (-1), 1) := by decide +kernel
theorem dX4_trailer_165 : decode cX4_trailer 165 = .ok (.ireturn, 1) := by decide +kernel
theorem dX4_wear_0 : decode cX4_wear 0 = .ok (.iload_n 1, 1) := by decide +kernel
theorem dX4_wear_1 : decode cX4_wear 1 = .ok (.ifCond .lt 9, 3) := by decide +kernel
theorem dX4_wear_4 : decode cX4_wear 4 = .ok (.iload_n 1, 1) := by decide +kernel
theorem dX4_wear_5 : decode cX4_wear 5 = .ok (.bipush 11, 2) := by decide +kernel
theorem dX4_wear_7 : decode cX4_wear 7 = .ok (.if_icmp .lt 7, 3) := by decide +kernel
theorem dX4_wear_10 : decode cX4_wear 10 = .ok (.iconst (-1), 1) := by decide +kernel
theorem dX4_wear_11 : decode cX4_wear 11 = .ok (.goto 9, 3) := by decide +kernel
theorem dX4_wear_14 : decode cX4_wear 14 = .ok (.aload_n 0, 1) := by decide +kernel
theorem dX4_wear_15 : decode cX4_wear 15 = .ok (.getfield 33, 3) := by decide +kernel
theorem dX4_wear_18 : decode cX4_wear 18 = .ok (.iload_n 1, 1) := by decide +kernel
theorem dX4_wear_19 : decode cX4_wear 19 = .ok (.iaload, 1) := by decide +kernel
theorem dX4_wear_20 : decode cX4_wear 20 = .ok (.ireturn, 1) := by decide +kernel
theorem dX4_look_0 : decode cX4_look 0 = .ok (.iload_n 1, 1) := by decide +kernel
theorem dX4_look_1 : decode cX4_look 1 = .ok (.tableswitch 134 0 8 #[51, 64, 77, 93, 98, 114, 119, 124, 129], 51) := by decide +kernel
theorem dX4_look_52 : decode cX4_look 52 = .ok (.aload_n 0, 1) := by decide +kernel
theorem dX4_look_53 : decode cX4_look 53 = .ok (.getfield 88, 3) := by decide +kernel
theorem dX4_look_56 : decode cX4_look 56 = .ok (.ifCond .eq 7, 3) := by decide +kernel
theorem dX4_look_59 : decode cX4_look 59 = .ok (.iconst 1, 1) := by decide +kernel
theorem dX4_look_60 : decode cX4_look 60 = .ok (.goto 4, 3) := by decide +kernel
theorem dX4_look_63 : decode cX4_look 63 = .ok (.iconst 0, 1) := by decide +kernel
theorem dX4_look_64 : decode cX4_look 64 = .ok (.ireturn, 1) := by decide +kernel
theorem dX4_look_65 : decode cX4_look 65 = .ok (.aload_n 0, 1) := by decide +kernel
theorem dX4_look_66 : decode cX4_look 66 = .ok (.getfield 92, 3) := by decide +kernel
theorem dX4_look_69 : decode cX4_look 69 = .ok (.ifCond .eq 7, 3) := by decide +kernel
theorem dX4_look_72 : decode cX4_look 72 = .ok (.iconst 1, 1) := by decide +kernel
theorem dX4_look_73 : decode cX4_look 73 = .ok (.goto 4, 3) := by decide +kernel
theorem dX4_look_76 : decode cX4_look 76 = .ok (.iconst 0, 1) := by decide +kernel
theorem dX4_look_77 : decode cX4_look 77 = .ok (.ireturn, 1) := by decide +kernel
theorem dX4_look_78 : decode cX4_look 78 = .ok (.aload_n 0, 1) := by decide +kernel
theorem dX4_look_79 : decode cX4_look 79 = .ok (.getfield 92, 3) := by decide +kernel
theorem dX4_look_82 : decode cX4_look 82 = .ok (.ifCond .eq 10, 3) := by decide +kernel
theorem dX4_look_85 : decode cX4_look 85 = .ok (.aload_n 0, 1) := by decide +kernel
theorem dX4_look_86 : decode cX4_look 86 = .ok (.getfield 170, 3) := by decide +kernel
theorem dX4_look_89 : decode cX4_look 89 = .ok (.goto 4, 3) := by decide +kernel
theorem dX4_look_92 : decode cX4_look 92 = .ok (.iconst 0, 1) := by decide +kernel
theorem dX4_look_93 : decode cX4_look 93 = .ok (.ireturn, 1) := by decide +kernel
theorem dX4_look_94 : decode cX4_look 94 = .ok (.aload_n 0, 1) := by decide +kernel
theorem dX4_look_95 : decode cX4_look 95 = .ok (.getfield 79, 3) := by decide +kernel
theorem dX4_look_98 : decode cX4_look 98 = .ok (.ireturn, 1) := by decide +kernel
theorem dX4_look_99 : decode cX4_look 99 = .ok (.aload_n 0, 1) := by decide +kernel
theorem dX4_look_100 : decode cX4_look 100 = .ok (.getfield 88, 3) := by decide +kernel
theorem dX4_look_103 : decode cX4_look 103 = .ok (.ifCond .eq 7, 3) := by decide +kernel
theorem dX4_look_106 : decode cX4_look 106 = .ok (.iconst 0, 1) := by decide +kernel
theorem dX4_look_107 : decode cX4_look 107 = .ok (.goto 7, 3) := by decide +kernel
theorem dX4_look_110 : decode cX4_look 110 = .ok (.aload_n 0, 1) := by decide +kernel
theorem dX4_look_111 : decode cX4_look 111 = .ok (.getfield 29, 3) := by decide +kernel
theorem dX4_look_114 : decode cX4_look 114 = .ok (.ireturn, 1) := by decide +kernel
theorem dX4_look_115 : decode cX4_look 115 = .ok (.aload_n 0, 1) := by decide +kernel
theorem dX4_look_116 : decode cX4_look 116 = .ok (.getfield 167, 3) := by decide +kernel
theorem dX4_look_119 : decode cX4_look 119 = .ok (.ireturn, 1) := by decide +kernel
theorem dX4_look_120 : decode cX4_look 120 = .ok (.aload_n 0, 1) := by decide +kernel
theorem dX4_look_121 : decode cX4_look 121 = .ok (.getfield 82, 3) := by decide +kernel
theorem dX4_look_124 : decode cX4_look 124 = .ok (.ireturn, 1) := by decide +kernel
theorem dX4_look_125 : decode cX4_look 125 = .ok (.aload_n 0, 1) := by decide +kernel
theorem dX4_look_126 : decode cX4_look 126 = .ok (.getfield 164, 3) := by decide +kernel
theorem dX4_look_129 : decode cX4_look 129 = .ok (.ireturn, 1) := by decide +kernel
theorem dX4_look_130 : decode cX4_look 130 = .ok (.aload_n 0, 1) := by decide +kernel
theorem dX4_look_131 : decode cX4_look 131 = .ok (.getfield 95, 3) := by decide +kernel
theorem dX4_look_134 : decode cX4_look 134 = .ok (.ireturn, 1) := by decide +kernel
theorem dX4_look_135 : decode cX4_look 135 = .ok (.iconst (-1), 1) := by decide +kernel
theorem dX4_look_136 : decode cX4_look 136 = .ok (.ireturn, 1) := by decide +kernel
end
section
def xNf : List (String × Nat × String × String × String × String) := [(RX3, 172, "ScratchSwap$Memory", "bytes", "[I", "ScratchSwap"), (RX3, 154, "ScratchSwap$Memory", "timesErased", "[I", "ScratchSwap"), (RX3, 58, "ScratchSwap$Memory", "down", "Z", "ScratchSwap"), (RX3, 157, "ScratchSwap$Memory", "actsDone", "I", "ScratchSwap"), (RX3, 163, "ScratchSwap$Memory", "timesGone", "I", "ScratchSwap"), (RX3, 79, "ScratchSwap$Tape", "bytes", "[I", "ScratchSwap"), (RX3, 47, "ScratchSwap$Tape", "count", "I", "ScratchSwap"), (RX0, 75, "ScratchSwap", "MAGIC", "[I", "ScratchSwap")]
def xNm : List (String × Nat × MethodName × String) := [(RX3, 11, yX0_init, "ScratchSwap"), (RX3, 18, yX2_init, "ScratchSwap"), (RX3, 25, yX1_init, "ScratchSwap"), (RX3, 50, yX2_addHighestFirst, "ScratchSwap"), (RX3, 54, yX2_becomeImage, "ScratchSwap"), (RX2, 26, yX1_digest, "ScratchSwap"), (RX2, 32, yX1_digestByte, "ScratchSwap"), (RX3, 144, yX0_markIn, "ScratchSwap"), (RX3, 192, yX0_eraseSector, "ScratchSwap"), (RX3, 83, yX0_writeRow, "ScratchSwap"), (RX3, 91, yX0_markUnit, "ScratchSwap"), (RX3, 180, yX0_unitAt, "ScratchSwap"), (RX3, 102, yX0_hasMagic, "ScratchSwap"), (RX3, 169, yX0_intAt, "ScratchSwap"), (RX3, 173, yX1_digest, "ScratchSwap"), (RX3, 131, yX0_byteAt, "ScratchSwap"), (RX3, 177, yX1_digestByte, "ScratchSwap"), (RX3, 211, yX0_replaceSector, "ScratchSwap"), (RX3, 118, yX0_tellToGo, "ScratchSwap"), (RX3, 122, yX0_powerComes, "ScratchSwap"), (RX3, 125, yX0_has, "ScratchSwap"), (RX3, 128, yX0_keepBits, "ScratchSwap"), (RX3, 151, yX0_hasSector, "ScratchSwap"), (RX3, 160, yX0_actsStillDone, "ScratchSwap")]
def tbML : List Int32 := [83, 87, 65, 80, 45, 79, 75, 33]
def tbFL : List Int32 := [1779033703, (-1150833019), 1013904242, (-1521486534), 1359893119, (-1694144372), 528734635, 1541459225]
def tbRL : List Int32 := [1116352408, 1899447441, (-1245643825), (-373957723), 961987163, 1508970993, (-1841331548), (-1424204075), (-670586216), 310598401, 607225278, 1426881987, 1925078388, (-2132889090), (-1680079193), (-1046744716), (-459576895), (-272742522), 264347078, 604807628, 770255983, 1249150122, 1555081692, 1996064986, (-1740746414), (-1473132947), (-1341970488), (-1084653625), (-958395405), (-710438585), 113926993, 338241895, 666307205, 773529912, 1294757372, 1396182291, 1695183700, 1986661051, (-2117940946), (-1838011259), (-1564481375), (-1474664885), (-1035236496), (-949202525), (-778901479), (-694614492), (-200395387), 275423344, 430227734, 506948616, 659060556, 883997877, 958139571, 1322822218, 1537002063, 1747873779, 1955562222, 2024104815, (-2067236844), (-1933114872), (-1866530822), (-1538233109), (-1090935817), (-965641998)]
def tbM : Nat → Int32 := fun j => tbML.getD j 0
def tbF : Nat → Int32 := fun j => tbFL.getD j 0
def tbR : Nat → Int32 := fun j => tbRL.getD j 0
/-- a static table: its field, its cell -/
def xT (C n : String) (N : Nat) (f : Nat → Int32) (t : Nat) (A : Nat → Prop) (U : State) (H : Heap) : Prop := va_Z C n "[I" (.ref t) A U H ∧ va_T .int t N (fun j => .int (f j)) A U H
/-- the environment: nest words, the static tables -/
def xE (tt : Nat → Nat) (rt : List (Nat × Nat × (Nat → Int32))) (A : Nat → Prop) (U : State) (H : Heap) : Prop := (∀ q ∈ xNf, va_Nw (.fieldLinkNest q.1 q.2.1 q.2.2.1 q.2.2.2.1 q.2.2.2.2.1 q.2.2.2.2.2) U) ∧ (∀ q ∈ xNm, va_Nw (.methodLinkNest q.1 q.2.1 q.2.2.1 q.2.2.2) U) ∧
  xT "ScratchSwap" "MAGIC" 8 tbM (tt 0) A U H ∧ xT "ScratchSwap$Sha256" "FIRST_WORDS" 8 tbF (tt 1) A U H ∧ xT "ScratchSwap$Sha256" "ROUND_WORDS" 64 tbR (tt 2) A U H ∧
  xT "ScratchSwapModel" "MAGIC" 8 tbM (tt 3) A U H ∧ xT "ScratchSwapModel" "STARTS" 8 tbF (tt 4) A U H ∧ xT "ScratchSwapModel" "ROUNDS" 64 tbR (tt 5) A U H ∧ ∀ q ∈ rt, va_T .int q.1 q.2.1 (fun j => .int (q.2.2 j)) A U H
theorem xT.go {C n : String} {N : Nat} {f : Nat → Int32} {t : Nat} {A B : Nat → Prop} {s U : State} {H : Heap} {locs : List Loc} (h : xT C n N f t A s s.heap) (hS : va_S A s.heap H locs) (hB : ∀ q, B q → A q) (hU : U.heap = H) (hW : s.vm.Alike U.vm) : xT C n N f t B U U.heap := by
  rw [hU]
  exact ⟨((h.1.kept hS.2.1).narrow hB).moved hW, ((h.2.kept hS.2.1).narrow hB).moved hW⟩
theorem xE.go {tt : Nat → Nat} {rt rt1 : List (Nat × Nat × (Nat → Int32))} {A B : Nat → Prop} {s U : State} {H : Heap} {locs : List Loc} (h : xE tt rt A s s.heap) (hS : va_S A s.heap H locs) (hB : ∀ q, B q → A q) (hU : U.heap = H) (hW : s.WarmedH U.vm) (hR : ∀ q ∈ rt1, va_T .int q.1 q.2.1 (fun j => .int (q.2.2 j)) B U U.heap) : xE tt rt1 B U U.heap := by
  obtain ⟨h1, h2, h3, h4, h5, h6, h7, h8, -⟩ := h
  exact ⟨fun q hq => (h1 q hq).warmF hW, fun q hq => (h2 q hq).warmM hW, h3.go hS hB hU hW.alike, h4.go hS hB hU hW.alike, h5.go hS hB hU hW.alike, h6.go hS hB hU hW.alike, h7.go hS hB hU hW.alike, h8.go hS hB hU hW.alike, hR⟩
theorem xT.same {C n : String} {N : Nat} {f : Nat → Int32} {t : Nat} {A : Nat → Prop} {u U : State} {H : Heap} (h : xT C n N f t A u H) (hW : u.vm.Alike U.vm) : xT C n N f t A U H := ⟨h.1.moved hW, h.2.moved hW⟩
theorem xE.same {tt : Nat → Nat} {rt : List (Nat × Nat × (Nat → Int32))} {A : Nat → Prop} {u U : State} {H : Heap} (h : xE tt rt A u H) (hv : u.vm = U.vm) : xE tt rt A U H := by
  have hW : u.vm.Alike U.vm := by rw [← hv]; exact Vm.Alike.refl u.vm
  obtain ⟨h1, h2, h3, h4, h5, h6, h7, h8, h9⟩ := h
  exact ⟨fun q hq => (h1 q hq).same rfl hv, fun q hq => (h2 q hq).same rfl hv, h3.same hW, h4.same hW, h5.same hW, h6.same hW, h7.same hW, h8.same hW, fun q hq => (h9 q hq).moved hW⟩
theorem xE.f {tt : Nat → Nat} {rt : List (Nat × Nat × (Nat → Int32))} {A : Nat → Prop} {U : State} {H : Heap} (h : xE tt rt A U H) {args : Array Value} (k : Nat) {q : String × Nat × String × String × String × String} (hk : xNf[k]? = some q) : (Cond.fieldLinkNest q.1 q.2.1 q.2.2.1 q.2.2.2.1 q.2.2.2.2.1 q.2.2.2.2.2).before args U = true := (h.1 q (List.mem_of_getElem? hk)).use rfl
theorem xE.m {tt : Nat → Nat} {rt : List (Nat × Nat × (Nat → Int32))} {A : Nat → Prop} {U : State} {H : Heap} (h : xE tt rt A U H) (k : Nat) {q : String × Nat × MethodName × String} (hk : xNm[k]? = some q) : va_Nw (.methodLinkNest q.1 q.2.1 q.2.2.1 q.2.2.2) U := h.2.1 q (List.mem_of_getElem? hk)
/-- a method's start -/
def xP (D : va_G) (tys : List (ClassId × FieldType)) (tt : Nat → Nat) (rt : List (Nat × Nat × (Nat → Int32))) (A : Nat → Prop) (sz : Nat) (ws : va_W) (av : List Value) : Array Value → State → Prop := va_Pc av (fun U => U.heap.size = sz ∧ va_P D vwCl ws U.heap ∧ va_K D vwCl tys U ∧ va_D (fun _ => True) ws ∧ xE tt rt A U U.heap)
/-- the world behind it -/
def xB {S : Type} (D : va_G) (tys : List (ClassId × FieldType)) (A : Nat → Prop) (Wf : S → va_W) (u : S) (t : State) : Prop := va_P D vwCl (Wf u) t.heap ∧ va_K D vwCl tys t ∧ va_D A (Wf u)
theorem xP.blind {D : va_G} {tys : List (ClassId × FieldType)} {tt : Nat → Nat} {rt : List (Nat × Nat × (Nat → Int32))} {A : Nat → Prop} {sz : Nat} {ws : va_W} {av : List Value} : FrameBlind (xP D tys tt rt A sz ws av) := by
  intro a U g mk q
  obtain ⟨q0, q1, qP, qK, qD, qE⟩ := q
  exact ⟨q0, q1, qP, va_K.moved (u := U) (U := U.calling g mk a) (Vm.Alike.refl U.vm) qK, qD, qE.same (U := U.calling g mk a) rfl⟩
theorem xsub {ws wc : va_W} {is : List Nat} (h : is.map (fun i => ws[i]?) = wc.map some) : is.filterMap (fun i => ws[i]?) = wc := by
  have h1 : (is.map (fun i => ws[i]?)).filterMap id = is.filterMap (fun i => ws[i]?) := by
    rw [List.filterMap_map]; rfl
  rw [← h1, h, List.filterMap_map]
  have : (id ∘ (some : Nat × va_E → Option (Nat × va_E))) = some := rfl
  rw [this, List.filterMap_some]
section XC
variable {p : Program} {l : Launch} {e : Env} {R : Room} {s : State} {m : MethodId} {args : Array Value} {below : List Frame} {meth : Method} {c : Code} {H : Heap} {locs : List Loc} {cells slots : Nat} {Q : State → Prop}
variable {pc : Nat} {ls : Array Slot} {rest st0 : List Value} {a : Array Value} {A0 B : Nat → Prop} {mc ms : Nat} {D : va_G} {tys : List (ClassId × FieldType)} {tt : Nat → Nat} {rt rt1 : List (Nat × Nat × (Nat → Int32))} {ws wc : va_W}
theorem x_preS {As : List Value} (hS : va_S A0 s.heap H locs) (hE : xE tt rt A0 s s.heap) (hK : va_K D vwCl tys s) (hP : va_P D vwCl ws H) {A' : Nat → Prop} (hD : va_D A' ws) (isC : List Nat) (hC : isC.map (fun i => ws[i]?) = wc.map some) (hn : va_nd isC = true) (hB : ∀ q, B q → A0 q) (hR : ∀ U : State, U.heap = H → s.WarmedH U.vm → ∀ q ∈ rt1, va_T .int q.1 q.2.1 (fun j => .int (q.2.2 j)) B U U.heap) : PreS s H (xP D tys tt rt1 B H.size wc As) As :=
  ⟨xP.blind, fun U hU hW => ⟨rfl, by rw [hU], by rw [hU]; exact hP.sub isC (xsub hC), va_K.moved hW.alike hK, (hD.sub isC hn hC).weaken (fun _ _ _ _ => trivial), hE.go hS hB hU hW (hR U hU hW)⟩⟩
theorem x_preV {As : List Value} {b : Addr} {fs : List Value} {q : vw_C} (hS : va_S A0 s.heap H locs) (hE : xE tt rt A0 s s.heap) (hK : va_K D vwCl tys s) (hP : va_P D vwCl ws H) {A' : Nat → Prop} (hD : va_D A' ws) (isC : List Nat) (hC : isC.map (fun i => ws[i]?) = wc.map some) (hn : va_nd isC = true) (hB : ∀ q, B q → A0 q) (hR : ∀ U : State, U.heap = H → s.WarmedH U.vm → ∀ q ∈ rt1, va_T .int q.1 q.2.1 (fun j => .int (q.2.2 j)) B U U.heap) (ci q0 : Nat) (hc : vwCl[ci]? = some q) (he : ws[q0]? = some (b, .inr (ci, fs))) : PreV s H q.1 b (xP D tys tt rt1 B H.size wc (.ref b :: As)) As :=
  ⟨xP.blind, va_recv hK hP hc he, fun U hU hW => ⟨rfl, by rw [hU], by rw [hU]; exact hP.sub isC (xsub hC), va_K.moved hW.alike hK, (hD.sub isC hn hC).weaken (fun _ _ _ _ => trivial), hE.go hS hB hU hW (hR U hU hW)⟩⟩
theorem xR0 : ∀ U : State, U.heap = H → s.WarmedH U.vm → ∀ q ∈ ([] : List (Nat × Nat × (Nat → Int32))), va_T .int q.1 q.2.1 (fun j => .int (q.2.2 j)) B U U.heap := fun _ _ _ q h => absurd h List.not_mem_nil
theorem xRs (hS : va_S A0 s.heap H locs) (hE : xE tt rt A0 s s.heap) (hB : ∀ q, B q → A0 q) : ∀ U : State, U.heap = H → s.WarmedH U.vm → ∀ q ∈ rt, va_T .int q.1 q.2.1 (fun j => .int (q.2.2 j)) B U U.heap := by
  intro U hU hW q hq
  rw [hU]
  exact (((hE.2.2.2.2.2.2.2.2 q hq).kept hS.2.1).narrow hB).moved hW.alike
theorem x_ro {H0 : Heap} (hS : va_S A0 H0 H locs) (hA : ∀ q, H0.size ≤ q → A0 q) : ∀ q, va_A [] H.size q → A0 q := by
  intro q h
  rcases h with ⟨k, e, h⟩ | h
  · simp at h
  · exact hA q (Nat.le_trans hS.1 h)
/-- a call that changes nothing -/
theorem x_roi {H0 : Heap} {post : Int32 → Prop} (hr : va_Run p l e R s m args below meth c H locs cells slots 0 0 (F0 m pc ls st0) rest (va_Qi (fun r (_ : Unit) => post r) (fun _ _ => True) (va_A [] H.size) a) (va_A [] H.size)) (hS : va_S A0 H0 H locs) (hA : ∀ q, H0.size ≤ q → A0 q) (hP : va_P D vwCl ws H)
    (kk : ∀ (r : Int32) (H1 : Heap) (locs1 : List Loc), post r → va_P D vwCl ws H1 → va_S A0 H0 H1 locs1 → W p l e R s m args below meth c H1 locs1 cells slots Q (F0 m (pc + 3) ls (.int r :: rest))) : W p l e R s m args below meth c H locs cells slots Q (F0 m pc ls st0) := by
  refine va_calli hr hS (fun q _ h => x_ro hS hA q h) (x_ro hS hA) (fun r u t H1 locs1 ht hvm hw hB hz hk hS1 => kk r H1 locs1 hw (hP.kept fun k q hq => hk q.1 (hP k q hq).lt ?_) hS1)
  intro h
  have hl := (hP k q hq).lt
  rcases h with ⟨k, e, h⟩ | h
  · simp at h
  · omega
/-- a call that changes its world -/
theorem x_wri {H0 : Heap} {S : Type} {post : Int32 → S → Prop} {Wf : S → va_W} (hr : va_Run p l e R s m args below meth c H locs cells slots mc ms (F0 m pc ls st0) rest (va_Qi post (xB D tys (va_A wc H.size) Wf) (va_A wc H.size) a) (va_A wc H.size)) (hS : va_S A0 H0 H locs) (hA : ∀ q, H0.size ≤ q → A0 q) (hP : va_P D vwCl ws H) (hD : va_D A0 ws)
    (isC isR : List Nat) (hC : isC.map (fun i => ws[i]?) = wc.map some) (hR : isR.map (fun i => ws[i]?) = (isR.filterMap (fun i => ws[i]?)).map some) (hn : va_nd isR = true) (hdis : ∀ i ∈ isR, i ∉ isC)
    (kk : ∀ (r : Int32) (u : S) (H1 : Heap) (locs1 : List Loc), post r u → va_P D vwCl (isR.filterMap (fun i => ws[i]?) ++ Wf u) H1 → va_D A0 (isR.filterMap (fun i => ws[i]?) ++ Wf u) → va_S A0 H0 H1 locs1 → W p l e R s m args below meth c H1 locs1 (cells + mc) (slots + ms) Q (F0 m (pc + 3) ls (.int r :: rest))) : W p l e R s m args below meth c H locs cells slots Q (F0 m pc ls st0) := by
  have hF := va_free (wc := wc) hD hS hA isC hC
  refine va_calli hr hS (fun q _ h => hF q h) hF (fun r u t H1 locs1 ht hvm hw hB hz hk hS1 => ?_)
  obtain ⟨hP1, -, hD1⟩ := hB
  rw [ht] at hP1
  obtain ⟨g1, g2⟩ := va_join hP hD isC isR hC hR hn hdis hk hF hP1 hD1
  exact kk r u H1 locs1 hw g1 g2 hS1
theorem x_wrv {H0 : Heap} {S : Type} {post : S → Prop} {Wf : S → va_W} (hr : va_Run p l e R s m args below meth c H locs cells slots mc ms (F0 m pc ls st0) rest (va_Qv post (xB D tys (va_A wc H.size) Wf) (va_A wc H.size) a) (va_A wc H.size)) (hS : va_S A0 H0 H locs) (hA : ∀ q, H0.size ≤ q → A0 q) (hP : va_P D vwCl ws H) (hD : va_D A0 ws)
    (isC isR : List Nat) (hC : isC.map (fun i => ws[i]?) = wc.map some) (hR : isR.map (fun i => ws[i]?) = (isR.filterMap (fun i => ws[i]?)).map some) (hn : va_nd isR = true) (hdis : ∀ i ∈ isR, i ∉ isC)
    (kk : ∀ (u : S) (H1 : Heap) (locs1 : List Loc), post u → va_P D vwCl (isR.filterMap (fun i => ws[i]?) ++ Wf u) H1 → va_D A0 (isR.filterMap (fun i => ws[i]?) ++ Wf u) → va_S A0 H0 H1 locs1 → W p l e R s m args below meth c H1 locs1 (cells + mc) (slots + ms) Q (F0 m (pc + 3) ls rest)) : W p l e R s m args below meth c H locs cells slots Q (F0 m pc ls st0) := by
  have hF := va_free (wc := wc) hD hS hA isC hC
  refine va_callv hr hS (fun q _ h => hF q h) hF (fun u t H1 locs1 ht hvm hw hB hz hk hS1 => ?_)
  obtain ⟨hP1, -, hD1⟩ := hB
  rw [ht] at hP1
  obtain ⟨g1, g2⟩ := va_join hP hD isC isR hC hR hn hdis hk hF hP1 hD1
  exact kk u H1 locs1 hw g1 g2 hS1
theorem lv_cv {x y : Int32} (h : x = y) (k : W p l e R s m args below meth c H locs cells slots Q (F0 m pc ls (.int y :: rest))) : W p l e R s m args below meth c H locs cells slots Q (F0 m pc ls (.int x :: rest)) := by rw [h]; exact k
end XC
/-- a contract: reads alone -/
abbrev MetR (l : Launch) (y : MethodName) (wl : List Cond) (rm : Room) (D : va_G) (tys : List (ClassId × FieldType)) (tt : Nat → Nat) (rt : List (Nat × Nat × (Nat → Int32))) (sz : Nat) (ws : va_W) (av : List Value) (post : Int32 → Prop) : Prop := Met l y wl rm (xP D tys tt rt (va_A [] sz) sz ws av) (va_Qi (fun r (_ : Unit) => post r) (fun _ _ => True) (va_A [] sz)) 0 0 (va_A [] sz)
/-- a contract that answers a number and changes its world -/
abbrev MetI {S : Type} (l : Launch) (y : MethodName) (wl : List Cond) (rm : Room) (D : va_G) (tys : List (ClassId × FieldType)) (tt : Nat → Nat) (rt : List (Nat × Nat × (Nat → Int32))) (sz : Nat) (ws : va_W) (av : List Value) (Wf : S → va_W) (post : Int32 → S → Prop) : Prop := Met l y wl rm (xP D tys tt rt (va_A ws sz) sz ws av) (va_Qi post (xB D tys (va_A ws sz) Wf) (va_A ws sz)) 0 0 (va_A ws sz)
abbrev MetV {S : Type} (l : Launch) (y : MethodName) (wl : List Cond) (rm : Room) (D : va_G) (tys : List (ClassId × FieldType)) (tt : Nat → Nat) (rt : List (Nat × Nat × (Nat → Int32))) (sz : Nat) (ws : va_W) (av : List Value) (Wf : S → va_W) (post : S → Prop) : Prop := Met l y wl rm (xP D tys tt rt (va_A ws sz) sz ws av) (va_Qv post (xB D tys (va_A ws sz) Wf) (va_A ws sz)) 0 0 (va_A ws sz)
end
section
def bI (b : Bool) : Int32 := if b = true then 1 else 0
theorem bI_0 {b : Bool} : bI b = 0 ↔ b = false := by cases b <;> decide
theorem bI_1 {b : Bool} : ¬ bI b = 0 ↔ b = true := by cases b <;> decide
theorem nbI (b : Bool) : narrow .boolean (.int (bI b)) = .int (bI b) := by cases b <;> rfl
theorem fbI (b : Bool) : fits .boolean (.int (bI b)) = true := by cases b <;> rfl
theorem bI_inj {a b : Bool} : bI a = bI b ↔ a = b := by cases a <;> cases b <;> decide
theorem nI_inc (k n : Nat) : nI k + Int32.ofInt (n : Int) = nI (k + n) := by rw [Int32.ofInt_eq_ofNat]; exact nI_add k n
theorem nI_dec {k : Nat} (h : 1 ≤ k) : nI k + Int32.ofInt (-1) = nI (k - 1) := by
  obtain ⟨j, rfl⟩ : ∃ j, k = j + 1 := ⟨k - 1, by omega⟩
  exact pk_m1 j
/-- a byte as the class holds it -/
def ub (b : Int8) : Int32 := Int8.toInt32 b &&& 255
theorem ub_nat (b : Int8) : ub b = nI b.toBitVec.toNat := by
  have key : ∀ n : Fin 256, (Int8.ofBitVec (BitVec.ofFin n)).toInt32 &&& 255 = nI n.val := by decide +kernel
  have h := key ⟨b.toBitVec.toNat, b.toBitVec.isLt⟩
  exact h
theorem ub_inj {a b : Int8} : ub a = ub b ↔ a = b := by
  rw [ub_nat, ub_nat, nI_eq (Nat.lt_trans a.toBitVec.isLt (by decide)) (Nat.lt_trans b.toBitVec.isLt (by decide))]
  constructor
  · intro h; exact Int8.toBitVec_inj.mp (BitVec.eq_of_toNat_eq h)
  · intro h; rw [h]
theorem ub_m1 : ub (-1) = nI 255 := by decide
theorem ub_of (x : Int32) : x &&& nI 255 = ub (Int32.toInt8 x) := by
  unfold ub
  apply Int32.toBitVec_inj.mp
  rw [Int32.toBitVec_and, Int32.toBitVec_and, Int8.toBitVec_toInt32, Int32.toBitVec_toInt8]
  apply BitVec.eq_of_getLsbD_eq
  intro i hi
  rw [BitVec.getLsbD_and, BitVec.getLsbD_and]
  have h255 : (nI 255).toBitVec.getLsbD i = decide (i < 8) := by
    have key : ∀ j : Fin 32, (nI 255).toBitVec.getLsbD j.val = decide (j.val < 8) := by decide +kernel
    exact key ⟨i, hi⟩
  have h255' : (255 : Int32).toBitVec.getLsbD i = decide (i < 8) := h255
  rw [h255, h255']
  by_cases h8 : i < 8
  · rw [BitVec.getLsbD_signExtend, if_pos h8, BitVec.getLsbD_signExtend, if_pos (show i < 32 from hi)]
    simp [h8, hi]
  · simp [h8]
theorem ub_and (a : Int8) (x : Int32) : ub a &&& x = ub (a &&& Int32.toInt8 x) := by
  have h1 : ub (a &&& Int32.toInt8 x) = ub (Int32.toInt8 (Int8.toInt32 a &&& x)) := by
    rw [Int32.toInt8_and]; congr 2; simp
  rw [h1, ← ub_of]
  show Int8.toInt32 a &&& 255 &&& x = Int8.toInt32 a &&& x &&& 255
  rw [Int32.and_assoc, Int32.and_assoc, Int32.and_comm 255 x]
theorem sb_and (a b : Int8) : Int8.toInt32 a &&& Int8.toInt32 b = Int8.toInt32 (a &&& b) := (Int8.toInt32_and a b).symm
theorem sb_8 (b : Int8) : Int32.toInt8 (Int8.toInt32 b) = b := by simp
theorem sb_i2b (b : Int8) : (Int8.toInt32 b).toInt8.toInt32 = Int8.toInt32 b := by rw [sb_8]
theorem sb_inj {a b : Int8} : Int8.toInt32 a = Int8.toInt32 b ↔ a = b := by
  constructor
  · intro h; rw [← sb_8 a, ← sb_8 b, h]
  · intro h; rw [h]
theorem ub_8 (b : Int8) : Int32.toInt8 (ub b) = b := by
  unfold ub
  rw [Int32.toInt8_and, sb_8]
  have h : (255 : Int32).toInt8 = -1 := by decide
  rw [h]; simp
theorem va_P0 (D : va_G) (H : Heap) : va_P D vwCl [] H := fun k q h => by simp at h
theorem va_D0 : va_D (fun _ => True) [] := ⟨fun i j p q h => by simp at h, fun k q h => by simp at h⟩
section XA
variable {p : Program} {l : Launch} {e : Env} {R : Room} {s : State} {m : MethodId} {args : Array Value} {below : List Frame} {meth : Method} {c : Code} {H : Heap} {locs : List Loc} {cells slots : Nat} {Q : State → Prop}
variable {cc : ByteArray} {pc : Nat} {ls : Array Slot} {rest : List Value} {D : va_G} {cl : List vw_C} {tys : List (ClassId × FieldType)} {ws : va_W} {A A0 : Nat → Prop} {H0 : Heap} {a : Nat}
theorem x_iald (hexec : p.tables.exec = Jvm.exec) (hb : c.code = cc) (hK : va_K D cl tys s) (hP : va_P D cl ws H) (q0 t0 : Nat) {cA : ClassId} {n : Nat} {f : Nat → Int32} (ha : ws[q0]? = some (a, .inl (cA, n, .inl f))) (ht : tys[t0]? = some (cA, .int)) {k : Nat} (hin : k < n) (hn : n < 2 ^ 31) (hdg : decode cc pc = .ok (.iaload, 1))
    (kk : W p l e R s m args below meth c H locs cells slots Q (F0 m (pc + 1) ls (.int (f k) :: rest))) : W p l e R s m args below meth c H locs cells slots Q (F0 m pc ls (.int (nI k) :: .ref a :: rest)) := by
  refine va_iald hexec hb hK hP q0 t0 ha ht (vp_in_nI hin hn) hdg ?_
  rw [nI_clamp (by omega)]; exact kk
theorem x_bald (hexec : p.tables.exec = Jvm.exec) (hb : c.code = cc) (hK : va_K D cl tys s) (hP : va_P D cl ws H) (q0 t0 : Nat) {cA : ClassId} {n : Nat} {f : Nat → Int32} (ha : ws[q0]? = some (a, .inl (cA, n, .inl f))) (ht : tys[t0]? = some (cA, .byte)) {k : Nat} (hin : k < n) (hn : n < 2 ^ 31) (hdg : decode cc pc = .ok (.baload, 1))
    (kk : W p l e R s m args below meth c H locs cells slots Q (F0 m (pc + 1) ls (.int (f k) :: rest))) : W p l e R s m args below meth c H locs cells slots Q (F0 m pc ls (.int (nI k) :: .ref a :: rest)) := by
  refine va_bald hexec hb hK hP q0 t0 ha ht (vp_in_nI hin hn) hdg ?_
  rw [nI_clamp (by omega)]; exact kk
theorem x_ti (hexec : p.tables.exec = Jvm.exec) (hb : c.code = cc) {t n : Nat} {f : Nat → Int32} (hT : va_T .int t n (fun j => .int (f j)) A s s.heap) (hS : va_S A s.heap H locs) {k : Nat} (hin : k < n) (hn : n < 2 ^ 31) (hdg : decode cc pc = .ok (.iaload, 1))
    (kk : W p l e R s m args below meth c H locs cells slots Q (F0 m (pc + 1) ls (.int (f k) :: rest))) : W p l e R s m args below meth c H locs cells slots Q (F0 m pc ls (.int (nI k) :: .ref t :: rest)) := by
  refine va_ti hexec hb hT hS (vp_in_nI hin hn) (v := .int (f k)) (by rw [nI_clamp (by omega)]) hdg kk
theorem x_iast (hexec : p.tables.exec = Jvm.exec) (hb : c.code = cc) (hK : va_K D cl tys s) (hP : va_P D cl ws H) (hD : va_D A ws) (hS : va_S A H0 H locs) (q0 t0 : Nat) {cA : ClassId} {n : Nat} {f : Nat → Int32} (ha : ws[q0]? = some (a, .inl (cA, n, .inl f))) (ht : tys[t0]? = some (cA, .int)) {k : Nat} {x : Int32} (hin : k < n) (hn : n < 2 ^ 31) (hdg : decode cc pc = .ok (.iastore, 1))
    (kk : ∀ (H1 : Heap) (locs1 : List Loc), va_P D cl (ws.set q0 (a, .inl (cA, n, .inl (upd f k x)))) H1 → va_D A (ws.set q0 (a, .inl (cA, n, .inl (upd f k x)))) → va_S A H0 H1 locs1 → W p l e R s m args below meth c H1 locs1 cells slots Q (F0 m (pc + 1) ls rest)) : W p l e R s m args below meth c H locs cells slots Q (F0 m pc ls (.int x :: .int (nI k) :: .ref a :: rest)) := by
  refine va_iast hexec hb hK hP hD hS q0 t0 ha ht (vp_in_nI hin hn) hdg ?_
  rw [nI_clamp (by omega)]; exact kk
/-- a byte into a row of the class -/
theorem x_ust (hexec : p.tables.exec = Jvm.exec) (hb : c.code = cc) (hK : va_K D cl tys s) (hP : va_P D cl ws H) (hD : va_D A ws) (hS : va_S A H0 H locs) (q0 t0 : Nat) {cA : ClassId} {n : Nat} {F : Nat → Int8} (ha : ws[q0]? = some (a, .inl (cA, n, .inl (fun j => ub (F j))))) (ht : tys[t0]? = some (cA, .int)) {k : Nat} {x : Int8} (hin : k < n) (hn : n < 2 ^ 31) (hdg : decode cc pc = .ok (.iastore, 1))
    (kk : ∀ (H1 : Heap) (locs1 : List Loc), va_P D cl (ws.set q0 (a, .inl (cA, n, .inl (fun j => ub (va_up F k x j))))) H1 → va_D A (ws.set q0 (a, .inl (cA, n, .inl (fun j => ub (va_up F k x j))))) → va_S A H0 H1 locs1 → W p l e R s m args below meth c H1 locs1 cells slots Q (F0 m (pc + 1) ls rest)) : W p l e R s m args below meth c H locs cells slots Q (F0 m pc ls (.int (ub x) :: .int (nI k) :: .ref a :: rest)) := by
  have he : (fun j => ub (va_up F k x j)) = upd (fun j => ub (F j)) k (ub x) := by
    funext j; unfold va_up upd; by_cases h : j = k <;> simp [h]
  rw [he] at kk
  exact x_iast hexec hb hK hP hD hS q0 t0 ha ht hin hn hdg kk
/-- a byte into a row of the reference -/
theorem x_sst (hexec : p.tables.exec = Jvm.exec) (hb : c.code = cc) (hK : va_K D cl tys s) (hP : va_P D cl ws H) (hD : va_D A ws) (hS : va_S A H0 H locs) (q0 t0 : Nat) {cA : ClassId} {n : Nat} {F : Nat → Int8} (ha : ws[q0]? = some (a, .inl (cA, n, .inl (fun j => Int8.toInt32 (F j))))) (ht : tys[t0]? = some (cA, .byte)) {k : Nat} {x : Int8} (hin : k < n) (hn : n < 2 ^ 31) (hdg : decode cc pc = .ok (.bastore, 1))
    (kk : ∀ (H1 : Heap) (locs1 : List Loc), va_P D cl (ws.set q0 (a, .inl (cA, n, .inl (fun j => Int8.toInt32 (va_up F k x j))))) H1 → va_D A (ws.set q0 (a, .inl (cA, n, .inl (fun j => Int8.toInt32 (va_up F k x j))))) → va_S A H0 H1 locs1 → W p l e R s m args below meth c H1 locs1 cells slots Q (F0 m (pc + 1) ls rest)) : W p l e R s m args below meth c H locs cells slots Q (F0 m pc ls (.int (Int8.toInt32 x) :: .int (nI k) :: .ref a :: rest)) := by
  have he : (fun j => Int8.toInt32 (va_up F k x j)) = upd (fun j => Int8.toInt32 (F j)) k (vp_nar .byte (Int8.toInt32 x)) := by
    funext j; unfold va_up upd; rw [vp_nar_byte, sb_8]; by_cases h : j = k <;> simp [h]
  rw [he] at kk
  refine va_bast hexec hb hK hP hD hS q0 t0 ha ht (vp_in_nI hin hn) hdg ?_
  rw [nI_clamp (by omega)]; exact kk
/-- a loop -/
theorem x_loop {σ : Type} {st : List Value} {nL : Nat} (Wd : σ → va_W) (Lv : σ → List (Nat × Value)) (I : σ → Prop) (μ : σ → Nat)
    (step : ∀ (x : σ) (H : Heap) (locs : List Loc) (ls : Array Slot), I x → va_P D cl (Wd x) H → va_D A (Wd x) → va_S A0 H0 H locs → lv_has ls nL (Lv x) →
      (∀ (y : σ) (H1 : Heap) (locs1 : List Loc) (ls1 : Array Slot), I y → μ y < μ x → va_P D cl (Wd y) H1 → va_D A (Wd y) → va_S A0 H0 H1 locs1 → lv_has ls1 nL (Lv y) → W p l e R s m args below meth c H1 locs1 cells slots Q (F0 m pc ls1 st)) →
      W p l e R s m args below meth c H locs cells slots Q (F0 m pc ls st))
    (x0 : σ) (h0 : I x0) (hP : va_P D cl (Wd x0) H) (hD : va_D A (Wd x0)) (hS : va_S A0 H0 H locs) (hl : lv_has ls nL (Lv x0)) : W p l e R s m args below meth c H locs cells slots Q (F0 m pc ls st) := by
  have key : ∀ (n : Nat) (x : σ) (H : Heap) (locs : List Loc) (ls : Array Slot), μ x < n → I x → va_P D cl (Wd x) H → va_D A (Wd x) → va_S A0 H0 H locs → lv_has ls nL (Lv x) → W p l e R s m args below meth c H locs cells slots Q (F0 m pc ls st) := by
    intro n
    induction n with
    | zero => intro x H locs ls h; omega
    | succ n ih =>
      intro x H locs ls hm hI hP hD hS hl
      exact step x H locs ls hI hP hD hS hl (fun y H1 locs1 ls1 hI1 hm1 hP1 hD1 hS1 hl1 => ih y H1 locs1 ls1 (by omega) hI1 hP1 hD1 hS1 hl1)
  exact key (μ x0 + 1) x0 H locs ls (Nat.lt_succ_self _) h0 hP hD hS hl
end XA
end
section
/-- the memory as both sides have it: bytes, times erased, down, told, acts left, units cut, acts done, times gone -/
abbrev K0 : Type := (Nat → Int8) × (Nat → Int32) × Bool × Bool × Nat × Nat × Int32 × Int32
abbrev mW (a1 a2 a3 a4 : Nat) (cI : ClassId) (k : K0) (ut : Nat → Int32) : va_W := [(a1, .inr (0, [.ref a2, .ref a3, .ref a4, .int (bI k.2.2.1), .int (bI k.2.2.2.1), .int (nI k.2.2.2.2.1), .int (nI k.2.2.2.2.2.1), .int k.2.2.2.2.2.2.1, .int k.2.2.2.2.2.2.2])), (a2, .inl (cI, 2816, .inl (fun j => ub (k.1 j)))), (a3, .inl (cI, 11, .inl k.2.1)), (a4, .inl (cI, 8, .inl ut))]
abbrev sW (a7 a8 a9 : Nat) (cI : ClassId) (sc hs : Nat → Int32) : va_W := [(a7, .inr (1, [.ref a8, .ref a9])), (a8, .inl (cI, 64, .inl sc)), (a9, .inl (cI, 8, .inl hs))]
abbrev tW (a5 a6 : Nat) (cI : ClassId) (tb : Nat → Int8) (tn : Nat) : va_W := [(a5, .inr (2, [.ref a6, .int (nI tn)])), (a6, .inl (cI, 1024, .inl (fun j => ub (tb j))))]
/-- a number is a place of a row of n -/
def inB (n : Nat) (x : Int32) : Bool := decide (¬ x < 0 ∧ ¬ nI n ≤ x)
theorem inB_of {n : Nat} {x : Int32} (hn : n < 2 ^ 31) (h : inB n x = true) : ∃ k : Nat, k < n ∧ x = nI k := by
  have h' := of_decide_eq_true h
  rcases pk_ix x hn with q | q | q
  · exact absurd q h'.1
  · exact absurd q h'.2
  · exact q
theorem inB_nI {n k : Nat} (h : k < n) (hn : n < 2 ^ 31) : inB n (nI k) = true := decide_eq_true ⟨nI_pos (by omega), fun q => absurd ((nI_leI hn (by omega)).mp q) (by omega)⟩
/-- four bytes as a number -/
def mI (F : Nat → Int8) (i : Nat) : Int32 := ((ub (F i) ||| (ub (F (i + 1)) <<< (nI 8 &&& 31))) ||| (ub (F (i + 2)) <<< (nI 16 &&& 31))) ||| (ub (F (i + 3)) <<< (nI 24 &&& 31))
/-- an act begins -/
def kBegin (k : K0) : K0 × Bool := if k.2.2.2.1 = true ∧ k.2.2.2.2.1 = 0 then ((k.1, k.2.1, true, k.2.2.2.1, k.2.2.2.2.1, k.2.2.2.2.2.1, k.2.2.2.2.2.2.1, k.2.2.2.2.2.2.2 + nI 1), false) else ((k.1, k.2.1, k.2.2.1, k.2.2.2.1, if k.2.2.2.1 = true then k.2.2.2.2.1 - 1 else k.2.2.2.2.1, k.2.2.2.2.2.1, k.2.2.2.2.2.2.1 + nI 1, k.2.2.2.2.2.2.2), true)
theorem kBegin_F (k : K0) : (kBegin k).1.1 = k.1 := by unfold kBegin; split <;> rfl
theorem kBegin_te (k : K0) : (kBegin k).1.2.1 = k.2.1 := by unfold kBegin; split <;> rfl
theorem kBegin_cu (k : K0) : (kBegin k).1.2.2.2.2.2.1 = k.2.2.2.2.2.1 := by unfold kBegin; split <;> rfl
theorem kBegin_dn (k : K0) (h : (kBegin k).2 = true) : (kBegin k).1.2.2.1 = k.2.2.1 := by
  unfold kBegin at h ⊢
  split
  · rename_i q; rw [if_pos q] at h; cases h
  · rfl
theorem kBegin_lf (k : K0) : (kBegin k).1.2.2.2.2.1 ≤ k.2.2.2.2.1 := by
  unfold kBegin; split
  · exact Nat.le_refl _
  · show (if k.2.2.2.1 = true then k.2.2.2.2.1 - 1 else k.2.2.2.2.1) ≤ _
    split <;> omega
def fillF (F : Nat → Int8) (a n : Nat) : Nat → Int8 := fun j => if a ≤ j ∧ j < a + n then -1 else F j
/-- a sector is erased, or its first units where power goes -/
def kErase (j : Nat) (k : K0) : K0 × Bool := ((fillF k.1 (j * 256) ((if (kBegin k).2 = true then 32 else k.2.2.2.2.2.1) * 8), upd k.2.1 j (k.2.1 j + nI 1), (kBegin k).1.2.2), (kBegin k).2)
theorem fillF_0 (F : Nat → Int8) (a : Nat) : fillF F a 0 = F := by funext j; unfold fillF; rw [if_neg (by omega)]
theorem fillF_step (F : Nat → Int8) (a i : Nat) : va_up (fillF F a i) (a + i) (-1) = fillF F a (i + 1) := by
  funext j
  unfold va_up fillF
  by_cases h : j = a + i
  · rw [if_pos h, if_pos (by omega)]
  · rw [if_neg h]
    by_cases h2 : a ≤ j ∧ j < a + i
    · rw [if_pos h2, if_pos (by omega)]
    · rw [if_neg h2, if_neg (by omega)]
def andFn (F : Nat → Int8) (p : Nat) (g : Nat → Int8) (n : Nat) : Nat → Int8 := fun j => if p ≤ j ∧ j < p + n then F j &&& g (j - p) else F j
theorem andFn_0 (F : Nat → Int8) (p : Nat) (g : Nat → Int8) : andFn F p g 0 = F := by funext j; unfold andFn; rw [if_neg (by omega)]
theorem andFn_at (F : Nat → Int8) (p : Nat) (g : Nat → Int8) (i : Nat) : andFn F p g i (p + i) = F (p + i) := by unfold andFn; rw [if_neg (by omega)]
theorem andFn_step (F : Nat → Int8) (p : Nat) (g : Nat → Int8) (i : Nat) : va_up (andFn F p g i) (p + i) (andFn F p g i (p + i) &&& g i) = andFn F p g (i + 1) := by
  rw [andFn_at]
  funext j
  unfold va_up andFn
  by_cases h : j = p + i
  · rw [if_pos h, if_pos (by omega), h, Nat.add_sub_cancel_left]
  · rw [if_neg h]
    by_cases h2 : p ≤ j ∧ j < p + i
    · rw [if_pos h2, if_pos (by omega)]
    · rw [if_neg h2, if_neg (by omega)]
/-- a unit is written -/
def kWrite (p : Nat) (g : Nat → Int8) (k : K0) : K0 × Bool := ((if (kBegin k).2 = true then andFn k.1 p g 8 else k.1, (kBegin k).1.2), (kBegin k).2)
def eqTo (f g : Nat → Int8) (n : Nat) : Bool := decide (∀ i, i < n → f i = g i)
theorem eqTo_0 (f g : Nat → Int8) : eqTo f g 0 = true := decide_eq_true (fun i h => absurd h (Nat.not_lt_zero i))
theorem eqTo_s (f g : Nat → Int8) (n : Nat) : eqTo f g (n + 1) = (eqTo f g n && decide (f n = g n)) := by
  unfold eqTo
  rw [← Bool.decide_and, decide_eq_decide]
  constructor
  · intro h; exact ⟨fun i hi => h i (by omega), h n (by omega)⟩
  · intro h i hi
    rcases Nat.lt_or_ge i n with q | q
    · exact h.1 i q
    · rw [show i = n by omega]; exact h.2
theorem eqTo_f {f g : Nat → Int8} {n i : Nat} (hi : i < n) (h : ¬ f i = g i) : eqTo f g n = false := decide_eq_false (fun z => h (z i hi))
theorem eqTo_c {f f' g g' : Nat → Int8} {n : Nat} (h : ∀ i, i < n → f i = f' i) (h2 : ∀ i, i < n → g i = g' i) : eqTo f g n = eqTo f' g' n := by
  unfold eqTo
  rw [decide_eq_decide]
  constructor
  · intro q i hi; rw [← h i hi, ← h2 i hi]; exact q i hi
  · intro q i hi; rw [h i hi, h2 i hi]; exact q i hi
abbrev blkTo (g : Nat → Int8) (n : Nat) : Bool := eqTo g (fun _ => -1) n
theorem blkTo_0 (g : Nat → Int8) : blkTo g 0 = true := eqTo_0 _ _
theorem blkTo_s (g : Nat → Int8) (n : Nat) : blkTo g (n + 1) = (blkTo g n && decide (g n = -1)) := eqTo_s _ _ n
def unitG (G : Nat → Int8) (fr en : Nat) : Nat → Int8 := fun i => if i < 8 ∧ fr + i < en then G (fr + i) else -1
/-- acts: a sector to be erased; a unit to be written, with its bytes -/
abbrev Act : Type := Nat ⊕ (Nat × (Nat → Int8))
def kAct (x : Act) (k : K0) : K0 × Bool := match x with
  | .inl j => kErase j k
  | .inr q => kWrite q.1 q.2 k
def kActs : List Act → K0 → K0 × Bool
  | [], k => (k, true)
  | x :: r, k => if (kAct x k).2 = true then kActs r (kAct x k).1 else kAct x k
theorem kActs_cons (x : Act) (r : List Act) (k : K0) : kActs (x :: r) k = if (kAct x k).2 = true then kActs r (kAct x k).1 else kAct x k := rfl
theorem kActs_nil (k : K0) : kActs [] k = (k, true) := rfl
theorem kActs_app (L M : List Act) (k : K0) : kActs (L ++ M) k = if (kActs L k).2 = true then kActs M (kActs L k).1 else kActs L k := by
  induction L generalizing k with
  | nil => rfl
  | cons x r ih =>
    rw [List.cons_append, kActs_cons, kActs_cons]
    by_cases h : (kAct x k).2 = true
    · rw [if_pos h, if_pos h, ih]
    · rw [if_neg h, if_neg h, if_neg h]
theorem kActs_one (x : Act) (k : K0) : kActs [x] k = kAct x k := by
  rw [kActs_cons]
  by_cases h : (kAct x k).2 = true
  · rw [if_pos h, kActs_nil]
    exact Prod.ext rfl h.symm
  · rw [if_neg h]
def b8 (b : Int8) : Nat := b.toBitVec.toNat
theorem b8_lt (b : Int8) : b8 b < 256 := b.toBitVec.isLt
theorem b8_inj {a b : Int8} : b8 a = b8 b ↔ a = b := ⟨fun h => Int8.toBitVec_inj.mp (BitVec.eq_of_toNat_eq h), fun h => by rw [h]⟩
theorem ub_b8 (b : Int8) : ub b = nI (b8 b) := ub_nat b
/-- a mark: what it is set with, 0 if it is not set -/
def setN (F : Nat → Int8) (p : Nat) : Nat := if 1 ≤ b8 (F p) ∧ b8 (F p) ≤ 3 ∧ eqTo (fun i => F (p + i)) (fun _ => F p) 8 = true then b8 (F p) else 0
theorem setN_le (F : Nat → Int8) (p : Nat) : setN F p ≤ 3 := by unfold setN; split <;> omega
def magG (i : Nat) : Int8 := Int32.toInt8 (tbM i)
theorem tbM_ub (i : Nat) (hi : i < 8) : tbM i = ub (magG i) := by
  have key : ∀ j : Fin 8, tbM j.val = ub (magG j.val) := by decide +kernel
  exact key ⟨i, hi⟩
def magB (F : Nat → Int8) (p : Nat) : Bool := eqTo (fun i => F (p + i)) magG 8
end
section
set_option maxHeartbeats 4000000 in
set_option maxRecDepth 100000 in
theorem kX0_has (l : Launch) (dC : Nat → ClassId) (dI : Nat → Nat → Nat) (tt : Nat → Nat) (cI cB : ClassId) (sz : Nat) (x : Int32)  : MetR l yX0_has wsX0_has { frames := 0, cells := 0, slots := 0, locals := 0 } (dC, dI) [(cI, .int), (cB, .byte)] tt [] sz ([]) [.int x] (fun r => r = bI (inB 2816 x)) := by
  refine Met.ofW (cc := cX0_has) (maxL := 1) (ret := (some .boolean)) (by decide) rfl ?_
  intro p e s m args below meth c s₁ B hml hv
  obtain ⟨rfl, hsz, hP, hK, hD0, hE⟩ := hv
  have hx := B.exec
  have hb := B.bytes
  have hr := B.returns
  have hts := atoms_spec (ws := wsX0_has) B.pre
  have hown : s.vm.findClass RX0 = some m.cls := findClass_of_methodNamed B.named
  have hlocks := B.notSynchronized
  subst hsz
  have hD := hD0
  generalize hAe : va_A [] s.heap.size = A at hE ⊢
  have hA : ∀ q : Nat, s.heap.size ≤ q → A q := fun q h => by rw [← hAe]; exact Or.inr h
  have hS : va_S A s.heap s.heap [] := va_S.rf
  have hl := lv_entry ([.int x]) (n := 1) (Nat.le_of_ble_eq_true rfl)
  rw [lg_entry_eq]
  generalize (lg_sl ([.int x]) ++ List.replicate (1 - (lg_sl ([.int x])).length) Slot.unset).toArray = ls at hl ⊢
  have hl : lv_has ls 1 [(0, .int x)] := hl
  refine lv_iload_n (pc := 0) hx hb dX0_has_0 rfl (lv_at hl 0 rfl) ?_
  refine lv_if_lt (pc := 1) (tgt := 15) hx hb dX0_has_1 (by decide) (fun c1 => ?_) (fun c1 => ?_)
  · skip
    refine lv_iconst (pc := 15) (v := nI 0) hx hb dX0_has_15 (by decide) ?_
    exact W.zret (v := nI 0) hx hb hr rfl (fun t ht hW => ⟨⟨nI 0, (), rfl, by rw [show inB 2816 x = false from decide_eq_false (fun z => by first | exact z.1 c1 | exact z.2 c2)]; rfl, trivial⟩, hS.F ht⟩) hS.2.2 dX0_has_16
  · skip
    refine lv_iload_n (pc := 4) hx hb dX0_has_4 rfl (lv_at hl 0 rfl) ?_
    refine lv_sipush (pc := 5) (v := nI 2816) hx hb dX0_has_5 (by decide) ?_
    refine lv_icmp_ge (pc := 8) (tgt := 15) hx hb dX0_has_8 (by decide) (fun c2 => ?_) (fun c2 => ?_)
    · skip
      refine lv_iconst (pc := 15) (v := nI 0) hx hb dX0_has_15 (by decide) ?_
      exact W.zret (v := nI 0) hx hb hr rfl (fun t ht hW => ⟨⟨nI 0, (), rfl, by rw [show inB 2816 x = false from decide_eq_false (fun z => by first | exact z.1 c1 | exact z.2 c2)]; rfl, trivial⟩, hS.F ht⟩) hS.2.2 dX0_has_16
    · skip
      refine lv_iconst (pc := 11) (v := nI 1) hx hb dX0_has_11 (by decide) ?_
      refine lv_goto (pc := 12) (tgt := 16) hx hb dX0_has_12 (by decide) ?_
      exact W.zret (v := nI 1) hx hb hr rfl (fun t ht hW => ⟨⟨nI 1, (), rfl, by rw [show inB 2816 x = true from decide_eq_true ⟨c1, c2⟩]; rfl, trivial⟩, hS.F ht⟩) hS.2.2 dX0_has_16
set_option maxHeartbeats 4000000 in
set_option maxRecDepth 100000 in
theorem kX0_hasSector (l : Launch) (dC : Nat → ClassId) (dI : Nat → Nat → Nat) (tt : Nat → Nat) (cI cB : ClassId) (sz : Nat) (x : Int32)  : MetR l yX0_hasSector wsX0_hasSector { frames := 0, cells := 0, slots := 0, locals := 0 } (dC, dI) [(cI, .int), (cB, .byte)] tt [] sz ([]) [.int x] (fun r => r = bI (inB 11 x)) := by
  refine Met.ofW (cc := cX0_hasSector) (maxL := 1) (ret := (some .boolean)) (by decide) rfl ?_
  intro p e s m args below meth c s₁ B hml hv
  obtain ⟨rfl, hsz, hP, hK, hD0, hE⟩ := hv
  have hx := B.exec
  have hb := B.bytes
  have hr := B.returns
  have hts := atoms_spec (ws := wsX0_hasSector) B.pre
  have hown : s.vm.findClass RX0 = some m.cls := findClass_of_methodNamed B.named
  have hlocks := B.notSynchronized
  subst hsz
  have hD := hD0
  generalize hAe : va_A [] s.heap.size = A at hE ⊢
  have hA : ∀ q : Nat, s.heap.size ≤ q → A q := fun q h => by rw [← hAe]; exact Or.inr h
  have hS : va_S A s.heap s.heap [] := va_S.rf
  have hl := lv_entry ([.int x]) (n := 1) (Nat.le_of_ble_eq_true rfl)
  rw [lg_entry_eq]
  generalize (lg_sl ([.int x]) ++ List.replicate (1 - (lg_sl ([.int x])).length) Slot.unset).toArray = ls at hl ⊢
  have hl : lv_has ls 1 [(0, .int x)] := hl
  refine lv_iload_n (pc := 0) hx hb dX0_hasSector_0 rfl (lv_at hl 0 rfl) ?_
  refine lv_if_lt (pc := 1) (tgt := 14) hx hb dX0_hasSector_1 (by decide) (fun c1 => ?_) (fun c1 => ?_)
  · skip
    refine lv_iconst (pc := 14) (v := nI 0) hx hb dX0_hasSector_14 (by decide) ?_
    exact W.zret (v := nI 0) hx hb hr rfl (fun t ht hW => ⟨⟨nI 0, (), rfl, by rw [show inB 11 x = false from decide_eq_false (fun z => by first | exact z.1 c1 | exact z.2 c2)]; rfl, trivial⟩, hS.F ht⟩) hS.2.2 dX0_hasSector_15
  · skip
    refine lv_iload_n (pc := 4) hx hb dX0_hasSector_4 rfl (lv_at hl 0 rfl) ?_
    refine lv_bipush (pc := 5) (v := nI 11) hx hb dX0_hasSector_5 (by decide) ?_
    refine lv_icmp_ge (pc := 7) (tgt := 14) hx hb dX0_hasSector_7 (by decide) (fun c2 => ?_) (fun c2 => ?_)
    · skip
      refine lv_iconst (pc := 14) (v := nI 0) hx hb dX0_hasSector_14 (by decide) ?_
      exact W.zret (v := nI 0) hx hb hr rfl (fun t ht hW => ⟨⟨nI 0, (), rfl, by rw [show inB 11 x = false from decide_eq_false (fun z => by first | exact z.1 c1 | exact z.2 c2)]; rfl, trivial⟩, hS.F ht⟩) hS.2.2 dX0_hasSector_15
    · skip
      refine lv_iconst (pc := 10) (v := nI 1) hx hb dX0_hasSector_10 (by decide) ?_
      refine lv_goto (pc := 11) (tgt := 15) hx hb dX0_hasSector_11 (by decide) ?_
      exact W.zret (v := nI 1) hx hb hr rfl (fun t ht hW => ⟨⟨nI 1, (), rfl, by rw [show inB 11 x = true from decide_eq_true ⟨c1, c2⟩]; rfl, trivial⟩, hS.F ht⟩) hS.2.2 dX0_hasSector_15
set_option maxHeartbeats 4000000 in
set_option maxRecDepth 100000 in
theorem kX0_unitAt (l : Launch) (dC : Nat → ClassId) (dI : Nat → Nat → Nat) (tt : Nat → Nat) (cI cB : ClassId) (sz : Nat) (i j : Nat)  : MetR l yX0_unitAt wsX0_unitAt { frames := 0, cells := 0, slots := 0, locals := 0 } (dC, dI) [(cI, .int), (cB, .byte)] tt [] sz ([]) [.int (nI i), .int (nI j)] (fun r => r = nI (i * 256 + j * 8)) := by
  refine Met.ofW (cc := cX0_unitAt) (maxL := 2) (ret := (some .int)) (by decide) rfl ?_
  intro p e s m args below meth c s₁ B hml hv
  obtain ⟨rfl, hsz, hP, hK, hD0, hE⟩ := hv
  have hx := B.exec
  have hb := B.bytes
  have hr := B.returns
  have hts := atoms_spec (ws := wsX0_unitAt) B.pre
  have hown : s.vm.findClass RX0 = some m.cls := findClass_of_methodNamed B.named
  have hlocks := B.notSynchronized
  subst hsz
  have hD := hD0
  generalize hAe : va_A [] s.heap.size = A at hE ⊢
  have hA : ∀ q : Nat, s.heap.size ≤ q → A q := fun q h => by rw [← hAe]; exact Or.inr h
  have hS : va_S A s.heap s.heap [] := va_S.rf
  have hl := lv_entry ([.int (nI i), .int (nI j)]) (n := 2) (Nat.le_of_ble_eq_true rfl)
  rw [lg_entry_eq]
  generalize (lg_sl ([.int (nI i), .int (nI j)]) ++ List.replicate (2 - (lg_sl ([.int (nI i), .int (nI j)])).length) Slot.unset).toArray = ls at hl ⊢
  have hl : lv_has ls 2 [(0, .int (nI i)), (1, .int (nI j))] := hl
  refine lv_iload_n (pc := 0) hx hb dX0_unitAt_0 rfl (lv_at hl 0 rfl) ?_
  refine lv_sipush (pc := 1) (v := nI 256) hx hb dX0_unitAt_1 (by decide) ?_
  refine lv_imul (pc := 4) hx hb dX0_unitAt_4 ?_
  refine lv_cv (pk_mul i 256) ?_
  refine lv_iload_n (pc := 5) hx hb dX0_unitAt_5 rfl (lv_at hl 1 rfl) ?_
  refine lv_bipush (pc := 6) (v := nI 8) hx hb dX0_unitAt_6 (by decide) ?_
  refine lv_imul (pc := 8) hx hb dX0_unitAt_8 ?_
  refine lv_cv (pk_mul j 8) ?_
  refine lv_iadd (pc := 9) hx hb dX0_unitAt_9 ?_
  refine lv_cv (nI_add (i * 256) (j * 8)) ?_
  exact W.iret (v := nI ((i * 256) + (j * 8))) hx hb hr (fun t ht hW => ⟨⟨nI ((i * 256) + (j * 8)), (), rfl, rfl, trivial⟩, hS.F ht⟩) hS.2.2 dX0_unitAt_10
set_option maxHeartbeats 4000000 in
set_option maxRecDepth 100000 in
theorem kX0_byteAt (l : Launch) (dC : Nat → ClassId) (dI : Nat → Nat → Nat) (tt : Nat → Nat) (cI cB : ClassId) (sz : Nat) (a1 a2 a3 a4 : Nat) (k : K0) (ut : Nat → Int32) (i : Nat) (hi : i < 2816) : MetR l yX0_byteAt wsX0_byteAt { frames := 0, cells := 0, slots := 0, locals := 0 } (dC, dI) [(cI, .int), (cB, .byte)] tt [] sz (mW a1 a2 a3 a4 cI k ut) [.ref a1, .int (nI i)] (fun r => r = ub (k.1 i)) := by
  refine Met.ofW (cc := cX0_byteAt) (maxL := 2) (ret := (some .int)) (by decide) rfl ?_
  intro p e s m args below meth c s₁ B hml hv
  obtain ⟨rfl, hsz, hP, hK, hD0, hE⟩ := hv
  have hx := B.exec
  have hb := B.bytes
  have hr := B.returns
  have hts := atoms_spec (ws := wsX0_byteAt) B.pre
  have hown : s.vm.findClass RX0 = some m.cls := findClass_of_methodNamed B.named
  have hlocks := B.notSynchronized
  subst hsz
  obtain ⟨F, te, dn, tl, lf, cu, ac, gn⟩ := k
  have hD := hD0
  generalize hAe : va_A [] s.heap.size = A at hE ⊢
  have hA : ∀ q : Nat, s.heap.size ≤ q → A q := fun q h => by rw [← hAe]; exact Or.inr h
  have hS : va_S A s.heap s.heap [] := va_S.rf
  have hl := lv_entry ([.ref a1, .int (nI i)]) (n := 2) (Nat.le_of_ble_eq_true rfl)
  rw [lg_entry_eq]
  generalize (lg_sl ([.ref a1, .int (nI i)]) ++ List.replicate (2 - (lg_sl ([.ref a1, .int (nI i)])).length) Slot.unset).toArray = ls at hl ⊢
  have hl : lv_has ls 2 [(0, .ref a1), (1, .int (nI i))] := hl
  have hP : va_P (dC, dI) vwCl (mW a1 a2 a3 a4 cI (F, te, dn, tl, lf, cu, ac, gn) ut) s.heap := hP
  refine lv_iload_n (pc := 0) hx hb dX0_byteAt_0 rfl (lv_at hl 1 rfl) ?_
  refine lv_if_lt (pc := 1) (tgt := 20) hx hb dX0_byteAt_1 (by decide) (fun c_1 => ?_) (fun c_1 => ?_)
  · skip
    have c_1 : i < 0 := (nI_ltI (a := i) (b := 0) (by omega) (by omega)).mp c_1
    exfalso; omega
  · skip
    have c_1 : ¬ i < 0 := fun z => c_1 ((nI_ltI (a := i) (b := 0) (by omega) (by omega)).mpr z)
    refine lv_iload_n (pc := 4) hx hb dX0_byteAt_4 rfl (lv_at hl 1 rfl) ?_
    refine lv_sipush (pc := 5) (v := nI 2816) hx hb dX0_byteAt_5 (by decide) ?_
    refine lv_icmp_ge (pc := 8) (tgt := 20) hx hb dX0_byteAt_8 (by decide) (fun c_2 => ?_) (fun c_2 => ?_)
    · skip
      have c_2 : 2816 ≤ i := (nI_leI (a := 2816) (b := i) (by omega) (by omega)).mp c_2
      exfalso; omega
    · skip
      have c_2 : ¬ 2816 ≤ i := fun z => c_2 ((nI_leI (a := 2816) (b := i) (by omega) (by omega)).mpr z)
      refine lv_aload_n (pc := 11) hx hb dX0_byteAt_11 rfl (lv_at hl 0 rfl) ?_
      refine va_get (pc := 12) (D := (dC, dI)) (ci := 0) (v := .ref a2) (C := RX0) (T := TX0) (N := 9) hx hb hts (by decide +kernel) hown hK hP 0 rfl rfl 0 (by decide) (hts (.fieldLink RX0 9 "ScratchSwap$Memory" "bytes" "[I") (by decide +kernel)) (fun _ h9 => h9) rfl dX0_byteAt_12 ?_
      refine lv_iload_n (pc := 15) hx hb dX0_byteAt_15 rfl (lv_at hl 1 rfl) ?_
      refine x_iald (pc := 16) (k := i) (f := fun j => ub (F j)) hx hb hK hP 1 0 rfl rfl (by omega) (by decide) dX0_byteAt_16 ?_
      refine lv_goto (pc := 17) (tgt := 23) hx hb dX0_byteAt_17 (by decide) ?_
      exact W.iret (v := ub (F i)) hx hb hr (fun t ht hW => ⟨⟨ub (F i), (), rfl, rfl, trivial⟩, hS.F ht⟩) hS.2.2 dX0_byteAt_23
set_option maxHeartbeats 4000000 in
set_option maxRecDepth 100000 in
theorem kX0_intAt (l : Launch) (dC : Nat → ClassId) (dI : Nat → Nat → Nat) (tt : Nat → Nat) (cI cB : ClassId) (sz : Nat) (a1 a2 a3 a4 : Nat) (k : K0) (ut : Nat → Int32) (i : Nat) (hi : i + 3 < 2816) : MetR l yX0_intAt wsX0_intAt { frames := 1, cells := 0, slots := 0, locals := 21 } (dC, dI) [(cI, .int), (cB, .byte)] tt [] sz (mW a1 a2 a3 a4 cI k ut) [.ref a1, .int (nI i)] (fun r => r = mI k.1 i) := by
  refine Met.ofW (cc := cX0_intAt) (maxL := 2) (ret := (some .int)) (by decide) rfl ?_
  intro p e s m args below meth c s₁ B hml hv
  obtain ⟨rfl, hsz, hP, hK, hD0, hE⟩ := hv
  have hx := B.exec
  have hb := B.bytes
  have hr := B.returns
  have hts := atoms_spec (ws := wsX0_intAt) B.pre
  have hown : s.vm.findClass RX0 = some m.cls := findClass_of_methodNamed B.named
  have hlocks := B.notSynchronized
  subst hsz
  have hD := hD0
  generalize hAe : va_A [] s.heap.size = A at hE ⊢
  have hA : ∀ q : Nat, s.heap.size ≤ q → A q := fun q h => by rw [← hAe]; exact Or.inr h
  have hS : va_S A s.heap s.heap [] := va_S.rf
  have hl := lv_entry ([.ref a1, .int (nI i)]) (n := 2) (Nat.le_of_ble_eq_true rfl)
  rw [lg_entry_eq]
  generalize (lg_sl ([.ref a1, .int (nI i)]) ++ List.replicate (2 - (lg_sl ([.ref a1, .int (nI i)])).length) Slot.unset).toArray = ls at hl ⊢
  have hl : lv_has ls 2 [(0, .ref a1), (1, .int (nI i))] := hl
  have hP : va_P (dC, dI) vwCl (mW a1 a2 a3 a4 cI k ut) s.heap := hP
  refine lv_aload_n (pc := 0) hx hb dX0_intAt_0 rfl (lv_at hl 0 rfl) ?_
  refine lv_iload_n (pc := 1) hx hb dX0_intAt_1 rfl (lv_at hl 1 rfl) ?_
  refine x_roi (pc := 2) (va_runV (As := [.int (nI i)]) (rest := []) ⟨hx, hb, hml, hown, hts⟩ (kX0_byteAt l dC dI tt cI cB _ a1 a2 a3 a4 k ut i (by omega)) (cwV 1 hts gX0_intAt_X0_byteAt rfl rfl rfl (by decide +kernel) ⟨Nat.le_of_ble_eq_true rfl, Nat.le_of_ble_eq_true rfl⟩) (x_preV hS hE hK hP hD [0, 1, 2, 3] rfl (by decide) (x_ro hS hA) xR0 0 0 rfl rfl) rfl rfl hl.1 rfl (lv_room (Nat.le_of_ble_eq_true rfl)) dX0_intAt_2 ⟨Nat.le_of_ble_eq_true rfl, Nat.le_of_ble_eq_true rfl⟩) hS hA hP (fun r_1 H locs hr_1 hP hS => ?_)
  subst hr_1
  refine lv_aload_n (pc := 5) hx hb dX0_intAt_5 rfl (lv_at hl 0 rfl) ?_
  refine lv_iload_n (pc := 6) hx hb dX0_intAt_6 rfl (lv_at hl 1 rfl) ?_
  refine lv_iconst (pc := 7) (v := nI 1) hx hb dX0_intAt_7 (by decide) ?_
  refine lv_iadd (pc := 8) hx hb dX0_intAt_8 ?_
  refine lv_cv (nI_add i 1) ?_
  refine x_roi (pc := 9) (va_runV (As := [.int (nI (i + 1))]) (rest := [.int (ub (k.1 i))]) ⟨hx, hb, hml, hown, hts⟩ (kX0_byteAt l dC dI tt cI cB _ a1 a2 a3 a4 k ut (i + 1) (by omega)) (cwV 1 hts gX0_intAt_X0_byteAt rfl rfl rfl (by decide +kernel) ⟨Nat.le_of_ble_eq_true rfl, Nat.le_of_ble_eq_true rfl⟩) (x_preV hS hE hK hP hD [0, 1, 2, 3] rfl (by decide) (x_ro hS hA) xR0 0 0 rfl rfl) rfl rfl hl.1 rfl (lv_room (Nat.le_of_ble_eq_true rfl)) dX0_intAt_9 ⟨Nat.le_of_ble_eq_true rfl, Nat.le_of_ble_eq_true rfl⟩) hS hA hP (fun r_2 H locs hr_2 hP hS => ?_)
  subst hr_2
  refine lv_bipush (pc := 12) (v := nI 8) hx hb dX0_intAt_12 (by decide) ?_
  refine lv_ishl (pc := 14) hx hb dX0_intAt_14 ?_
  refine lv_ior (pc := 15) hx hb dX0_intAt_15 ?_
  refine lv_aload_n (pc := 16) hx hb dX0_intAt_16 rfl (lv_at hl 0 rfl) ?_
  refine lv_iload_n (pc := 17) hx hb dX0_intAt_17 rfl (lv_at hl 1 rfl) ?_
  refine lv_iconst (pc := 18) (v := nI 2) hx hb dX0_intAt_18 (by decide) ?_
  refine lv_iadd (pc := 19) hx hb dX0_intAt_19 ?_
  refine lv_cv (nI_add i 2) ?_
  refine x_roi (pc := 20) (va_runV (As := [.int (nI (i + 2))]) (rest := [.int ((ub (k.1 i)) ||| ((ub (k.1 (i + 1))) <<< ((nI 8) &&& 31)))]) ⟨hx, hb, hml, hown, hts⟩ (kX0_byteAt l dC dI tt cI cB _ a1 a2 a3 a4 k ut (i + 2) (by omega)) (cwV 1 hts gX0_intAt_X0_byteAt rfl rfl rfl (by decide +kernel) ⟨Nat.le_of_ble_eq_true rfl, Nat.le_of_ble_eq_true rfl⟩) (x_preV hS hE hK hP hD [0, 1, 2, 3] rfl (by decide) (x_ro hS hA) xR0 0 0 rfl rfl) rfl rfl hl.1 rfl (lv_room (Nat.le_of_ble_eq_true rfl)) dX0_intAt_20 ⟨Nat.le_of_ble_eq_true rfl, Nat.le_of_ble_eq_true rfl⟩) hS hA hP (fun r_3 H locs hr_3 hP hS => ?_)
  subst hr_3
  refine lv_bipush (pc := 23) (v := nI 16) hx hb dX0_intAt_23 (by decide) ?_
  refine lv_ishl (pc := 25) hx hb dX0_intAt_25 ?_
  refine lv_ior (pc := 26) hx hb dX0_intAt_26 ?_
  refine lv_aload_n (pc := 27) hx hb dX0_intAt_27 rfl (lv_at hl 0 rfl) ?_
  refine lv_iload_n (pc := 28) hx hb dX0_intAt_28 rfl (lv_at hl 1 rfl) ?_
  refine lv_iconst (pc := 29) (v := nI 3) hx hb dX0_intAt_29 (by decide) ?_
  refine lv_iadd (pc := 30) hx hb dX0_intAt_30 ?_
  refine lv_cv (nI_add i 3) ?_
  refine x_roi (pc := 31) (va_runV (As := [.int (nI (i + 3))]) (rest := [.int (((ub (k.1 i)) ||| ((ub (k.1 (i + 1))) <<< ((nI 8) &&& 31))) ||| ((ub (k.1 (i + 2))) <<< ((nI 16) &&& 31)))]) ⟨hx, hb, hml, hown, hts⟩ (kX0_byteAt l dC dI tt cI cB _ a1 a2 a3 a4 k ut (i + 3) (by omega)) (cwV 1 hts gX0_intAt_X0_byteAt rfl rfl rfl (by decide +kernel) ⟨Nat.le_of_ble_eq_true rfl, Nat.le_of_ble_eq_true rfl⟩) (x_preV hS hE hK hP hD [0, 1, 2, 3] rfl (by decide) (x_ro hS hA) xR0 0 0 rfl rfl) rfl rfl hl.1 rfl (lv_room (Nat.le_of_ble_eq_true rfl)) dX0_intAt_31 ⟨Nat.le_of_ble_eq_true rfl, Nat.le_of_ble_eq_true rfl⟩) hS hA hP (fun r_4 H locs hr_4 hP hS => ?_)
  subst hr_4
  refine lv_bipush (pc := 34) (v := nI 24) hx hb dX0_intAt_34 (by decide) ?_
  refine lv_ishl (pc := 36) hx hb dX0_intAt_36 ?_
  refine lv_ior (pc := 37) hx hb dX0_intAt_37 ?_
  exact W.iret (v := (((ub (k.1 i)) ||| ((ub (k.1 (i + 1))) <<< ((nI 8) &&& 31))) ||| ((ub (k.1 (i + 2))) <<< ((nI 16) &&& 31))) ||| ((ub (k.1 (i + 3))) <<< ((nI 24) &&& 31))) hx hb hr (fun t ht hW => ⟨⟨(((ub (k.1 i)) ||| ((ub (k.1 (i + 1))) <<< ((nI 8) &&& 31))) ||| ((ub (k.1 (i + 2))) <<< ((nI 16) &&& 31))) ||| ((ub (k.1 (i + 3))) <<< ((nI 24) &&& 31)), (), rfl, rfl, trivial⟩, hS.F ht⟩) hS.2.2 dX0_intAt_38
set_option maxHeartbeats 4000000 in
set_option maxRecDepth 100000 in
theorem kX0_keepBits (l : Launch) (dC : Nat → ClassId) (dI : Nat → Nat → Nat) (tt : Nat → Nat) (cI cB : ClassId) (sz : Nat) (a1 a2 a3 a4 : Nat) (k : K0) (ut : Nat → Int32) (i : Nat) (x : Int32) (hi : i < 2816) : MetV (S := (Nat → Int8)) l yX0_keepBits wsX0_keepBits { frames := 0, cells := 0, slots := 0, locals := 0 } (dC, dI) [(cI, .int), (cB, .byte)] tt [] sz (mW a1 a2 a3 a4 cI k ut) [.ref a1, .int (nI i), .int x] (fun u : (Nat → Int8) => mW a1 a2 a3 a4 cI (u, k.2) ut) (fun u => u = va_up k.1 i (k.1 i &&& Int32.toInt8 x)) := by
  refine Met.ofW (cc := cX0_keepBits) (maxL := 3) (ret := none) (by decide) rfl ?_
  intro p e s m args below meth c s₁ B hml hv
  obtain ⟨rfl, hsz, hP, hK, hD0, hE⟩ := hv
  have hx := B.exec
  have hb := B.bytes
  have hr := B.returns
  have hts := atoms_spec (ws := wsX0_keepBits) B.pre
  have hown : s.vm.findClass RX0 = some m.cls := findClass_of_methodNamed B.named
  have hlocks := B.notSynchronized
  subst hsz
  obtain ⟨F, te, dn, tl, lf, cu, ac, gn⟩ := k
  have hD := hD0.self (sz := s.heap.size)
  generalize hAe : va_A (mW a1 a2 a3 a4 cI (F, te, dn, tl, lf, cu, ac, gn) ut) s.heap.size = A at hD hE ⊢
  have hA : ∀ q : Nat, s.heap.size ≤ q → A q := fun q h => by rw [← hAe]; exact Or.inr h
  have hS : va_S A s.heap s.heap [] := va_S.rf
  have hl := lv_entry ([.ref a1, .int (nI i), .int x]) (n := 3) (Nat.le_of_ble_eq_true rfl)
  rw [lg_entry_eq]
  generalize (lg_sl ([.ref a1, .int (nI i), .int x]) ++ List.replicate (3 - (lg_sl ([.ref a1, .int (nI i), .int x])).length) Slot.unset).toArray = ls at hl ⊢
  have hl : lv_has ls 3 [(0, .ref a1), (1, .int (nI i)), (2, .int x)] := hl
  have hP : va_P (dC, dI) vwCl (mW a1 a2 a3 a4 cI (F, te, dn, tl, lf, cu, ac, gn) ut) s.heap := hP
  refine lv_iload_n (pc := 0) hx hb dX0_keepBits_0 rfl (lv_at hl 1 rfl) ?_
  refine lv_if_lt (pc := 1) (tgt := 21) hx hb dX0_keepBits_1 (by decide) (fun c_1 => ?_) (fun c_1 => ?_)
  · skip
    have c_1 : i < 0 := (nI_ltI (a := i) (b := 0) (by omega) (by omega)).mp c_1
    exfalso; omega
  · skip
    have c_1 : ¬ i < 0 := fun z => c_1 ((nI_ltI (a := i) (b := 0) (by omega) (by omega)).mpr z)
    refine lv_iload_n (pc := 4) hx hb dX0_keepBits_4 rfl (lv_at hl 1 rfl) ?_
    refine lv_sipush (pc := 5) (v := nI 2816) hx hb dX0_keepBits_5 (by decide) ?_
    refine lv_icmp_ge (pc := 8) (tgt := 21) hx hb dX0_keepBits_8 (by decide) (fun c_2 => ?_) (fun c_2 => ?_)
    · skip
      have c_2 : 2816 ≤ i := (nI_leI (a := 2816) (b := i) (by omega) (by omega)).mp c_2
      exfalso; omega
    · skip
      have c_2 : ¬ 2816 ≤ i := fun z => c_2 ((nI_leI (a := 2816) (b := i) (by omega) (by omega)).mpr z)
      refine lv_aload_n (pc := 11) hx hb dX0_keepBits_11 rfl (lv_at hl 0 rfl) ?_
      refine va_get (pc := 12) (D := (dC, dI)) (ci := 0) (v := .ref a2) (C := RX0) (T := TX0) (N := 9) hx hb hts (by decide +kernel) hown hK hP 0 rfl rfl 0 (by decide) (hts (.fieldLink RX0 9 "ScratchSwap$Memory" "bytes" "[I") (by decide +kernel)) (fun _ h9 => h9) rfl dX0_keepBits_12 ?_
      refine lv_iload_n (pc := 15) hx hb dX0_keepBits_15 rfl (lv_at hl 1 rfl) ?_
      refine lv_dup2_11 (pc := 16) hx hb dX0_keepBits_16 rfl rfl ?_
      refine x_iald (pc := 17) (k := i) (f := fun j => ub (F j)) hx hb hK hP 1 0 rfl rfl (by omega) (by decide) dX0_keepBits_17 ?_
      refine lv_iload_n (pc := 18) hx hb dX0_keepBits_18 rfl (lv_at hl 2 rfl) ?_
      refine lv_iand (pc := 19) hx hb dX0_keepBits_19 ?_
      refine lv_cv (ub_and (F i) x) ?_
      refine x_ust (pc := 20) (k := i) (F := F) (x := (F i) &&& Int32.toInt8 x) hx hb hK hP hD hS 1 0 rfl rfl (by omega) (by decide) dX0_keepBits_20 (fun H locs hP hD hS => ?_)
      have hP : va_P (dC, dI) vwCl (mW a1 a2 a3 a4 cI (va_up F i ((F i) &&& Int32.toInt8 x), te, dn, tl, lf, cu, ac, gn) ut) _ := hP
      have hD : va_D A (mW a1 a2 a3 a4 cI (va_up F i ((F i) &&& Int32.toInt8 x), te, dn, tl, lf, cu, ac, gn) ut) := hD
      exact W.vret hx hb hr (fun t ht hW => ⟨⟨va_up F i ((F i) &&& Int32.toInt8 x), rfl, rfl, by show va_P _ _ _ t.heap; rw [ht]; exact hP, va_K.moved hW.alike hK, hD⟩, hS.F ht⟩) hS.2.2 dX0_keepBits_21
set_option maxHeartbeats 4000000 in
set_option maxRecDepth 100000 in
theorem kX0_tellToGo (l : Launch) (dC : Nat → ClassId) (dI : Nat → Nat → Nat) (tt : Nat → Nat) (cI cB : ClassId) (sz : Nat) (a1 a2 a3 a4 : Nat) (k : K0) (ut : Nat → Int32) (i j : Nat)  : MetV (S := K0) l yX0_tellToGo wsX0_tellToGo { frames := 0, cells := 0, slots := 0, locals := 0 } (dC, dI) [(cI, .int), (cB, .byte)] tt [] sz (mW a1 a2 a3 a4 cI k ut) [.ref a1, .int (nI i), .int (nI j)] (fun u : K0 => mW a1 a2 a3 a4 cI u ut) (fun u => u = (k.1, k.2.1, k.2.2.1, true, i, j, k.2.2.2.2.2.2)) := by
  refine Met.ofW (cc := cX0_tellToGo) (maxL := 3) (ret := none) (by decide) rfl ?_
  intro p e s m args below meth c s₁ B hml hv
  obtain ⟨rfl, hsz, hP, hK, hD0, hE⟩ := hv
  have hx := B.exec
  have hb := B.bytes
  have hr := B.returns
  have hts := atoms_spec (ws := wsX0_tellToGo) B.pre
  have hown : s.vm.findClass RX0 = some m.cls := findClass_of_methodNamed B.named
  have hlocks := B.notSynchronized
  subst hsz
  obtain ⟨F, te, dn, tl, lf, cu, ac, gn⟩ := k
  have hD := hD0.self (sz := s.heap.size)
  generalize hAe : va_A (mW a1 a2 a3 a4 cI (F, te, dn, tl, lf, cu, ac, gn) ut) s.heap.size = A at hD hE ⊢
  have hA : ∀ q : Nat, s.heap.size ≤ q → A q := fun q h => by rw [← hAe]; exact Or.inr h
  have hS : va_S A s.heap s.heap [] := va_S.rf
  have hl := lv_entry ([.ref a1, .int (nI i), .int (nI j)]) (n := 3) (Nat.le_of_ble_eq_true rfl)
  rw [lg_entry_eq]
  generalize (lg_sl ([.ref a1, .int (nI i), .int (nI j)]) ++ List.replicate (3 - (lg_sl ([.ref a1, .int (nI i), .int (nI j)])).length) Slot.unset).toArray = ls at hl ⊢
  have hl : lv_has ls 3 [(0, .ref a1), (1, .int (nI i)), (2, .int (nI j))] := hl
  have hP : va_P (dC, dI) vwCl (mW a1 a2 a3 a4 cI (F, te, dn, tl, lf, cu, ac, gn) ut) s.heap := hP
  refine lv_aload_n (pc := 0) hx hb dX0_tellToGo_0 rfl (lv_at hl 0 rfl) ?_
  refine lv_iconst (pc := 1) (v := nI 1) hx hb dX0_tellToGo_1 (by decide) ?_
  refine lv_cv (show nI 1 = bI true from rfl) ?_
  refine va_put (pc := 2) (D := (dC, dI)) (ci := 0) (v := .int (bI true)) (ty := .boolean) (C := RX0) (T := TX0) (N := 9) hx hb hts (by decide +kernel) tyX0 tyX0_ok nmX0 hown hK hP hD hS 0 rfl rfl 4 (by decide) (hts (.fieldLink RX0 25 "ScratchSwap$Memory" "toldToGo" "Z") (by decide +kernel)) (fun _ h9 => h9) rfl (by decide +kernel) (nbI true) (fbI true) (Nat.le_of_ble_eq_true rfl) dX0_tellToGo_2 (fun H locs hP hD hS => ?_)
  have hP : va_P (dC, dI) vwCl (mW a1 a2 a3 a4 cI (F, te, dn, true, lf, cu, ac, gn) ut) _ := hP
  have hD : va_D A (mW a1 a2 a3 a4 cI (F, te, dn, true, lf, cu, ac, gn) ut) := hD
  refine lv_aload_n (pc := 5) hx hb dX0_tellToGo_5 rfl (lv_at hl 0 rfl) ?_
  refine lv_iload_n (pc := 6) hx hb dX0_tellToGo_6 rfl (lv_at hl 1 rfl) ?_
  refine va_put (pc := 7) (D := (dC, dI)) (ci := 0) (v := .int (nI i)) (ty := .int) (C := RX0) (T := TX0) (N := 9) hx hb hts (by decide +kernel) tyX0 tyX0_ok nmX0 hown hK hP hD hS 0 rfl rfl 5 (by decide) (hts (.fieldLink RX0 28 "ScratchSwap$Memory" "actsLeft" "I") (by decide +kernel)) (fun _ h9 => h9) rfl (by decide +kernel) rfl rfl (Nat.le_of_ble_eq_true rfl) dX0_tellToGo_7 (fun H locs hP hD hS => ?_)
  have hP : va_P (dC, dI) vwCl (mW a1 a2 a3 a4 cI (F, te, dn, true, i, cu, ac, gn) ut) _ := hP
  have hD : va_D A (mW a1 a2 a3 a4 cI (F, te, dn, true, i, cu, ac, gn) ut) := hD
  refine lv_aload_n (pc := 10) hx hb dX0_tellToGo_10 rfl (lv_at hl 0 rfl) ?_
  refine lv_iload_n (pc := 11) hx hb dX0_tellToGo_11 rfl (lv_at hl 2 rfl) ?_
  refine va_put (pc := 12) (D := (dC, dI)) (ci := 0) (v := .int (nI j)) (ty := .int) (C := RX0) (T := TX0) (N := 9) hx hb hts (by decide +kernel) tyX0 tyX0_ok nmX0 hown hK hP hD hS 0 rfl rfl 6 (by decide) (hts (.fieldLink RX0 32 "ScratchSwap$Memory" "unitsCut" "I") (by decide +kernel)) (fun _ h9 => h9) rfl (by decide +kernel) rfl rfl (Nat.le_of_ble_eq_true rfl) dX0_tellToGo_12 (fun H locs hP hD hS => ?_)
  have hP : va_P (dC, dI) vwCl (mW a1 a2 a3 a4 cI (F, te, dn, true, i, j, ac, gn) ut) _ := hP
  have hD : va_D A (mW a1 a2 a3 a4 cI (F, te, dn, true, i, j, ac, gn) ut) := hD
  exact W.vret hx hb hr (fun t ht hW => ⟨⟨(F, te, dn, true, i, j, ac, gn), rfl, rfl, by show va_P _ _ _ t.heap; rw [ht]; exact hP, va_K.moved hW.alike hK, hD⟩, hS.F ht⟩) hS.2.2 dX0_tellToGo_15
set_option maxHeartbeats 4000000 in
set_option maxRecDepth 100000 in
theorem kX0_powerComes (l : Launch) (dC : Nat → ClassId) (dI : Nat → Nat → Nat) (tt : Nat → Nat) (cI cB : ClassId) (sz : Nat) (a1 a2 a3 a4 : Nat) (k : K0) (ut : Nat → Int32)  : MetV (S := K0) l yX0_powerComes wsX0_powerComes { frames := 0, cells := 0, slots := 0, locals := 0 } (dC, dI) [(cI, .int), (cB, .byte)] tt [] sz (mW a1 a2 a3 a4 cI k ut) [.ref a1] (fun u : K0 => mW a1 a2 a3 a4 cI u ut) (fun u => u = (k.1, k.2.1, false, false, k.2.2.2.2)) := by
  refine Met.ofW (cc := cX0_powerComes) (maxL := 1) (ret := none) (by decide) rfl ?_
  intro p e s m args below meth c s₁ B hml hv
  obtain ⟨rfl, hsz, hP, hK, hD0, hE⟩ := hv
  have hx := B.exec
  have hb := B.bytes
  have hr := B.returns
  have hts := atoms_spec (ws := wsX0_powerComes) B.pre
  have hown : s.vm.findClass RX0 = some m.cls := findClass_of_methodNamed B.named
  have hlocks := B.notSynchronized
  subst hsz
  obtain ⟨F, te, dn, tl, lf, cu, ac, gn⟩ := k
  have hD := hD0.self (sz := s.heap.size)
  generalize hAe : va_A (mW a1 a2 a3 a4 cI (F, te, dn, tl, lf, cu, ac, gn) ut) s.heap.size = A at hD hE ⊢
  have hA : ∀ q : Nat, s.heap.size ≤ q → A q := fun q h => by rw [← hAe]; exact Or.inr h
  have hS : va_S A s.heap s.heap [] := va_S.rf
  have hl := lv_entry ([.ref a1]) (n := 1) (Nat.le_of_ble_eq_true rfl)
  rw [lg_entry_eq]
  generalize (lg_sl ([.ref a1]) ++ List.replicate (1 - (lg_sl ([.ref a1])).length) Slot.unset).toArray = ls at hl ⊢
  have hl : lv_has ls 1 [(0, .ref a1)] := hl
  have hP : va_P (dC, dI) vwCl (mW a1 a2 a3 a4 cI (F, te, dn, tl, lf, cu, ac, gn) ut) s.heap := hP
  refine lv_aload_n (pc := 0) hx hb dX0_powerComes_0 rfl (lv_at hl 0 rfl) ?_
  refine lv_iconst (pc := 1) (v := nI 0) hx hb dX0_powerComes_1 (by decide) ?_
  refine lv_cv (show nI 0 = bI false from rfl) ?_
  refine va_put (pc := 2) (D := (dC, dI)) (ci := 0) (v := .int (bI false)) (ty := .boolean) (C := RX0) (T := TX0) (N := 9) hx hb hts (by decide +kernel) tyX0 tyX0_ok nmX0 hown hK hP hD hS 0 rfl rfl 3 (by decide) (hts (.fieldLink RX0 21 "ScratchSwap$Memory" "down" "Z") (by decide +kernel)) (fun _ h9 => h9) rfl (by decide +kernel) (nbI false) (fbI false) (Nat.le_of_ble_eq_true rfl) dX0_powerComes_2 (fun H locs hP hD hS => ?_)
  have hP : va_P (dC, dI) vwCl (mW a1 a2 a3 a4 cI (F, te, false, tl, lf, cu, ac, gn) ut) _ := hP
  have hD : va_D A (mW a1 a2 a3 a4 cI (F, te, false, tl, lf, cu, ac, gn) ut) := hD
  refine lv_aload_n (pc := 5) hx hb dX0_powerComes_5 rfl (lv_at hl 0 rfl) ?_
  refine lv_iconst (pc := 6) (v := nI 0) hx hb dX0_powerComes_6 (by decide) ?_
  refine lv_cv (show nI 0 = bI false from rfl) ?_
  refine va_put (pc := 7) (D := (dC, dI)) (ci := 0) (v := .int (bI false)) (ty := .boolean) (C := RX0) (T := TX0) (N := 9) hx hb hts (by decide +kernel) tyX0 tyX0_ok nmX0 hown hK hP hD hS 0 rfl rfl 4 (by decide) (hts (.fieldLink RX0 25 "ScratchSwap$Memory" "toldToGo" "Z") (by decide +kernel)) (fun _ h9 => h9) rfl (by decide +kernel) (nbI false) (fbI false) (Nat.le_of_ble_eq_true rfl) dX0_powerComes_7 (fun H locs hP hD hS => ?_)
  have hP : va_P (dC, dI) vwCl (mW a1 a2 a3 a4 cI (F, te, false, false, lf, cu, ac, gn) ut) _ := hP
  have hD : va_D A (mW a1 a2 a3 a4 cI (F, te, false, false, lf, cu, ac, gn) ut) := hD
  exact W.vret hx hb hr (fun t ht hW => ⟨⟨(F, te, false, false, lf, cu, ac, gn), rfl, rfl, by show va_P _ _ _ t.heap; rw [ht]; exact hP, va_K.moved hW.alike hK, hD⟩, hS.F ht⟩) hS.2.2 dX0_powerComes_10
set_option maxHeartbeats 4000000 in
set_option maxRecDepth 100000 in
theorem kX0_actsStillDone (l : Launch) (dC : Nat → ClassId) (dI : Nat → Nat → Nat) (tt : Nat → Nat) (cI cB : ClassId) (sz : Nat) (a1 a2 a3 a4 : Nat) (k : K0) (ut : Nat → Int32)  : MetR l yX0_actsStillDone wsX0_actsStillDone { frames := 0, cells := 0, slots := 0, locals := 0 } (dC, dI) [(cI, .int), (cB, .byte)] tt [] sz (mW a1 a2 a3 a4 cI k ut) [.ref a1] (fun r => r = if k.2.2.1 = true then nI 0 else if k.2.2.2.1 = true then nI k.2.2.2.2.1 else (-1)) := by
  refine Met.ofW (cc := cX0_actsStillDone) (maxL := 1) (ret := (some .int)) (by decide) rfl ?_
  intro p e s m args below meth c s₁ B hml hv
  obtain ⟨rfl, hsz, hP, hK, hD0, hE⟩ := hv
  have hx := B.exec
  have hb := B.bytes
  have hr := B.returns
  have hts := atoms_spec (ws := wsX0_actsStillDone) B.pre
  have hown : s.vm.findClass RX0 = some m.cls := findClass_of_methodNamed B.named
  have hlocks := B.notSynchronized
  subst hsz
  obtain ⟨F, te, dn, tl, lf, cu, ac, gn⟩ := k
  have hD := hD0
  generalize hAe : va_A [] s.heap.size = A at hE ⊢
  have hA : ∀ q : Nat, s.heap.size ≤ q → A q := fun q h => by rw [← hAe]; exact Or.inr h
  have hS : va_S A s.heap s.heap [] := va_S.rf
  have hl := lv_entry ([.ref a1]) (n := 1) (Nat.le_of_ble_eq_true rfl)
  rw [lg_entry_eq]
  generalize (lg_sl ([.ref a1]) ++ List.replicate (1 - (lg_sl ([.ref a1])).length) Slot.unset).toArray = ls at hl ⊢
  have hl : lv_has ls 1 [(0, .ref a1)] := hl
  have hP : va_P (dC, dI) vwCl (mW a1 a2 a3 a4 cI (F, te, dn, tl, lf, cu, ac, gn) ut) s.heap := hP
  refine lv_aload_n (pc := 0) hx hb dX0_actsStillDone_0 rfl (lv_at hl 0 rfl) ?_
  refine va_get (pc := 1) (D := (dC, dI)) (ci := 0) (v := .int (bI dn)) (C := RX0) (T := TX0) (N := 9) hx hb hts (by decide +kernel) hown hK hP 0 rfl rfl 3 (by decide) (hts (.fieldLink RX0 21 "ScratchSwap$Memory" "down" "Z") (by decide +kernel)) (fun _ h9 => h9) rfl dX0_actsStillDone_1 ?_
  refine lv_if_eq (pc := 4) (tgt := 9) hx hb dX0_actsStillDone_4 (by decide) (fun c1 => ?_) (fun c1 => ?_)
  · skip
    have c1 : dn = false := bI_0.mp c1
    refine lv_aload_n (pc := 9) hx hb dX0_actsStillDone_9 rfl (lv_at hl 0 rfl) ?_
    refine va_get (pc := 10) (D := (dC, dI)) (ci := 0) (v := .int (bI tl)) (C := RX0) (T := TX0) (N := 9) hx hb hts (by decide +kernel) hown hK hP 0 rfl rfl 4 (by decide) (hts (.fieldLink RX0 25 "ScratchSwap$Memory" "toldToGo" "Z") (by decide +kernel)) (fun _ h9 => h9) rfl dX0_actsStillDone_10 ?_
    refine lv_if_eq (pc := 13) (tgt := 23) hx hb dX0_actsStillDone_13 (by decide) (fun c2 => ?_) (fun c2 => ?_)
    · skip
      have c2 : tl = false := bI_0.mp c2
      refine lv_iconst (pc := 23) (v := (-1)) hx hb dX0_actsStillDone_23 (by decide) ?_
      exact W.iret (v := (-1)) hx hb hr (fun t ht hW => ⟨⟨(-1), (), rfl, by first | (simp only [c1, c2, if_true, if_false]; rfl) | (simp [c1, c2]; done) | (simp [c1]; done) | (simp only [c1]; rfl), trivial⟩, hS.F ht⟩) hS.2.2 dX0_actsStillDone_24
    · skip
      have c2 : tl = true := bI_1.mp c2
      refine lv_aload_n (pc := 16) hx hb dX0_actsStillDone_16 rfl (lv_at hl 0 rfl) ?_
      refine va_get (pc := 17) (D := (dC, dI)) (ci := 0) (v := .int (nI lf)) (C := RX0) (T := TX0) (N := 9) hx hb hts (by decide +kernel) hown hK hP 0 rfl rfl 5 (by decide) (hts (.fieldLink RX0 28 "ScratchSwap$Memory" "actsLeft" "I") (by decide +kernel)) (fun _ h9 => h9) rfl dX0_actsStillDone_17 ?_
      refine lv_goto (pc := 20) (tgt := 24) hx hb dX0_actsStillDone_20 (by decide) ?_
      exact W.iret (v := nI lf) hx hb hr (fun t ht hW => ⟨⟨nI lf, (), rfl, by first | (simp only [c1, c2, if_true, if_false]; rfl) | (simp [c1, c2]; done) | (simp [c1]; done) | (simp only [c1]; rfl), trivial⟩, hS.F ht⟩) hS.2.2 dX0_actsStillDone_24
  · skip
    have c1 : dn = true := bI_1.mp c1
    refine lv_iconst (pc := 7) (v := nI 0) hx hb dX0_actsStillDone_7 (by decide) ?_
    exact W.iret (v := nI 0) hx hb hr (fun t ht hW => ⟨⟨nI 0, (), rfl, by first | (simp only [c1, c2, if_true, if_false]; rfl) | (simp [c1, c2]; done) | (simp [c1]; done) | (simp only [c1]; rfl), trivial⟩, hS.F ht⟩) hS.2.2 dX0_actsStillDone_8
end
section
set_option maxHeartbeats 4000000 in
set_option maxRecDepth 100000 in
theorem kX0_beginAct (l : Launch) (dC : Nat → ClassId) (dI : Nat → Nat → Nat) (tt : Nat → Nat) (cI cB : ClassId) (sz : Nat) (a1 a2 a3 a4 : Nat) (k : K0) (ut : Nat → Int32) (hdn : k.2.2.1 = false) (hlf : k.2.2.2.2.1 < 2 ^ 31) : MetI (S := K0) l yX0_beginAct wsX0_beginAct { frames := 0, cells := 0, slots := 0, locals := 0 } (dC, dI) [(cI, .int), (cB, .byte)] tt [] sz (mW a1 a2 a3 a4 cI k ut) [.ref a1] (fun u : K0 => mW a1 a2 a3 a4 cI u ut) (fun r u => r = bI (kBegin k).2 ∧ u = (kBegin k).1) := by
  refine Met.ofW (cc := cX0_beginAct) (maxL := 1) (ret := (some .boolean)) (by decide) rfl ?_
  intro p e s m args below meth c s₁ B hml hv
  obtain ⟨rfl, hsz, hP, hK, hD0, hE⟩ := hv
  have hx := B.exec
  have hb := B.bytes
  have hr := B.returns
  have hts := atoms_spec (ws := wsX0_beginAct) B.pre
  have hown : s.vm.findClass RX0 = some m.cls := findClass_of_methodNamed B.named
  have hlocks := B.notSynchronized
  subst hsz
  obtain ⟨F, te, dn, tl, lf, cu, ac, gn⟩ := k
  have hdn : dn = false := hdn
  subst hdn
  have hlf : lf < 2 ^ 31 := hlf
  have hD := hD0.self (sz := s.heap.size)
  generalize hAe : va_A (mW a1 a2 a3 a4 cI (F, te, false, tl, lf, cu, ac, gn) ut) s.heap.size = A at hD hE ⊢
  have hA : ∀ q : Nat, s.heap.size ≤ q → A q := fun q h => by rw [← hAe]; exact Or.inr h
  have hS : va_S A s.heap s.heap [] := va_S.rf
  have hl := lv_entry ([.ref a1]) (n := 1) (Nat.le_of_ble_eq_true rfl)
  rw [lg_entry_eq]
  generalize (lg_sl ([.ref a1]) ++ List.replicate (1 - (lg_sl ([.ref a1])).length) Slot.unset).toArray = ls at hl ⊢
  have hl : lv_has ls 1 [(0, .ref a1)] := hl
  have hP : va_P (dC, dI) vwCl (mW a1 a2 a3 a4 cI (F, te, false, tl, lf, cu, ac, gn) ut) s.heap := hP
  refine lv_aload_n (pc := 0) hx hb dX0_beginAct_0 rfl (lv_at hl 0 rfl) ?_
  refine va_get (pc := 1) (D := (dC, dI)) (ci := 0) (v := .int (bI false)) (C := RX0) (T := TX0) (N := 9) hx hb hts (by decide +kernel) hown hK hP 0 rfl rfl 3 (by decide) (hts (.fieldLink RX0 21 "ScratchSwap$Memory" "down" "Z") (by decide +kernel)) (fun _ h9 => h9) rfl dX0_beginAct_1 ?_
  refine lv_if_eq (pc := 4) (tgt := 9) hx hb dX0_beginAct_4 (by decide) (fun c1 => ?_) (fun c1 => ?_)
  · skip
    have c1 : false = false := bI_0.mp c1
    refine lv_aload_n (pc := 9) hx hb dX0_beginAct_9 rfl (lv_at hl 0 rfl) ?_
    refine va_get (pc := 10) (D := (dC, dI)) (ci := 0) (v := .int (bI tl)) (C := RX0) (T := TX0) (N := 9) hx hb hts (by decide +kernel) hown hK hP 0 rfl rfl 4 (by decide) (hts (.fieldLink RX0 25 "ScratchSwap$Memory" "toldToGo" "Z") (by decide +kernel)) (fun _ h9 => h9) rfl dX0_beginAct_10 ?_
    refine lv_if_eq (pc := 13) (tgt := 40) hx hb dX0_beginAct_13 (by decide) (fun c2 => ?_) (fun c2 => ?_)
    · skip
      have c2 : tl = false := bI_0.mp c2
      subst c2
      have hP : va_P (dC, dI) vwCl (mW a1 a2 a3 a4 cI (F, te, false, false, lf, cu, ac, gn) ut) _ := hP
      have hD : va_D A (mW a1 a2 a3 a4 cI (F, te, false, false, lf, cu, ac, gn) ut) := hD
      refine lv_aload_n (pc := 40) hx hb dX0_beginAct_40 rfl (lv_at hl 0 rfl) ?_
      refine va_get (pc := 41) (D := (dC, dI)) (ci := 0) (v := .int (bI false)) (C := RX0) (T := TX0) (N := 9) hx hb hts (by decide +kernel) hown hK hP 0 rfl rfl 4 (by decide) (hts (.fieldLink RX0 25 "ScratchSwap$Memory" "toldToGo" "Z") (by decide +kernel)) (fun _ h9 => h9) rfl dX0_beginAct_41 ?_
      refine lv_if_eq (pc := 44) (tgt := 57) hx hb dX0_beginAct_44 (by decide) (fun c4 => ?_) (fun c4 => ?_)
      · skip
        have c4 : false = false := bI_0.mp c4
        refine lv_aload_n (pc := 57) hx hb dX0_beginAct_57 rfl (lv_at hl 0 rfl) ?_
        refine lv_dup (pc := 58) hx hb dX0_beginAct_58 rfl ?_
        refine va_get (pc := 59) (D := (dC, dI)) (ci := 0) (v := .int ac) (C := RX0) (T := TX0) (N := 9) hx hb hts (by decide +kernel) hown hK hP 0 rfl rfl 7 (by decide) (hts (.fieldLink RX0 35 "ScratchSwap$Memory" "actsDone" "I") (by decide +kernel)) (fun _ h9 => h9) rfl dX0_beginAct_59 ?_
        refine lv_iconst (pc := 62) (v := nI 1) hx hb dX0_beginAct_62 (by decide) ?_
        refine lv_iadd (pc := 63) hx hb dX0_beginAct_63 ?_
        refine va_put (pc := 64) (D := (dC, dI)) (ci := 0) (v := .int (ac + (nI 1))) (ty := .int) (C := RX0) (T := TX0) (N := 9) hx hb hts (by decide +kernel) tyX0 tyX0_ok nmX0 hown hK hP hD hS 0 rfl rfl 7 (by decide) (hts (.fieldLink RX0 35 "ScratchSwap$Memory" "actsDone" "I") (by decide +kernel)) (fun _ h9 => h9) rfl (by decide +kernel) rfl rfl (Nat.le_of_ble_eq_true rfl) dX0_beginAct_64 (fun H locs hP hD hS => ?_)
        have hP : va_P (dC, dI) vwCl (mW a1 a2 a3 a4 cI (F, te, false, false, lf, cu, ac + (nI 1), gn) ut) _ := hP
        have hD : va_D A (mW a1 a2 a3 a4 cI (F, te, false, false, lf, cu, ac + (nI 1), gn) ut) := hD
        refine lv_iconst (pc := 67) (v := nI 1) hx hb dX0_beginAct_67 (by decide) ?_
        have hk : kBegin (F, te, false, false, lf, cu, ac, gn) = ((F, te, false, false, lf, cu, ac + (nI 1), gn), true) := by first | (simp [kBegin, c3]; done) | (simp [kBegin]; done)
        exact W.zret (v := nI 1) hx hb hr rfl (fun t ht hW => ⟨⟨nI 1, (F, te, false, false, lf, cu, ac + (nI 1), gn), rfl, ⟨by rw [hk]; rfl, by rw [hk]⟩, by show va_P _ _ _ t.heap; rw [ht]; exact hP, va_K.moved hW.alike hK, hD⟩, hS.F ht⟩) hS.2.2 dX0_beginAct_68
      · skip
        have c4 : false = true := bI_1.mp c4
        exact absurd c4 (by decide)
    · skip
      have c2 : tl = true := bI_1.mp c2
      subst c2
      have hP : va_P (dC, dI) vwCl (mW a1 a2 a3 a4 cI (F, te, false, true, lf, cu, ac, gn) ut) _ := hP
      have hD : va_D A (mW a1 a2 a3 a4 cI (F, te, false, true, lf, cu, ac, gn) ut) := hD
      refine lv_aload_n (pc := 16) hx hb dX0_beginAct_16 rfl (lv_at hl 0 rfl) ?_
      refine va_get (pc := 17) (D := (dC, dI)) (ci := 0) (v := .int (nI lf)) (C := RX0) (T := TX0) (N := 9) hx hb hts (by decide +kernel) hown hK hP 0 rfl rfl 5 (by decide) (hts (.fieldLink RX0 28 "ScratchSwap$Memory" "actsLeft" "I") (by decide +kernel)) (fun _ h9 => h9) rfl dX0_beginAct_17 ?_
      refine lv_if_ne (pc := 20) (tgt := 40) hx hb dX0_beginAct_20 (by decide) (fun c3 => ?_) (fun c3 => ?_)
      · skip
        have c3 : ¬ lf = 0 := fun z => c3 ((nI_eq (a := lf) (b := 0) (by omega) (by omega)).mpr z)
        refine lv_aload_n (pc := 40) hx hb dX0_beginAct_40 rfl (lv_at hl 0 rfl) ?_
        refine va_get (pc := 41) (D := (dC, dI)) (ci := 0) (v := .int (bI true)) (C := RX0) (T := TX0) (N := 9) hx hb hts (by decide +kernel) hown hK hP 0 rfl rfl 4 (by decide) (hts (.fieldLink RX0 25 "ScratchSwap$Memory" "toldToGo" "Z") (by decide +kernel)) (fun _ h9 => h9) rfl dX0_beginAct_41 ?_
        refine lv_if_eq (pc := 44) (tgt := 57) hx hb dX0_beginAct_44 (by decide) (fun c4 => ?_) (fun c4 => ?_)
        · skip
          have c4 : true = false := bI_0.mp c4
          exact absurd c4 (by decide)
        · skip
          have c4 : true = true := bI_1.mp c4
          refine lv_aload_n (pc := 47) hx hb dX0_beginAct_47 rfl (lv_at hl 0 rfl) ?_
          refine lv_dup (pc := 48) hx hb dX0_beginAct_48 rfl ?_
          refine va_get (pc := 49) (D := (dC, dI)) (ci := 0) (v := .int (nI lf)) (C := RX0) (T := TX0) (N := 9) hx hb hts (by decide +kernel) hown hK hP 0 rfl rfl 5 (by decide) (hts (.fieldLink RX0 28 "ScratchSwap$Memory" "actsLeft" "I") (by decide +kernel)) (fun _ h9 => h9) rfl dX0_beginAct_49 ?_
          refine lv_iconst (pc := 52) (v := nI 1) hx hb dX0_beginAct_52 (by decide) ?_
          refine lv_isub (pc := 53) hx hb dX0_beginAct_53 ?_
          refine lv_cv (pk_sub (a := lf) (b := 1) (by omega)) ?_
          refine va_put (pc := 54) (D := (dC, dI)) (ci := 0) (v := .int (nI (lf - 1))) (ty := .int) (C := RX0) (T := TX0) (N := 9) hx hb hts (by decide +kernel) tyX0 tyX0_ok nmX0 hown hK hP hD hS 0 rfl rfl 5 (by decide) (hts (.fieldLink RX0 28 "ScratchSwap$Memory" "actsLeft" "I") (by decide +kernel)) (fun _ h9 => h9) rfl (by decide +kernel) rfl rfl (Nat.le_of_ble_eq_true rfl) dX0_beginAct_54 (fun H locs hP hD hS => ?_)
          have hP : va_P (dC, dI) vwCl (mW a1 a2 a3 a4 cI (F, te, false, true, lf - 1, cu, ac, gn) ut) _ := hP
          have hD : va_D A (mW a1 a2 a3 a4 cI (F, te, false, true, lf - 1, cu, ac, gn) ut) := hD
          refine lv_aload_n (pc := 57) hx hb dX0_beginAct_57 rfl (lv_at hl 0 rfl) ?_
          refine lv_dup (pc := 58) hx hb dX0_beginAct_58 rfl ?_
          refine va_get (pc := 59) (D := (dC, dI)) (ci := 0) (v := .int ac) (C := RX0) (T := TX0) (N := 9) hx hb hts (by decide +kernel) hown hK hP 0 rfl rfl 7 (by decide) (hts (.fieldLink RX0 35 "ScratchSwap$Memory" "actsDone" "I") (by decide +kernel)) (fun _ h9 => h9) rfl dX0_beginAct_59 ?_
          refine lv_iconst (pc := 62) (v := nI 1) hx hb dX0_beginAct_62 (by decide) ?_
          refine lv_iadd (pc := 63) hx hb dX0_beginAct_63 ?_
          refine va_put (pc := 64) (D := (dC, dI)) (ci := 0) (v := .int (ac + (nI 1))) (ty := .int) (C := RX0) (T := TX0) (N := 9) hx hb hts (by decide +kernel) tyX0 tyX0_ok nmX0 hown hK hP hD hS 0 rfl rfl 7 (by decide) (hts (.fieldLink RX0 35 "ScratchSwap$Memory" "actsDone" "I") (by decide +kernel)) (fun _ h9 => h9) rfl (by decide +kernel) rfl rfl (Nat.le_of_ble_eq_true rfl) dX0_beginAct_64 (fun H locs hP hD hS => ?_)
          have hP : va_P (dC, dI) vwCl (mW a1 a2 a3 a4 cI (F, te, false, true, lf - 1, cu, ac + (nI 1), gn) ut) _ := hP
          have hD : va_D A (mW a1 a2 a3 a4 cI (F, te, false, true, lf - 1, cu, ac + (nI 1), gn) ut) := hD
          refine lv_iconst (pc := 67) (v := nI 1) hx hb dX0_beginAct_67 (by decide) ?_
          have hk : kBegin (F, te, false, true, lf, cu, ac, gn) = ((F, te, false, true, lf - 1, cu, ac + (nI 1), gn), true) := by first | (simp [kBegin, c3]; done) | (simp [kBegin]; done)
          exact W.zret (v := nI 1) hx hb hr rfl (fun t ht hW => ⟨⟨nI 1, (F, te, false, true, lf - 1, cu, ac + (nI 1), gn), rfl, ⟨by rw [hk]; rfl, by rw [hk]⟩, by show va_P _ _ _ t.heap; rw [ht]; exact hP, va_K.moved hW.alike hK, hD⟩, hS.F ht⟩) hS.2.2 dX0_beginAct_68
      · skip
        have c3 : lf = 0 := (nI_eq (a := lf) (b := 0) (by omega) (by omega)).mp c3
        refine lv_aload_n (pc := 23) hx hb dX0_beginAct_23 rfl (lv_at hl 0 rfl) ?_
        refine lv_iconst (pc := 24) (v := nI 1) hx hb dX0_beginAct_24 (by decide) ?_
        refine lv_cv (show nI 1 = bI true from rfl) ?_
        refine va_put (pc := 25) (D := (dC, dI)) (ci := 0) (v := .int (bI true)) (ty := .boolean) (C := RX0) (T := TX0) (N := 9) hx hb hts (by decide +kernel) tyX0 tyX0_ok nmX0 hown hK hP hD hS 0 rfl rfl 3 (by decide) (hts (.fieldLink RX0 21 "ScratchSwap$Memory" "down" "Z") (by decide +kernel)) (fun _ h9 => h9) rfl (by decide +kernel) (nbI true) (fbI true) (Nat.le_of_ble_eq_true rfl) dX0_beginAct_25 (fun H locs hP hD hS => ?_)
        have hP : va_P (dC, dI) vwCl (mW a1 a2 a3 a4 cI (F, te, true, true, lf, cu, ac, gn) ut) _ := hP
        have hD : va_D A (mW a1 a2 a3 a4 cI (F, te, true, true, lf, cu, ac, gn) ut) := hD
        refine lv_aload_n (pc := 28) hx hb dX0_beginAct_28 rfl (lv_at hl 0 rfl) ?_
        refine lv_dup (pc := 29) hx hb dX0_beginAct_29 rfl ?_
        refine va_get (pc := 30) (D := (dC, dI)) (ci := 0) (v := .int gn) (C := RX0) (T := TX0) (N := 9) hx hb hts (by decide +kernel) hown hK hP 0 rfl rfl 8 (by decide) (hts (.fieldLink RX0 38 "ScratchSwap$Memory" "timesGone" "I") (by decide +kernel)) (fun _ h9 => h9) rfl dX0_beginAct_30 ?_
        refine lv_iconst (pc := 33) (v := nI 1) hx hb dX0_beginAct_33 (by decide) ?_
        refine lv_iadd (pc := 34) hx hb dX0_beginAct_34 ?_
        refine va_put (pc := 35) (D := (dC, dI)) (ci := 0) (v := .int (gn + (nI 1))) (ty := .int) (C := RX0) (T := TX0) (N := 9) hx hb hts (by decide +kernel) tyX0 tyX0_ok nmX0 hown hK hP hD hS 0 rfl rfl 8 (by decide) (hts (.fieldLink RX0 38 "ScratchSwap$Memory" "timesGone" "I") (by decide +kernel)) (fun _ h9 => h9) rfl (by decide +kernel) rfl rfl (Nat.le_of_ble_eq_true rfl) dX0_beginAct_35 (fun H locs hP hD hS => ?_)
        have hP : va_P (dC, dI) vwCl (mW a1 a2 a3 a4 cI (F, te, true, true, lf, cu, ac, gn + (nI 1)) ut) _ := hP
        have hD : va_D A (mW a1 a2 a3 a4 cI (F, te, true, true, lf, cu, ac, gn + (nI 1)) ut) := hD
        refine lv_iconst (pc := 38) (v := nI 0) hx hb dX0_beginAct_38 (by decide) ?_
        have hk : kBegin (F, te, false, true, lf, cu, ac, gn) = ((F, te, true, true, lf, cu, ac, gn + (nI 1)), false) := by first | (simp [kBegin, c3]; done) | (simp [kBegin]; done)
        exact W.zret (v := nI 0) hx hb hr rfl (fun t ht hW => ⟨⟨nI 0, (F, te, true, true, lf, cu, ac, gn + (nI 1)), rfl, ⟨by rw [hk]; rfl, by rw [hk]⟩, by show va_P _ _ _ t.heap; rw [ht]; exact hP, va_K.moved hW.alike hK, hD⟩, hS.F ht⟩) hS.2.2 dX0_beginAct_39
  · skip
    have c1 : false = true := bI_1.mp c1
    exact absurd c1 (by decide)
theorem kB_te {F : Nat → Int8} {te te1 : Nat → Int32} {dn tl : Bool} {lf cu : Nat} {ac gn : Int32} : (kBegin (F, te1, dn, tl, lf, cu, ac, gn)).2 = (kBegin (F, te, dn, tl, lf, cu, ac, gn)).2 := by unfold kBegin; split <;> rfl
theorem kB_te2 {F : Nat → Int8} {te te1 : Nat → Int32} {dn tl : Bool} {lf cu : Nat} {ac gn : Int32} : (kBegin (F, te1, dn, tl, lf, cu, ac, gn)).1.2.2 = (kBegin (F, te, dn, tl, lf, cu, ac, gn)).1.2.2 := by unfold kBegin; split <;> rfl
set_option maxHeartbeats 4000000 in
set_option maxRecDepth 100000 in
theorem kX0_eraseSector (l : Launch) (dC : Nat → ClassId) (dI : Nat → Nat → Nat) (tt : Nat → Nat) (cI cB : ClassId) (sz : Nat) (a1 a2 a3 a4 : Nat) (k : K0) (ut : Nat → Int32) (j : Nat) (hj : j < 11) (hdn : k.2.2.1 = false) (hlf : k.2.2.2.2.1 < 2 ^ 31) (hcu : k.2.2.2.2.2.1 < 32) : MetI (S := K0) l yX0_eraseSector wsX0_eraseSector { frames := 1, cells := 0, slots := 0, locals := 20 } (dC, dI) [(cI, .int), (cB, .byte)] tt [] sz (mW a1 a2 a3 a4 cI k ut) [.ref a1, .int (nI j)] (fun u : K0 => mW a1 a2 a3 a4 cI u ut) (fun r u => r = bI (kErase j k).2 ∧ u = (kErase j k).1) := by
  refine Met.ofW (cc := cX0_eraseSector) (maxL := 6) (ret := (some .boolean)) (by decide) rfl ?_
  intro p e s m args below meth c s₁ B hml hv
  obtain ⟨rfl, hsz, hP, hK, hD0, hE⟩ := hv
  have hx := B.exec
  have hb := B.bytes
  have hr := B.returns
  have hts := atoms_spec (ws := wsX0_eraseSector) B.pre
  have hown : s.vm.findClass RX0 = some m.cls := findClass_of_methodNamed B.named
  have hlocks := B.notSynchronized
  subst hsz
  obtain ⟨F, te, dn, tl, lf, cu, ac, gn⟩ := k
  have hdn : dn = false := hdn
  subst hdn
  have hlf : lf < 2 ^ 31 := hlf
  have hcu : cu < 32 := hcu
  have hD := hD0.self (sz := s.heap.size)
  generalize hAe : va_A (mW a1 a2 a3 a4 cI (F, te, false, tl, lf, cu, ac, gn) ut) s.heap.size = A at hD hE ⊢
  have hA : ∀ q : Nat, s.heap.size ≤ q → A q := fun q h => by rw [← hAe]; exact Or.inr h
  have hS : va_S A s.heap s.heap [] := va_S.rf
  have hl := lv_entry ([.ref a1, .int (nI j)]) (n := 6) (Nat.le_of_ble_eq_true rfl)
  rw [lg_entry_eq]
  generalize (lg_sl ([.ref a1, .int (nI j)]) ++ List.replicate (6 - (lg_sl ([.ref a1, .int (nI j)])).length) Slot.unset).toArray = ls at hl ⊢
  have hl : lv_has ls 6 [(0, .ref a1), (1, .int (nI j))] := hl
  have hP : va_P (dC, dI) vwCl (mW a1 a2 a3 a4 cI (F, te, false, tl, lf, cu, ac, gn) ut) s.heap := hP
  refine lv_aload_n (pc := 0) hx hb dX0_eraseSector_0 rfl (lv_at hl 0 rfl) ?_
  refine va_get (pc := 1) (D := (dC, dI)) (ci := 0) (v := .int (bI false)) (C := RX0) (T := TX0) (N := 9) hx hb hts (by decide +kernel) hown hK hP 0 rfl rfl 3 (by decide) (hts (.fieldLink RX0 21 "ScratchSwap$Memory" "down" "Z") (by decide +kernel)) (fun _ h9 => h9) rfl dX0_eraseSector_1 ?_
  refine lv_if_ne (pc := 4) (tgt := 14) hx hb dX0_eraseSector_4 (by decide) (fun c1 => ?_) (fun c1 => ?_)
  · skip
    have c1 : false = true := bI_1.mp c1
    exact absurd c1 (by decide)
  · skip
    have c1 : false = false := bI_0.mp c1
    refine lv_iload_n (pc := 7) hx hb dX0_eraseSector_7 rfl (lv_at hl 1 rfl) ?_
    refine x_roi (pc := 8) (va_runS (As := [.int (nI j)]) (rest := []) ⟨hx, hb, hml, hown, hts⟩ (kX0_hasSector l dC dI tt cI cB _ (nI j)) (va_cwS 1 hts gX0_eraseSector_X0_hasSector rfl rfl rfl (by decide +kernel) ⟨Nat.le_of_ble_eq_true rfl, Nat.le_of_ble_eq_true rfl⟩) (x_preS hS hE hK hP hD [] rfl (by decide) (x_ro hS hA) xR0) rfl rfl hl.1 rfl (lv_room (Nat.le_of_ble_eq_true rfl)) dX0_eraseSector_8 ⟨Nat.le_of_ble_eq_true rfl, Nat.le_of_ble_eq_true rfl⟩) hS hA hP (fun r_1 H locs hr_1 hP hS => ?_)
    subst hr_1
    refine lv_if_ne (pc := 11) (tgt := 16) hx hb dX0_eraseSector_11 (by decide) (fun c2 => ?_) (fun c2 => ?_)
    · skip
      have c2 : inB 11 (nI j) = true := bI_1.mp c2
      refine lv_aload_n (pc := 16) hx hb dX0_eraseSector_16 rfl (lv_at hl 0 rfl) ?_
      refine va_get (pc := 17) (D := (dC, dI)) (ci := 0) (v := .ref a3) (C := RX0) (T := TX0) (N := 9) hx hb hts (by decide +kernel) hown hK hP 0 rfl rfl 1 (by decide) (hts (.fieldLink RX0 15 "ScratchSwap$Memory" "timesErased" "[I") (by decide +kernel)) (fun _ h9 => h9) rfl dX0_eraseSector_17 ?_
      refine lv_iload_n (pc := 20) hx hb dX0_eraseSector_20 rfl (lv_at hl 1 rfl) ?_
      refine lv_dup2_11 (pc := 21) hx hb dX0_eraseSector_21 rfl rfl ?_
      refine x_iald (pc := 22) (k := j) (f := te) hx hb hK hP 2 0 rfl rfl (by omega) (by decide) dX0_eraseSector_22 ?_
      refine lv_iconst (pc := 23) (v := nI 1) hx hb dX0_eraseSector_23 (by decide) ?_
      refine lv_iadd (pc := 24) hx hb dX0_eraseSector_24 ?_
      refine x_iast (pc := 25) (k := j) (f := te) hx hb hK hP hD hS 2 0 rfl rfl (by omega) (by decide) dX0_eraseSector_25 (fun H locs hP hD hS => ?_)
      have hP : va_P (dC, dI) vwCl (mW a1 a2 a3 a4 cI (F, upd te j ((te j) + (nI 1)), false, tl, lf, cu, ac, gn) ut) _ := hP
      have hD : va_D A (mW a1 a2 a3 a4 cI (F, upd te j ((te j) + (nI 1)), false, tl, lf, cu, ac, gn) ut) := hD
      refine lv_aload_n (pc := 26) hx hb dX0_eraseSector_26 rfl (lv_at hl 0 rfl) ?_
      refine x_wri (pc := 27) (va_runV (As := []) (rest := []) ⟨hx, hb, hml, hown, hts⟩ (kX0_beginAct l dC dI tt cI cB _ a1 a2 a3 a4 (F, upd te j ((te j) + (nI 1)), false, tl, lf, cu, ac, gn) ut  rfl hlf) (cwV 0 hts gX0_eraseSector_X0_beginAct rfl rfl rfl (by decide +kernel) ⟨Nat.le_of_ble_eq_true rfl, Nat.le_of_ble_eq_true rfl⟩) (x_preV hS hE hK hP hD [0, 1, 2, 3] rfl (by decide) (va_free hD hS hA [0, 1, 2, 3] rfl) xR0 0 0 rfl rfl) rfl rfl hl.1 rfl (lv_room (Nat.le_of_ble_eq_true rfl)) dX0_eraseSector_27 ⟨Nat.le_of_ble_eq_true rfl, Nat.le_of_ble_eq_true rfl⟩) hS hA hP hD [0, 1, 2, 3] [] rfl rfl (by decide) (by decide) (fun r_3 u_2 H locs hu_2 hP hD hS => ?_)
      obtain ⟨hr_3, eu_2⟩ := hu_2
      obtain ⟨b_4, eb_4⟩ : ∃ z, z = (kBegin (F, upd te j ((te j) + (nI 1)), false, tl, lf, cu, ac, gn)).2 := ⟨_, rfl⟩
      rw [← eb_4] at hr_3
      subst hr_3
      have hP := hP.sub (ws' := mW a1 a2 a3 a4 cI u_2 ut) [0, 1, 2, 3] rfl
      have hD := hD.sub (ws' := mW a1 a2 a3 a4 cI u_2 ut) [0, 1, 2, 3] (by decide) rfl
      obtain ⟨F1, te1, dn1, tl1, lf1, cu1, ac1, gn1⟩ := u_2
      have hF1 : F1 = F := by have := congrArg (fun z : K0 => z.1) eu_2; rw [kBegin_F] at this; exact this
      have ht1 : te1 = upd te j (te j + nI 1) := by have := congrArg (fun z : K0 => z.2.1) eu_2; rw [kBegin_te] at this; exact this
      have hc1 : cu1 = cu := by have := congrArg (fun z : K0 => z.2.2.2.2.2.1) eu_2; rw [kBegin_cu] at this; exact this
      subst hF1
      subst hc1
      have hP : va_P (dC, dI) vwCl (mW a1 a2 a3 a4 cI (F1, te1, dn1, tl1, lf1, cu1, ac1, gn1) ut) _ := hP
      have hD : va_D A (mW a1 a2 a3 a4 cI (F1, te1, dn1, tl1, lf1, cu1, ac1, gn1) ut) := hD
      refine lv_istore_n (pc := 30) (lv' := [(2, .int (bI b_4)), (0, .ref a1), (1, .int (nI j))]) hx hb dX0_eraseSector_30 rfl hl (by decide) rfl (fun ls hl => ?_)
      refine lv_iload_n (pc := 31) hx hb dX0_eraseSector_31 rfl (lv_at hl 0 rfl) ?_
      refine lv_if_eq (pc := 32) (tgt := 40) hx hb dX0_eraseSector_32 (by decide) (fun c3 => ?_) (fun c3 => ?_)
      · skip
        have c3 : b_4 = false := bI_0.mp c3
        refine lv_aload_n (pc := 40) hx hb dX0_eraseSector_40 rfl (lv_at hl 1 rfl) ?_
        refine va_get (pc := 41) (D := (dC, dI)) (ci := 0) (v := .int (nI cu1)) (C := RX0) (T := TX0) (N := 9) hx hb hts (by decide +kernel) hown hK hP 0 rfl rfl 6 (by decide) (hts (.fieldLink RX0 32 "ScratchSwap$Memory" "unitsCut" "I") (by decide +kernel)) (fun _ h9 => h9) rfl dX0_eraseSector_41 ?_
        refine lv_istore_n (pc := 44) (lv' := [(3, .int (nI cu1)), (2, .int (bI b_4)), (0, .ref a1), (1, .int (nI j))]) hx hb dX0_eraseSector_44 rfl hl (by decide) rfl (fun ls hl => ?_)
        refine lv_iload_n (pc := 45) hx hb dX0_eraseSector_45 rfl (lv_at hl 3 rfl) ?_
        refine lv_sipush (pc := 46) (v := nI 256) hx hb dX0_eraseSector_46 (by decide) ?_
        refine lv_imul (pc := 49) hx hb dX0_eraseSector_49 ?_
        refine lv_cv (pk_mul j 256) ?_
        refine lv_istore (pc := 50) (lv' := [(4, .int (nI (j * 256))), (3, .int (nI cu1)), (2, .int (bI b_4)), (0, .ref a1), (1, .int (nI j))]) hx hb dX0_eraseSector_50 hl (by decide) rfl (fun ls hl => ?_)
        refine lv_iconst (pc := 52) (v := nI 0) hx hb dX0_eraseSector_52 (by decide) ?_
        refine lv_istore (pc := 53) (lv' := [(5, .int (nI 0)), (4, .int (nI (j * 256))), (3, .int (nI cu1)), (2, .int (bI b_4)), (0, .ref a1), (1, .int (nI j))]) hx hb dX0_eraseSector_53 hl (by decide) rfl (fun ls hl => ?_)
        rw [← fillF_0 F1 (j * 256)] at hP hD
        refine x_loop (σ := (Nat)) (Wd := fun i : (Nat) => mW a1 a2 a3 a4 cI (fillF F1 (j * 256) i, te1, dn1, tl1, lf1, cu1, ac1, gn1) ut) (Lv := fun i : (Nat) => [(5, .int (nI i)), (4, .int (nI (j * 256))), (3, .int (nI cu1)), (2, .int (bI b_4)), (0, .ref a1), (1, .int (nI j))]) (I := fun i : (Nat) => (i ≤ cu1 * 8)) (μ := fun i : (Nat) => cu1 * 8 - i) ?_ (0) (Nat.zero_le _) hP hD hS (lv_sub hl [0, 1, 2, 3, 4, 5] rfl)
        intro i H locs ls hI hP hD hS hl ih55
        have hi8 : (i ≤ cu1 * 8) := hI
        have hP : va_P (dC, dI) vwCl (mW a1 a2 a3 a4 cI (fillF F1 (j * 256) i, te1, dn1, tl1, lf1, cu1, ac1, gn1) ut) _ := hP
        have hD : va_D A (mW a1 a2 a3 a4 cI (fillF F1 (j * 256) i, te1, dn1, tl1, lf1, cu1, ac1, gn1) ut) := hD
        have hl : lv_has ls 6 [(5, .int (nI i)), (4, .int (nI (j * 256))), (3, .int (nI cu1)), (2, .int (bI b_4)), (0, .ref a1), (1, .int (nI j))] := hl
        refine lv_iload (pc := 55) hx hb dX0_eraseSector_55 (lv_at hl 0 rfl) ?_
        refine lv_iload_n (pc := 57) hx hb dX0_eraseSector_57 rfl (lv_at hl 2 rfl) ?_
        refine lv_bipush (pc := 58) (v := nI 8) hx hb dX0_eraseSector_58 (by decide) ?_
        refine lv_imul (pc := 60) hx hb dX0_eraseSector_60 ?_
        refine lv_cv (pk_mul cu1 8) ?_
        refine lv_icmp_ge (pc := 61) (tgt := 94) hx hb dX0_eraseSector_61 (by decide) (fun c_5 => ?_) (fun c_5 => ?_)
        · skip
          have c_5 : (cu1 * 8) ≤ i := (nI_leI (a := (cu1 * 8)) (b := i) (by omega) (by omega)).mp c_5
          refine lv_iload_n (pc := 94) hx hb dX0_eraseSector_94 rfl (lv_at hl 3 rfl) ?_
          have hi9 : i = cu1 * 8 := by omega
          subst hi9
          exact W.zret (v := bI b_4) hx hb hr (nbI b_4) (fun t ht hW => ⟨⟨bI b_4, (fillF F1 (j * 256) (cu1 * 8), te1, dn1, tl1, lf1, cu1, ac1, gn1), rfl, ⟨by show bI b_4 = bI (kBegin (F1, te, false, tl, lf, cu1, ac, gn)).2; rw [eb_4, kB_te], by show _ = (fillF F1 (j * 256) ((if (kBegin (F1, te, false, tl, lf, cu1, ac, gn)).2 = true then 32 else cu1) * 8), upd te j (te j + nI 1), (kBegin (F1, te, false, tl, lf, cu1, ac, gn)).1.2.2); rw [← kB_te (te1 := upd te j (te j + nI 1)), ← eb_4, c3, ht1, ← kB_te2 (te1 := upd te j (te j + nI 1)), ← eu_2]; rfl⟩, by show va_P _ _ _ t.heap; rw [ht]; exact hP, va_K.moved hW.alike hK, hD⟩, hS.F ht⟩) hS.2.2 dX0_eraseSector_95
        · skip
          have c_5 : ¬ (cu1 * 8) ≤ i := fun z => c_5 ((nI_leI (a := (cu1 * 8)) (b := i) (by omega) (by omega)).mpr z)
          refine lv_iload (pc := 64) hx hb dX0_eraseSector_64 (lv_at hl 1 rfl) ?_
          refine lv_iload (pc := 66) hx hb dX0_eraseSector_66 (lv_at hl 0 rfl) ?_
          refine lv_iadd (pc := 68) hx hb dX0_eraseSector_68 ?_
          refine lv_cv (nI_add (j * 256) i) ?_
          refine x_roi (pc := 69) (va_runS (As := [.int (nI ((j * 256) + i))]) (rest := []) ⟨hx, hb, hml, hown, hts⟩ (kX0_has l dC dI tt cI cB _ (nI ((j * 256) + i))) (va_cwS 1 hts gX0_eraseSector_X0_has rfl rfl rfl (by decide +kernel) ⟨Nat.le_of_ble_eq_true rfl, Nat.le_of_ble_eq_true rfl⟩) (x_preS hS hE hK hP hD [] rfl (by decide) (x_ro hS hA) xR0) rfl rfl hl.1 rfl (lv_room (Nat.le_of_ble_eq_true rfl)) dX0_eraseSector_69 ⟨Nat.le_of_ble_eq_true rfl, Nat.le_of_ble_eq_true rfl⟩) hS hA hP (fun r_6 H locs hr_6 hP hS => ?_)
          subst hr_6
          refine lv_if_eq (pc := 72) (tgt := 88) hx hb dX0_eraseSector_72 (by decide) (fun c5 => ?_) (fun c5 => ?_)
          · skip
            have c5 : inB 2816 (nI ((j * 256) + i)) = false := bI_0.mp c5
            exact absurd c5 (by rw [inB_nI (by omega) (by decide)]; decide)
          · skip
            have c5 : inB 2816 (nI ((j * 256) + i)) = true := bI_1.mp c5
            refine lv_aload_n (pc := 75) hx hb dX0_eraseSector_75 rfl (lv_at hl 4 rfl) ?_
            refine va_get (pc := 76) (D := (dC, dI)) (ci := 0) (v := .ref a2) (C := RX0) (T := TX0) (N := 9) hx hb hts (by decide +kernel) hown hK hP 0 rfl rfl 0 (by decide) (hts (.fieldLink RX0 9 "ScratchSwap$Memory" "bytes" "[I") (by decide +kernel)) (fun _ h9 => h9) rfl dX0_eraseSector_76 ?_
            refine lv_iload (pc := 79) hx hb dX0_eraseSector_79 (lv_at hl 1 rfl) ?_
            refine lv_iload (pc := 81) hx hb dX0_eraseSector_81 (lv_at hl 0 rfl) ?_
            refine lv_iadd (pc := 83) hx hb dX0_eraseSector_83 ?_
            refine lv_cv (nI_add (j * 256) i) ?_
            refine lv_sipush (pc := 84) (v := nI 255) hx hb dX0_eraseSector_84 (by decide) ?_
            refine lv_cv ub_m1.symm ?_
            refine x_ust (pc := 87) (k := (j * 256) + i) (F := fillF F1 (j * 256) i) (x := (-1)) hx hb hK hP hD hS 1 0 rfl rfl (by omega) (by decide) dX0_eraseSector_87 (fun H locs hP hD hS => ?_)
            have hP : va_P (dC, dI) vwCl (mW a1 a2 a3 a4 cI (va_up (fillF F1 (j * 256) i) ((j * 256) + i) (-1), te1, dn1, tl1, lf1, cu1, ac1, gn1) ut) _ := hP
            have hD : va_D A (mW a1 a2 a3 a4 cI (va_up (fillF F1 (j * 256) i) ((j * 256) + i) (-1), te1, dn1, tl1, lf1, cu1, ac1, gn1) ut) := hD
            refine lv_iinc (pc := 88) (v := nI (i + 1)) (lv' := [(5, .int (nI (i + 1))), (4, .int (nI (j * 256))), (3, .int (nI cu1)), (2, .int (bI b_4)), (0, .ref a1), (1, .int (nI j))]) hx hb dX0_eraseSector_88 hl (k := 0) rfl (nI_inc i 1) (by decide) rfl (fun ls hl => ?_)
            refine lv_goto (pc := 91) (tgt := 55) hx hb dX0_eraseSector_91 (by decide) ?_
            rw [fillF_step] at hP hD
            exact ih55 (i + 1) H locs ls (by omega) (by first | omega | (simp only []; omega)) hP hD hS (lv_sub hl [0, 1, 2, 3, 4, 5] rfl)
      · skip
        have c3 : b_4 = true := bI_1.mp c3
        refine lv_bipush (pc := 35) (v := nI 32) hx hb dX0_eraseSector_35 (by decide) ?_
        refine lv_goto (pc := 37) (tgt := 44) hx hb dX0_eraseSector_37 (by decide) ?_
        refine lv_istore_n (pc := 44) (lv' := [(3, .int (nI 32)), (2, .int (bI b_4)), (0, .ref a1), (1, .int (nI j))]) hx hb dX0_eraseSector_44 rfl hl (by decide) rfl (fun ls hl => ?_)
        refine lv_iload_n (pc := 45) hx hb dX0_eraseSector_45 rfl (lv_at hl 3 rfl) ?_
        refine lv_sipush (pc := 46) (v := nI 256) hx hb dX0_eraseSector_46 (by decide) ?_
        refine lv_imul (pc := 49) hx hb dX0_eraseSector_49 ?_
        refine lv_cv (pk_mul j 256) ?_
        refine lv_istore (pc := 50) (lv' := [(4, .int (nI (j * 256))), (3, .int (nI 32)), (2, .int (bI b_4)), (0, .ref a1), (1, .int (nI j))]) hx hb dX0_eraseSector_50 hl (by decide) rfl (fun ls hl => ?_)
        refine lv_iconst (pc := 52) (v := nI 0) hx hb dX0_eraseSector_52 (by decide) ?_
        refine lv_istore (pc := 53) (lv' := [(5, .int (nI 0)), (4, .int (nI (j * 256))), (3, .int (nI 32)), (2, .int (bI b_4)), (0, .ref a1), (1, .int (nI j))]) hx hb dX0_eraseSector_53 hl (by decide) rfl (fun ls hl => ?_)
        rw [← fillF_0 F1 (j * 256)] at hP hD
        refine x_loop (σ := (Nat)) (Wd := fun i : (Nat) => mW a1 a2 a3 a4 cI (fillF F1 (j * 256) i, te1, dn1, tl1, lf1, cu1, ac1, gn1) ut) (Lv := fun i : (Nat) => [(5, .int (nI i)), (4, .int (nI (j * 256))), (3, .int (nI 32)), (2, .int (bI b_4)), (0, .ref a1), (1, .int (nI j))]) (I := fun i : (Nat) => (i ≤ 32 * 8)) (μ := fun i : (Nat) => 32 * 8 - i) ?_ (0) (Nat.zero_le _) hP hD hS (lv_sub hl [0, 1, 2, 3, 4, 5] rfl)
        intro i H locs ls hI hP hD hS hl ih55
        have hi8 : (i ≤ 32 * 8) := hI
        have hP : va_P (dC, dI) vwCl (mW a1 a2 a3 a4 cI (fillF F1 (j * 256) i, te1, dn1, tl1, lf1, cu1, ac1, gn1) ut) _ := hP
        have hD : va_D A (mW a1 a2 a3 a4 cI (fillF F1 (j * 256) i, te1, dn1, tl1, lf1, cu1, ac1, gn1) ut) := hD
        have hl : lv_has ls 6 [(5, .int (nI i)), (4, .int (nI (j * 256))), (3, .int (nI 32)), (2, .int (bI b_4)), (0, .ref a1), (1, .int (nI j))] := hl
        refine lv_iload (pc := 55) hx hb dX0_eraseSector_55 (lv_at hl 0 rfl) ?_
        refine lv_iload_n (pc := 57) hx hb dX0_eraseSector_57 rfl (lv_at hl 2 rfl) ?_
        refine lv_bipush (pc := 58) (v := nI 8) hx hb dX0_eraseSector_58 (by decide) ?_
        refine lv_imul (pc := 60) hx hb dX0_eraseSector_60 ?_
        refine lv_cv (pk_mul 32 8) ?_
        refine lv_icmp_ge (pc := 61) (tgt := 94) hx hb dX0_eraseSector_61 (by decide) (fun c_7 => ?_) (fun c_7 => ?_)
        · skip
          have c_7 : (32 * 8) ≤ i := (nI_leI (a := (32 * 8)) (b := i) (by omega) (by omega)).mp c_7
          refine lv_iload_n (pc := 94) hx hb dX0_eraseSector_94 rfl (lv_at hl 3 rfl) ?_
          have hi9 : i = 32 * 8 := by omega
          subst hi9
          exact W.zret (v := bI b_4) hx hb hr (nbI b_4) (fun t ht hW => ⟨⟨bI b_4, (fillF F1 (j * 256) (32 * 8), te1, dn1, tl1, lf1, cu1, ac1, gn1), rfl, ⟨by show bI b_4 = bI (kBegin (F1, te, false, tl, lf, cu1, ac, gn)).2; rw [eb_4, kB_te], by show _ = (fillF F1 (j * 256) ((if (kBegin (F1, te, false, tl, lf, cu1, ac, gn)).2 = true then 32 else cu1) * 8), upd te j (te j + nI 1), (kBegin (F1, te, false, tl, lf, cu1, ac, gn)).1.2.2); rw [← kB_te (te1 := upd te j (te j + nI 1)), ← eb_4, c3, ht1, ← kB_te2 (te1 := upd te j (te j + nI 1)), ← eu_2]; rfl⟩, by show va_P _ _ _ t.heap; rw [ht]; exact hP, va_K.moved hW.alike hK, hD⟩, hS.F ht⟩) hS.2.2 dX0_eraseSector_95
        · skip
          have c_7 : ¬ (32 * 8) ≤ i := fun z => c_7 ((nI_leI (a := (32 * 8)) (b := i) (by omega) (by omega)).mpr z)
          refine lv_iload (pc := 64) hx hb dX0_eraseSector_64 (lv_at hl 1 rfl) ?_
          refine lv_iload (pc := 66) hx hb dX0_eraseSector_66 (lv_at hl 0 rfl) ?_
          refine lv_iadd (pc := 68) hx hb dX0_eraseSector_68 ?_
          refine lv_cv (nI_add (j * 256) i) ?_
          refine x_roi (pc := 69) (va_runS (As := [.int (nI ((j * 256) + i))]) (rest := []) ⟨hx, hb, hml, hown, hts⟩ (kX0_has l dC dI tt cI cB _ (nI ((j * 256) + i))) (va_cwS 1 hts gX0_eraseSector_X0_has rfl rfl rfl (by decide +kernel) ⟨Nat.le_of_ble_eq_true rfl, Nat.le_of_ble_eq_true rfl⟩) (x_preS hS hE hK hP hD [] rfl (by decide) (x_ro hS hA) xR0) rfl rfl hl.1 rfl (lv_room (Nat.le_of_ble_eq_true rfl)) dX0_eraseSector_69 ⟨Nat.le_of_ble_eq_true rfl, Nat.le_of_ble_eq_true rfl⟩) hS hA hP (fun r_8 H locs hr_8 hP hS => ?_)
          subst hr_8
          refine lv_if_eq (pc := 72) (tgt := 88) hx hb dX0_eraseSector_72 (by decide) (fun c5 => ?_) (fun c5 => ?_)
          · skip
            have c5 : inB 2816 (nI ((j * 256) + i)) = false := bI_0.mp c5
            exact absurd c5 (by rw [inB_nI (by omega) (by decide)]; decide)
          · skip
            have c5 : inB 2816 (nI ((j * 256) + i)) = true := bI_1.mp c5
            refine lv_aload_n (pc := 75) hx hb dX0_eraseSector_75 rfl (lv_at hl 4 rfl) ?_
            refine va_get (pc := 76) (D := (dC, dI)) (ci := 0) (v := .ref a2) (C := RX0) (T := TX0) (N := 9) hx hb hts (by decide +kernel) hown hK hP 0 rfl rfl 0 (by decide) (hts (.fieldLink RX0 9 "ScratchSwap$Memory" "bytes" "[I") (by decide +kernel)) (fun _ h9 => h9) rfl dX0_eraseSector_76 ?_
            refine lv_iload (pc := 79) hx hb dX0_eraseSector_79 (lv_at hl 1 rfl) ?_
            refine lv_iload (pc := 81) hx hb dX0_eraseSector_81 (lv_at hl 0 rfl) ?_
            refine lv_iadd (pc := 83) hx hb dX0_eraseSector_83 ?_
            refine lv_cv (nI_add (j * 256) i) ?_
            refine lv_sipush (pc := 84) (v := nI 255) hx hb dX0_eraseSector_84 (by decide) ?_
            refine lv_cv ub_m1.symm ?_
            refine x_ust (pc := 87) (k := (j * 256) + i) (F := fillF F1 (j * 256) i) (x := (-1)) hx hb hK hP hD hS 1 0 rfl rfl (by omega) (by decide) dX0_eraseSector_87 (fun H locs hP hD hS => ?_)
            have hP : va_P (dC, dI) vwCl (mW a1 a2 a3 a4 cI (va_up (fillF F1 (j * 256) i) ((j * 256) + i) (-1), te1, dn1, tl1, lf1, cu1, ac1, gn1) ut) _ := hP
            have hD : va_D A (mW a1 a2 a3 a4 cI (va_up (fillF F1 (j * 256) i) ((j * 256) + i) (-1), te1, dn1, tl1, lf1, cu1, ac1, gn1) ut) := hD
            refine lv_iinc (pc := 88) (v := nI (i + 1)) (lv' := [(5, .int (nI (i + 1))), (4, .int (nI (j * 256))), (3, .int (nI 32)), (2, .int (bI b_4)), (0, .ref a1), (1, .int (nI j))]) hx hb dX0_eraseSector_88 hl (k := 0) rfl (nI_inc i 1) (by decide) rfl (fun ls hl => ?_)
            refine lv_goto (pc := 91) (tgt := 55) hx hb dX0_eraseSector_91 (by decide) ?_
            rw [fillF_step] at hP hD
            exact ih55 (i + 1) H locs ls (by omega) (by first | omega | (simp only []; omega)) hP hD hS (lv_sub hl [0, 1, 2, 3, 4, 5] rfl)
    · skip
      have c2 : inB 11 (nI j) = false := bI_0.mp c2
      exact absurd c2 (by rw [inB_nI hj (by decide)]; decide)
set_option maxHeartbeats 4000000 in
set_option maxRecDepth 100000 in
theorem kX0_blankT (l : Launch) (dC : Nat → ClassId) (dI : Nat → Nat → Nat) (tt : Nat → Nat) (cI cB : ClassId) (sz : Nat) (a1 a2 a3 a4 : Nat) (k : K0) (ut : Nat → Int32) (t n : Nat) (G : Nat → Int8) (fr en : Nat) (hen : en ≤ n) (hn : n < 2 ^ 31) (hfr : fr + 8 < 2 ^ 31) : MetI (S := (Nat → Int32)) l yX0_isBlankWhenTaken wsX0_isBlankWhenTaken { frames := 0, cells := 0, slots := 0, locals := 0 } (dC, dI) [(cI, .int), (cB, .byte)] tt [(t, n, fun j => ub (G j))] sz (mW a1 a2 a3 a4 cI k ut) [.ref a1, .ref t, .int (nI fr), .int (nI en)] (fun u : (Nat → Int32) => mW a1 a2 a3 a4 cI k u) (fun r u => r = bI (blkTo (unitG G fr en) 8) ∧ ∀ j, j < 8 → u j = ub (unitG G fr en j)) := by
  refine Met.ofW (cc := cX0_isBlankWhenTaken) (maxL := 8) (ret := (some .boolean)) (by decide) rfl ?_
  intro p e s m args below meth c s₁ B hml hv
  obtain ⟨rfl, hsz, hP, hK, hD0, hE⟩ := hv
  have hx := B.exec
  have hb := B.bytes
  have hr := B.returns
  have hts := atoms_spec (ws := wsX0_isBlankWhenTaken) B.pre
  have hown : s.vm.findClass RX0 = some m.cls := findClass_of_methodNamed B.named
  have hlocks := B.notSynchronized
  subst hsz
  obtain ⟨F, te, dn, tl, lf, cu, ac, gn⟩ := k
  have hD := hD0.self (sz := s.heap.size)
  generalize hAe : va_A (mW a1 a2 a3 a4 cI (F, te, dn, tl, lf, cu, ac, gn) ut) s.heap.size = A at hD hE ⊢
  have hA : ∀ q : Nat, s.heap.size ≤ q → A q := fun q h => by rw [← hAe]; exact Or.inr h
  have hS : va_S A s.heap s.heap [] := va_S.rf
  have hl := lv_entry ([.ref a1, .ref t, .int (nI fr), .int (nI en)]) (n := 8) (Nat.le_of_ble_eq_true rfl)
  rw [lg_entry_eq]
  generalize (lg_sl ([.ref a1, .ref t, .int (nI fr), .int (nI en)]) ++ List.replicate (8 - (lg_sl ([.ref a1, .ref t, .int (nI fr), .int (nI en)])).length) Slot.unset).toArray = ls at hl ⊢
  have hl : lv_has ls 8 [(0, .ref a1), (1, .ref t), (2, .int (nI fr)), (3, .int (nI en))] := hl
  have hP : va_P (dC, dI) vwCl (mW a1 a2 a3 a4 cI (F, te, dn, tl, lf, cu, ac, gn) ut) s.heap := hP
  have hT : va_T .int t n (fun j => .int (ub (G j))) A s s.heap := hE.2.2.2.2.2.2.2.2 _ List.mem_cons_self
  refine lv_iconst (pc := 0) (v := nI 1) hx hb dX0_isBlankWhenTaken_0 (by decide) ?_
  refine lv_istore (pc := 1) (lv' := [(4, .int (nI 1)), (0, .ref a1), (1, .ref t), (2, .int (nI fr)), (3, .int (nI en))]) hx hb dX0_isBlankWhenTaken_1 hl (by decide) rfl (fun ls hl => ?_)
  refine lv_iconst (pc := 3) (v := nI 0) hx hb dX0_isBlankWhenTaken_3 (by decide) ?_
  refine lv_istore (pc := 4) (lv' := [(5, .int (nI 0)), (4, .int (nI 1)), (0, .ref a1), (1, .ref t), (2, .int (nI fr)), (3, .int (nI en))]) hx hb dX0_isBlankWhenTaken_4 hl (by decide) rfl (fun ls hl => ?_)
  have hl : lv_has ls 8 [(5, .int (nI 0)), (4, .int (bI (blkTo (unitG G fr en) 0))), (0, .ref a1), (1, .ref t), (2, .int (nI fr)), (3, .int (nI en))] := by rw [show blkTo (unitG G fr en) 0 = true from blkTo_0 _]; exact hl
  refine x_loop (σ := (Nat) × (Nat → Int32)) (Wd := fun x : (Nat) × (Nat → Int32) => match x with | (i, ut) => mW a1 a2 a3 a4 cI (F, te, dn, tl, lf, cu, ac, gn) ut) (Lv := fun x : (Nat) × (Nat → Int32) => match x with | (i, ut) => [(5, .int (nI i)), (4, .int (bI (blkTo (unitG G fr en) i))), (0, .ref a1), (1, .ref t), (2, .int (nI fr)), (3, .int (nI en))]) (I := fun x : (Nat) × (Nat → Int32) => match x with | (i, ut) => (i ≤ 8) ∧ (∀ j, j < i → ut j = ub (unitG G fr en j))) (μ := fun x : (Nat) × (Nat → Int32) => match x with | (i, ut) => 8 - i) ?_ (0, ut) ⟨by omega, fun j hj => absurd hj (Nat.not_lt_zero j)⟩ hP hD hS (lv_sub hl [0, 1, 2, 3, 4, 5] rfl)
  intro x H locs ls hI hP hD hS hl ih6
  obtain ⟨i, ut⟩ := x
  obtain ⟨hi8, hu⟩ : (i ≤ 8) ∧ (∀ j, j < i → ut j = ub (unitG G fr en j)) := hI
  have hP : va_P (dC, dI) vwCl (mW a1 a2 a3 a4 cI (F, te, dn, tl, lf, cu, ac, gn) ut) _ := hP
  have hD : va_D A (mW a1 a2 a3 a4 cI (F, te, dn, tl, lf, cu, ac, gn) ut) := hD
  have hl : lv_has ls 8 [(5, .int (nI i)), (4, .int (bI (blkTo (unitG G fr en) i))), (0, .ref a1), (1, .ref t), (2, .int (nI fr)), (3, .int (nI en))] := hl
  refine lv_iload (pc := 6) hx hb dX0_isBlankWhenTaken_6 (lv_at hl 0 rfl) ?_
  refine lv_bipush (pc := 8) (v := nI 8) hx hb dX0_isBlankWhenTaken_8 (by decide) ?_
  refine lv_icmp_ge (pc := 10) (tgt := 101) hx hb dX0_isBlankWhenTaken_10 (by decide) (fun c_1 => ?_) (fun c_1 => ?_)
  · skip
    have c_1 : 8 ≤ i := (nI_leI (a := 8) (b := i) (by omega) (by omega)).mp c_1
    refine lv_iload (pc := 101) hx hb dX0_isBlankWhenTaken_101 (lv_at hl 1 rfl) ?_
    have hi9 : i = 8 := by omega
    subst hi9
    exact W.zret (v := bI (blkTo (unitG G fr en) 8)) hx hb hr (nbI (blkTo (unitG G fr en) 8)) (fun t ht hW => ⟨⟨bI (blkTo (unitG G fr en) 8), ut, rfl, ⟨rfl, hu⟩, by show va_P _ _ _ t.heap; rw [ht]; exact hP, va_K.moved hW.alike hK, hD⟩, hS.F ht⟩) hS.2.2 dX0_isBlankWhenTaken_103
  · skip
    have c_1 : ¬ 8 ≤ i := fun z => c_1 ((nI_leI (a := 8) (b := i) (by omega) (by omega)).mpr z)
    refine lv_iload_n (pc := 13) hx hb dX0_isBlankWhenTaken_13 rfl (lv_at hl 4 rfl) ?_
    refine lv_iload (pc := 14) hx hb dX0_isBlankWhenTaken_14 (lv_at hl 0 rfl) ?_
    refine lv_iadd (pc := 16) hx hb dX0_isBlankWhenTaken_16 ?_
    refine lv_cv (nI_add fr i) ?_
    refine lv_istore (pc := 17) (lv' := [(6, .int (nI (fr + i))), (5, .int (nI i)), (4, .int (bI (blkTo (unitG G fr en) i))), (0, .ref a1), (1, .ref t), (2, .int (nI fr)), (3, .int (nI en))]) hx hb dX0_isBlankWhenTaken_17 hl (by decide) rfl (fun ls hl => ?_)
    refine lv_aload_n (pc := 19) hx hb dX0_isBlankWhenTaken_19 rfl (lv_at hl 4 rfl) ?_
    refine lv_ifnull (pc := 20) hx hb dX0_isBlankWhenTaken_20 ?_
    refine lv_iload (pc := 23) hx hb dX0_isBlankWhenTaken_23 (lv_at hl 0 rfl) ?_
    refine lv_if_lt (pc := 25) (tgt := 45) hx hb dX0_isBlankWhenTaken_25 (by decide) (fun c0 => ?_) (fun c0 => ?_)
    · skip
      have c0 : (fr + i) < 0 := (nI_ltI (a := (fr + i)) (b := 0) (by omega) (by omega)).mp c0
      exfalso; omega
    · skip
      have c0 : ¬ (fr + i) < 0 := fun z => c0 ((nI_ltI (a := (fr + i)) (b := 0) (by omega) (by omega)).mpr z)
      refine lv_iload (pc := 28) hx hb dX0_isBlankWhenTaken_28 (lv_at hl 0 rfl) ?_
      refine lv_iload_n (pc := 30) hx hb dX0_isBlankWhenTaken_30 rfl (lv_at hl 6 rfl) ?_
      refine lv_icmp_ge (pc := 31) (tgt := 45) hx hb dX0_isBlankWhenTaken_31 (by decide) (fun c1 => ?_) (fun c1 => ?_)
      · skip
        have c1 : en ≤ (fr + i) := (nI_leI (a := en) (b := (fr + i)) (by omega) (by omega)).mp c1
        have g9 : unitG G fr en i = -1 := by unfold unitG; rw [if_neg (by omega)]
        refine lv_iconst (pc := 45) (v := nI 0) hx hb dX0_isBlankWhenTaken_45 (by decide) ?_
        refine lv_istore (pc := 46) (lv' := [(7, .int (nI 0)), (6, .int (nI (fr + i))), (5, .int (nI i)), (4, .int (bI (blkTo (unitG G fr en) i))), (0, .ref a1), (1, .ref t), (2, .int (nI fr)), (3, .int (nI en))]) hx hb dX0_isBlankWhenTaken_46 hl (by decide) rfl (fun ls hl => ?_)
        refine lv_aload_n (pc := 48) hx hb dX0_isBlankWhenTaken_48 rfl (lv_at hl 4 rfl) ?_
        refine va_get (pc := 49) (D := (dC, dI)) (ci := 0) (v := .ref a4) (C := RX0) (T := TX0) (N := 9) hx hb hts (by decide +kernel) hown hK hP 0 rfl rfl 2 (by decide) (hts (.fieldLink RX0 18 "ScratchSwap$Memory" "unitTaken" "[I") (by decide +kernel)) (fun _ h9 => h9) rfl dX0_isBlankWhenTaken_49 ?_
        refine lv_iload (pc := 52) hx hb dX0_isBlankWhenTaken_52 (lv_at hl 2 rfl) ?_
        refine lv_iload (pc := 54) hx hb dX0_isBlankWhenTaken_54 (lv_at hl 0 rfl) ?_
        refine lv_if_eq (pc := 56) (tgt := 66) hx hb dX0_isBlankWhenTaken_56 (by decide) (fun c3 => ?_) (fun c3 => ?_)
        · skip
          have c3 : 0 = 0 := (nI_eq (a := 0) (b := 0) (by omega) (by omega)).mp c3
          refine lv_sipush (pc := 66) (v := nI 255) hx hb dX0_isBlankWhenTaken_66 (by decide) ?_
          refine x_iast (pc := 69) (k := i) (f := ut) hx hb hK hP hD hS 3 0 rfl rfl (by omega) (by decide) dX0_isBlankWhenTaken_69 (fun H locs hP hD hS => ?_)
          have hP : va_P (dC, dI) vwCl (mW a1 a2 a3 a4 cI (F, te, dn, tl, lf, cu, ac, gn) (upd ut i (nI 255))) _ := hP
          have hD : va_D A (mW a1 a2 a3 a4 cI (F, te, dn, tl, lf, cu, ac, gn) (upd ut i (nI 255))) := hD
          refine lv_iload (pc := 70) hx hb dX0_isBlankWhenTaken_70 (lv_at hl 3 rfl) ?_
          refine lv_if_eq (pc := 72) (tgt := 92) hx hb dX0_isBlankWhenTaken_72 (by decide) (fun c7 => ?_) (fun c7 => ?_)
          · skip
            have c7 : blkTo (unitG G fr en) i = false := bI_0.mp c7
            refine lv_iconst (pc := 92) (v := nI 0) hx hb dX0_isBlankWhenTaken_92 (by decide) ?_
            refine lv_cv (y := bI (blkTo (unitG G fr en) (i + 1))) (by rw [show blkTo (unitG G fr en) (i + 1) = false from by rw [blkTo_s]; first | (simp [c7, c9]; done) | (simp [c7]; done)]; rfl) ?_
            refine lv_istore (pc := 93) (lv' := [(4, .int (bI (blkTo (unitG G fr en) (i + 1)))), (7, .int (nI 0)), (6, .int (nI (fr + i))), (5, .int (nI i)), (0, .ref a1), (1, .ref t), (2, .int (nI fr)), (3, .int (nI en))]) hx hb dX0_isBlankWhenTaken_93 hl (by decide) rfl (fun ls hl => ?_)
            refine lv_iinc (pc := 95) (v := nI (i + 1)) (lv' := [(5, .int (nI (i + 1))), (4, .int (bI (blkTo (unitG G fr en) (i + 1)))), (7, .int (nI 0)), (6, .int (nI (fr + i))), (0, .ref a1), (1, .ref t), (2, .int (nI fr)), (3, .int (nI en))]) hx hb dX0_isBlankWhenTaken_95 hl (k := 3) rfl (nI_inc i 1) (by decide) rfl (fun ls hl => ?_)
            refine lv_goto (pc := 98) (tgt := 6) hx hb dX0_isBlankWhenTaken_98 (by decide) ?_
            have hu9 : ∀ j, j < i + 1 → (upd ut i (nI 255)) j = ub (unitG G fr en j) := by
              intro j hj
              unfold upd
              by_cases hji : j = i
              · rw [if_pos hji, hji, g9] ; exact ub_m1.symm
              · rw [if_neg hji]; exact hu j (by omega)
            exact ih6 (i + 1, upd ut i (nI 255)) H locs ls ⟨by omega, hu9⟩ (by first | omega | (simp only []; omega)) hP hD hS (lv_sub hl [0, 1, 4, 5, 6, 7] rfl)
          · skip
            have c7 : blkTo (unitG G fr en) i = true := bI_1.mp c7
            refine lv_aload_n (pc := 75) hx hb dX0_isBlankWhenTaken_75 rfl (lv_at hl 4 rfl) ?_
            refine va_get (pc := 76) (D := (dC, dI)) (ci := 0) (v := .ref a4) (C := RX0) (T := TX0) (N := 9) hx hb hts (by decide +kernel) hown hK hP 0 rfl rfl 2 (by decide) (hts (.fieldLink RX0 18 "ScratchSwap$Memory" "unitTaken" "[I") (by decide +kernel)) (fun _ h9 => h9) rfl dX0_isBlankWhenTaken_76 ?_
            refine lv_iload (pc := 79) hx hb dX0_isBlankWhenTaken_79 (lv_at hl 2 rfl) ?_
            refine x_iald (pc := 81) (k := i) (f := upd ut i (nI 255)) hx hb hK hP 3 0 rfl rfl (by omega) (by decide) dX0_isBlankWhenTaken_81 ?_
            refine lv_sipush (pc := 82) (v := nI 255) hx hb dX0_isBlankWhenTaken_82 (by decide) ?_
            refine lv_icmp_ne (pc := 85) (tgt := 92) hx hb dX0_isBlankWhenTaken_85 (by decide) (fun c8 => ?_) (fun c8 => ?_)
            · skip
              have c9 : ¬ unitG G fr en i = -1 := by
                have e9 : (upd ut i (nI 255)) i = ub (unitG G fr en i) := by unfold upd; rw [if_pos rfl, g9]; exact ub_m1.symm
                intro z; apply c8; rw [e9, z]; exact ub_m1
              refine lv_iconst (pc := 92) (v := nI 0) hx hb dX0_isBlankWhenTaken_92 (by decide) ?_
              refine lv_cv (y := bI (blkTo (unitG G fr en) (i + 1))) (by rw [show blkTo (unitG G fr en) (i + 1) = false from by rw [blkTo_s]; first | (simp [c7, c9]; done) | (simp [c7]; done)]; rfl) ?_
              refine lv_istore (pc := 93) (lv' := [(4, .int (bI (blkTo (unitG G fr en) (i + 1)))), (7, .int (nI 0)), (6, .int (nI (fr + i))), (5, .int (nI i)), (0, .ref a1), (1, .ref t), (2, .int (nI fr)), (3, .int (nI en))]) hx hb dX0_isBlankWhenTaken_93 hl (by decide) rfl (fun ls hl => ?_)
              refine lv_iinc (pc := 95) (v := nI (i + 1)) (lv' := [(5, .int (nI (i + 1))), (4, .int (bI (blkTo (unitG G fr en) (i + 1)))), (7, .int (nI 0)), (6, .int (nI (fr + i))), (0, .ref a1), (1, .ref t), (2, .int (nI fr)), (3, .int (nI en))]) hx hb dX0_isBlankWhenTaken_95 hl (k := 3) rfl (nI_inc i 1) (by decide) rfl (fun ls hl => ?_)
              refine lv_goto (pc := 98) (tgt := 6) hx hb dX0_isBlankWhenTaken_98 (by decide) ?_
              have hu9 : ∀ j, j < i + 1 → (upd ut i (nI 255)) j = ub (unitG G fr en j) := by
                intro j hj
                unfold upd
                by_cases hji : j = i
                · rw [if_pos hji, hji, g9] ; exact ub_m1.symm
                · rw [if_neg hji]; exact hu j (by omega)
              exact ih6 (i + 1, upd ut i (nI 255)) H locs ls ⟨by omega, hu9⟩ (by first | omega | (simp only []; omega)) hP hD hS (lv_sub hl [0, 1, 4, 5, 6, 7] rfl)
            · skip
              have c9 : unitG G fr en i = -1 := by
                have e9 : (upd ut i (nI 255)) i = ub (unitG G fr en i) := by unfold upd; rw [if_pos rfl, g9]; exact ub_m1.symm
                rw [e9, ← ub_m1] at c8; exact ub_inj.mp c8
              refine lv_iconst (pc := 88) (v := nI 1) hx hb dX0_isBlankWhenTaken_88 (by decide) ?_
              refine lv_cv (y := bI (blkTo (unitG G fr en) (i + 1))) (by rw [show blkTo (unitG G fr en) (i + 1) = true from by rw [blkTo_s]; first | (simp [c7, c9]; done) | (simp [c7]; done)]; rfl) ?_
              refine lv_goto (pc := 89) (tgt := 93) hx hb dX0_isBlankWhenTaken_89 (by decide) ?_
              refine lv_istore (pc := 93) (lv' := [(4, .int (bI (blkTo (unitG G fr en) (i + 1)))), (7, .int (nI 0)), (6, .int (nI (fr + i))), (5, .int (nI i)), (0, .ref a1), (1, .ref t), (2, .int (nI fr)), (3, .int (nI en))]) hx hb dX0_isBlankWhenTaken_93 hl (by decide) rfl (fun ls hl => ?_)
              refine lv_iinc (pc := 95) (v := nI (i + 1)) (lv' := [(5, .int (nI (i + 1))), (4, .int (bI (blkTo (unitG G fr en) (i + 1)))), (7, .int (nI 0)), (6, .int (nI (fr + i))), (0, .ref a1), (1, .ref t), (2, .int (nI fr)), (3, .int (nI en))]) hx hb dX0_isBlankWhenTaken_95 hl (k := 3) rfl (nI_inc i 1) (by decide) rfl (fun ls hl => ?_)
              refine lv_goto (pc := 98) (tgt := 6) hx hb dX0_isBlankWhenTaken_98 (by decide) ?_
              have hu9 : ∀ j, j < i + 1 → (upd ut i (nI 255)) j = ub (unitG G fr en j) := by
                intro j hj
                unfold upd
                by_cases hji : j = i
                · rw [if_pos hji, hji, g9] ; exact ub_m1.symm
                · rw [if_neg hji]; exact hu j (by omega)
              exact ih6 (i + 1, upd ut i (nI 255)) H locs ls ⟨by omega, hu9⟩ (by first | omega | (simp only []; omega)) hP hD hS (lv_sub hl [0, 1, 4, 5, 6, 7] rfl)
        · skip
          have c3 : ¬ 0 = 0 := fun z => c3 ((nI_eq (a := 0) (b := 0) (by omega) (by omega)).mpr z)
          exfalso; omega
      · skip
        have c1 : ¬ en ≤ (fr + i) := fun z => c1 ((nI_leI (a := en) (b := (fr + i)) (by omega) (by omega)).mpr z)
        have g9 : unitG G fr en i = G (fr + i) := by unfold unitG; rw [if_pos (by omega)]
        refine lv_iload (pc := 34) hx hb dX0_isBlankWhenTaken_34 (lv_at hl 0 rfl) ?_
        refine lv_aload_n (pc := 36) hx hb dX0_isBlankWhenTaken_36 rfl (lv_at hl 4 rfl) ?_
        refine va_tlen (pc := 37) (v := nI n) hx hb hT hS rfl dX0_isBlankWhenTaken_37 ?_
        refine lv_icmp_ge (pc := 38) (tgt := 45) hx hb dX0_isBlankWhenTaken_38 (by decide) (fun c2 => ?_) (fun c2 => ?_)
        · skip
          have c2 : n ≤ (fr + i) := (nI_leI (a := n) (b := (fr + i)) (by omega) (by omega)).mp c2
          exfalso; omega
        · skip
          have c2 : ¬ n ≤ (fr + i) := fun z => c2 ((nI_leI (a := n) (b := (fr + i)) (by omega) (by omega)).mpr z)
          refine lv_iconst (pc := 41) (v := nI 1) hx hb dX0_isBlankWhenTaken_41 (by decide) ?_
          refine lv_goto (pc := 42) (tgt := 46) hx hb dX0_isBlankWhenTaken_42 (by decide) ?_
          refine lv_istore (pc := 46) (lv' := [(7, .int (nI 1)), (6, .int (nI (fr + i))), (5, .int (nI i)), (4, .int (bI (blkTo (unitG G fr en) i))), (0, .ref a1), (1, .ref t), (2, .int (nI fr)), (3, .int (nI en))]) hx hb dX0_isBlankWhenTaken_46 hl (by decide) rfl (fun ls hl => ?_)
          refine lv_aload_n (pc := 48) hx hb dX0_isBlankWhenTaken_48 rfl (lv_at hl 4 rfl) ?_
          refine va_get (pc := 49) (D := (dC, dI)) (ci := 0) (v := .ref a4) (C := RX0) (T := TX0) (N := 9) hx hb hts (by decide +kernel) hown hK hP 0 rfl rfl 2 (by decide) (hts (.fieldLink RX0 18 "ScratchSwap$Memory" "unitTaken" "[I") (by decide +kernel)) (fun _ h9 => h9) rfl dX0_isBlankWhenTaken_49 ?_
          refine lv_iload (pc := 52) hx hb dX0_isBlankWhenTaken_52 (lv_at hl 2 rfl) ?_
          refine lv_iload (pc := 54) hx hb dX0_isBlankWhenTaken_54 (lv_at hl 0 rfl) ?_
          refine lv_if_eq (pc := 56) (tgt := 66) hx hb dX0_isBlankWhenTaken_56 (by decide) (fun c3 => ?_) (fun c3 => ?_)
          · skip
            have c3 : 1 = 0 := (nI_eq (a := 1) (b := 0) (by omega) (by omega)).mp c3
            exfalso; omega
          · skip
            have c3 : ¬ 1 = 0 := fun z => c3 ((nI_eq (a := 1) (b := 0) (by omega) (by omega)).mpr z)
            refine lv_aload_n (pc := 59) hx hb dX0_isBlankWhenTaken_59 rfl (lv_at hl 5 rfl) ?_
            refine lv_iload (pc := 60) hx hb dX0_isBlankWhenTaken_60 (lv_at hl 1 rfl) ?_
            refine x_ti (pc := 62) (k := fr + i) hx hb hT hS (by omega) (by omega) dX0_isBlankWhenTaken_62 ?_
            refine lv_goto (pc := 63) (tgt := 69) hx hb dX0_isBlankWhenTaken_63 (by decide) ?_
            refine x_iast (pc := 69) (k := i) (f := ut) hx hb hK hP hD hS 3 0 rfl rfl (by omega) (by decide) dX0_isBlankWhenTaken_69 (fun H locs hP hD hS => ?_)
            have hP : va_P (dC, dI) vwCl (mW a1 a2 a3 a4 cI (F, te, dn, tl, lf, cu, ac, gn) (upd ut i (ub (G (fr + i))))) _ := hP
            have hD : va_D A (mW a1 a2 a3 a4 cI (F, te, dn, tl, lf, cu, ac, gn) (upd ut i (ub (G (fr + i))))) := hD
            refine lv_iload (pc := 70) hx hb dX0_isBlankWhenTaken_70 (lv_at hl 3 rfl) ?_
            refine lv_if_eq (pc := 72) (tgt := 92) hx hb dX0_isBlankWhenTaken_72 (by decide) (fun c7 => ?_) (fun c7 => ?_)
            · skip
              have c7 : blkTo (unitG G fr en) i = false := bI_0.mp c7
              refine lv_iconst (pc := 92) (v := nI 0) hx hb dX0_isBlankWhenTaken_92 (by decide) ?_
              refine lv_cv (y := bI (blkTo (unitG G fr en) (i + 1))) (by rw [show blkTo (unitG G fr en) (i + 1) = false from by rw [blkTo_s]; first | (simp [c7, c9]; done) | (simp [c7]; done)]; rfl) ?_
              refine lv_istore (pc := 93) (lv' := [(4, .int (bI (blkTo (unitG G fr en) (i + 1)))), (7, .int (nI 1)), (6, .int (nI (fr + i))), (5, .int (nI i)), (0, .ref a1), (1, .ref t), (2, .int (nI fr)), (3, .int (nI en))]) hx hb dX0_isBlankWhenTaken_93 hl (by decide) rfl (fun ls hl => ?_)
              refine lv_iinc (pc := 95) (v := nI (i + 1)) (lv' := [(5, .int (nI (i + 1))), (4, .int (bI (blkTo (unitG G fr en) (i + 1)))), (7, .int (nI 1)), (6, .int (nI (fr + i))), (0, .ref a1), (1, .ref t), (2, .int (nI fr)), (3, .int (nI en))]) hx hb dX0_isBlankWhenTaken_95 hl (k := 3) rfl (nI_inc i 1) (by decide) rfl (fun ls hl => ?_)
              refine lv_goto (pc := 98) (tgt := 6) hx hb dX0_isBlankWhenTaken_98 (by decide) ?_
              have hu9 : ∀ j, j < i + 1 → (upd ut i (ub (G (fr + i)))) j = ub (unitG G fr en j) := by
                intro j hj
                unfold upd
                by_cases hji : j = i
                · rw [if_pos hji, hji, g9]
                · rw [if_neg hji]; exact hu j (by omega)
              exact ih6 (i + 1, upd ut i (ub (G (fr + i)))) H locs ls ⟨by omega, hu9⟩ (by first | omega | (simp only []; omega)) hP hD hS (lv_sub hl [0, 1, 4, 5, 6, 7] rfl)
            · skip
              have c7 : blkTo (unitG G fr en) i = true := bI_1.mp c7
              refine lv_aload_n (pc := 75) hx hb dX0_isBlankWhenTaken_75 rfl (lv_at hl 4 rfl) ?_
              refine va_get (pc := 76) (D := (dC, dI)) (ci := 0) (v := .ref a4) (C := RX0) (T := TX0) (N := 9) hx hb hts (by decide +kernel) hown hK hP 0 rfl rfl 2 (by decide) (hts (.fieldLink RX0 18 "ScratchSwap$Memory" "unitTaken" "[I") (by decide +kernel)) (fun _ h9 => h9) rfl dX0_isBlankWhenTaken_76 ?_
              refine lv_iload (pc := 79) hx hb dX0_isBlankWhenTaken_79 (lv_at hl 2 rfl) ?_
              refine x_iald (pc := 81) (k := i) (f := upd ut i (ub (G (fr + i)))) hx hb hK hP 3 0 rfl rfl (by omega) (by decide) dX0_isBlankWhenTaken_81 ?_
              refine lv_sipush (pc := 82) (v := nI 255) hx hb dX0_isBlankWhenTaken_82 (by decide) ?_
              refine lv_icmp_ne (pc := 85) (tgt := 92) hx hb dX0_isBlankWhenTaken_85 (by decide) (fun c8 => ?_) (fun c8 => ?_)
              · skip
                have c9 : ¬ unitG G fr en i = -1 := by
                  have e9 : (upd ut i (ub (G (fr + i)))) i = ub (unitG G fr en i) := by unfold upd; rw [if_pos rfl, g9]
                  intro z; apply c8; rw [e9, z]; exact ub_m1
                refine lv_iconst (pc := 92) (v := nI 0) hx hb dX0_isBlankWhenTaken_92 (by decide) ?_
                refine lv_cv (y := bI (blkTo (unitG G fr en) (i + 1))) (by rw [show blkTo (unitG G fr en) (i + 1) = false from by rw [blkTo_s]; first | (simp [c7, c9]; done) | (simp [c7]; done)]; rfl) ?_
                refine lv_istore (pc := 93) (lv' := [(4, .int (bI (blkTo (unitG G fr en) (i + 1)))), (7, .int (nI 1)), (6, .int (nI (fr + i))), (5, .int (nI i)), (0, .ref a1), (1, .ref t), (2, .int (nI fr)), (3, .int (nI en))]) hx hb dX0_isBlankWhenTaken_93 hl (by decide) rfl (fun ls hl => ?_)
                refine lv_iinc (pc := 95) (v := nI (i + 1)) (lv' := [(5, .int (nI (i + 1))), (4, .int (bI (blkTo (unitG G fr en) (i + 1)))), (7, .int (nI 1)), (6, .int (nI (fr + i))), (0, .ref a1), (1, .ref t), (2, .int (nI fr)), (3, .int (nI en))]) hx hb dX0_isBlankWhenTaken_95 hl (k := 3) rfl (nI_inc i 1) (by decide) rfl (fun ls hl => ?_)
                refine lv_goto (pc := 98) (tgt := 6) hx hb dX0_isBlankWhenTaken_98 (by decide) ?_
                have hu9 : ∀ j, j < i + 1 → (upd ut i (ub (G (fr + i)))) j = ub (unitG G fr en j) := by
                  intro j hj
                  unfold upd
                  by_cases hji : j = i
                  · rw [if_pos hji, hji, g9]
                  · rw [if_neg hji]; exact hu j (by omega)
                exact ih6 (i + 1, upd ut i (ub (G (fr + i)))) H locs ls ⟨by omega, hu9⟩ (by first | omega | (simp only []; omega)) hP hD hS (lv_sub hl [0, 1, 4, 5, 6, 7] rfl)
              · skip
                have c9 : unitG G fr en i = -1 := by
                  have e9 : (upd ut i (ub (G (fr + i)))) i = ub (unitG G fr en i) := by unfold upd; rw [if_pos rfl, g9]
                  rw [e9, ← ub_m1] at c8; exact ub_inj.mp c8
                refine lv_iconst (pc := 88) (v := nI 1) hx hb dX0_isBlankWhenTaken_88 (by decide) ?_
                refine lv_cv (y := bI (blkTo (unitG G fr en) (i + 1))) (by rw [show blkTo (unitG G fr en) (i + 1) = true from by rw [blkTo_s]; first | (simp [c7, c9]; done) | (simp [c7]; done)]; rfl) ?_
                refine lv_goto (pc := 89) (tgt := 93) hx hb dX0_isBlankWhenTaken_89 (by decide) ?_
                refine lv_istore (pc := 93) (lv' := [(4, .int (bI (blkTo (unitG G fr en) (i + 1)))), (7, .int (nI 1)), (6, .int (nI (fr + i))), (5, .int (nI i)), (0, .ref a1), (1, .ref t), (2, .int (nI fr)), (3, .int (nI en))]) hx hb dX0_isBlankWhenTaken_93 hl (by decide) rfl (fun ls hl => ?_)
                refine lv_iinc (pc := 95) (v := nI (i + 1)) (lv' := [(5, .int (nI (i + 1))), (4, .int (bI (blkTo (unitG G fr en) (i + 1)))), (7, .int (nI 1)), (6, .int (nI (fr + i))), (0, .ref a1), (1, .ref t), (2, .int (nI fr)), (3, .int (nI en))]) hx hb dX0_isBlankWhenTaken_95 hl (k := 3) rfl (nI_inc i 1) (by decide) rfl (fun ls hl => ?_)
                refine lv_goto (pc := 98) (tgt := 6) hx hb dX0_isBlankWhenTaken_98 (by decide) ?_
                have hu9 : ∀ j, j < i + 1 → (upd ut i (ub (G (fr + i)))) j = ub (unitG G fr en j) := by
                  intro j hj
                  unfold upd
                  by_cases hji : j = i
                  · rw [if_pos hji, hji, g9]
                  · rw [if_neg hji]; exact hu j (by omega)
                exact ih6 (i + 1, upd ut i (ub (G (fr + i)))) H locs ls ⟨by omega, hu9⟩ (by first | omega | (simp only []; omega)) hP hD hS (lv_sub hl [0, 1, 4, 5, 6, 7] rfl)
set_option maxHeartbeats 4000000 in
set_option maxRecDepth 100000 in
theorem kX0_blankA (l : Launch) (dC : Nat → ClassId) (dI : Nat → Nat → Nat) (tt : Nat → Nat) (cI cB : ClassId) (sz : Nat) (a1 a2 a3 a4 : Nat) (k : K0) (ut : Nat → Int32) (fr en : Nat) (hen : en ≤ 2816) (hfr : fr + 8 < 2 ^ 31) : MetI (S := (Nat → Int32)) l yX0_isBlankWhenTaken wsX0_isBlankWhenTaken { frames := 0, cells := 0, slots := 0, locals := 0 } (dC, dI) [(cI, .int), (cB, .byte)] tt [] sz (mW a1 a2 a3 a4 cI k ut) [.ref a1, .ref a2, .int (nI fr), .int (nI en)] (fun u : (Nat → Int32) => mW a1 a2 a3 a4 cI k u) (fun r u => r = bI (blkTo (unitG k.1 fr en) 8) ∧ ∀ j, j < 8 → u j = ub (unitG k.1 fr en j)) := by
  refine Met.ofW (cc := cX0_isBlankWhenTaken) (maxL := 8) (ret := (some .boolean)) (by decide) rfl ?_
  intro p e s m args below meth c s₁ B hml hv
  obtain ⟨rfl, hsz, hP, hK, hD0, hE⟩ := hv
  have hx := B.exec
  have hb := B.bytes
  have hr := B.returns
  have hts := atoms_spec (ws := wsX0_isBlankWhenTaken) B.pre
  have hown : s.vm.findClass RX0 = some m.cls := findClass_of_methodNamed B.named
  have hlocks := B.notSynchronized
  subst hsz
  obtain ⟨G, te, dn, tl, lf, cu, ac, gn⟩ := k
  have hD := hD0.self (sz := s.heap.size)
  generalize hAe : va_A (mW a1 a2 a3 a4 cI (G, te, dn, tl, lf, cu, ac, gn) ut) s.heap.size = A at hD hE ⊢
  have hA : ∀ q : Nat, s.heap.size ≤ q → A q := fun q h => by rw [← hAe]; exact Or.inr h
  have hS : va_S A s.heap s.heap [] := va_S.rf
  have hl := lv_entry ([.ref a1, .ref a2, .int (nI fr), .int (nI en)]) (n := 8) (Nat.le_of_ble_eq_true rfl)
  rw [lg_entry_eq]
  generalize (lg_sl ([.ref a1, .ref a2, .int (nI fr), .int (nI en)]) ++ List.replicate (8 - (lg_sl ([.ref a1, .ref a2, .int (nI fr), .int (nI en)])).length) Slot.unset).toArray = ls at hl ⊢
  have hl : lv_has ls 8 [(0, .ref a1), (1, .ref a2), (2, .int (nI fr)), (3, .int (nI en))] := hl
  have hP : va_P (dC, dI) vwCl (mW a1 a2 a3 a4 cI (G, te, dn, tl, lf, cu, ac, gn) ut) s.heap := hP
  refine lv_iconst (pc := 0) (v := nI 1) hx hb dX0_isBlankWhenTaken_0 (by decide) ?_
  refine lv_istore (pc := 1) (lv' := [(4, .int (nI 1)), (0, .ref a1), (1, .ref a2), (2, .int (nI fr)), (3, .int (nI en))]) hx hb dX0_isBlankWhenTaken_1 hl (by decide) rfl (fun ls hl => ?_)
  refine lv_iconst (pc := 3) (v := nI 0) hx hb dX0_isBlankWhenTaken_3 (by decide) ?_
  refine lv_istore (pc := 4) (lv' := [(5, .int (nI 0)), (4, .int (nI 1)), (0, .ref a1), (1, .ref a2), (2, .int (nI fr)), (3, .int (nI en))]) hx hb dX0_isBlankWhenTaken_4 hl (by decide) rfl (fun ls hl => ?_)
  have hl : lv_has ls 8 [(5, .int (nI 0)), (4, .int (bI (blkTo (unitG G fr en) 0))), (0, .ref a1), (1, .ref a2), (2, .int (nI fr)), (3, .int (nI en))] := by rw [show blkTo (unitG G fr en) 0 = true from blkTo_0 _]; exact hl
  refine x_loop (σ := (Nat) × (Nat → Int32)) (Wd := fun x : (Nat) × (Nat → Int32) => match x with | (i, ut) => mW a1 a2 a3 a4 cI (G, te, dn, tl, lf, cu, ac, gn) ut) (Lv := fun x : (Nat) × (Nat → Int32) => match x with | (i, ut) => [(5, .int (nI i)), (4, .int (bI (blkTo (unitG G fr en) i))), (0, .ref a1), (1, .ref a2), (2, .int (nI fr)), (3, .int (nI en))]) (I := fun x : (Nat) × (Nat → Int32) => match x with | (i, ut) => (i ≤ 8) ∧ (∀ j, j < i → ut j = ub (unitG G fr en j))) (μ := fun x : (Nat) × (Nat → Int32) => match x with | (i, ut) => 8 - i) ?_ (0, ut) ⟨by omega, fun j hj => absurd hj (Nat.not_lt_zero j)⟩ hP hD hS (lv_sub hl [0, 1, 2, 3, 4, 5] rfl)
  intro x H locs ls hI hP hD hS hl ih6
  obtain ⟨i, ut⟩ := x
  obtain ⟨hi8, hu⟩ : (i ≤ 8) ∧ (∀ j, j < i → ut j = ub (unitG G fr en j)) := hI
  have hP : va_P (dC, dI) vwCl (mW a1 a2 a3 a4 cI (G, te, dn, tl, lf, cu, ac, gn) ut) _ := hP
  have hD : va_D A (mW a1 a2 a3 a4 cI (G, te, dn, tl, lf, cu, ac, gn) ut) := hD
  have hl : lv_has ls 8 [(5, .int (nI i)), (4, .int (bI (blkTo (unitG G fr en) i))), (0, .ref a1), (1, .ref a2), (2, .int (nI fr)), (3, .int (nI en))] := hl
  refine lv_iload (pc := 6) hx hb dX0_isBlankWhenTaken_6 (lv_at hl 0 rfl) ?_
  refine lv_bipush (pc := 8) (v := nI 8) hx hb dX0_isBlankWhenTaken_8 (by decide) ?_
  refine lv_icmp_ge (pc := 10) (tgt := 101) hx hb dX0_isBlankWhenTaken_10 (by decide) (fun c_1 => ?_) (fun c_1 => ?_)
  · skip
    have c_1 : 8 ≤ i := (nI_leI (a := 8) (b := i) (by omega) (by omega)).mp c_1
    refine lv_iload (pc := 101) hx hb dX0_isBlankWhenTaken_101 (lv_at hl 1 rfl) ?_
    have hi9 : i = 8 := by omega
    subst hi9
    exact W.zret (v := bI (blkTo (unitG G fr en) 8)) hx hb hr (nbI (blkTo (unitG G fr en) 8)) (fun t ht hW => ⟨⟨bI (blkTo (unitG G fr en) 8), ut, rfl, ⟨rfl, hu⟩, by show va_P _ _ _ t.heap; rw [ht]; exact hP, va_K.moved hW.alike hK, hD⟩, hS.F ht⟩) hS.2.2 dX0_isBlankWhenTaken_103
  · skip
    have c_1 : ¬ 8 ≤ i := fun z => c_1 ((nI_leI (a := 8) (b := i) (by omega) (by omega)).mpr z)
    refine lv_iload_n (pc := 13) hx hb dX0_isBlankWhenTaken_13 rfl (lv_at hl 4 rfl) ?_
    refine lv_iload (pc := 14) hx hb dX0_isBlankWhenTaken_14 (lv_at hl 0 rfl) ?_
    refine lv_iadd (pc := 16) hx hb dX0_isBlankWhenTaken_16 ?_
    refine lv_cv (nI_add fr i) ?_
    refine lv_istore (pc := 17) (lv' := [(6, .int (nI (fr + i))), (5, .int (nI i)), (4, .int (bI (blkTo (unitG G fr en) i))), (0, .ref a1), (1, .ref a2), (2, .int (nI fr)), (3, .int (nI en))]) hx hb dX0_isBlankWhenTaken_17 hl (by decide) rfl (fun ls hl => ?_)
    refine lv_aload_n (pc := 19) hx hb dX0_isBlankWhenTaken_19 rfl (lv_at hl 4 rfl) ?_
    refine lv_ifnull (pc := 20) hx hb dX0_isBlankWhenTaken_20 ?_
    refine lv_iload (pc := 23) hx hb dX0_isBlankWhenTaken_23 (lv_at hl 0 rfl) ?_
    refine lv_if_lt (pc := 25) (tgt := 45) hx hb dX0_isBlankWhenTaken_25 (by decide) (fun c0 => ?_) (fun c0 => ?_)
    · skip
      have c0 : (fr + i) < 0 := (nI_ltI (a := (fr + i)) (b := 0) (by omega) (by omega)).mp c0
      exfalso; omega
    · skip
      have c0 : ¬ (fr + i) < 0 := fun z => c0 ((nI_ltI (a := (fr + i)) (b := 0) (by omega) (by omega)).mpr z)
      refine lv_iload (pc := 28) hx hb dX0_isBlankWhenTaken_28 (lv_at hl 0 rfl) ?_
      refine lv_iload_n (pc := 30) hx hb dX0_isBlankWhenTaken_30 rfl (lv_at hl 6 rfl) ?_
      refine lv_icmp_ge (pc := 31) (tgt := 45) hx hb dX0_isBlankWhenTaken_31 (by decide) (fun c1 => ?_) (fun c1 => ?_)
      · skip
        have c1 : en ≤ (fr + i) := (nI_leI (a := en) (b := (fr + i)) (by omega) (by omega)).mp c1
        have g9 : unitG G fr en i = -1 := by unfold unitG; rw [if_neg (by omega)]
        refine lv_iconst (pc := 45) (v := nI 0) hx hb dX0_isBlankWhenTaken_45 (by decide) ?_
        refine lv_istore (pc := 46) (lv' := [(7, .int (nI 0)), (6, .int (nI (fr + i))), (5, .int (nI i)), (4, .int (bI (blkTo (unitG G fr en) i))), (0, .ref a1), (1, .ref a2), (2, .int (nI fr)), (3, .int (nI en))]) hx hb dX0_isBlankWhenTaken_46 hl (by decide) rfl (fun ls hl => ?_)
        refine lv_aload_n (pc := 48) hx hb dX0_isBlankWhenTaken_48 rfl (lv_at hl 4 rfl) ?_
        refine va_get (pc := 49) (D := (dC, dI)) (ci := 0) (v := .ref a4) (C := RX0) (T := TX0) (N := 9) hx hb hts (by decide +kernel) hown hK hP 0 rfl rfl 2 (by decide) (hts (.fieldLink RX0 18 "ScratchSwap$Memory" "unitTaken" "[I") (by decide +kernel)) (fun _ h9 => h9) rfl dX0_isBlankWhenTaken_49 ?_
        refine lv_iload (pc := 52) hx hb dX0_isBlankWhenTaken_52 (lv_at hl 2 rfl) ?_
        refine lv_iload (pc := 54) hx hb dX0_isBlankWhenTaken_54 (lv_at hl 0 rfl) ?_
        refine lv_if_eq (pc := 56) (tgt := 66) hx hb dX0_isBlankWhenTaken_56 (by decide) (fun c3 => ?_) (fun c3 => ?_)
        · skip
          have c3 : 0 = 0 := (nI_eq (a := 0) (b := 0) (by omega) (by omega)).mp c3
          refine lv_sipush (pc := 66) (v := nI 255) hx hb dX0_isBlankWhenTaken_66 (by decide) ?_
          refine x_iast (pc := 69) (k := i) (f := ut) hx hb hK hP hD hS 3 0 rfl rfl (by omega) (by decide) dX0_isBlankWhenTaken_69 (fun H locs hP hD hS => ?_)
          have hP : va_P (dC, dI) vwCl (mW a1 a2 a3 a4 cI (G, te, dn, tl, lf, cu, ac, gn) (upd ut i (nI 255))) _ := hP
          have hD : va_D A (mW a1 a2 a3 a4 cI (G, te, dn, tl, lf, cu, ac, gn) (upd ut i (nI 255))) := hD
          refine lv_iload (pc := 70) hx hb dX0_isBlankWhenTaken_70 (lv_at hl 3 rfl) ?_
          refine lv_if_eq (pc := 72) (tgt := 92) hx hb dX0_isBlankWhenTaken_72 (by decide) (fun c7 => ?_) (fun c7 => ?_)
          · skip
            have c7 : blkTo (unitG G fr en) i = false := bI_0.mp c7
            refine lv_iconst (pc := 92) (v := nI 0) hx hb dX0_isBlankWhenTaken_92 (by decide) ?_
            refine lv_cv (y := bI (blkTo (unitG G fr en) (i + 1))) (by rw [show blkTo (unitG G fr en) (i + 1) = false from by rw [blkTo_s]; first | (simp [c7, c9]; done) | (simp [c7]; done)]; rfl) ?_
            refine lv_istore (pc := 93) (lv' := [(4, .int (bI (blkTo (unitG G fr en) (i + 1)))), (7, .int (nI 0)), (6, .int (nI (fr + i))), (5, .int (nI i)), (0, .ref a1), (1, .ref a2), (2, .int (nI fr)), (3, .int (nI en))]) hx hb dX0_isBlankWhenTaken_93 hl (by decide) rfl (fun ls hl => ?_)
            refine lv_iinc (pc := 95) (v := nI (i + 1)) (lv' := [(5, .int (nI (i + 1))), (4, .int (bI (blkTo (unitG G fr en) (i + 1)))), (7, .int (nI 0)), (6, .int (nI (fr + i))), (0, .ref a1), (1, .ref a2), (2, .int (nI fr)), (3, .int (nI en))]) hx hb dX0_isBlankWhenTaken_95 hl (k := 3) rfl (nI_inc i 1) (by decide) rfl (fun ls hl => ?_)
            refine lv_goto (pc := 98) (tgt := 6) hx hb dX0_isBlankWhenTaken_98 (by decide) ?_
            have hu9 : ∀ j, j < i + 1 → (upd ut i (nI 255)) j = ub (unitG G fr en j) := by
              intro j hj
              unfold upd
              by_cases hji : j = i
              · rw [if_pos hji, hji, g9] ; exact ub_m1.symm
              · rw [if_neg hji]; exact hu j (by omega)
            exact ih6 (i + 1, upd ut i (nI 255)) H locs ls ⟨by omega, hu9⟩ (by first | omega | (simp only []; omega)) hP hD hS (lv_sub hl [0, 1, 4, 5, 6, 7] rfl)
          · skip
            have c7 : blkTo (unitG G fr en) i = true := bI_1.mp c7
            refine lv_aload_n (pc := 75) hx hb dX0_isBlankWhenTaken_75 rfl (lv_at hl 4 rfl) ?_
            refine va_get (pc := 76) (D := (dC, dI)) (ci := 0) (v := .ref a4) (C := RX0) (T := TX0) (N := 9) hx hb hts (by decide +kernel) hown hK hP 0 rfl rfl 2 (by decide) (hts (.fieldLink RX0 18 "ScratchSwap$Memory" "unitTaken" "[I") (by decide +kernel)) (fun _ h9 => h9) rfl dX0_isBlankWhenTaken_76 ?_
            refine lv_iload (pc := 79) hx hb dX0_isBlankWhenTaken_79 (lv_at hl 2 rfl) ?_
            refine x_iald (pc := 81) (k := i) (f := upd ut i (nI 255)) hx hb hK hP 3 0 rfl rfl (by omega) (by decide) dX0_isBlankWhenTaken_81 ?_
            refine lv_sipush (pc := 82) (v := nI 255) hx hb dX0_isBlankWhenTaken_82 (by decide) ?_
            refine lv_icmp_ne (pc := 85) (tgt := 92) hx hb dX0_isBlankWhenTaken_85 (by decide) (fun c8 => ?_) (fun c8 => ?_)
            · skip
              have c9 : ¬ unitG G fr en i = -1 := by
                have e9 : (upd ut i (nI 255)) i = ub (unitG G fr en i) := by unfold upd; rw [if_pos rfl, g9]; exact ub_m1.symm
                intro z; apply c8; rw [e9, z]; exact ub_m1
              refine lv_iconst (pc := 92) (v := nI 0) hx hb dX0_isBlankWhenTaken_92 (by decide) ?_
              refine lv_cv (y := bI (blkTo (unitG G fr en) (i + 1))) (by rw [show blkTo (unitG G fr en) (i + 1) = false from by rw [blkTo_s]; first | (simp [c7, c9]; done) | (simp [c7]; done)]; rfl) ?_
              refine lv_istore (pc := 93) (lv' := [(4, .int (bI (blkTo (unitG G fr en) (i + 1)))), (7, .int (nI 0)), (6, .int (nI (fr + i))), (5, .int (nI i)), (0, .ref a1), (1, .ref a2), (2, .int (nI fr)), (3, .int (nI en))]) hx hb dX0_isBlankWhenTaken_93 hl (by decide) rfl (fun ls hl => ?_)
              refine lv_iinc (pc := 95) (v := nI (i + 1)) (lv' := [(5, .int (nI (i + 1))), (4, .int (bI (blkTo (unitG G fr en) (i + 1)))), (7, .int (nI 0)), (6, .int (nI (fr + i))), (0, .ref a1), (1, .ref a2), (2, .int (nI fr)), (3, .int (nI en))]) hx hb dX0_isBlankWhenTaken_95 hl (k := 3) rfl (nI_inc i 1) (by decide) rfl (fun ls hl => ?_)
              refine lv_goto (pc := 98) (tgt := 6) hx hb dX0_isBlankWhenTaken_98 (by decide) ?_
              have hu9 : ∀ j, j < i + 1 → (upd ut i (nI 255)) j = ub (unitG G fr en j) := by
                intro j hj
                unfold upd
                by_cases hji : j = i
                · rw [if_pos hji, hji, g9] ; exact ub_m1.symm
                · rw [if_neg hji]; exact hu j (by omega)
              exact ih6 (i + 1, upd ut i (nI 255)) H locs ls ⟨by omega, hu9⟩ (by first | omega | (simp only []; omega)) hP hD hS (lv_sub hl [0, 1, 4, 5, 6, 7] rfl)
            · skip
              have c9 : unitG G fr en i = -1 := by
                have e9 : (upd ut i (nI 255)) i = ub (unitG G fr en i) := by unfold upd; rw [if_pos rfl, g9]; exact ub_m1.symm
                rw [e9, ← ub_m1] at c8; exact ub_inj.mp c8
              refine lv_iconst (pc := 88) (v := nI 1) hx hb dX0_isBlankWhenTaken_88 (by decide) ?_
              refine lv_cv (y := bI (blkTo (unitG G fr en) (i + 1))) (by rw [show blkTo (unitG G fr en) (i + 1) = true from by rw [blkTo_s]; first | (simp [c7, c9]; done) | (simp [c7]; done)]; rfl) ?_
              refine lv_goto (pc := 89) (tgt := 93) hx hb dX0_isBlankWhenTaken_89 (by decide) ?_
              refine lv_istore (pc := 93) (lv' := [(4, .int (bI (blkTo (unitG G fr en) (i + 1)))), (7, .int (nI 0)), (6, .int (nI (fr + i))), (5, .int (nI i)), (0, .ref a1), (1, .ref a2), (2, .int (nI fr)), (3, .int (nI en))]) hx hb dX0_isBlankWhenTaken_93 hl (by decide) rfl (fun ls hl => ?_)
              refine lv_iinc (pc := 95) (v := nI (i + 1)) (lv' := [(5, .int (nI (i + 1))), (4, .int (bI (blkTo (unitG G fr en) (i + 1)))), (7, .int (nI 0)), (6, .int (nI (fr + i))), (0, .ref a1), (1, .ref a2), (2, .int (nI fr)), (3, .int (nI en))]) hx hb dX0_isBlankWhenTaken_95 hl (k := 3) rfl (nI_inc i 1) (by decide) rfl (fun ls hl => ?_)
              refine lv_goto (pc := 98) (tgt := 6) hx hb dX0_isBlankWhenTaken_98 (by decide) ?_
              have hu9 : ∀ j, j < i + 1 → (upd ut i (nI 255)) j = ub (unitG G fr en j) := by
                intro j hj
                unfold upd
                by_cases hji : j = i
                · rw [if_pos hji, hji, g9] ; exact ub_m1.symm
                · rw [if_neg hji]; exact hu j (by omega)
              exact ih6 (i + 1, upd ut i (nI 255)) H locs ls ⟨by omega, hu9⟩ (by first | omega | (simp only []; omega)) hP hD hS (lv_sub hl [0, 1, 4, 5, 6, 7] rfl)
        · skip
          have c3 : ¬ 0 = 0 := fun z => c3 ((nI_eq (a := 0) (b := 0) (by omega) (by omega)).mpr z)
          exfalso; omega
      · skip
        have c1 : ¬ en ≤ (fr + i) := fun z => c1 ((nI_leI (a := en) (b := (fr + i)) (by omega) (by omega)).mpr z)
        have g9 : unitG G fr en i = G (fr + i) := by unfold unitG; rw [if_pos (by omega)]
        refine lv_iload (pc := 34) hx hb dX0_isBlankWhenTaken_34 (lv_at hl 0 rfl) ?_
        refine lv_aload_n (pc := 36) hx hb dX0_isBlankWhenTaken_36 rfl (lv_at hl 4 rfl) ?_
        refine va_alen (pc := 37) (v := nI 2816) hx hb hK hP 1 0 rfl rfl rfl dX0_isBlankWhenTaken_37 ?_
        refine lv_icmp_ge (pc := 38) (tgt := 45) hx hb dX0_isBlankWhenTaken_38 (by decide) (fun c2 => ?_) (fun c2 => ?_)
        · skip
          have c2 : 2816 ≤ (fr + i) := (nI_leI (a := 2816) (b := (fr + i)) (by omega) (by omega)).mp c2
          exfalso; omega
        · skip
          have c2 : ¬ 2816 ≤ (fr + i) := fun z => c2 ((nI_leI (a := 2816) (b := (fr + i)) (by omega) (by omega)).mpr z)
          refine lv_iconst (pc := 41) (v := nI 1) hx hb dX0_isBlankWhenTaken_41 (by decide) ?_
          refine lv_goto (pc := 42) (tgt := 46) hx hb dX0_isBlankWhenTaken_42 (by decide) ?_
          refine lv_istore (pc := 46) (lv' := [(7, .int (nI 1)), (6, .int (nI (fr + i))), (5, .int (nI i)), (4, .int (bI (blkTo (unitG G fr en) i))), (0, .ref a1), (1, .ref a2), (2, .int (nI fr)), (3, .int (nI en))]) hx hb dX0_isBlankWhenTaken_46 hl (by decide) rfl (fun ls hl => ?_)
          refine lv_aload_n (pc := 48) hx hb dX0_isBlankWhenTaken_48 rfl (lv_at hl 4 rfl) ?_
          refine va_get (pc := 49) (D := (dC, dI)) (ci := 0) (v := .ref a4) (C := RX0) (T := TX0) (N := 9) hx hb hts (by decide +kernel) hown hK hP 0 rfl rfl 2 (by decide) (hts (.fieldLink RX0 18 "ScratchSwap$Memory" "unitTaken" "[I") (by decide +kernel)) (fun _ h9 => h9) rfl dX0_isBlankWhenTaken_49 ?_
          refine lv_iload (pc := 52) hx hb dX0_isBlankWhenTaken_52 (lv_at hl 2 rfl) ?_
          refine lv_iload (pc := 54) hx hb dX0_isBlankWhenTaken_54 (lv_at hl 0 rfl) ?_
          refine lv_if_eq (pc := 56) (tgt := 66) hx hb dX0_isBlankWhenTaken_56 (by decide) (fun c3 => ?_) (fun c3 => ?_)
          · skip
            have c3 : 1 = 0 := (nI_eq (a := 1) (b := 0) (by omega) (by omega)).mp c3
            exfalso; omega
          · skip
            have c3 : ¬ 1 = 0 := fun z => c3 ((nI_eq (a := 1) (b := 0) (by omega) (by omega)).mpr z)
            refine lv_aload_n (pc := 59) hx hb dX0_isBlankWhenTaken_59 rfl (lv_at hl 5 rfl) ?_
            refine lv_iload (pc := 60) hx hb dX0_isBlankWhenTaken_60 (lv_at hl 1 rfl) ?_
            refine x_iald (pc := 62) (k := fr + i) (f := fun j => ub (G j)) hx hb hK hP 1 0 rfl rfl (by omega) (by decide) dX0_isBlankWhenTaken_62 ?_
            refine lv_goto (pc := 63) (tgt := 69) hx hb dX0_isBlankWhenTaken_63 (by decide) ?_
            refine x_iast (pc := 69) (k := i) (f := ut) hx hb hK hP hD hS 3 0 rfl rfl (by omega) (by decide) dX0_isBlankWhenTaken_69 (fun H locs hP hD hS => ?_)
            have hP : va_P (dC, dI) vwCl (mW a1 a2 a3 a4 cI (G, te, dn, tl, lf, cu, ac, gn) (upd ut i (ub (G (fr + i))))) _ := hP
            have hD : va_D A (mW a1 a2 a3 a4 cI (G, te, dn, tl, lf, cu, ac, gn) (upd ut i (ub (G (fr + i))))) := hD
            refine lv_iload (pc := 70) hx hb dX0_isBlankWhenTaken_70 (lv_at hl 3 rfl) ?_
            refine lv_if_eq (pc := 72) (tgt := 92) hx hb dX0_isBlankWhenTaken_72 (by decide) (fun c7 => ?_) (fun c7 => ?_)
            · skip
              have c7 : blkTo (unitG G fr en) i = false := bI_0.mp c7
              refine lv_iconst (pc := 92) (v := nI 0) hx hb dX0_isBlankWhenTaken_92 (by decide) ?_
              refine lv_cv (y := bI (blkTo (unitG G fr en) (i + 1))) (by rw [show blkTo (unitG G fr en) (i + 1) = false from by rw [blkTo_s]; first | (simp [c7, c9]; done) | (simp [c7]; done)]; rfl) ?_
              refine lv_istore (pc := 93) (lv' := [(4, .int (bI (blkTo (unitG G fr en) (i + 1)))), (7, .int (nI 1)), (6, .int (nI (fr + i))), (5, .int (nI i)), (0, .ref a1), (1, .ref a2), (2, .int (nI fr)), (3, .int (nI en))]) hx hb dX0_isBlankWhenTaken_93 hl (by decide) rfl (fun ls hl => ?_)
              refine lv_iinc (pc := 95) (v := nI (i + 1)) (lv' := [(5, .int (nI (i + 1))), (4, .int (bI (blkTo (unitG G fr en) (i + 1)))), (7, .int (nI 1)), (6, .int (nI (fr + i))), (0, .ref a1), (1, .ref a2), (2, .int (nI fr)), (3, .int (nI en))]) hx hb dX0_isBlankWhenTaken_95 hl (k := 3) rfl (nI_inc i 1) (by decide) rfl (fun ls hl => ?_)
              refine lv_goto (pc := 98) (tgt := 6) hx hb dX0_isBlankWhenTaken_98 (by decide) ?_
              have hu9 : ∀ j, j < i + 1 → (upd ut i (ub (G (fr + i)))) j = ub (unitG G fr en j) := by
                intro j hj
                unfold upd
                by_cases hji : j = i
                · rw [if_pos hji, hji, g9]
                · rw [if_neg hji]; exact hu j (by omega)
              exact ih6 (i + 1, upd ut i (ub (G (fr + i)))) H locs ls ⟨by omega, hu9⟩ (by first | omega | (simp only []; omega)) hP hD hS (lv_sub hl [0, 1, 4, 5, 6, 7] rfl)
            · skip
              have c7 : blkTo (unitG G fr en) i = true := bI_1.mp c7
              refine lv_aload_n (pc := 75) hx hb dX0_isBlankWhenTaken_75 rfl (lv_at hl 4 rfl) ?_
              refine va_get (pc := 76) (D := (dC, dI)) (ci := 0) (v := .ref a4) (C := RX0) (T := TX0) (N := 9) hx hb hts (by decide +kernel) hown hK hP 0 rfl rfl 2 (by decide) (hts (.fieldLink RX0 18 "ScratchSwap$Memory" "unitTaken" "[I") (by decide +kernel)) (fun _ h9 => h9) rfl dX0_isBlankWhenTaken_76 ?_
              refine lv_iload (pc := 79) hx hb dX0_isBlankWhenTaken_79 (lv_at hl 2 rfl) ?_
              refine x_iald (pc := 81) (k := i) (f := upd ut i (ub (G (fr + i)))) hx hb hK hP 3 0 rfl rfl (by omega) (by decide) dX0_isBlankWhenTaken_81 ?_
              refine lv_sipush (pc := 82) (v := nI 255) hx hb dX0_isBlankWhenTaken_82 (by decide) ?_
              refine lv_icmp_ne (pc := 85) (tgt := 92) hx hb dX0_isBlankWhenTaken_85 (by decide) (fun c8 => ?_) (fun c8 => ?_)
              · skip
                have c9 : ¬ unitG G fr en i = -1 := by
                  have e9 : (upd ut i (ub (G (fr + i)))) i = ub (unitG G fr en i) := by unfold upd; rw [if_pos rfl, g9]
                  intro z; apply c8; rw [e9, z]; exact ub_m1
                refine lv_iconst (pc := 92) (v := nI 0) hx hb dX0_isBlankWhenTaken_92 (by decide) ?_
                refine lv_cv (y := bI (blkTo (unitG G fr en) (i + 1))) (by rw [show blkTo (unitG G fr en) (i + 1) = false from by rw [blkTo_s]; first | (simp [c7, c9]; done) | (simp [c7]; done)]; rfl) ?_
                refine lv_istore (pc := 93) (lv' := [(4, .int (bI (blkTo (unitG G fr en) (i + 1)))), (7, .int (nI 1)), (6, .int (nI (fr + i))), (5, .int (nI i)), (0, .ref a1), (1, .ref a2), (2, .int (nI fr)), (3, .int (nI en))]) hx hb dX0_isBlankWhenTaken_93 hl (by decide) rfl (fun ls hl => ?_)
                refine lv_iinc (pc := 95) (v := nI (i + 1)) (lv' := [(5, .int (nI (i + 1))), (4, .int (bI (blkTo (unitG G fr en) (i + 1)))), (7, .int (nI 1)), (6, .int (nI (fr + i))), (0, .ref a1), (1, .ref a2), (2, .int (nI fr)), (3, .int (nI en))]) hx hb dX0_isBlankWhenTaken_95 hl (k := 3) rfl (nI_inc i 1) (by decide) rfl (fun ls hl => ?_)
                refine lv_goto (pc := 98) (tgt := 6) hx hb dX0_isBlankWhenTaken_98 (by decide) ?_
                have hu9 : ∀ j, j < i + 1 → (upd ut i (ub (G (fr + i)))) j = ub (unitG G fr en j) := by
                  intro j hj
                  unfold upd
                  by_cases hji : j = i
                  · rw [if_pos hji, hji, g9]
                  · rw [if_neg hji]; exact hu j (by omega)
                exact ih6 (i + 1, upd ut i (ub (G (fr + i)))) H locs ls ⟨by omega, hu9⟩ (by first | omega | (simp only []; omega)) hP hD hS (lv_sub hl [0, 1, 4, 5, 6, 7] rfl)
              · skip
                have c9 : unitG G fr en i = -1 := by
                  have e9 : (upd ut i (ub (G (fr + i)))) i = ub (unitG G fr en i) := by unfold upd; rw [if_pos rfl, g9]
                  rw [e9, ← ub_m1] at c8; exact ub_inj.mp c8
                refine lv_iconst (pc := 88) (v := nI 1) hx hb dX0_isBlankWhenTaken_88 (by decide) ?_
                refine lv_cv (y := bI (blkTo (unitG G fr en) (i + 1))) (by rw [show blkTo (unitG G fr en) (i + 1) = true from by rw [blkTo_s]; first | (simp [c7, c9]; done) | (simp [c7]; done)]; rfl) ?_
                refine lv_goto (pc := 89) (tgt := 93) hx hb dX0_isBlankWhenTaken_89 (by decide) ?_
                refine lv_istore (pc := 93) (lv' := [(4, .int (bI (blkTo (unitG G fr en) (i + 1)))), (7, .int (nI 1)), (6, .int (nI (fr + i))), (5, .int (nI i)), (0, .ref a1), (1, .ref a2), (2, .int (nI fr)), (3, .int (nI en))]) hx hb dX0_isBlankWhenTaken_93 hl (by decide) rfl (fun ls hl => ?_)
                refine lv_iinc (pc := 95) (v := nI (i + 1)) (lv' := [(5, .int (nI (i + 1))), (4, .int (bI (blkTo (unitG G fr en) (i + 1)))), (7, .int (nI 1)), (6, .int (nI (fr + i))), (0, .ref a1), (1, .ref a2), (2, .int (nI fr)), (3, .int (nI en))]) hx hb dX0_isBlankWhenTaken_95 hl (k := 3) rfl (nI_inc i 1) (by decide) rfl (fun ls hl => ?_)
                refine lv_goto (pc := 98) (tgt := 6) hx hb dX0_isBlankWhenTaken_98 (by decide) ?_
                have hu9 : ∀ j, j < i + 1 → (upd ut i (ub (G (fr + i)))) j = ub (unitG G fr en j) := by
                  intro j hj
                  unfold upd
                  by_cases hji : j = i
                  · rw [if_pos hji, hji, g9]
                  · rw [if_neg hji]; exact hu j (by omega)
                exact ih6 (i + 1, upd ut i (ub (G (fr + i)))) H locs ls ⟨by omega, hu9⟩ (by first | omega | (simp only []; omega)) hP hD hS (lv_sub hl [0, 1, 4, 5, 6, 7] rfl)
end
section
def unitL (p : Nat) (g : Nat → Int8) : List Act := if blkTo g 8 = true then [] else [.inr (p, g)]
def rowL (p : Nat) (G : Nat → Int8) (len : Nat) : Nat → Nat → List Act
  | 0, _ => []
  | c + 1, fr => unitL (p + fr) (unitG G fr len) ++ rowL p G len c (fr + 8)
theorem rowL_s (p : Nat) (G : Nat → Int8) (len c fr : Nat) : rowL p G len (c + 1) fr = unitL (p + fr) (unitG G fr len) ++ rowL p G len c (fr + 8) := rfl
def copyL (F : Nat → Int8) (src dst : Nat) : Nat → Nat → List Act
  | 0, _ => []
  | c + 1, u => unitL (dst * 256 + u * 8) (unitG F (src * 256 + u * 8) 2816) ++ copyL F src dst c (u + 1)
theorem copyL_s (F : Nat → Int8) (src dst c u : Nat) : copyL F src dst (c + 1) u = unitL (dst * 256 + u * 8) (unitG F (src * 256 + u * 8) 2816) ++ copyL F src dst c (u + 1) := rfl
def repL (F : Nat → Int8) (src dst : Nat) : List Act := .inl dst :: copyL F src dst 32 0
def markL (p : Nat) (x : Int32) : List Act := [.inr (p, fun _ => Int32.toInt8 x)]
/-- power is there, the numbers are small -/
def kOk (k : K0) : Prop := k.2.2.1 = false ∧ k.2.2.2.2.1 < 2 ^ 31 ∧ k.2.2.2.2.2.1 < 32
theorem kBegin_ok {k : K0} (h : kOk k) (hb : (kBegin k).2 = true) : (kBegin k).1.2.2.1 = false ∧ (kBegin k).1.2.2.2.2.1 < 2 ^ 31 ∧ (kBegin k).1.2.2.2.2.2.1 < 32 := by
  have h2 := kBegin_lf k
  refine ⟨(kBegin_dn k hb).trans h.1, by have := h.2.1; omega, by rw [kBegin_cu]; exact h.2.2⟩
theorem kAct_ok {x : Act} {k : K0} (h : kOk k) (hb : (kAct x k).2 = true) : kOk (kAct x k).1 := by
  cases x with
  | inl j => exact kBegin_ok h hb
  | inr q => exact kBegin_ok h hb
theorem kActs_ok {L : List Act} {k : K0} (h : kOk k) (hb : (kActs L k).2 = true) : kOk (kActs L k).1 := by
  induction L generalizing k with
  | nil => exact h
  | cons x r ih =>
    rw [kActs_cons] at hb ⊢
    by_cases q : (kAct x k).2 = true
    · rw [if_pos q] at hb ⊢; exact ih (kAct_ok h q) hb
    · rw [if_neg q] at hb; exact absurd hb q
def appA (x : Act) (F : Nat → Int8) : Nat → Int8 := match x with
  | .inl j => fillF F (j * 256) 256
  | .inr q => andFn F q.1 q.2 8
def appL : List Act → (Nat → Int8) → (Nat → Int8)
  | [], F => F
  | x :: r, F => appL r (appA x F)
theorem appL_cons (x : Act) (r : List Act) (F : Nat → Int8) : appL (x :: r) F = appL r (appA x F) := rfl
theorem appL_app (L M : List Act) (F : Nat → Int8) : appL (L ++ M) F = appL M (appL L F) := by
  induction L generalizing F with
  | nil => rfl
  | cons x r ih => rw [List.cons_append, appL_cons, appL_cons, ih]
theorem kAct_F {x : Act} {k : K0} (hb : (kAct x k).2 = true) : (kAct x k).1.1 = appA x k.1 := by
  cases x with
  | inl j =>
    show fillF k.1 (j * 256) ((if (kBegin k).2 = true then 32 else k.2.2.2.2.2.1) * 8) = _
    rw [if_pos (show (kBegin k).2 = true from hb)]; rfl
  | inr q =>
    show (if (kBegin k).2 = true then andFn k.1 q.1 q.2 8 else k.1) = _
    rw [if_pos (show (kBegin k).2 = true from hb)]; rfl
theorem kActs_F {L : List Act} {k : K0} (hb : (kActs L k).2 = true) : (kActs L k).1.1 = appL L k.1 := by
  induction L generalizing k with
  | nil => rfl
  | cons x r ih =>
    rw [kActs_cons] at hb ⊢
    by_cases q : (kAct x k).2 = true
    · rw [if_pos q] at hb ⊢; rw [ih hb, appL_cons, kAct_F q]
    · rw [if_neg q] at hb; exact absurd hb q
theorem kActs_unit {p : Nat} {g : Nat → Int8} {k : K0} : kActs (unitL p g) k = if blkTo g 8 = true then (k, true) else kWrite p g k := by
  unfold unitL
  by_cases h : blkTo g 8 = true
  · rw [if_pos h, if_pos h]; rfl
  · rw [if_neg h, if_neg h, kActs_one]; rfl
theorem appL_unit_out {p : Nat} {g F : Nat → Int8} {j : Nat} (h : j < p ∨ p + 8 ≤ j) : appL (unitL p g) F j = F j := by
  unfold unitL
  by_cases q : blkTo g 8 = true
  · rw [if_pos q]; rfl
  · rw [if_neg q]
    show andFn F p g 8 j = F j
    unfold andFn; rw [if_neg (by omega)]
set_option maxRecDepth 10000 in
theorem appL_copy_out {F G : Nat → Int8} {src dst : Nat} {j : Nat} (h : j < dst * 256 ∨ dst * 256 + 256 ≤ j) : ∀ (c u : Nat), u + c ≤ 32 → appL (copyL G src dst c u) F j = F j := by
  intro c
  induction c generalizing F with
  | zero => intro u _; rfl
  | succ c ih =>
    intro u hu
    have h1 : j < dst * 256 + u * 8 ∨ dst * 256 + u * 8 + 8 ≤ j := by omega
    rw [copyL_s, appL_app, ih (u + 1) (by omega)]
    exact appL_unit_out h1
theorem unitG_c {F G : Nat → Int8} {fr en : Nat} (h : ∀ i, i < 8 → fr + i < en → F (fr + i) = G (fr + i)) : unitG F fr en = unitG G fr en := by
  funext i
  unfold unitG
  by_cases q : i < 8 ∧ fr + i < en
  · rw [if_pos q, if_pos q, h i q.1 q.2]
  · rw [if_neg q, if_neg q]
end
section
set_option maxHeartbeats 4000000 in
set_option maxRecDepth 100000 in
theorem kX0_writeUnitT (l : Launch) (dC : Nat → ClassId) (dI : Nat → Nat → Nat) (tt : Nat → Nat) (cI cB : ClassId) (sz : Nat) (a1 a2 a3 a4 : Nat) (k : K0) (ut : Nat → Int32) (t n : Nat) (G : Nat → Int8) (q fr en : Nat) (hk : kOk k) (hen : en ≤ n) (hn : n < 2 ^ 31) (hfr : fr + 8 < 2 ^ 31) (hq : q + 8 ≤ 2816) : MetI (S := (K0 × (Nat → Int32))) l yX0_writeUnit wsX0_writeUnit { frames := 1, cells := 0, slots := 0, locals := 27 } (dC, dI) [(cI, .int), (cB, .byte)] tt [(t, n, fun j => ub (G j))] sz (mW a1 a2 a3 a4 cI k ut) [.ref a1, .int (nI q), .ref t, .int (nI fr), .int (nI en)] (fun u : (K0 × (Nat → Int32)) => mW a1 a2 a3 a4 cI u.1 u.2) (fun r u => r = bI (kActs (unitL q (unitG G fr en)) k).2 ∧ u.1 = (kActs (unitL q (unitG G fr en)) k).1) := by
  refine Met.ofW (cc := cX0_writeUnit) (maxL := 6) (ret := (some .boolean)) (by decide) rfl ?_
  intro p e s m args below meth c s₁ B hml hv
  obtain ⟨rfl, hsz, hP, hK, hD0, hE⟩ := hv
  have hx := B.exec
  have hb := B.bytes
  have hr := B.returns
  have hts := atoms_spec (ws := wsX0_writeUnit) B.pre
  have hown : s.vm.findClass RX0 = some m.cls := findClass_of_methodNamed B.named
  have hlocks := B.notSynchronized
  subst hsz
  have hD := hD0.self (sz := s.heap.size)
  generalize hAe : va_A (mW a1 a2 a3 a4 cI k ut) s.heap.size = A at hD hE ⊢
  have hA : ∀ q : Nat, s.heap.size ≤ q → A q := fun q h => by rw [← hAe]; exact Or.inr h
  have hS : va_S A s.heap s.heap [] := va_S.rf
  have hl := lv_entry ([.ref a1, .int (nI q), .ref t, .int (nI fr), .int (nI en)]) (n := 6) (Nat.le_of_ble_eq_true rfl)
  rw [lg_entry_eq]
  generalize (lg_sl ([.ref a1, .int (nI q), .ref t, .int (nI fr), .int (nI en)]) ++ List.replicate (6 - (lg_sl ([.ref a1, .int (nI q), .ref t, .int (nI fr), .int (nI en)])).length) Slot.unset).toArray = ls at hl ⊢
  have hl : lv_has ls 6 [(0, .ref a1), (1, .int (nI q)), (2, .ref t), (3, .int (nI fr)), (4, .int (nI en))] := hl
  have hP : va_P (dC, dI) vwCl (mW a1 a2 a3 a4 cI k ut) s.heap := hP
  refine lv_aload_n (pc := 0) hx hb dX0_writeUnit_0 rfl (lv_at hl 0 rfl) ?_
  refine lv_aload_n (pc := 1) hx hb dX0_writeUnit_1 rfl (lv_at hl 2 rfl) ?_
  refine lv_iload_n (pc := 2) hx hb dX0_writeUnit_2 rfl (lv_at hl 3 rfl) ?_
  refine lv_iload (pc := 3) hx hb dX0_writeUnit_3 (lv_at hl 4 rfl) ?_
  refine x_wri (pc := 5) (va_runV (As := [.ref t, .int (nI fr), .int (nI en)]) (rest := []) ⟨hx, hb, hml, hown, hts⟩ (kX0_blankT l dC dI tt cI cB _ a1 a2 a3 a4 k ut t n G fr en hen hn hfr) (cwV 3 hts gX0_writeUnit_X0_isBlankWhenTaken rfl rfl rfl (by decide +kernel) ⟨Nat.le_of_ble_eq_true rfl, Nat.le_of_ble_eq_true rfl⟩) (x_preV hS hE hK hP hD [0, 1, 2, 3] rfl (by decide) (va_free hD hS hA [0, 1, 2, 3] rfl) (xRs hS hE (va_free hD hS hA [0, 1, 2, 3] rfl)) 0 0 rfl rfl) rfl rfl hl.1 rfl (lv_room (Nat.le_of_ble_eq_true rfl)) dX0_writeUnit_5 ⟨Nat.le_of_ble_eq_true rfl, Nat.le_of_ble_eq_true rfl⟩) hS hA hP hD [0, 1, 2, 3] [] rfl rfl (by decide) (by decide) (fun r_2 u_1 H locs hu_1 hP hD hS => ?_)
  obtain ⟨hr_2, hu⟩ := hu_1
  subst hr_2
  obtain ⟨ut1, rfl⟩ : ∃ z, z = u_1 := ⟨_, rfl⟩
  have hP := hP.sub (ws' := mW a1 a2 a3 a4 cI k ut1) [0, 1, 2, 3] rfl
  have hD := hD.sub (ws' := mW a1 a2 a3 a4 cI k ut1) [0, 1, 2, 3] (by decide) rfl
  refine lv_if_eq (pc := 8) (tgt := 13) hx hb dX0_writeUnit_8 (by decide) (fun c1 => ?_) (fun c1 => ?_)
  · skip
    have c1 : blkTo (unitG G fr en) 8 = false := bI_0.mp c1
    refine lv_aload_n (pc := 13) hx hb dX0_writeUnit_13 rfl (lv_at hl 0 rfl) ?_
    refine x_wri (pc := 14) (va_runV (As := []) (rest := []) ⟨hx, hb, hml, hown, hts⟩ (kX0_beginAct l dC dI tt cI cB _ a1 a2 a3 a4 k ut1  hk.1 hk.2.1) (cwV 0 hts gX0_writeUnit_X0_beginAct rfl rfl rfl (by decide +kernel) ⟨Nat.le_of_ble_eq_true rfl, Nat.le_of_ble_eq_true rfl⟩) (x_preV hS hE hK hP hD [0, 1, 2, 3] rfl (by decide) (va_free hD hS hA [0, 1, 2, 3] rfl) xR0 0 0 rfl rfl) rfl rfl hl.1 rfl (lv_room (Nat.le_of_ble_eq_true rfl)) dX0_writeUnit_14 ⟨Nat.le_of_ble_eq_true rfl, Nat.le_of_ble_eq_true rfl⟩) hS hA hP hD [0, 1, 2, 3] [] rfl rfl (by decide) (by decide) (fun r_4 u_3 H locs hu_3 hP hD hS => ?_)
    obtain ⟨hr_4, eu_3⟩ := hu_3
    obtain ⟨b_5, eb_5⟩ : ∃ z, z = (kBegin k).2 := ⟨_, rfl⟩
    rw [← eb_5] at hr_4
    subst hr_4
    have hP := hP.sub (ws' := mW a1 a2 a3 a4 cI u_3 ut1) [0, 1, 2, 3] rfl
    have hD := hD.sub (ws' := mW a1 a2 a3 a4 cI u_3 ut1) [0, 1, 2, 3] (by decide) rfl
    obtain ⟨F_6, kr_7⟩ := u_3
    have hP : va_P (dC, dI) vwCl (mW a1 a2 a3 a4 cI (F_6, kr_7) ut1) _ := hP
    have hD : va_D A (mW a1 a2 a3 a4 cI (F_6, kr_7) ut1) := hD
    have hF1 : F_6 = k.1 := by have := congrArg (fun z : K0 => z.1) eu_3; rw [kBegin_F] at this; exact this
    subst hF1
    have hkr : kr_7 = (kBegin k).1.2 := by have := congrArg (fun z : K0 => z.2) eu_3; exact this
    have hP : va_P (dC, dI) vwCl (mW a1 a2 a3 a4 cI (k.1, kr_7) ut1) _ := hP
    have hD : va_D A (mW a1 a2 a3 a4 cI (k.1, kr_7) ut1) := hD
    refine lv_if_ne (pc := 17) (tgt := 22) hx hb dX0_writeUnit_17 (by decide) (fun c2 => ?_) (fun c2 => ?_)
    · skip
      have c2 : b_5 = true := bI_1.mp c2
      refine lv_iconst (pc := 22) (v := nI 0) hx hb dX0_writeUnit_22 (by decide) ?_
      refine lv_istore (pc := 23) (lv' := [(5, .int (nI 0)), (0, .ref a1), (1, .int (nI q)), (2, .ref t), (3, .int (nI fr)), (4, .int (nI en))]) hx hb dX0_writeUnit_23 hl (by decide) rfl (fun ls hl => ?_)
      rw [← andFn_0 k.1 q (unitG G fr en)] at hP hD
      refine x_loop (σ := (Nat)) (Wd := fun i : (Nat) => mW a1 a2 a3 a4 cI (andFn k.1 q (unitG G fr en) i, kr_7) ut1) (Lv := fun i : (Nat) => [(5, .int (nI i)), (0, .ref a1), (1, .int (nI q)), (2, .ref t), (3, .int (nI fr)), (4, .int (nI en))]) (I := fun i : (Nat) => (i ≤ 8)) (μ := fun i : (Nat) => 8 - i) ?_ (0) (Nat.zero_le _) hP hD hS (lv_sub hl [0, 1, 2, 3, 4, 5] rfl)
      intro i H locs ls hI hP hD hS hl ih25
      have hi8 : (i ≤ 8) := hI
      have hP : va_P (dC, dI) vwCl (mW a1 a2 a3 a4 cI (andFn k.1 q (unitG G fr en) i, kr_7) ut1) _ := hP
      have hD : va_D A (mW a1 a2 a3 a4 cI (andFn k.1 q (unitG G fr en) i, kr_7) ut1) := hD
      have hl : lv_has ls 6 [(5, .int (nI i)), (0, .ref a1), (1, .int (nI q)), (2, .ref t), (3, .int (nI fr)), (4, .int (nI en))] := hl
      refine lv_iload (pc := 25) hx hb dX0_writeUnit_25 (lv_at hl 0 rfl) ?_
      refine lv_bipush (pc := 27) (v := nI 8) hx hb dX0_writeUnit_27 (by decide) ?_
      refine lv_icmp_ge (pc := 29) (tgt := 53) hx hb dX0_writeUnit_29 (by decide) (fun c_8 => ?_) (fun c_8 => ?_)
      · skip
        have c_8 : 8 ≤ i := (nI_leI (a := 8) (b := i) (by omega) (by omega)).mp c_8
        refine lv_iconst (pc := 53) (v := nI 1) hx hb dX0_writeUnit_53 (by decide) ?_
        have hi9 : i = 8 := by omega
        subst hi9
        exact W.zret (v := nI 1) hx hb hr rfl (fun t ht hW => ⟨⟨nI 1, ((andFn k.1 q (unitG G fr en) 8, kr_7), ut1), rfl, ⟨by rw [kActs_unit, c1]; show _ = bI (kBegin k).2; rw [← eb_5, c2]; rfl, by rw [kActs_unit, c1]; show _ = (if (kBegin k).2 = true then andFn k.1 q (unitG G fr en) 8 else k.1, (kBegin k).1.2); rw [← eb_5, c2, hkr]; rfl⟩, by show va_P _ _ _ t.heap; rw [ht]; exact hP, va_K.moved hW.alike hK, hD⟩, hS.F ht⟩) hS.2.2 dX0_writeUnit_54
      · skip
        have c_8 : ¬ 8 ≤ i := fun z => c_8 ((nI_leI (a := 8) (b := i) (by omega) (by omega)).mpr z)
        refine lv_aload_n (pc := 32) hx hb dX0_writeUnit_32 rfl (lv_at hl 1 rfl) ?_
        refine lv_iload_n (pc := 33) hx hb dX0_writeUnit_33 rfl (lv_at hl 2 rfl) ?_
        refine lv_iload (pc := 34) hx hb dX0_writeUnit_34 (lv_at hl 0 rfl) ?_
        refine lv_iadd (pc := 36) hx hb dX0_writeUnit_36 ?_
        refine lv_cv (nI_add q i) ?_
        refine lv_aload_n (pc := 37) hx hb dX0_writeUnit_37 rfl (lv_at hl 1 rfl) ?_
        refine va_get (pc := 38) (D := (dC, dI)) (ci := 0) (v := .ref a4) (C := RX0) (T := TX0) (N := 9) hx hb hts (by decide +kernel) hown hK hP 0 rfl rfl 2 (by decide) (hts (.fieldLink RX0 18 "ScratchSwap$Memory" "unitTaken" "[I") (by decide +kernel)) (fun _ h9 => h9) rfl dX0_writeUnit_38 ?_
        refine lv_iload (pc := 41) hx hb dX0_writeUnit_41 (lv_at hl 0 rfl) ?_
        refine x_iald (pc := 43) (k := i) (f := ut1) hx hb hK hP 3 0 rfl rfl (by omega) (by decide) dX0_writeUnit_43 ?_
        refine x_wrv (pc := 44) (va_runV (As := [.int (nI (q + i)), .int (ut1 i)]) (rest := []) ⟨hx, hb, hml, hown, hts⟩ (kX0_keepBits l dC dI tt cI cB _ a1 a2 a3 a4 (andFn k.1 q (unitG G fr en) i, kr_7) ut1 (q + i) (ut1 i) (by omega)) (cwV 2 hts gX0_writeUnit_X0_keepBits rfl rfl rfl (by decide +kernel) ⟨Nat.le_of_ble_eq_true rfl, Nat.le_of_ble_eq_true rfl⟩) (x_preV hS hE hK hP hD [0, 1, 2, 3] rfl (by decide) (va_free hD hS hA [0, 1, 2, 3] rfl) xR0 0 0 rfl rfl) rfl rfl hl.1 rfl (lv_room (Nat.le_of_ble_eq_true rfl)) dX0_writeUnit_44 ⟨Nat.le_of_ble_eq_true rfl, Nat.le_of_ble_eq_true rfl⟩) hS hA hP hD [0, 1, 2, 3] [] rfl rfl (by decide) (by decide) (fun u_9 H locs hu_9 hP hD hS => ?_)
        subst hu_9
        have hP := hP.sub (ws' := mW a1 a2 a3 a4 cI (va_up (andFn k.1 q (unitG G fr en) i) (q + i) ((andFn k.1 q (unitG G fr en) i) (q + i) &&& Int32.toInt8 (ut1 i)), kr_7) ut1) [0, 1, 2, 3] rfl
        have hD := hD.sub (ws' := mW a1 a2 a3 a4 cI (va_up (andFn k.1 q (unitG G fr en) i) (q + i) ((andFn k.1 q (unitG G fr en) i) (q + i) &&& Int32.toInt8 (ut1 i)), kr_7) ut1) [0, 1, 2, 3] (by decide) rfl
        refine lv_iinc (pc := 47) (v := nI (i + 1)) (lv' := [(5, .int (nI (i + 1))), (0, .ref a1), (1, .int (nI q)), (2, .ref t), (3, .int (nI fr)), (4, .int (nI en))]) hx hb dX0_writeUnit_47 hl (k := 0) rfl (nI_inc i 1) (by decide) rfl (fun ls hl => ?_)
        refine lv_goto (pc := 50) (tgt := 25) hx hb dX0_writeUnit_50 (by decide) ?_
        rw [hu i (by omega), ub_8, andFn_step] at hP hD
        exact ih25 (i + 1) H locs ls (by omega) (by first | omega | (simp only []; omega)) hP hD hS (lv_sub hl [0, 1, 2, 3, 4, 5] rfl)
    · skip
      have c2 : b_5 = false := bI_0.mp c2
      refine lv_iconst (pc := 20) (v := nI 0) hx hb dX0_writeUnit_20 (by decide) ?_
      exact W.zret (v := nI 0) hx hb hr rfl (fun t ht hW => ⟨⟨nI 0, ((k.1, kr_7), ut1), rfl, ⟨by rw [kActs_unit, c1]; show _ = bI (kBegin k).2; rw [← eb_5, c2]; rfl, by rw [kActs_unit, c1]; show _ = (if (kBegin k).2 = true then andFn k.1 q (unitG G fr en) 8 else k.1, (kBegin k).1.2); rw [← eb_5, c2, hkr]; rfl⟩, by show va_P _ _ _ t.heap; rw [ht]; exact hP, va_K.moved hW.alike hK, hD⟩, hS.F ht⟩) hS.2.2 dX0_writeUnit_21
  · skip
    have c1 : blkTo (unitG G fr en) 8 = true := bI_1.mp c1
    refine lv_iconst (pc := 11) (v := nI 1) hx hb dX0_writeUnit_11 (by decide) ?_
    exact W.zret (v := nI 1) hx hb hr rfl (fun t ht hW => ⟨⟨nI 1, (k, ut1), rfl, ⟨by rw [kActs_unit, c1]; rfl, by rw [kActs_unit, c1]; rfl⟩, by show va_P _ _ _ t.heap; rw [ht]; exact hP, va_K.moved hW.alike hK, hD⟩, hS.F ht⟩) hS.2.2 dX0_writeUnit_12
set_option maxHeartbeats 4000000 in
set_option maxRecDepth 100000 in
theorem kX0_writeUnitA (l : Launch) (dC : Nat → ClassId) (dI : Nat → Nat → Nat) (tt : Nat → Nat) (cI cB : ClassId) (sz : Nat) (a1 a2 a3 a4 : Nat) (k : K0) (ut : Nat → Int32) (q fr en : Nat) (hk : kOk k) (hen : en ≤ 2816) (hfr : fr + 8 < 2 ^ 31) (hq : q + 8 ≤ 2816) : MetI (S := (K0 × (Nat → Int32))) l yX0_writeUnit wsX0_writeUnit { frames := 1, cells := 0, slots := 0, locals := 27 } (dC, dI) [(cI, .int), (cB, .byte)] tt [] sz (mW a1 a2 a3 a4 cI k ut) [.ref a1, .int (nI q), .ref a2, .int (nI fr), .int (nI en)] (fun u : (K0 × (Nat → Int32)) => mW a1 a2 a3 a4 cI u.1 u.2) (fun r u => r = bI (kActs (unitL q (unitG k.1 fr en)) k).2 ∧ u.1 = (kActs (unitL q (unitG k.1 fr en)) k).1) := by
  refine Met.ofW (cc := cX0_writeUnit) (maxL := 6) (ret := (some .boolean)) (by decide) rfl ?_
  intro p e s m args below meth c s₁ B hml hv
  obtain ⟨rfl, hsz, hP, hK, hD0, hE⟩ := hv
  have hx := B.exec
  have hb := B.bytes
  have hr := B.returns
  have hts := atoms_spec (ws := wsX0_writeUnit) B.pre
  have hown : s.vm.findClass RX0 = some m.cls := findClass_of_methodNamed B.named
  have hlocks := B.notSynchronized
  subst hsz
  have hD := hD0.self (sz := s.heap.size)
  generalize hAe : va_A (mW a1 a2 a3 a4 cI k ut) s.heap.size = A at hD hE ⊢
  have hA : ∀ q : Nat, s.heap.size ≤ q → A q := fun q h => by rw [← hAe]; exact Or.inr h
  have hS : va_S A s.heap s.heap [] := va_S.rf
  have hl := lv_entry ([.ref a1, .int (nI q), .ref a2, .int (nI fr), .int (nI en)]) (n := 6) (Nat.le_of_ble_eq_true rfl)
  rw [lg_entry_eq]
  generalize (lg_sl ([.ref a1, .int (nI q), .ref a2, .int (nI fr), .int (nI en)]) ++ List.replicate (6 - (lg_sl ([.ref a1, .int (nI q), .ref a2, .int (nI fr), .int (nI en)])).length) Slot.unset).toArray = ls at hl ⊢
  have hl : lv_has ls 6 [(0, .ref a1), (1, .int (nI q)), (2, .ref a2), (3, .int (nI fr)), (4, .int (nI en))] := hl
  have hP : va_P (dC, dI) vwCl (mW a1 a2 a3 a4 cI k ut) s.heap := hP
  refine lv_aload_n (pc := 0) hx hb dX0_writeUnit_0 rfl (lv_at hl 0 rfl) ?_
  refine lv_aload_n (pc := 1) hx hb dX0_writeUnit_1 rfl (lv_at hl 2 rfl) ?_
  refine lv_iload_n (pc := 2) hx hb dX0_writeUnit_2 rfl (lv_at hl 3 rfl) ?_
  refine lv_iload (pc := 3) hx hb dX0_writeUnit_3 (lv_at hl 4 rfl) ?_
  refine x_wri (pc := 5) (va_runV (As := [.ref a2, .int (nI fr), .int (nI en)]) (rest := []) ⟨hx, hb, hml, hown, hts⟩ (kX0_blankA l dC dI tt cI cB _ a1 a2 a3 a4 k ut fr en hen hfr) (cwV 3 hts gX0_writeUnit_X0_isBlankWhenTaken rfl rfl rfl (by decide +kernel) ⟨Nat.le_of_ble_eq_true rfl, Nat.le_of_ble_eq_true rfl⟩) (x_preV hS hE hK hP hD [0, 1, 2, 3] rfl (by decide) (va_free hD hS hA [0, 1, 2, 3] rfl) xR0 0 0 rfl rfl) rfl rfl hl.1 rfl (lv_room (Nat.le_of_ble_eq_true rfl)) dX0_writeUnit_5 ⟨Nat.le_of_ble_eq_true rfl, Nat.le_of_ble_eq_true rfl⟩) hS hA hP hD [0, 1, 2, 3] [] rfl rfl (by decide) (by decide) (fun r_2 u_1 H locs hu_1 hP hD hS => ?_)
  obtain ⟨hr_2, hu⟩ := hu_1
  subst hr_2
  obtain ⟨ut1, rfl⟩ : ∃ z, z = u_1 := ⟨_, rfl⟩
  have hP := hP.sub (ws' := mW a1 a2 a3 a4 cI k ut1) [0, 1, 2, 3] rfl
  have hD := hD.sub (ws' := mW a1 a2 a3 a4 cI k ut1) [0, 1, 2, 3] (by decide) rfl
  refine lv_if_eq (pc := 8) (tgt := 13) hx hb dX0_writeUnit_8 (by decide) (fun c1 => ?_) (fun c1 => ?_)
  · skip
    have c1 : blkTo (unitG k.1 fr en) 8 = false := bI_0.mp c1
    refine lv_aload_n (pc := 13) hx hb dX0_writeUnit_13 rfl (lv_at hl 0 rfl) ?_
    refine x_wri (pc := 14) (va_runV (As := []) (rest := []) ⟨hx, hb, hml, hown, hts⟩ (kX0_beginAct l dC dI tt cI cB _ a1 a2 a3 a4 k ut1  hk.1 hk.2.1) (cwV 0 hts gX0_writeUnit_X0_beginAct rfl rfl rfl (by decide +kernel) ⟨Nat.le_of_ble_eq_true rfl, Nat.le_of_ble_eq_true rfl⟩) (x_preV hS hE hK hP hD [0, 1, 2, 3] rfl (by decide) (va_free hD hS hA [0, 1, 2, 3] rfl) xR0 0 0 rfl rfl) rfl rfl hl.1 rfl (lv_room (Nat.le_of_ble_eq_true rfl)) dX0_writeUnit_14 ⟨Nat.le_of_ble_eq_true rfl, Nat.le_of_ble_eq_true rfl⟩) hS hA hP hD [0, 1, 2, 3] [] rfl rfl (by decide) (by decide) (fun r_4 u_3 H locs hu_3 hP hD hS => ?_)
    obtain ⟨hr_4, eu_3⟩ := hu_3
    obtain ⟨b_5, eb_5⟩ : ∃ z, z = (kBegin k).2 := ⟨_, rfl⟩
    rw [← eb_5] at hr_4
    subst hr_4
    have hP := hP.sub (ws' := mW a1 a2 a3 a4 cI u_3 ut1) [0, 1, 2, 3] rfl
    have hD := hD.sub (ws' := mW a1 a2 a3 a4 cI u_3 ut1) [0, 1, 2, 3] (by decide) rfl
    obtain ⟨F_6, kr_7⟩ := u_3
    have hP : va_P (dC, dI) vwCl (mW a1 a2 a3 a4 cI (F_6, kr_7) ut1) _ := hP
    have hD : va_D A (mW a1 a2 a3 a4 cI (F_6, kr_7) ut1) := hD
    have hF1 : F_6 = k.1 := by have := congrArg (fun z : K0 => z.1) eu_3; rw [kBegin_F] at this; exact this
    subst hF1
    have hkr : kr_7 = (kBegin k).1.2 := by have := congrArg (fun z : K0 => z.2) eu_3; exact this
    have hP : va_P (dC, dI) vwCl (mW a1 a2 a3 a4 cI (k.1, kr_7) ut1) _ := hP
    have hD : va_D A (mW a1 a2 a3 a4 cI (k.1, kr_7) ut1) := hD
    refine lv_if_ne (pc := 17) (tgt := 22) hx hb dX0_writeUnit_17 (by decide) (fun c2 => ?_) (fun c2 => ?_)
    · skip
      have c2 : b_5 = true := bI_1.mp c2
      refine lv_iconst (pc := 22) (v := nI 0) hx hb dX0_writeUnit_22 (by decide) ?_
      refine lv_istore (pc := 23) (lv' := [(5, .int (nI 0)), (0, .ref a1), (1, .int (nI q)), (2, .ref a2), (3, .int (nI fr)), (4, .int (nI en))]) hx hb dX0_writeUnit_23 hl (by decide) rfl (fun ls hl => ?_)
      rw [← andFn_0 k.1 q (unitG k.1 fr en)] at hP hD
      refine x_loop (σ := (Nat)) (Wd := fun i : (Nat) => mW a1 a2 a3 a4 cI (andFn k.1 q (unitG k.1 fr en) i, kr_7) ut1) (Lv := fun i : (Nat) => [(5, .int (nI i)), (0, .ref a1), (1, .int (nI q)), (2, .ref a2), (3, .int (nI fr)), (4, .int (nI en))]) (I := fun i : (Nat) => (i ≤ 8)) (μ := fun i : (Nat) => 8 - i) ?_ (0) (Nat.zero_le _) hP hD hS (lv_sub hl [0, 1, 2, 3, 4, 5] rfl)
      intro i H locs ls hI hP hD hS hl ih25
      have hi8 : (i ≤ 8) := hI
      have hP : va_P (dC, dI) vwCl (mW a1 a2 a3 a4 cI (andFn k.1 q (unitG k.1 fr en) i, kr_7) ut1) _ := hP
      have hD : va_D A (mW a1 a2 a3 a4 cI (andFn k.1 q (unitG k.1 fr en) i, kr_7) ut1) := hD
      have hl : lv_has ls 6 [(5, .int (nI i)), (0, .ref a1), (1, .int (nI q)), (2, .ref a2), (3, .int (nI fr)), (4, .int (nI en))] := hl
      refine lv_iload (pc := 25) hx hb dX0_writeUnit_25 (lv_at hl 0 rfl) ?_
      refine lv_bipush (pc := 27) (v := nI 8) hx hb dX0_writeUnit_27 (by decide) ?_
      refine lv_icmp_ge (pc := 29) (tgt := 53) hx hb dX0_writeUnit_29 (by decide) (fun c_8 => ?_) (fun c_8 => ?_)
      · skip
        have c_8 : 8 ≤ i := (nI_leI (a := 8) (b := i) (by omega) (by omega)).mp c_8
        refine lv_iconst (pc := 53) (v := nI 1) hx hb dX0_writeUnit_53 (by decide) ?_
        have hi9 : i = 8 := by omega
        subst hi9
        exact W.zret (v := nI 1) hx hb hr rfl (fun t ht hW => ⟨⟨nI 1, ((andFn k.1 q (unitG k.1 fr en) 8, kr_7), ut1), rfl, ⟨by rw [kActs_unit, c1]; show _ = bI (kBegin k).2; rw [← eb_5, c2]; rfl, by rw [kActs_unit, c1]; show _ = (if (kBegin k).2 = true then andFn k.1 q (unitG k.1 fr en) 8 else k.1, (kBegin k).1.2); rw [← eb_5, c2, hkr]; rfl⟩, by show va_P _ _ _ t.heap; rw [ht]; exact hP, va_K.moved hW.alike hK, hD⟩, hS.F ht⟩) hS.2.2 dX0_writeUnit_54
      · skip
        have c_8 : ¬ 8 ≤ i := fun z => c_8 ((nI_leI (a := 8) (b := i) (by omega) (by omega)).mpr z)
        refine lv_aload_n (pc := 32) hx hb dX0_writeUnit_32 rfl (lv_at hl 1 rfl) ?_
        refine lv_iload_n (pc := 33) hx hb dX0_writeUnit_33 rfl (lv_at hl 2 rfl) ?_
        refine lv_iload (pc := 34) hx hb dX0_writeUnit_34 (lv_at hl 0 rfl) ?_
        refine lv_iadd (pc := 36) hx hb dX0_writeUnit_36 ?_
        refine lv_cv (nI_add q i) ?_
        refine lv_aload_n (pc := 37) hx hb dX0_writeUnit_37 rfl (lv_at hl 1 rfl) ?_
        refine va_get (pc := 38) (D := (dC, dI)) (ci := 0) (v := .ref a4) (C := RX0) (T := TX0) (N := 9) hx hb hts (by decide +kernel) hown hK hP 0 rfl rfl 2 (by decide) (hts (.fieldLink RX0 18 "ScratchSwap$Memory" "unitTaken" "[I") (by decide +kernel)) (fun _ h9 => h9) rfl dX0_writeUnit_38 ?_
        refine lv_iload (pc := 41) hx hb dX0_writeUnit_41 (lv_at hl 0 rfl) ?_
        refine x_iald (pc := 43) (k := i) (f := ut1) hx hb hK hP 3 0 rfl rfl (by omega) (by decide) dX0_writeUnit_43 ?_
        refine x_wrv (pc := 44) (va_runV (As := [.int (nI (q + i)), .int (ut1 i)]) (rest := []) ⟨hx, hb, hml, hown, hts⟩ (kX0_keepBits l dC dI tt cI cB _ a1 a2 a3 a4 (andFn k.1 q (unitG k.1 fr en) i, kr_7) ut1 (q + i) (ut1 i) (by omega)) (cwV 2 hts gX0_writeUnit_X0_keepBits rfl rfl rfl (by decide +kernel) ⟨Nat.le_of_ble_eq_true rfl, Nat.le_of_ble_eq_true rfl⟩) (x_preV hS hE hK hP hD [0, 1, 2, 3] rfl (by decide) (va_free hD hS hA [0, 1, 2, 3] rfl) xR0 0 0 rfl rfl) rfl rfl hl.1 rfl (lv_room (Nat.le_of_ble_eq_true rfl)) dX0_writeUnit_44 ⟨Nat.le_of_ble_eq_true rfl, Nat.le_of_ble_eq_true rfl⟩) hS hA hP hD [0, 1, 2, 3] [] rfl rfl (by decide) (by decide) (fun u_9 H locs hu_9 hP hD hS => ?_)
        subst hu_9
        have hP := hP.sub (ws' := mW a1 a2 a3 a4 cI (va_up (andFn k.1 q (unitG k.1 fr en) i) (q + i) ((andFn k.1 q (unitG k.1 fr en) i) (q + i) &&& Int32.toInt8 (ut1 i)), kr_7) ut1) [0, 1, 2, 3] rfl
        have hD := hD.sub (ws' := mW a1 a2 a3 a4 cI (va_up (andFn k.1 q (unitG k.1 fr en) i) (q + i) ((andFn k.1 q (unitG k.1 fr en) i) (q + i) &&& Int32.toInt8 (ut1 i)), kr_7) ut1) [0, 1, 2, 3] (by decide) rfl
        refine lv_iinc (pc := 47) (v := nI (i + 1)) (lv' := [(5, .int (nI (i + 1))), (0, .ref a1), (1, .int (nI q)), (2, .ref a2), (3, .int (nI fr)), (4, .int (nI en))]) hx hb dX0_writeUnit_47 hl (k := 0) rfl (nI_inc i 1) (by decide) rfl (fun ls hl => ?_)
        refine lv_goto (pc := 50) (tgt := 25) hx hb dX0_writeUnit_50 (by decide) ?_
        rw [hu i (by omega), ub_8, andFn_step] at hP hD
        exact ih25 (i + 1) H locs ls (by omega) (by first | omega | (simp only []; omega)) hP hD hS (lv_sub hl [0, 1, 2, 3, 4, 5] rfl)
    · skip
      have c2 : b_5 = false := bI_0.mp c2
      refine lv_iconst (pc := 20) (v := nI 0) hx hb dX0_writeUnit_20 (by decide) ?_
      exact W.zret (v := nI 0) hx hb hr rfl (fun t ht hW => ⟨⟨nI 0, ((k.1, kr_7), ut1), rfl, ⟨by rw [kActs_unit, c1]; show _ = bI (kBegin k).2; rw [← eb_5, c2]; rfl, by rw [kActs_unit, c1]; show _ = (if (kBegin k).2 = true then andFn k.1 q (unitG k.1 fr en) 8 else k.1, (kBegin k).1.2); rw [← eb_5, c2, hkr]; rfl⟩, by show va_P _ _ _ t.heap; rw [ht]; exact hP, va_K.moved hW.alike hK, hD⟩, hS.F ht⟩) hS.2.2 dX0_writeUnit_21
  · skip
    have c1 : blkTo (unitG k.1 fr en) 8 = true := bI_1.mp c1
    refine lv_iconst (pc := 11) (v := nI 1) hx hb dX0_writeUnit_11 (by decide) ?_
    exact W.zret (v := nI 1) hx hb hr rfl (fun t ht hW => ⟨⟨nI 1, (k, ut1), rfl, ⟨by rw [kActs_unit, c1]; rfl, by rw [kActs_unit, c1]; rfl⟩, by show va_P _ _ _ t.heap; rw [ht]; exact hP, va_K.moved hW.alike hK, hD⟩, hS.F ht⟩) hS.2.2 dX0_writeUnit_12
set_option maxHeartbeats 4000000 in
set_option maxRecDepth 100000 in
theorem kX0_markUnit (l : Launch) (dC : Nat → ClassId) (dI : Nat → Nat → Nat) (tt : Nat → Nat) (cI cB : ClassId) (sz : Nat) (a1 a2 a3 a4 : Nat) (k : K0) (ut : Nat → Int32) (i0 j0 : Nat) (x : Int32) (hk : kOk k) (hq : i0 * 256 + j0 * 8 + 8 ≤ 2816) : MetI (S := K0) l yX0_markUnit wsX0_markUnit { frames := 1, cells := 0, slots := 0, locals := 22 } (dC, dI) [(cI, .int), (cB, .byte)] tt [] sz (mW a1 a2 a3 a4 cI k ut) [.ref a1, .int (nI i0), .int (nI j0), .int x] (fun u : K0 => mW a1 a2 a3 a4 cI u ut) (fun r u => r = bI (kActs (markL (i0 * 256 + j0 * 8) x) k).2 ∧ u = (kActs (markL (i0 * 256 + j0 * 8) x) k).1) := by
  refine Met.ofW (cc := cX0_markUnit) (maxL := 6) (ret := (some .boolean)) (by decide) rfl ?_
  intro p e s m args below meth c s₁ B hml hv
  obtain ⟨rfl, hsz, hP, hK, hD0, hE⟩ := hv
  have hx := B.exec
  have hb := B.bytes
  have hr := B.returns
  have hts := atoms_spec (ws := wsX0_markUnit) B.pre
  have hown : s.vm.findClass RX0 = some m.cls := findClass_of_methodNamed B.named
  have hlocks := B.notSynchronized
  subst hsz
  have hD := hD0.self (sz := s.heap.size)
  generalize hAe : va_A (mW a1 a2 a3 a4 cI k ut) s.heap.size = A at hD hE ⊢
  have hA : ∀ q : Nat, s.heap.size ≤ q → A q := fun q h => by rw [← hAe]; exact Or.inr h
  have hS : va_S A s.heap s.heap [] := va_S.rf
  have hl := lv_entry ([.ref a1, .int (nI i0), .int (nI j0), .int x]) (n := 6) (Nat.le_of_ble_eq_true rfl)
  rw [lg_entry_eq]
  generalize (lg_sl ([.ref a1, .int (nI i0), .int (nI j0), .int x]) ++ List.replicate (6 - (lg_sl ([.ref a1, .int (nI i0), .int (nI j0), .int x])).length) Slot.unset).toArray = ls at hl ⊢
  have hl : lv_has ls 6 [(0, .ref a1), (1, .int (nI i0)), (2, .int (nI j0)), (3, .int x)] := hl
  have hP : va_P (dC, dI) vwCl (mW a1 a2 a3 a4 cI k ut) s.heap := hP
  refine lv_aload_n (pc := 0) hx hb dX0_markUnit_0 rfl (lv_at hl 0 rfl) ?_
  refine x_wri (pc := 1) (va_runV (As := []) (rest := []) ⟨hx, hb, hml, hown, hts⟩ (kX0_beginAct l dC dI tt cI cB _ a1 a2 a3 a4 k ut  hk.1 hk.2.1) (cwV 0 hts gX0_markUnit_X0_beginAct rfl rfl rfl (by decide +kernel) ⟨Nat.le_of_ble_eq_true rfl, Nat.le_of_ble_eq_true rfl⟩) (x_preV hS hE hK hP hD [0, 1, 2, 3] rfl (by decide) (va_free hD hS hA [0, 1, 2, 3] rfl) xR0 0 0 rfl rfl) rfl rfl hl.1 rfl (lv_room (Nat.le_of_ble_eq_true rfl)) dX0_markUnit_1 ⟨Nat.le_of_ble_eq_true rfl, Nat.le_of_ble_eq_true rfl⟩) hS hA hP hD [0, 1, 2, 3] [] rfl rfl (by decide) (by decide) (fun r_2 u_1 H locs hu_1 hP hD hS => ?_)
  obtain ⟨hr_2, eu_1⟩ := hu_1
  obtain ⟨b_3, eb_3⟩ : ∃ z, z = (kBegin k).2 := ⟨_, rfl⟩
  rw [← eb_3] at hr_2
  subst hr_2
  have hP := hP.sub (ws' := mW a1 a2 a3 a4 cI u_1 ut) [0, 1, 2, 3] rfl
  have hD := hD.sub (ws' := mW a1 a2 a3 a4 cI u_1 ut) [0, 1, 2, 3] (by decide) rfl
  obtain ⟨F_4, kr_5⟩ := u_1
  have hP : va_P (dC, dI) vwCl (mW a1 a2 a3 a4 cI (F_4, kr_5) ut) _ := hP
  have hD : va_D A (mW a1 a2 a3 a4 cI (F_4, kr_5) ut) := hD
  have hF1 : F_4 = k.1 := by have := congrArg (fun z : K0 => z.1) eu_1; rw [kBegin_F] at this; exact this
  subst hF1
  have hkr : kr_5 = (kBegin k).1.2 := by have := congrArg (fun z : K0 => z.2) eu_1; exact this
  have hP : va_P (dC, dI) vwCl (mW a1 a2 a3 a4 cI (k.1, kr_5) ut) _ := hP
  have hD : va_D A (mW a1 a2 a3 a4 cI (k.1, kr_5) ut) := hD
  refine lv_if_ne (pc := 4) (tgt := 9) hx hb dX0_markUnit_4 (by decide) (fun c2 => ?_) (fun c2 => ?_)
  · skip
    have c2 : b_3 = true := bI_1.mp c2
    refine lv_iload_n (pc := 9) hx hb dX0_markUnit_9 rfl (lv_at hl 1 rfl) ?_
    refine lv_iload_n (pc := 10) hx hb dX0_markUnit_10 rfl (lv_at hl 2 rfl) ?_
    refine x_roi (pc := 11) (va_runS (As := [.int (nI i0), .int (nI j0)]) (rest := []) ⟨hx, hb, hml, hown, hts⟩ (kX0_unitAt l dC dI tt cI cB _ i0 j0) (va_cwS 2 hts gX0_markUnit_X0_unitAt rfl rfl rfl (by decide +kernel) ⟨Nat.le_of_ble_eq_true rfl, Nat.le_of_ble_eq_true rfl⟩) (x_preS hS hE hK hP hD [] rfl (by decide) (x_ro hS hA) xR0) rfl rfl hl.1 rfl (lv_room (Nat.le_of_ble_eq_true rfl)) dX0_markUnit_11 ⟨Nat.le_of_ble_eq_true rfl, Nat.le_of_ble_eq_true rfl⟩) hS hA hP (fun r_6 H locs hr_6 hP hS => ?_)
    subst hr_6
    refine lv_istore (pc := 14) (lv' := [(4, .int (nI (i0 * 256 + j0 * 8))), (0, .ref a1), (1, .int (nI i0)), (2, .int (nI j0)), (3, .int x)]) hx hb dX0_markUnit_14 hl (by decide) rfl (fun ls hl => ?_)
    refine lv_iconst (pc := 16) (v := nI 0) hx hb dX0_markUnit_16 (by decide) ?_
    refine lv_istore (pc := 17) (lv' := [(5, .int (nI 0)), (4, .int (nI (i0 * 256 + j0 * 8))), (0, .ref a1), (1, .int (nI i0)), (2, .int (nI j0)), (3, .int x)]) hx hb dX0_markUnit_17 hl (by decide) rfl (fun ls hl => ?_)
    rw [← andFn_0 k.1 (i0 * 256 + j0 * 8) (fun _ => Int32.toInt8 x)] at hP hD
    refine x_loop (σ := (Nat)) (Wd := fun i : (Nat) => mW a1 a2 a3 a4 cI (andFn k.1 (i0 * 256 + j0 * 8) (fun _ => Int32.toInt8 x) i, kr_5) ut) (Lv := fun i : (Nat) => [(5, .int (nI i)), (4, .int (nI (i0 * 256 + j0 * 8))), (0, .ref a1), (1, .int (nI i0)), (2, .int (nI j0)), (3, .int x)]) (I := fun i : (Nat) => (i ≤ 8)) (μ := fun i : (Nat) => 8 - i) ?_ (0) (Nat.zero_le _) hP hD hS (lv_sub hl [0, 1, 2, 3, 4, 5] rfl)
    intro i H locs ls hI hP hD hS hl ih19
    have hi8 : (i ≤ 8) := hI
    have hP : va_P (dC, dI) vwCl (mW a1 a2 a3 a4 cI (andFn k.1 (i0 * 256 + j0 * 8) (fun _ => Int32.toInt8 x) i, kr_5) ut) _ := hP
    have hD : va_D A (mW a1 a2 a3 a4 cI (andFn k.1 (i0 * 256 + j0 * 8) (fun _ => Int32.toInt8 x) i, kr_5) ut) := hD
    have hl : lv_has ls 6 [(5, .int (nI i)), (4, .int (nI (i0 * 256 + j0 * 8))), (0, .ref a1), (1, .int (nI i0)), (2, .int (nI j0)), (3, .int x)] := hl
    refine lv_iload (pc := 19) hx hb dX0_markUnit_19 (lv_at hl 0 rfl) ?_
    refine lv_bipush (pc := 21) (v := nI 8) hx hb dX0_markUnit_21 (by decide) ?_
    refine lv_icmp_ge (pc := 23) (tgt := 42) hx hb dX0_markUnit_23 (by decide) (fun c_7 => ?_) (fun c_7 => ?_)
    · skip
      have c_7 : 8 ≤ i := (nI_leI (a := 8) (b := i) (by omega) (by omega)).mp c_7
      refine lv_iconst (pc := 42) (v := nI 1) hx hb dX0_markUnit_42 (by decide) ?_
      have hi9 : i = 8 := by omega
      subst hi9
      exact W.zret (v := nI 1) hx hb hr rfl (fun t ht hW => ⟨⟨nI 1, (andFn k.1 (i0 * 256 + j0 * 8) (fun _ => Int32.toInt8 x) 8, kr_5), rfl, ⟨by rw [markL, kActs_one]; show _ = bI (kBegin k).2; rw [← eb_3, c2]; rfl, by rw [markL, kActs_one]; show _ = (if (kBegin k).2 = true then andFn k.1 (i0 * 256 + j0 * 8) (fun _ => Int32.toInt8 x) 8 else k.1, (kBegin k).1.2); rw [← eb_3, c2, hkr]; rfl⟩, by show va_P _ _ _ t.heap; rw [ht]; exact hP, va_K.moved hW.alike hK, hD⟩, hS.F ht⟩) hS.2.2 dX0_markUnit_43
    · skip
      have c_7 : ¬ 8 ≤ i := fun z => c_7 ((nI_leI (a := 8) (b := i) (by omega) (by omega)).mpr z)
      refine lv_aload_n (pc := 26) hx hb dX0_markUnit_26 rfl (lv_at hl 2 rfl) ?_
      refine lv_iload (pc := 27) hx hb dX0_markUnit_27 (lv_at hl 1 rfl) ?_
      refine lv_iload (pc := 29) hx hb dX0_markUnit_29 (lv_at hl 0 rfl) ?_
      refine lv_iadd (pc := 31) hx hb dX0_markUnit_31 ?_
      refine lv_cv (nI_add (i0 * 256 + j0 * 8) i) ?_
      refine lv_iload_n (pc := 32) hx hb dX0_markUnit_32 rfl (lv_at hl 5 rfl) ?_
      refine x_wrv (pc := 33) (va_runV (As := [.int (nI ((i0 * 256 + j0 * 8) + i)), .int x]) (rest := []) ⟨hx, hb, hml, hown, hts⟩ (kX0_keepBits l dC dI tt cI cB _ a1 a2 a3 a4 (andFn k.1 (i0 * 256 + j0 * 8) (fun _ => Int32.toInt8 x) i, kr_5) ut ((i0 * 256 + j0 * 8) + i) x (by omega)) (cwV 2 hts gX0_markUnit_X0_keepBits rfl rfl rfl (by decide +kernel) ⟨Nat.le_of_ble_eq_true rfl, Nat.le_of_ble_eq_true rfl⟩) (x_preV hS hE hK hP hD [0, 1, 2, 3] rfl (by decide) (va_free hD hS hA [0, 1, 2, 3] rfl) xR0 0 0 rfl rfl) rfl rfl hl.1 rfl (lv_room (Nat.le_of_ble_eq_true rfl)) dX0_markUnit_33 ⟨Nat.le_of_ble_eq_true rfl, Nat.le_of_ble_eq_true rfl⟩) hS hA hP hD [0, 1, 2, 3] [] rfl rfl (by decide) (by decide) (fun u_8 H locs hu_8 hP hD hS => ?_)
      subst hu_8
      have hP := hP.sub (ws' := mW a1 a2 a3 a4 cI (va_up (andFn k.1 (i0 * 256 + j0 * 8) (fun _ => Int32.toInt8 x) i) ((i0 * 256 + j0 * 8) + i) ((andFn k.1 (i0 * 256 + j0 * 8) (fun _ => Int32.toInt8 x) i) ((i0 * 256 + j0 * 8) + i) &&& Int32.toInt8 x), kr_5) ut) [0, 1, 2, 3] rfl
      have hD := hD.sub (ws' := mW a1 a2 a3 a4 cI (va_up (andFn k.1 (i0 * 256 + j0 * 8) (fun _ => Int32.toInt8 x) i) ((i0 * 256 + j0 * 8) + i) ((andFn k.1 (i0 * 256 + j0 * 8) (fun _ => Int32.toInt8 x) i) ((i0 * 256 + j0 * 8) + i) &&& Int32.toInt8 x), kr_5) ut) [0, 1, 2, 3] (by decide) rfl
      refine lv_iinc (pc := 36) (v := nI (i + 1)) (lv' := [(5, .int (nI (i + 1))), (4, .int (nI (i0 * 256 + j0 * 8))), (0, .ref a1), (1, .int (nI i0)), (2, .int (nI j0)), (3, .int x)]) hx hb dX0_markUnit_36 hl (k := 0) rfl (nI_inc i 1) (by decide) rfl (fun ls hl => ?_)
      refine lv_goto (pc := 39) (tgt := 19) hx hb dX0_markUnit_39 (by decide) ?_
      rw [andFn_step] at hP hD
      exact ih19 (i + 1) H locs ls (by omega) (by first | omega | (simp only []; omega)) hP hD hS (lv_sub hl [0, 1, 2, 3, 4, 5] rfl)
  · skip
    have c2 : b_3 = false := bI_0.mp c2
    refine lv_iconst (pc := 7) (v := nI 0) hx hb dX0_markUnit_7 (by decide) ?_
    exact W.zret (v := nI 0) hx hb hr rfl (fun t ht hW => ⟨⟨nI 0, (k.1, kr_5), rfl, ⟨by rw [markL, kActs_one]; show _ = bI (kBegin k).2; rw [← eb_3, c2]; rfl, by rw [markL, kActs_one]; show _ = (if (kBegin k).2 = true then andFn k.1 (i0 * 256 + j0 * 8) (fun _ => Int32.toInt8 x) 8 else k.1, (kBegin k).1.2); rw [← eb_3, c2, hkr]; rfl⟩, by show va_P _ _ _ t.heap; rw [ht]; exact hP, va_K.moved hW.alike hK, hD⟩, hS.F ht⟩) hS.2.2 dX0_markUnit_8
end
section
set_option maxHeartbeats 4000000 in
set_option maxRecDepth 100000 in
theorem kX0_markIn (l : Launch) (dC : Nat → ClassId) (dI : Nat → Nat → Nat) (tt : Nat → Nat) (cI cB : ClassId) (sz : Nat) (a1 a2 a3 a4 : Nat) (k : K0) (ut : Nat → Int32) (i0 j0 : Nat) (hp : i0 * 256 + j0 * 8 + 8 ≤ 2816) : MetR l yX0_markIn wsX0_markIn { frames := 1, cells := 0, slots := 0, locals := 21 } (dC, dI) [(cI, .int), (cB, .byte)] tt [] sz (mW a1 a2 a3 a4 cI k ut) [.ref a1, .int (nI i0), .int (nI j0)] (fun r => r = nI (setN k.1 (i0 * 256 + j0 * 8))) := by
  refine Met.ofW (cc := cX0_markIn) (maxL := 6) (ret := (some .int)) (by decide) rfl ?_
  intro p e s m args below meth c s₁ B hml hv
  obtain ⟨rfl, hsz, hP, hK, hD0, hE⟩ := hv
  have hx := B.exec
  have hb := B.bytes
  have hr := B.returns
  have hts := atoms_spec (ws := wsX0_markIn) B.pre
  have hown : s.vm.findClass RX0 = some m.cls := findClass_of_methodNamed B.named
  have hlocks := B.notSynchronized
  subst hsz
  have hD := hD0
  generalize hAe : va_A [] s.heap.size = A at hE ⊢
  have hA : ∀ q : Nat, s.heap.size ≤ q → A q := fun q h => by rw [← hAe]; exact Or.inr h
  have hS : va_S A s.heap s.heap [] := va_S.rf
  have hl := lv_entry ([.ref a1, .int (nI i0), .int (nI j0)]) (n := 6) (Nat.le_of_ble_eq_true rfl)
  rw [lg_entry_eq]
  generalize (lg_sl ([.ref a1, .int (nI i0), .int (nI j0)]) ++ List.replicate (6 - (lg_sl ([.ref a1, .int (nI i0), .int (nI j0)])).length) Slot.unset).toArray = ls at hl ⊢
  have hl : lv_has ls 6 [(0, .ref a1), (1, .int (nI i0)), (2, .int (nI j0))] := hl
  have hP : va_P (dC, dI) vwCl (mW a1 a2 a3 a4 cI k ut) s.heap := hP
  refine lv_iload_n (pc := 0) hx hb dX0_markIn_0 rfl (lv_at hl 1 rfl) ?_
  refine lv_iload_n (pc := 1) hx hb dX0_markIn_1 rfl (lv_at hl 2 rfl) ?_
  refine x_roi (pc := 2) (va_runS (As := [.int (nI i0), .int (nI j0)]) (rest := []) ⟨hx, hb, hml, hown, hts⟩ (kX0_unitAt l dC dI tt cI cB _ i0 j0) (va_cwS 2 hts gX0_markIn_X0_unitAt rfl rfl rfl (by decide +kernel) ⟨Nat.le_of_ble_eq_true rfl, Nat.le_of_ble_eq_true rfl⟩) (x_preS hS hE hK hP hD [] rfl (by decide) (x_ro hS hA) xR0) rfl rfl hl.1 rfl (lv_room (Nat.le_of_ble_eq_true rfl)) dX0_markIn_2 ⟨Nat.le_of_ble_eq_true rfl, Nat.le_of_ble_eq_true rfl⟩) hS hA hP (fun r_1 H locs hr_1 hP hS => ?_)
  subst hr_1
  refine lv_istore_n (pc := 5) (lv' := [(3, .int (nI (i0 * 256 + j0 * 8))), (0, .ref a1), (1, .int (nI i0)), (2, .int (nI j0))]) hx hb dX0_markIn_5 rfl hl (by decide) rfl (fun ls hl => ?_)
  refine lv_aload_n (pc := 6) hx hb dX0_markIn_6 rfl (lv_at hl 1 rfl) ?_
  refine lv_iload_n (pc := 7) hx hb dX0_markIn_7 rfl (lv_at hl 0 rfl) ?_
  refine x_roi (pc := 8) (va_runV (As := [.int (nI (i0 * 256 + j0 * 8))]) (rest := []) ⟨hx, hb, hml, hown, hts⟩ (kX0_byteAt l dC dI tt cI cB _ a1 a2 a3 a4 k ut (i0 * 256 + j0 * 8) (by omega)) (cwV 1 hts gX0_markIn_X0_byteAt rfl rfl rfl (by decide +kernel) ⟨Nat.le_of_ble_eq_true rfl, Nat.le_of_ble_eq_true rfl⟩) (x_preV hS hE hK hP hD [0, 1, 2, 3] rfl (by decide) (x_ro hS hA) xR0 0 0 rfl rfl) rfl rfl hl.1 rfl (lv_room (Nat.le_of_ble_eq_true rfl)) dX0_markIn_8 ⟨Nat.le_of_ble_eq_true rfl, Nat.le_of_ble_eq_true rfl⟩) hS hA hP (fun r_2 H locs hr_2 hP hS => ?_)
  subst hr_2
  refine lv_cv (ub_b8 _) ?_
  have hb_3 := b8_lt (k.1 (i0 * 256 + j0 * 8))
  refine lv_istore (pc := 11) (lv' := [(4, .int (nI (b8 (k.1 (i0 * 256 + j0 * 8))))), (3, .int (nI (i0 * 256 + j0 * 8))), (0, .ref a1), (1, .int (nI i0)), (2, .int (nI j0))]) hx hb dX0_markIn_11 hl (by decide) rfl (fun ls hl => ?_)
  refine lv_iload (pc := 13) hx hb dX0_markIn_13 (lv_at hl 0 rfl) ?_
  refine lv_iconst (pc := 15) (v := nI 1) hx hb dX0_markIn_15 (by decide) ?_
  refine lv_icmp_lt (pc := 16) (tgt := 25) hx hb dX0_markIn_16 (by decide) (fun c1 => ?_) (fun c1 => ?_)
  · skip
    have c1 : (b8 (k.1 (i0 * 256 + j0 * 8))) < 1 := (nI_ltI (a := (b8 (k.1 (i0 * 256 + j0 * 8)))) (b := 1) (by omega) (by omega)).mp c1
    refine lv_iconst (pc := 25) (v := nI 0) hx hb dX0_markIn_25 (by decide) ?_
    exact W.iret (v := nI 0) hx hb hr (fun t ht hW => ⟨⟨nI 0, (), rfl, by rw [setN, if_neg (by omega)], trivial⟩, hS.F ht⟩) hS.2.2 dX0_markIn_26
  · skip
    have c1 : ¬ (b8 (k.1 (i0 * 256 + j0 * 8))) < 1 := fun z => c1 ((nI_ltI (a := (b8 (k.1 (i0 * 256 + j0 * 8)))) (b := 1) (by omega) (by omega)).mpr z)
    refine lv_iload (pc := 19) hx hb dX0_markIn_19 (lv_at hl 0 rfl) ?_
    refine lv_iconst (pc := 21) (v := nI 3) hx hb dX0_markIn_21 (by decide) ?_
    refine lv_icmp_le (pc := 22) (tgt := 27) hx hb dX0_markIn_22 (by decide) (fun c2 => ?_) (fun c2 => ?_)
    · skip
      have c2 : (b8 (k.1 (i0 * 256 + j0 * 8))) ≤ 3 := (nI_leI (a := (b8 (k.1 (i0 * 256 + j0 * 8)))) (b := 3) (by omega) (by omega)).mp c2
      refine lv_iconst (pc := 27) (v := nI 1) hx hb dX0_markIn_27 (by decide) ?_
      refine lv_istore (pc := 28) (lv' := [(5, .int (nI 1)), (4, .int (nI (b8 (k.1 (i0 * 256 + j0 * 8))))), (3, .int (nI (i0 * 256 + j0 * 8))), (0, .ref a1), (1, .int (nI i0)), (2, .int (nI j0))]) hx hb dX0_markIn_28 hl (by decide) rfl (fun ls hl => ?_)
      refine x_loop (σ := (Nat)) (Wd := fun i : (Nat) => mW a1 a2 a3 a4 cI k ut) (Lv := fun i : (Nat) => [(5, .int (nI i)), (4, .int (nI (b8 (k.1 (i0 * 256 + j0 * 8))))), (3, .int (nI (i0 * 256 + j0 * 8))), (0, .ref a1), (1, .int (nI i0)), (2, .int (nI j0))]) (I := fun i : (Nat) => (1 ≤ i) ∧ (i ≤ 8) ∧ (eqTo (fun z => k.1 (i0 * 256 + j0 * 8 + z)) (fun _ => k.1 (i0 * 256 + j0 * 8)) i = true)) (μ := fun i : (Nat) => 8 - i) ?_ (1) ⟨by omega, by omega, by rw [show (1 : Nat) = 0 + 1 from rfl, eqTo_s, eqTo_0]; simp⟩ hP hD hS (lv_sub hl [0, 1, 2, 3, 4, 5] rfl)
      intro i H locs ls hI hP hD hS hl ih30
      obtain ⟨hi1, hi8, hq⟩ : (1 ≤ i) ∧ (i ≤ 8) ∧ (eqTo (fun z => k.1 (i0 * 256 + j0 * 8 + z)) (fun _ => k.1 (i0 * 256 + j0 * 8)) i = true) := hI
      have hP : va_P (dC, dI) vwCl (mW a1 a2 a3 a4 cI k ut) _ := hP
      have hD : va_D (fun _ => True) (mW a1 a2 a3 a4 cI k ut) := hD
      have hl : lv_has ls 6 [(5, .int (nI i)), (4, .int (nI (b8 (k.1 (i0 * 256 + j0 * 8))))), (3, .int (nI (i0 * 256 + j0 * 8))), (0, .ref a1), (1, .int (nI i0)), (2, .int (nI j0))] := hl
      refine lv_iload (pc := 30) hx hb dX0_markIn_30 (lv_at hl 0 rfl) ?_
      refine lv_bipush (pc := 32) (v := nI 8) hx hb dX0_markIn_32 (by decide) ?_
      refine lv_icmp_ge (pc := 34) (tgt := 58) hx hb dX0_markIn_34 (by decide) (fun c_4 => ?_) (fun c_4 => ?_)
      · skip
        have c_4 : 8 ≤ i := (nI_leI (a := 8) (b := i) (by omega) (by omega)).mp c_4
        refine lv_iload (pc := 58) hx hb dX0_markIn_58 (lv_at hl 1 rfl) ?_
        have hi9 : i = 8 := by omega
        subst hi9
        exact W.iret (v := nI (b8 (k.1 (i0 * 256 + j0 * 8)))) hx hb hr (fun t ht hW => ⟨⟨nI (b8 (k.1 (i0 * 256 + j0 * 8))), (), rfl, by rw [setN, if_pos ⟨by omega, by omega, hq⟩], trivial⟩, hS.F ht⟩) hS.2.2 dX0_markIn_60
      · skip
        have c_4 : ¬ 8 ≤ i := fun z => c_4 ((nI_leI (a := 8) (b := i) (by omega) (by omega)).mpr z)
        refine lv_aload_n (pc := 37) hx hb dX0_markIn_37 rfl (lv_at hl 3 rfl) ?_
        refine lv_iload_n (pc := 38) hx hb dX0_markIn_38 rfl (lv_at hl 2 rfl) ?_
        refine lv_iload (pc := 39) hx hb dX0_markIn_39 (lv_at hl 0 rfl) ?_
        refine lv_iadd (pc := 41) hx hb dX0_markIn_41 ?_
        refine lv_cv (nI_add (i0 * 256 + j0 * 8) i) ?_
        refine x_roi (pc := 42) (va_runV (As := [.int (nI ((i0 * 256 + j0 * 8) + i))]) (rest := []) ⟨hx, hb, hml, hown, hts⟩ (kX0_byteAt l dC dI tt cI cB _ a1 a2 a3 a4 k ut ((i0 * 256 + j0 * 8) + i) (by omega)) (cwV 1 hts gX0_markIn_X0_byteAt rfl rfl rfl (by decide +kernel) ⟨Nat.le_of_ble_eq_true rfl, Nat.le_of_ble_eq_true rfl⟩) (x_preV hS hE hK hP hD [0, 1, 2, 3] rfl (by decide) (x_ro hS hA) xR0 0 0 rfl rfl) rfl rfl hl.1 rfl (lv_room (Nat.le_of_ble_eq_true rfl)) dX0_markIn_42 ⟨Nat.le_of_ble_eq_true rfl, Nat.le_of_ble_eq_true rfl⟩) hS hA hP (fun r_5 H locs hr_5 hP hS => ?_)
        subst hr_5
        refine lv_cv (ub_b8 _) ?_
        have hb_6 := b8_lt (k.1 ((i0 * 256 + j0 * 8) + i))
        refine lv_iload (pc := 45) hx hb dX0_markIn_45 (lv_at hl 1 rfl) ?_
        refine lv_icmp_eq (pc := 47) (tgt := 52) hx hb dX0_markIn_47 (by decide) (fun c5 => ?_) (fun c5 => ?_)
        · skip
          have c5 : (b8 (k.1 ((i0 * 256 + j0 * 8) + i))) = (b8 (k.1 (i0 * 256 + j0 * 8))) := (nI_eq (a := (b8 (k.1 ((i0 * 256 + j0 * 8) + i)))) (b := (b8 (k.1 (i0 * 256 + j0 * 8)))) (by omega) (by omega)).mp c5
          refine lv_iinc (pc := 52) (v := nI (i + 1)) (lv' := [(5, .int (nI (i + 1))), (4, .int (nI (b8 (k.1 (i0 * 256 + j0 * 8))))), (3, .int (nI (i0 * 256 + j0 * 8))), (0, .ref a1), (1, .int (nI i0)), (2, .int (nI j0))]) hx hb dX0_markIn_52 hl (k := 0) rfl (nI_inc i 1) (by decide) rfl (fun ls hl => ?_)
          refine lv_goto (pc := 55) (tgt := 30) hx hb dX0_markIn_55 (by decide) ?_
          exact ih30 (i + 1) H locs ls ⟨by omega, by omega, by rw [eqTo_s, hq, b8_inj.mp c5]; simp⟩ (by first | omega | (simp only []; omega)) hP hD hS (lv_sub hl [0, 1, 2, 3, 4, 5] rfl)
        · skip
          have c5 : ¬ (b8 (k.1 ((i0 * 256 + j0 * 8) + i))) = (b8 (k.1 (i0 * 256 + j0 * 8))) := fun z => c5 ((nI_eq (a := (b8 (k.1 ((i0 * 256 + j0 * 8) + i)))) (b := (b8 (k.1 (i0 * 256 + j0 * 8)))) (by omega) (by omega)).mpr z)
          refine lv_iconst (pc := 50) (v := nI 0) hx hb dX0_markIn_50 (by decide) ?_
          exact W.iret (v := nI 0) hx hb hr (fun t ht hW => ⟨⟨nI 0, (), rfl, by rw [setN, if_neg (fun z => absurd z.2.2 (by rw [eqTo_f (i := i) (by omega) (fun y => c5 (b8_inj.mpr y))]; decide))], trivial⟩, hS.F ht⟩) hS.2.2 dX0_markIn_51
    · skip
      have c2 : ¬ (b8 (k.1 (i0 * 256 + j0 * 8))) ≤ 3 := fun z => c2 ((nI_leI (a := (b8 (k.1 (i0 * 256 + j0 * 8)))) (b := 3) (by omega) (by omega)).mpr z)
      refine lv_iconst (pc := 25) (v := nI 0) hx hb dX0_markIn_25 (by decide) ?_
      exact W.iret (v := nI 0) hx hb hr (fun t ht hW => ⟨⟨nI 0, (), rfl, by rw [setN, if_neg (by omega)], trivial⟩, hS.F ht⟩) hS.2.2 dX0_markIn_26
set_option maxHeartbeats 4000000 in
set_option maxRecDepth 100000 in
theorem kX0_hasMagic (l : Launch) (dC : Nat → ClassId) (dI : Nat → Nat → Nat) (tt : Nat → Nat) (cI cB : ClassId) (sz : Nat) (a1 a2 a3 a4 : Nat) (k : K0) (ut : Nat → Int32) (i0 : Nat) (hp : i0 * 256 + 8 ≤ 2816) : MetR l yX0_hasMagic wsX0_hasMagic { frames := 1, cells := 0, slots := 0, locals := 21 } (dC, dI) [(cI, .int), (cB, .byte)] tt [] sz (mW a1 a2 a3 a4 cI k ut) [.ref a1, .int (nI i0)] (fun r => r = bI (magB k.1 (i0 * 256))) := by
  refine Met.ofW (cc := cX0_hasMagic) (maxL := 4) (ret := (some .boolean)) (by decide) rfl ?_
  intro p e s m args below meth c s₁ B hml hv
  obtain ⟨rfl, hsz, hP, hK, hD0, hE⟩ := hv
  have hx := B.exec
  have hb := B.bytes
  have hr := B.returns
  have hts := atoms_spec (ws := wsX0_hasMagic) B.pre
  have hown : s.vm.findClass RX0 = some m.cls := findClass_of_methodNamed B.named
  have hlocks := B.notSynchronized
  subst hsz
  have hD := hD0
  generalize hAe : va_A [] s.heap.size = A at hE ⊢
  have hA : ∀ q : Nat, s.heap.size ≤ q → A q := fun q h => by rw [← hAe]; exact Or.inr h
  have hS : va_S A s.heap s.heap [] := va_S.rf
  have hl := lv_entry ([.ref a1, .int (nI i0)]) (n := 4) (Nat.le_of_ble_eq_true rfl)
  rw [lg_entry_eq]
  generalize (lg_sl ([.ref a1, .int (nI i0)]) ++ List.replicate (4 - (lg_sl ([.ref a1, .int (nI i0)])).length) Slot.unset).toArray = ls at hl ⊢
  have hl : lv_has ls 4 [(0, .ref a1), (1, .int (nI i0))] := hl
  have hP : va_P (dC, dI) vwCl (mW a1 a2 a3 a4 cI k ut) s.heap := hP
  refine lv_iload_n (pc := 0) hx hb dX0_hasMagic_0 rfl (lv_at hl 1 rfl) ?_
  refine lv_iconst (pc := 1) (v := nI 0) hx hb dX0_hasMagic_1 (by decide) ?_
  refine x_roi (pc := 2) (va_runS (As := [.int (nI i0), .int (nI 0)]) (rest := []) ⟨hx, hb, hml, hown, hts⟩ (kX0_unitAt l dC dI tt cI cB _ i0 0) (va_cwS 2 hts gX0_hasMagic_X0_unitAt rfl rfl rfl (by decide +kernel) ⟨Nat.le_of_ble_eq_true rfl, Nat.le_of_ble_eq_true rfl⟩) (x_preS hS hE hK hP hD [] rfl (by decide) (x_ro hS hA) xR0) rfl rfl hl.1 rfl (lv_room (Nat.le_of_ble_eq_true rfl)) dX0_hasMagic_2 ⟨Nat.le_of_ble_eq_true rfl, Nat.le_of_ble_eq_true rfl⟩) hS hA hP (fun r_1 H locs hr_1 hP hS => ?_)
  subst hr_1
  refine lv_istore_n (pc := 5) (lv' := [(2, .int (nI (i0 * 256 + 0 * 8))), (0, .ref a1), (1, .int (nI i0))]) hx hb dX0_hasMagic_5 rfl hl (by decide) rfl (fun ls hl => ?_)
  refine lv_iconst (pc := 6) (v := nI 0) hx hb dX0_hasMagic_6 (by decide) ?_
  refine lv_istore_n (pc := 7) (lv' := [(3, .int (nI 0)), (2, .int (nI (i0 * 256 + 0 * 8))), (0, .ref a1), (1, .int (nI i0))]) hx hb dX0_hasMagic_7 rfl hl (by decide) rfl (fun ls hl => ?_)
  refine x_loop (σ := (Nat)) (Wd := fun i : (Nat) => mW a1 a2 a3 a4 cI k ut) (Lv := fun i : (Nat) => [(3, .int (nI i)), (2, .int (nI (i0 * 256 + 0 * 8))), (0, .ref a1), (1, .int (nI i0))]) (I := fun i : (Nat) => (i ≤ 8) ∧ (eqTo (fun z => k.1 (i0 * 256 + 0 * 8 + z)) magG i = true)) (μ := fun i : (Nat) => 8 - i) ?_ (0) ⟨by omega, eqTo_0 _ _⟩ hP hD hS (lv_sub hl [0, 1, 2, 3] rfl)
  intro i H locs ls hI hP hD hS hl ih8
  obtain ⟨hi8, hq⟩ : (i ≤ 8) ∧ (eqTo (fun z => k.1 (i0 * 256 + 0 * 8 + z)) magG i = true) := hI
  have hP : va_P (dC, dI) vwCl (mW a1 a2 a3 a4 cI k ut) _ := hP
  have hD : va_D (fun _ => True) (mW a1 a2 a3 a4 cI k ut) := hD
  have hl : lv_has ls 4 [(3, .int (nI i)), (2, .int (nI (i0 * 256 + 0 * 8))), (0, .ref a1), (1, .int (nI i0))] := hl
  refine lv_iload_n (pc := 8) hx hb dX0_hasMagic_8 rfl (lv_at hl 0 rfl) ?_
  refine lv_bipush (pc := 9) (v := nI 8) hx hb dX0_hasMagic_9 (by decide) ?_
  refine lv_icmp_ge (pc := 11) (tgt := 37) hx hb dX0_hasMagic_11 (by decide) (fun c_2 => ?_) (fun c_2 => ?_)
  · skip
    have c_2 : 8 ≤ i := (nI_leI (a := 8) (b := i) (by omega) (by omega)).mp c_2
    refine lv_iconst (pc := 37) (v := nI 1) hx hb dX0_hasMagic_37 (by decide) ?_
    have hi9 : i = 8 := by omega
    subst hi9
    exact W.zret (v := nI 1) hx hb hr rfl (fun t ht hW => ⟨⟨nI 1, (), rfl, by rw [show magB k.1 (i0 * 256) = true from hq]; rfl, trivial⟩, hS.F ht⟩) hS.2.2 dX0_hasMagic_38
  · skip
    have c_2 : ¬ 8 ≤ i := fun z => c_2 ((nI_leI (a := 8) (b := i) (by omega) (by omega)).mpr z)
    refine lv_aload_n (pc := 14) hx hb dX0_hasMagic_14 rfl (lv_at hl 2 rfl) ?_
    refine lv_iload_n (pc := 15) hx hb dX0_hasMagic_15 rfl (lv_at hl 1 rfl) ?_
    refine lv_iload_n (pc := 16) hx hb dX0_hasMagic_16 rfl (lv_at hl 0 rfl) ?_
    refine lv_iadd (pc := 17) hx hb dX0_hasMagic_17 ?_
    refine lv_cv (nI_add (i0 * 256 + 0 * 8) i) ?_
    refine x_roi (pc := 18) (va_runV (As := [.int (nI ((i0 * 256 + 0 * 8) + i))]) (rest := []) ⟨hx, hb, hml, hown, hts⟩ (kX0_byteAt l dC dI tt cI cB _ a1 a2 a3 a4 k ut ((i0 * 256 + 0 * 8) + i) (by omega)) (cwV 1 hts gX0_hasMagic_X0_byteAt rfl rfl rfl (by decide +kernel) ⟨Nat.le_of_ble_eq_true rfl, Nat.le_of_ble_eq_true rfl⟩) (x_preV hS hE hK hP hD [0, 1, 2, 3] rfl (by decide) (x_ro hS hA) xR0 0 0 rfl rfl) rfl rfl hl.1 rfl (lv_room (Nat.le_of_ble_eq_true rfl)) dX0_hasMagic_18 ⟨Nat.le_of_ble_eq_true rfl, Nat.le_of_ble_eq_true rfl⟩) hS hA hP (fun r_3 H locs hr_3 hP hS => ?_)
    subst hr_3
    refine va_getsN (pc := 21) hx hb (hE.2.2.1).1 hS hown (hE.f 7 rfl) (fun _ h9 => h9) dX0_hasMagic_21 ?_
    refine lv_iload_n (pc := 24) hx hb dX0_hasMagic_24 rfl (lv_at hl 0 rfl) ?_
    refine x_ti (pc := 25) (k := i) hx hb (hE.2.2.1).2 hS (by omega) (by decide) dX0_hasMagic_25 ?_
    refine lv_icmp_eq (pc := 26) (tgt := 31) hx hb dX0_hasMagic_26 (by decide) (fun c5 => ?_) (fun c5 => ?_)
    · skip
      refine lv_iinc (pc := 31) (v := nI (i + 1)) (lv' := [(3, .int (nI (i + 1))), (2, .int (nI (i0 * 256 + 0 * 8))), (0, .ref a1), (1, .int (nI i0))]) hx hb dX0_hasMagic_31 hl (k := 0) rfl (nI_inc i 1) (by decide) rfl (fun ls hl => ?_)
      refine lv_goto (pc := 34) (tgt := 8) hx hb dX0_hasMagic_34 (by decide) ?_
      exact ih8 (i + 1) H locs ls ⟨by omega, by rw [eqTo_s, hq, Bool.true_and]; exact decide_eq_true (ub_inj.mp (by rw [← tbM_ub i (by omega)]; exact c5))⟩ (by first | omega | (simp only []; omega)) hP hD hS (lv_sub hl [0, 1, 2, 3] rfl)
    · skip
      refine lv_iconst (pc := 29) (v := nI 0) hx hb dX0_hasMagic_29 (by decide) ?_
      exact W.zret (v := nI 0) hx hb hr rfl (fun t ht hW => ⟨⟨nI 0, (), rfl, by rw [show magB k.1 (i0 * 256) = false from eqTo_f (i := i) (by omega) (fun y => c5 (by rw [tbM_ub i (by omega)]; exact ub_inj.mpr y))]; rfl, trivial⟩, hS.F ht⟩) hS.2.2 dX0_hasMagic_30
set_option maxHeartbeats 4000000 in
set_option maxRecDepth 100000 in
theorem kX0_writeRow (l : Launch) (dC : Nat → ClassId) (dI : Nat → Nat → Nat) (tt : Nat → Nat) (cI cB : ClassId) (sz : Nat) (a1 a2 a3 a4 : Nat) (k : K0) (ut : Nat → Int32) (t n : Nat) (G : Nat → Int8) (q len c9 : Nat) (hk : kOk k) (hlen : len ≤ n) (hn : n < 2 ^ 31) (hc : len ≤ 8 * c9) (hc2 : 8 * c9 < len + 8) (hq : q + 8 * c9 ≤ 2816) : MetI (S := (K0 × (Nat → Int32))) l yX0_writeRow wsX0_writeRow { frames := 2, cells := 0, slots := 0, locals := 52 } (dC, dI) [(cI, .int), (cB, .byte)] tt [(t, n, fun j => ub (G j))] sz (mW a1 a2 a3 a4 cI k ut) [.ref a1, .int (nI q), .ref t, .int (nI len)] (fun u : (K0 × (Nat → Int32)) => mW a1 a2 a3 a4 cI u.1 u.2) (fun r u => r = bI (kActs (rowL q G len c9 0) k).2 ∧ u.1 = (kActs (rowL q G len c9 0) k).1) := by
  refine Met.ofW (cc := cX0_writeRow) (maxL := 5) (ret := (some .boolean)) (by decide) rfl ?_
  intro p e s m args below meth c s₁ B hml hv
  obtain ⟨rfl, hsz, hP, hK, hD0, hE⟩ := hv
  have hx := B.exec
  have hb := B.bytes
  have hr := B.returns
  have hts := atoms_spec (ws := wsX0_writeRow) B.pre
  have hown : s.vm.findClass RX0 = some m.cls := findClass_of_methodNamed B.named
  have hlocks := B.notSynchronized
  subst hsz
  have hD := hD0.self (sz := s.heap.size)
  generalize hAe : va_A (mW a1 a2 a3 a4 cI k ut) s.heap.size = A at hD hE ⊢
  have hA : ∀ q : Nat, s.heap.size ≤ q → A q := fun q h => by rw [← hAe]; exact Or.inr h
  have hS : va_S A s.heap s.heap [] := va_S.rf
  have hl := lv_entry ([.ref a1, .int (nI q), .ref t, .int (nI len)]) (n := 5) (Nat.le_of_ble_eq_true rfl)
  rw [lg_entry_eq]
  generalize (lg_sl ([.ref a1, .int (nI q), .ref t, .int (nI len)]) ++ List.replicate (5 - (lg_sl ([.ref a1, .int (nI q), .ref t, .int (nI len)])).length) Slot.unset).toArray = ls at hl ⊢
  have hl : lv_has ls 5 [(0, .ref a1), (1, .int (nI q)), (2, .ref t), (3, .int (nI len))] := hl
  have hP : va_P (dC, dI) vwCl (mW a1 a2 a3 a4 cI k ut) s.heap := hP
  refine lv_iconst (pc := 0) (v := nI 0) hx hb dX0_writeRow_0 (by decide) ?_
  refine lv_istore (pc := 1) (lv' := [(4, .int (nI 0)), (0, .ref a1), (1, .int (nI q)), (2, .ref t), (3, .int (nI len))]) hx hb dX0_writeRow_1 hl (by decide) rfl (fun ls hl => ?_)
  refine x_loop (σ := (Nat) × (Nat) × (K0) × (Nat → Int32)) (Wd := fun x : (Nat) × (Nat) × (K0) × (Nat → Int32) => match x with | (d, fr, k1, ut1) => mW a1 a2 a3 a4 cI k1 ut1) (Lv := fun x : (Nat) × (Nat) × (K0) × (Nat → Int32) => match x with | (d, fr, k1, ut1) => [(4, .int (nI fr)), (0, .ref a1), (1, .int (nI q)), (2, .ref t), (3, .int (nI len))]) (I := fun x : (Nat) × (Nat) × (K0) × (Nat → Int32) => match x with | (d, fr, k1, ut1) => (kActs (rowL q G len c9 0) k = kActs (rowL q G len d fr) k1) ∧ (fr + 8 * d = 8 * c9) ∧ (kOk k1)) (μ := fun x : (Nat) × (Nat) × (K0) × (Nat → Int32) => match x with | (d, fr, k1, ut1) => d) ?_ (c9, 0, k, ut) ⟨rfl, by omega, hk⟩ hP hD hS (lv_sub hl [0, 1, 2, 3, 4] rfl)
  intro x H locs ls hI hP hD hS hl ih3
  obtain ⟨d, fr, k1, ut1⟩ := x
  obtain ⟨hT0, hd, hk1⟩ : (kActs (rowL q G len c9 0) k = kActs (rowL q G len d fr) k1) ∧ (fr + 8 * d = 8 * c9) ∧ (kOk k1) := hI
  have hP : va_P (dC, dI) vwCl (mW a1 a2 a3 a4 cI k1 ut1) _ := hP
  have hD : va_D A (mW a1 a2 a3 a4 cI k1 ut1) := hD
  have hl : lv_has ls 5 [(4, .int (nI fr)), (0, .ref a1), (1, .int (nI q)), (2, .ref t), (3, .int (nI len))] := hl
  refine lv_iload (pc := 3) hx hb dX0_writeRow_3 (lv_at hl 0 rfl) ?_
  refine lv_iload_n (pc := 5) hx hb dX0_writeRow_5 rfl (lv_at hl 4 rfl) ?_
  refine lv_icmp_ge (pc := 6) (tgt := 32) hx hb dX0_writeRow_6 (by decide) (fun c1 => ?_) (fun c1 => ?_)
  · skip
    have c1 : len ≤ fr := (nI_leI (a := len) (b := fr) (by omega) (by omega)).mp c1
    refine lv_iconst (pc := 32) (v := nI 1) hx hb dX0_writeRow_32 (by decide) ?_
    have hd0 : d = 0 := by omega
    subst hd0
    exact W.zret (v := nI 1) hx hb hr rfl (fun t ht hW => ⟨⟨nI 1, (k1, ut1), rfl, ⟨by rw [hT0]; rfl, by rw [hT0]; rfl⟩, by show va_P _ _ _ t.heap; rw [ht]; exact hP, va_K.moved hW.alike hK, hD⟩, hS.F ht⟩) hS.2.2 dX0_writeRow_33
  · skip
    have c1 : ¬ len ≤ fr := fun z => c1 ((nI_leI (a := len) (b := fr) (by omega) (by omega)).mpr z)
    obtain ⟨d, rfl⟩ : ∃ z, d = z + 1 := ⟨d - 1, by omega⟩
    refine lv_aload_n (pc := 9) hx hb dX0_writeRow_9 rfl (lv_at hl 1 rfl) ?_
    refine lv_iload_n (pc := 10) hx hb dX0_writeRow_10 rfl (lv_at hl 2 rfl) ?_
    refine lv_iload (pc := 11) hx hb dX0_writeRow_11 (lv_at hl 0 rfl) ?_
    refine lv_iadd (pc := 13) hx hb dX0_writeRow_13 ?_
    refine lv_cv (nI_add q fr) ?_
    refine lv_aload_n (pc := 14) hx hb dX0_writeRow_14 rfl (lv_at hl 3 rfl) ?_
    refine lv_iload (pc := 15) hx hb dX0_writeRow_15 (lv_at hl 0 rfl) ?_
    refine lv_iload_n (pc := 17) hx hb dX0_writeRow_17 rfl (lv_at hl 4 rfl) ?_
    refine x_wri (pc := 18) (va_runV (As := [.int (nI (q + fr)), .ref t, .int (nI fr), .int (nI len)]) (rest := []) ⟨hx, hb, hml, hown, hts⟩ (kX0_writeUnitT l dC dI tt cI cB _ a1 a2 a3 a4 k1 ut1 t n G (q + fr) fr len hk1 hlen hn (by omega) (by omega)) (cwV 4 hts gX0_writeRow_X0_writeUnit rfl rfl rfl (by decide +kernel) ⟨Nat.le_of_ble_eq_true rfl, Nat.le_of_ble_eq_true rfl⟩) (x_preV hS hE hK hP hD [0, 1, 2, 3] rfl (by decide) (va_free hD hS hA [0, 1, 2, 3] rfl) (xRs hS hE (va_free hD hS hA [0, 1, 2, 3] rfl)) 0 0 rfl rfl) rfl rfl hl.1 rfl (lv_room (Nat.le_of_ble_eq_true rfl)) dX0_writeRow_18 ⟨Nat.le_of_ble_eq_true rfl, Nat.le_of_ble_eq_true rfl⟩) hS hA hP hD [0, 1, 2, 3] [] rfl rfl (by decide) (by decide) (fun r_2 u_1 H locs hu_1 hP hD hS => ?_)
    obtain ⟨k_4, t_5⟩ := u_1
    obtain ⟨hr_2, ek_4⟩ : r_2 = bI (kActs (unitL (q + fr) (unitG G fr len)) k1).2 ∧ k_4 = (kActs (unitL (q + fr) (unitG G fr len)) k1).1 := hu_1
    obtain ⟨b_3, eb_3⟩ : ∃ z, z = (kActs (unitL (q + fr) (unitG G fr len)) k1).2 := ⟨_, rfl⟩
    rw [← eb_3] at hr_2
    subst hr_2
    have hP := hP.sub (ws' := mW a1 a2 a3 a4 cI k_4 t_5) [0, 1, 2, 3] rfl
    have hD := hD.sub (ws' := mW a1 a2 a3 a4 cI k_4 t_5) [0, 1, 2, 3] (by decide) rfl
    refine lv_if_ne (pc := 21) (tgt := 26) hx hb dX0_writeRow_21 (by decide) (fun c2 => ?_) (fun c2 => ?_)
    · skip
      have c2 : b_3 = true := bI_1.mp c2
      refine lv_iinc (pc := 26) (v := nI (fr + 8)) (lv' := [(4, .int (nI (fr + 8))), (0, .ref a1), (1, .int (nI q)), (2, .ref t), (3, .int (nI len))]) hx hb dX0_writeRow_26 hl (k := 0) rfl (nI_inc fr 8) (by decide) rfl (fun ls hl => ?_)
      refine lv_goto (pc := 29) (tgt := 3) hx hb dX0_writeRow_29 (by decide) ?_
      exact ih3 (d, fr + 8, k_4, t_5) H locs ls ⟨by rw [hT0, rowL_s, kActs_app, ← eb_3, c2, if_pos rfl, ← ek_4], by omega, by rw [ek_4]; exact kActs_ok hk1 (by rw [← eb_3]; exact c2)⟩ (by first | omega | (simp only []; omega)) hP hD hS (lv_sub hl [0, 1, 2, 3, 4] rfl)
    · skip
      have c2 : b_3 = false := bI_0.mp c2
      refine lv_iconst (pc := 24) (v := nI 0) hx hb dX0_writeRow_24 (by decide) ?_
      exact W.zret (v := nI 0) hx hb hr rfl (fun t ht hW => ⟨⟨nI 0, (k_4, t_5), rfl, ⟨by rw [hT0, rowL_s, kActs_app, ← eb_3, c2, if_neg (by decide), ← eb_3, c2]; rfl, by rw [hT0, rowL_s, kActs_app, ← eb_3, c2, if_neg (by decide)]; exact ek_4⟩, by show va_P _ _ _ t.heap; rw [ht]; exact hP, va_K.moved hW.alike hK, hD⟩, hS.F ht⟩) hS.2.2 dX0_writeRow_25
set_option maxHeartbeats 4000000 in
set_option maxRecDepth 100000 in
theorem kX0_replaceSector (l : Launch) (dC : Nat → ClassId) (dI : Nat → Nat → Nat) (tt : Nat → Nat) (cI cB : ClassId) (sz : Nat) (a1 a2 a3 a4 : Nat) (k : K0) (ut : Nat → Int32) (dst src : Nat) (hk : kOk k) (hds : dst < 11) (hsr : src < 11) (hne : src ≠ dst) : MetI (S := (K0 × (Nat → Int32))) l yX0_replaceSector wsX0_replaceSector { frames := 2, cells := 0, slots := 0, locals := 52 } (dC, dI) [(cI, .int), (cB, .byte)] tt [] sz (mW a1 a2 a3 a4 cI k ut) [.ref a1, .int (nI dst), .int (nI src)] (fun u : (K0 × (Nat → Int32)) => mW a1 a2 a3 a4 cI u.1 u.2) (fun r u => r = bI (kActs (repL k.1 src dst) k).2 ∧ u.1 = (kActs (repL k.1 src dst) k).1) := by
  refine Met.ofW (cc := cX0_replaceSector) (maxL := 4) (ret := (some .boolean)) (by decide) rfl ?_
  intro p e s m args below meth c s₁ B hml hv
  obtain ⟨rfl, hsz, hP, hK, hD0, hE⟩ := hv
  have hx := B.exec
  have hb := B.bytes
  have hr := B.returns
  have hts := atoms_spec (ws := wsX0_replaceSector) B.pre
  have hown : s.vm.findClass RX0 = some m.cls := findClass_of_methodNamed B.named
  have hlocks := B.notSynchronized
  subst hsz
  have hD := hD0.self (sz := s.heap.size)
  generalize hAe : va_A (mW a1 a2 a3 a4 cI k ut) s.heap.size = A at hD hE ⊢
  have hA : ∀ q : Nat, s.heap.size ≤ q → A q := fun q h => by rw [← hAe]; exact Or.inr h
  have hS : va_S A s.heap s.heap [] := va_S.rf
  have hl := lv_entry ([.ref a1, .int (nI dst), .int (nI src)]) (n := 4) (Nat.le_of_ble_eq_true rfl)
  rw [lg_entry_eq]
  generalize (lg_sl ([.ref a1, .int (nI dst), .int (nI src)]) ++ List.replicate (4 - (lg_sl ([.ref a1, .int (nI dst), .int (nI src)])).length) Slot.unset).toArray = ls at hl ⊢
  have hl : lv_has ls 4 [(0, .ref a1), (1, .int (nI dst)), (2, .int (nI src))] := hl
  have hP : va_P (dC, dI) vwCl (mW a1 a2 a3 a4 cI k ut) s.heap := hP
  refine lv_aload_n (pc := 0) hx hb dX0_replaceSector_0 rfl (lv_at hl 0 rfl) ?_
  refine lv_iload_n (pc := 1) hx hb dX0_replaceSector_1 rfl (lv_at hl 1 rfl) ?_
  refine x_wri (pc := 2) (va_runV (As := [.int (nI dst)]) (rest := []) ⟨hx, hb, hml, hown, hts⟩ (kX0_eraseSector l dC dI tt cI cB _ a1 a2 a3 a4 k ut dst hds hk.1 hk.2.1 hk.2.2) (cwV 1 hts gX0_replaceSector_X0_eraseSector rfl rfl rfl (by decide +kernel) ⟨Nat.le_of_ble_eq_true rfl, Nat.le_of_ble_eq_true rfl⟩) (x_preV hS hE hK hP hD [0, 1, 2, 3] rfl (by decide) (va_free hD hS hA [0, 1, 2, 3] rfl) xR0 0 0 rfl rfl) rfl rfl hl.1 rfl (lv_room (Nat.le_of_ble_eq_true rfl)) dX0_replaceSector_2 ⟨Nat.le_of_ble_eq_true rfl, Nat.le_of_ble_eq_true rfl⟩) hS hA hP hD [0, 1, 2, 3] [] rfl rfl (by decide) (by decide) (fun r_2 u_1 H locs hu_1 hP hD hS => ?_)
  obtain ⟨hr_2, eu_1⟩ := hu_1
  obtain ⟨b_3, eb_3⟩ : ∃ z, z = (kErase dst k).2 := ⟨_, rfl⟩
  rw [← eb_3] at hr_2
  subst hr_2
  have hP := hP.sub (ws' := mW a1 a2 a3 a4 cI u_1 ut) [0, 1, 2, 3] rfl
  have hD := hD.sub (ws' := mW a1 a2 a3 a4 cI u_1 ut) [0, 1, 2, 3] (by decide) rfl
  refine lv_if_ne (pc := 5) (tgt := 10) hx hb dX0_replaceSector_5 (by decide) (fun c0 => ?_) (fun c0 => ?_)
  · skip
    have c0 : b_3 = true := bI_1.mp c0
    refine lv_iconst (pc := 10) (v := nI 0) hx hb dX0_replaceSector_10 (by decide) ?_
    refine lv_istore_n (pc := 11) (lv' := [(3, .int (nI 0)), (0, .ref a1), (1, .int (nI dst)), (2, .int (nI src))]) hx hb dX0_replaceSector_11 rfl hl (by decide) rfl (fun ls hl => ?_)
    refine x_loop (σ := (Nat) × (Nat) × (K0) × (Nat → Int32)) (Wd := fun x : (Nat) × (Nat) × (K0) × (Nat → Int32) => match x with | (d, v, k1, ut1) => mW a1 a2 a3 a4 cI k1 ut1) (Lv := fun x : (Nat) × (Nat) × (K0) × (Nat → Int32) => match x with | (d, v, k1, ut1) => [(3, .int (nI v)), (0, .ref a1), (1, .int (nI dst)), (2, .int (nI src))]) (I := fun x : (Nat) × (Nat) × (K0) × (Nat → Int32) => match x with | (d, v, k1, ut1) => (kActs (repL k.1 src dst) k = kActs (copyL k.1 src dst d v) k1) ∧ (v + d = 32) ∧ (kOk k1) ∧ (∀ j, src * 256 ≤ j → j < src * 256 + 256 → k1.1 j = k.1 j)) (μ := fun x : (Nat) × (Nat) × (K0) × (Nat → Int32) => match x with | (d, v, k1, ut1) => d) ?_ (32, 0, u_1, ut) ⟨by rw [repL, kActs_cons]; show (if (kErase dst k).2 = true then _ else _) = _; rw [← eb_3, c0, if_pos rfl]; show kActs _ (kErase dst k).1 = _; rw [← eu_1], rfl, by rw [eu_1]; exact kAct_ok (x := .inl dst) hk (show (kErase dst k).2 = true by rw [← eb_3]; exact c0), fun j h1 h2 => by rw [eu_1]; show fillF k.1 (dst * 256) _ j = _; unfold fillF; rw [if_neg]; show ¬ (dst * 256 ≤ j ∧ j < dst * 256 + (if (kBegin k).2 = true then 32 else k.2.2.2.2.2.1) * 8); rw [if_pos (show (kBegin k).2 = true from (eb_3.symm.trans c0))]; omega⟩ hP hD hS (lv_sub hl [0, 1, 2, 3] rfl)
    intro x H locs ls hI hP hD hS hl ih12
    obtain ⟨d, v, k1, ut1⟩ := x
    obtain ⟨hT0, hd, hk1, hag⟩ : (kActs (repL k.1 src dst) k = kActs (copyL k.1 src dst d v) k1) ∧ (v + d = 32) ∧ (kOk k1) ∧ (∀ j, src * 256 ≤ j → j < src * 256 + 256 → k1.1 j = k.1 j) := hI
    have hP : va_P (dC, dI) vwCl (mW a1 a2 a3 a4 cI k1 ut1) _ := hP
    have hD : va_D A (mW a1 a2 a3 a4 cI k1 ut1) := hD
    have hl : lv_has ls 4 [(3, .int (nI v)), (0, .ref a1), (1, .int (nI dst)), (2, .int (nI src))] := hl
    refine lv_iload_n (pc := 12) hx hb dX0_replaceSector_12 rfl (lv_at hl 0 rfl) ?_
    refine lv_bipush (pc := 13) (v := nI 32) hx hb dX0_replaceSector_13 (by decide) ?_
    refine lv_icmp_ge (pc := 15) (tgt := 50) hx hb dX0_replaceSector_15 (by decide) (fun c1 => ?_) (fun c1 => ?_)
    · skip
      have c1 : 32 ≤ v := (nI_leI (a := 32) (b := v) (by omega) (by omega)).mp c1
      refine lv_iconst (pc := 50) (v := nI 1) hx hb dX0_replaceSector_50 (by decide) ?_
      have hd0 : d = 0 := by omega
      subst hd0
      exact W.zret (v := nI 1) hx hb hr rfl (fun t ht hW => ⟨⟨nI 1, (k1, ut1), rfl, ⟨by rw [hT0]; rfl, by rw [hT0]; rfl⟩, by show va_P _ _ _ t.heap; rw [ht]; exact hP, va_K.moved hW.alike hK, hD⟩, hS.F ht⟩) hS.2.2 dX0_replaceSector_51
    · skip
      have c1 : ¬ 32 ≤ v := fun z => c1 ((nI_leI (a := 32) (b := v) (by omega) (by omega)).mpr z)
      obtain ⟨d, rfl⟩ : ∃ z, d = z + 1 := ⟨d - 1, by omega⟩
      have hG9 : unitG k1.1 (src * 256 + v * 8) 2816 = unitG k.1 (src * 256 + v * 8) 2816 := unitG_c (fun i h1 h2 => hag _ (by omega) (by omega))
      refine lv_aload_n (pc := 18) hx hb dX0_replaceSector_18 rfl (lv_at hl 1 rfl) ?_
      refine lv_iload_n (pc := 19) hx hb dX0_replaceSector_19 rfl (lv_at hl 2 rfl) ?_
      refine lv_iload_n (pc := 20) hx hb dX0_replaceSector_20 rfl (lv_at hl 0 rfl) ?_
      refine x_roi (pc := 21) (va_runS (As := [.int (nI dst), .int (nI v)]) (rest := [.ref a1]) ⟨hx, hb, hml, hown, hts⟩ (kX0_unitAt l dC dI tt cI cB _ dst v) (va_cwS 2 hts gX0_replaceSector_X0_unitAt rfl rfl rfl (by decide +kernel) ⟨Nat.le_of_ble_eq_true rfl, Nat.le_of_ble_eq_true rfl⟩) (x_preS hS hE hK hP hD [] rfl (by decide) (x_ro hS hA) xR0) rfl rfl hl.1 rfl (lv_room (Nat.le_of_ble_eq_true rfl)) dX0_replaceSector_21 ⟨Nat.le_of_ble_eq_true rfl, Nat.le_of_ble_eq_true rfl⟩) hS hA hP (fun r_4 H locs hr_4 hP hS => ?_)
      subst hr_4
      refine lv_aload_n (pc := 24) hx hb dX0_replaceSector_24 rfl (lv_at hl 1 rfl) ?_
      refine va_get (pc := 25) (D := (dC, dI)) (ci := 0) (v := .ref a2) (C := RX0) (T := TX0) (N := 9) hx hb hts (by decide +kernel) hown hK hP 0 rfl rfl 0 (by decide) (hts (.fieldLink RX0 9 "ScratchSwap$Memory" "bytes" "[I") (by decide +kernel)) (fun _ h9 => h9) rfl dX0_replaceSector_25 ?_
      refine lv_iload_n (pc := 28) hx hb dX0_replaceSector_28 rfl (lv_at hl 3 rfl) ?_
      refine lv_iload_n (pc := 29) hx hb dX0_replaceSector_29 rfl (lv_at hl 0 rfl) ?_
      refine x_roi (pc := 30) (va_runS (As := [.int (nI src), .int (nI v)]) (rest := [.ref a2, .int (nI (dst * 256 + v * 8)), .ref a1]) ⟨hx, hb, hml, hown, hts⟩ (kX0_unitAt l dC dI tt cI cB _ src v) (va_cwS 2 hts gX0_replaceSector_X0_unitAt rfl rfl rfl (by decide +kernel) ⟨Nat.le_of_ble_eq_true rfl, Nat.le_of_ble_eq_true rfl⟩) (x_preS hS hE hK hP hD [] rfl (by decide) (x_ro hS hA) xR0) rfl rfl hl.1 rfl (lv_room (Nat.le_of_ble_eq_true rfl)) dX0_replaceSector_30 ⟨Nat.le_of_ble_eq_true rfl, Nat.le_of_ble_eq_true rfl⟩) hS hA hP (fun r_5 H locs hr_5 hP hS => ?_)
      subst hr_5
      refine lv_sipush (pc := 33) (v := nI 2816) hx hb dX0_replaceSector_33 (by decide) ?_
      refine x_wri (pc := 36) (va_runV (As := [.int (nI (dst * 256 + v * 8)), .ref a2, .int (nI (src * 256 + v * 8)), .int (nI 2816)]) (rest := []) ⟨hx, hb, hml, hown, hts⟩ (kX0_writeUnitA l dC dI tt cI cB _ a1 a2 a3 a4 k1 ut1 (dst * 256 + v * 8) (src * 256 + v * 8) 2816 hk1 (by omega) (by omega) (by omega)) (cwV 4 hts gX0_replaceSector_X0_writeUnit rfl rfl rfl (by decide +kernel) ⟨Nat.le_of_ble_eq_true rfl, Nat.le_of_ble_eq_true rfl⟩) (x_preV hS hE hK hP hD [0, 1, 2, 3] rfl (by decide) (va_free hD hS hA [0, 1, 2, 3] rfl) xR0 0 0 rfl rfl) rfl rfl hl.1 rfl (lv_room (Nat.le_of_ble_eq_true rfl)) dX0_replaceSector_36 ⟨Nat.le_of_ble_eq_true rfl, Nat.le_of_ble_eq_true rfl⟩) hS hA hP hD [0, 1, 2, 3] [] rfl rfl (by decide) (by decide) (fun r_7 u_6 H locs hu_6 hP hD hS => ?_)
      obtain ⟨k_9, t_10⟩ := u_6
      obtain ⟨hr_7, ek_9⟩ : r_7 = bI (kActs (unitL (dst * 256 + v * 8) (unitG k1.1 (src * 256 + v * 8) 2816)) k1).2 ∧ k_9 = (kActs (unitL (dst * 256 + v * 8) (unitG k1.1 (src * 256 + v * 8) 2816)) k1).1 := hu_6
      obtain ⟨b_8, eb_8⟩ : ∃ z, z = (kActs (unitL (dst * 256 + v * 8) (unitG k1.1 (src * 256 + v * 8) 2816)) k1).2 := ⟨_, rfl⟩
      rw [← eb_8] at hr_7
      subst hr_7
      have hP := hP.sub (ws' := mW a1 a2 a3 a4 cI k_9 t_10) [0, 1, 2, 3] rfl
      have hD := hD.sub (ws' := mW a1 a2 a3 a4 cI k_9 t_10) [0, 1, 2, 3] (by decide) rfl
      refine lv_if_ne (pc := 39) (tgt := 44) hx hb dX0_replaceSector_39 (by decide) (fun c2 => ?_) (fun c2 => ?_)
      · skip
        have c2 : b_8 = true := bI_1.mp c2
        refine lv_iinc (pc := 44) (v := nI (v + 1)) (lv' := [(3, .int (nI (v + 1))), (0, .ref a1), (1, .int (nI dst)), (2, .int (nI src))]) hx hb dX0_replaceSector_44 hl (k := 0) rfl (nI_inc v 1) (by decide) rfl (fun ls hl => ?_)
        refine lv_goto (pc := 47) (tgt := 12) hx hb dX0_replaceSector_47 (by decide) ?_
        have hF9 : k_9.1 = appL (unitL (dst * 256 + v * 8) (unitG k1.1 (src * 256 + v * 8) 2816)) k1.1 := by rw [ek_9]; exact kActs_F (by rw [← eb_8]; exact c2)
        exact ih12 (d, v + 1, k_9, t_10) H locs ls ⟨by rw [hT0, copyL_s, kActs_app, ← hG9, ← eb_8, c2, if_pos rfl, ← ek_9], by omega, by rw [ek_9]; exact kActs_ok hk1 (by rw [← eb_8]; exact c2), fun j h1 h2 => by rw [hF9, appL_unit_out (by omega)]; exact hag j h1 h2⟩ (by first | omega | (simp only []; omega)) hP hD hS (lv_sub hl [0, 1, 2, 3] rfl)
      · skip
        have c2 : b_8 = false := bI_0.mp c2
        refine lv_iconst (pc := 42) (v := nI 0) hx hb dX0_replaceSector_42 (by decide) ?_
        exact W.zret (v := nI 0) hx hb hr rfl (fun t ht hW => ⟨⟨nI 0, (k_9, t_10), rfl, ⟨by rw [hT0, copyL_s, kActs_app, ← hG9, ← eb_8, c2, if_neg (by decide), ← eb_8, c2]; rfl, by rw [hT0, copyL_s, kActs_app, ← hG9, ← eb_8, c2, if_neg (by decide)]; exact ek_9⟩, by show va_P _ _ _ t.heap; rw [ht]; exact hP, va_K.moved hW.alike hK, hD⟩, hS.F ht⟩) hS.2.2 dX0_replaceSector_43
  · skip
    have c0 : b_3 = false := bI_0.mp c0
    refine lv_iconst (pc := 8) (v := nI 0) hx hb dX0_replaceSector_8 (by decide) ?_
    exact W.zret (v := nI 0) hx hb hr rfl (fun t ht hW => ⟨⟨nI 0, (u_1, ut), rfl, ⟨by rw [repL, kActs_cons]; show _ = bI (if (kErase dst k).2 = true then _ else kErase dst k).2; rw [if_neg (by rw [← eb_3, c0]; decide), ← eb_3, c0]; rfl, by rw [repL, kActs_cons]; show _ = (if (kErase dst k).2 = true then _ else kErase dst k).1; rw [if_neg (by rw [← eb_3, c0]; decide)]; exact eu_1⟩, by show va_P _ _ _ t.heap; rw [ht]; exact hP, va_K.moved hW.alike hK, hD⟩, hS.F ht⟩) hS.2.2 dX0_replaceSector_9
end
section
def trn (w : Int32) (p : Nat) : Int32 := (Int32.toUInt32 w >>> (Int32.toUInt32 (nI p) &&& Int32.toUInt32 31)).toInt32 ||| (w <<< (nI (32 - p) &&& 31))
def ushr (w : Int32) (p : Nat) : Int32 := (Int32.toUInt32 w >>> (Int32.toUInt32 (nI p) &&& Int32.toUInt32 31)).toInt32
def pad8 (G : Nat → Int8) (fi len q : Nat) : Int8 := if q = len then -128 else if q < len then G (fi + q) else 0
/-- a word out of n bytes, the highest first -/
def pw (f : Nat → Int8) (q : Nat) : Nat → Int32
  | 0 => nI 0
  | n + 1 => (pw f q n <<< (nI 8 &&& 31)) ||| ub (f (q + n))
theorem pw_s (f : Nat → Int8) (q n : Nat) : pw f q (n + 1) = (pw f q n <<< (nI 8 &&& 31)) ||| ub (f (q + n)) := rfl
def sS1 (x : Int32) : Int32 := (trn x 17 ^^^ trn x 19) ^^^ ushr x 10
def sS0 (x : Int32) : Int32 := (trn x 7 ^^^ trn x 18) ^^^ ushr x 3
def stI (f : Nat → Int32) (t : Nat) : Nat → Int32 := upd f t (((sS1 (f (t - 2)) + f (t - 7)) + sS0 (f (t - 15))) + f (t - 16))
def stN (f : Nat → Int32) : Nat → (Nat → Int32)
  | 0 => f
  | n + 1 => stI (stN f n) (16 + n)
theorem stN_s (f : Nat → Int32) (n : Nat) : stN f (n + 1) = stI (stN f n) (16 + n) := rfl
theorem stN_c {f g : Nat → Int32} (h : ∀ j, j < 16 → f j = g j) : ∀ n j, j < 16 + n → stN f n j = stN g n j := by
  intro n
  induction n with
  | zero => intro j hj; exact h j (by omega)
  | succ n ih =>
    intro j hj
    rw [stN_s, stN_s]
    unfold stI upd
    by_cases q : j = 16 + n
    · rw [if_pos q, if_pos q, ih (16 + n - 2) (by omega), ih (16 + n - 7) (by omega), ih (16 + n - 15) (by omega), ih (16 + n - 16) (by omega)]
    · rw [if_neg q, if_neg q]; exact ih j (by omega)
abbrev T8 : Type := Int32 × Int32 × Int32 × Int32 × Int32 × Int32 × Int32 × Int32
def of8 (h : Nat → Int32) : T8 := (h 0, h 1, h 2, h 3, h 4, h 5, h 6, h 7)
def bS1 (x : Int32) : Int32 := (trn x 6 ^^^ trn x 11) ^^^ trn x 25
def bS0 (x : Int32) : Int32 := (trn x 2 ^^^ trn x 13) ^^^ trn x 22
def one1 (ve vf vg vh kk w : Int32) : Int32 := (((vh + bS1 ve) + ((ve &&& vf) ^^^ ((ve ^^^ (-1)) &&& vg))) + kk) + w
def two1 (va vb vc : Int32) : Int32 := bS0 va + (((va &&& vb) ^^^ (va &&& vc)) ^^^ (vb &&& vc))
def mx1 (kk w : Int32) (x : T8) : T8 := (one1 x.2.2.2.2.1 x.2.2.2.2.2.1 x.2.2.2.2.2.2.1 x.2.2.2.2.2.2.2 kk w + two1 x.1 x.2.1 x.2.2.1, x.1, x.2.1, x.2.2.1, x.2.2.2.1 + one1 x.2.2.2.2.1 x.2.2.2.2.2.1 x.2.2.2.2.2.2.1 x.2.2.2.2.2.2.2 kk w, x.2.2.2.2.1, x.2.2.2.2.2.1, x.2.2.2.2.2.2.1)
def mixN (sc : Nat → Int32) : Nat → T8 → T8
  | 0, x => x
  | n + 1, x => mx1 (tbR n) (sc n) (mixN sc n x)
theorem mixN_s (sc : Nat → Int32) (n : Nat) (x : T8) : mixN sc (n + 1) x = mx1 (tbR n) (sc n) (mixN sc n x) := rfl
theorem mixN_c {f g : Nat → Int32} (x : T8) : ∀ n, (∀ j, j < n → f j = g j) → mixN f n x = mixN g n x := by
  intro n
  induction n with
  | zero => intro _; rfl
  | succ n ih => intro h; rw [mixN_s, mixN_s, ih (fun j hj => h j (by omega)), h n (by omega)]
def addH (h : Nat → Int32) (v : T8) : Nat → Int32 := upd (upd (upd (upd (upd (upd (upd (upd h 0 (h 0 + v.1)) 1 (h 1 + v.2.1)) 2 (h 2 + v.2.2.1)) 3 (h 3 + v.2.2.2.1)) 4 (h 4 + v.2.2.2.2.1)) 5 (h 5 + v.2.2.2.2.2.1)) 6 (h 6 + v.2.2.2.2.2.2.1)) 7 (h 7 + v.2.2.2.2.2.2.2)
def add8 (a b : T8) : T8 := (a.1 + b.1, a.2.1 + b.2.1, a.2.2.1 + b.2.2.1, a.2.2.2.1 + b.2.2.2.1, a.2.2.2.2.1 + b.2.2.2.2.1, a.2.2.2.2.2.1 + b.2.2.2.2.2.1, a.2.2.2.2.2.2.1 + b.2.2.2.2.2.2.1, a.2.2.2.2.2.2.2 + b.2.2.2.2.2.2.2)
theorem of8_add (h : Nat → Int32) (v : T8) : of8 (addH h v) = add8 (of8 h) v := rfl
def w16 (g : Nat → Int32) : Nat → Int32 := fun j => if j < 16 then g j else 0
/-- the chain behind b blocks -/
def shaC (f : Nat → Nat → Int32) : Nat → T8
  | 0 => of8 tbF
  | b + 1 => add8 (shaC f b) (mixN (stN (w16 (f b)) 48) 64 (shaC f b))
theorem shaC_s (f : Nat → Nat → Int32) (b : Nat) : shaC f (b + 1) = add8 (shaC f b) (mixN (stN (w16 (f b)) 48) 64 (shaC f b)) := rfl
theorem shaC_step {f : Nat → Nat → Int32} {b : Nat} {sc hs : Nat → Int32} (h : of8 hs = shaC f b) (hw : ∀ j, j < 16 → sc j = f b j) : of8 (addH hs (mixN (stN sc 48) 64 (of8 hs))) = shaC f (b + 1) := by
  have hm : mixN (stN sc 48) 64 (shaC f b) = mixN (stN (w16 (f b)) 48) 64 (shaC f b) := mixN_c _ 64 (fun j hj => stN_c (fun i hi => by rw [hw i hi]; unfold w16; rw [if_pos hi]) 48 j (by omega))
  rw [of8_add, shaC_s, h, hm]
theorem of8_F {hs : Nat → Int32} (h : ∀ j, j < 8 → hs j = tbF j) : of8 hs = of8 tbF := by
  unfold of8
  rw [h 0 (by omega), h 1 (by omega), h 2 (by omega), h 3 (by omega), h 4 (by omega), h 5 (by omega), h 6 (by omega), h 7 (by omega)]
/-- the words of a message's blocks -/
def msgW (G : Nat → Int8) (fi len : Nat) : Nat → Nat → Int32 := fun b j => if b = (len + 8) / 64 ∧ j = 15 then nI (8 * len) else pw (pad8 G fi len) (b * 64 + 4 * j) 4
def sel8 (v : T8) (i : Nat) : Int32 := match i with
  | 0 => v.1
  | 1 => v.2.1
  | 2 => v.2.2.1
  | 3 => v.2.2.2.1
  | 4 => v.2.2.2.2.1
  | 5 => v.2.2.2.2.2.1
  | 6 => v.2.2.2.2.2.2.1
  | _ => v.2.2.2.2.2.2.2
theorem sel8_of (h : Nat → Int32) {i : Nat} (hi : i < 8) : sel8 (of8 h) i = h i := by
  rcases (show i = 0 ∨ i = 1 ∨ i = 2 ∨ i = 3 ∨ i = 4 ∨ i = 5 ∨ i = 6 ∨ i = 7 by omega) with rfl | rfl | rfl | rfl | rfl | rfl | rfl | rfl <;> rfl
/-- the digest of a message, byte by byte -/
def digT (v : T8) (i : Nat) : Int8 := Int32.toInt8 (ushr (sel8 v (i / 4)) (24 - 8 * (i % 4)))
def sha8 (G : Nat → Int8) (fi len : Nat) : T8 := shaC (msgW G fi len) ((len + 8) / 64 + 1)
end
section
set_option maxHeartbeats 4000000 in
set_option maxRecDepth 100000 in
theorem kX1_turn (l : Launch) (dC : Nat → ClassId) (dI : Nat → Nat → Nat) (tt : Nat → Nat) (cI cB : ClassId) (sz : Nat) (x : Int32) (q : Nat) (hq : q ≤ 32) : MetR l yX1_turn wsX1_turn { frames := 0, cells := 0, slots := 0, locals := 0 } (dC, dI) [(cI, .int), (cB, .byte)] tt [] sz ([]) [.int x, .int (nI q)] (fun r => r = trn x q) := by
  refine Met.ofW (cc := cX1_turn) (maxL := 2) (ret := (some .int)) (by decide) rfl ?_
  intro p e s m args below meth c s₁ B hml hv
  obtain ⟨rfl, hsz, hP, hK, hD0, hE⟩ := hv
  have hx := B.exec
  have hb := B.bytes
  have hr := B.returns
  have hts := atoms_spec (ws := wsX1_turn) B.pre
  have hown : s.vm.findClass RX1 = some m.cls := findClass_of_methodNamed B.named
  have hlocks := B.notSynchronized
  subst hsz
  have hD := hD0
  generalize hAe : va_A [] s.heap.size = A at hE ⊢
  have hA : ∀ q : Nat, s.heap.size ≤ q → A q := fun q h => by rw [← hAe]; exact Or.inr h
  have hS : va_S A s.heap s.heap [] := va_S.rf
  have hl := lv_entry ([.int x, .int (nI q)]) (n := 2) (Nat.le_of_ble_eq_true rfl)
  rw [lg_entry_eq]
  generalize (lg_sl ([.int x, .int (nI q)]) ++ List.replicate (2 - (lg_sl ([.int x, .int (nI q)])).length) Slot.unset).toArray = ls at hl ⊢
  have hl : lv_has ls 2 [(0, .int x), (1, .int (nI q))] := hl
  refine lv_iload_n (pc := 0) hx hb dX1_turn_0 rfl (lv_at hl 0 rfl) ?_
  refine lv_iload_n (pc := 1) hx hb dX1_turn_1 rfl (lv_at hl 1 rfl) ?_
  refine lv_iushr (pc := 2) hx hb dX1_turn_2 rfl ?_
  refine lv_iload_n (pc := 3) hx hb dX1_turn_3 rfl (lv_at hl 0 rfl) ?_
  refine lv_bipush (pc := 4) (v := nI 32) hx hb dX1_turn_4 (by decide) ?_
  refine lv_iload_n (pc := 6) hx hb dX1_turn_6 rfl (lv_at hl 1 rfl) ?_
  refine lv_isub (pc := 7) hx hb dX1_turn_7 ?_
  refine lv_cv (pk_sub (a := 32) (b := q) (by omega)) ?_
  refine lv_ishl (pc := 8) hx hb dX1_turn_8 ?_
  refine lv_ior (pc := 9) hx hb dX1_turn_9 ?_
  exact W.iret (v := ((Int32.toUInt32 x >>> (Int32.toUInt32 (nI q) &&& Int32.toUInt32 31)).toInt32) ||| (x <<< ((nI (32 - q)) &&& 31))) hx hb hr (fun t ht hW => ⟨⟨((Int32.toUInt32 x >>> (Int32.toUInt32 (nI q) &&& Int32.toUInt32 31)).toInt32) ||| (x <<< ((nI (32 - q)) &&& 31)), (), rfl, rfl, trivial⟩, hS.F ht⟩) hS.2.2 dX1_turn_10
set_option maxHeartbeats 4000000 in
set_option maxRecDepth 100000 in
theorem kX1_paddedByte (l : Launch) (dC : Nat → ClassId) (dI : Nat → Nat → Nat) (tt : Nat → Nat) (cI cB : ClassId) (sz : Nat) (t n : Nat) (G : Nat → Int8) (fi len q : Nat) (hn : n < 2 ^ 31) (hfl : fi + len ≤ n) (hq : q < 2 ^ 30) (hf : fi < 2 ^ 30) : MetR l yX1_paddedByte wsX1_paddedByte { frames := 0, cells := 0, slots := 0, locals := 0 } (dC, dI) [(cI, .int), (cB, .byte)] tt [(t, n, fun j => ub (G j))] sz ([]) [.ref t, .int (nI fi), .int (nI len), .int (nI q)] (fun r => r = ub (pad8 G fi len q)) := by
  refine Met.ofW (cc := cX1_paddedByte) (maxL := 5) (ret := (some .int)) (by decide) rfl ?_
  intro p e s m args below meth c s₁ B hml hv
  obtain ⟨rfl, hsz, hP, hK, hD0, hE⟩ := hv
  have hx := B.exec
  have hb := B.bytes
  have hr := B.returns
  have hts := atoms_spec (ws := wsX1_paddedByte) B.pre
  have hown : s.vm.findClass RX1 = some m.cls := findClass_of_methodNamed B.named
  have hlocks := B.notSynchronized
  subst hsz
  have hD := hD0
  generalize hAe : va_A [] s.heap.size = A at hE ⊢
  have hA : ∀ q : Nat, s.heap.size ≤ q → A q := fun q h => by rw [← hAe]; exact Or.inr h
  have hS : va_S A s.heap s.heap [] := va_S.rf
  have hl := lv_entry ([.ref t, .int (nI fi), .int (nI len), .int (nI q)]) (n := 5) (Nat.le_of_ble_eq_true rfl)
  rw [lg_entry_eq]
  generalize (lg_sl ([.ref t, .int (nI fi), .int (nI len), .int (nI q)]) ++ List.replicate (5 - (lg_sl ([.ref t, .int (nI fi), .int (nI len), .int (nI q)])).length) Slot.unset).toArray = ls at hl ⊢
  have hl : lv_has ls 5 [(0, .ref t), (1, .int (nI fi)), (2, .int (nI len)), (3, .int (nI q))] := hl
  have hT : va_T .int t n (fun j => .int (ub (G j))) A s s.heap := hE.2.2.2.2.2.2.2.2 _ List.mem_cons_self
  refine lv_iload_n (pc := 0) hx hb dX1_paddedByte_0 rfl (lv_at hl 3 rfl) ?_
  refine lv_iload_n (pc := 1) hx hb dX1_paddedByte_1 rfl (lv_at hl 2 rfl) ?_
  refine lv_icmp_ne (pc := 2) (tgt := 9) hx hb dX1_paddedByte_2 (by decide) (fun c1 => ?_) (fun c1 => ?_)
  · skip
    have c1 : ¬ q = len := fun z => c1 ((nI_eq (a := q) (b := len) (by omega) (by omega)).mpr z)
    refine lv_iload_n (pc := 9) hx hb dX1_paddedByte_9 rfl (lv_at hl 1 rfl) ?_
    refine lv_iload_n (pc := 10) hx hb dX1_paddedByte_10 rfl (lv_at hl 3 rfl) ?_
    refine lv_iadd (pc := 11) hx hb dX1_paddedByte_11 ?_
    refine lv_cv (nI_add fi q) ?_
    refine lv_istore (pc := 12) (lv' := [(4, .int (nI (fi + q))), (0, .ref t), (1, .int (nI fi)), (2, .int (nI len)), (3, .int (nI q))]) hx hb dX1_paddedByte_12 hl (by decide) rfl (fun ls hl => ?_)
    refine lv_iload_n (pc := 14) hx hb dX1_paddedByte_14 rfl (lv_at hl 4 rfl) ?_
    refine lv_iload_n (pc := 15) hx hb dX1_paddedByte_15 rfl (lv_at hl 3 rfl) ?_
    refine lv_icmp_ge (pc := 16) (tgt := 38) hx hb dX1_paddedByte_16 (by decide) (fun c2 => ?_) (fun c2 => ?_)
    · skip
      have c2 : len ≤ q := (nI_leI (a := len) (b := q) (by omega) (by omega)).mp c2
      refine lv_iconst (pc := 38) (v := nI 0) hx hb dX1_paddedByte_38 (by decide) ?_
      exact W.iret (v := nI 0) hx hb hr (fun t ht hW => ⟨⟨nI 0, (), rfl, by rw [pad8, if_neg c1, if_neg (by omega)]; decide, trivial⟩, hS.F ht⟩) hS.2.2 dX1_paddedByte_39
    · skip
      have c2 : ¬ len ≤ q := fun z => c2 ((nI_leI (a := len) (b := q) (by omega) (by omega)).mpr z)
      refine lv_iload (pc := 19) hx hb dX1_paddedByte_19 (lv_at hl 0 rfl) ?_
      refine lv_if_lt (pc := 21) (tgt := 38) hx hb dX1_paddedByte_21 (by decide) (fun c3 => ?_) (fun c3 => ?_)
      · skip
        have c3 : (fi + q) < 0 := (nI_ltI (a := (fi + q)) (b := 0) (by omega) (by omega)).mp c3
        exfalso; omega
      · skip
        have c3 : ¬ (fi + q) < 0 := fun z => c3 ((nI_ltI (a := (fi + q)) (b := 0) (by omega) (by omega)).mpr z)
        refine lv_iload (pc := 24) hx hb dX1_paddedByte_24 (lv_at hl 0 rfl) ?_
        refine lv_aload_n (pc := 26) hx hb dX1_paddedByte_26 rfl (lv_at hl 1 rfl) ?_
        refine va_tlen (pc := 27) (v := nI n) hx hb hT hS rfl dX1_paddedByte_27 ?_
        refine lv_icmp_ge (pc := 28) (tgt := 38) hx hb dX1_paddedByte_28 (by decide) (fun c4 => ?_) (fun c4 => ?_)
        · skip
          have c4 : n ≤ (fi + q) := (nI_leI (a := n) (b := (fi + q)) (by omega) (by omega)).mp c4
          exfalso; omega
        · skip
          have c4 : ¬ n ≤ (fi + q) := fun z => c4 ((nI_leI (a := n) (b := (fi + q)) (by omega) (by omega)).mpr z)
          refine lv_aload_n (pc := 31) hx hb dX1_paddedByte_31 rfl (lv_at hl 1 rfl) ?_
          refine lv_iload (pc := 32) hx hb dX1_paddedByte_32 (lv_at hl 0 rfl) ?_
          refine x_ti (pc := 34) (k := fi + q) hx hb hT hS (by omega) (by omega) dX1_paddedByte_34 ?_
          refine lv_goto (pc := 35) (tgt := 39) hx hb dX1_paddedByte_35 (by decide) ?_
          exact W.iret (v := ub (G (fi + q))) hx hb hr (fun t ht hW => ⟨⟨ub (G (fi + q)), (), rfl, by rw [pad8, if_neg c1, if_pos (by omega)], trivial⟩, hS.F ht⟩) hS.2.2 dX1_paddedByte_39
  · skip
    have c1 : q = len := (nI_eq (a := q) (b := len) (by omega) (by omega)).mp c1
    refine lv_sipush (pc := 5) (v := nI 128) hx hb dX1_paddedByte_5 (by decide) ?_
    exact W.iret (v := nI 128) hx hb hr (fun t ht hW => ⟨⟨nI 128, (), rfl, by rw [pad8, if_pos c1]; decide, trivial⟩, hS.F ht⟩) hS.2.2 dX1_paddedByte_8
set_option maxHeartbeats 4000000 in
set_option maxRecDepth 100000 in
theorem kX1_paddedWord (l : Launch) (dC : Nat → ClassId) (dI : Nat → Nat → Nat) (tt : Nat → Nat) (cI cB : ClassId) (sz : Nat) (t n : Nat) (G : Nat → Int8) (fi len q : Nat) (hn : n < 2 ^ 31) (hfl : fi + len ≤ n) (hq : q + 4 < 2 ^ 30) (hf : fi < 2 ^ 30) : MetR l yX1_paddedWord wsX1_paddedWord { frames := 1, cells := 0, slots := 0, locals := 24 } (dC, dI) [(cI, .int), (cB, .byte)] tt [(t, n, fun j => ub (G j))] sz ([]) [.ref t, .int (nI fi), .int (nI len), .int (nI q)] (fun r => r = pw (pad8 G fi len) q 4) := by
  refine Met.ofW (cc := cX1_paddedWord) (maxL := 6) (ret := (some .int)) (by decide) rfl ?_
  intro p e s m args below meth c s₁ B hml hv
  obtain ⟨rfl, hsz, hP, hK, hD0, hE⟩ := hv
  have hx := B.exec
  have hb := B.bytes
  have hr := B.returns
  have hts := atoms_spec (ws := wsX1_paddedWord) B.pre
  have hown : s.vm.findClass RX1 = some m.cls := findClass_of_methodNamed B.named
  have hlocks := B.notSynchronized
  subst hsz
  have hD := hD0
  generalize hAe : va_A [] s.heap.size = A at hE ⊢
  have hA : ∀ q : Nat, s.heap.size ≤ q → A q := fun q h => by rw [← hAe]; exact Or.inr h
  have hS : va_S A s.heap s.heap [] := va_S.rf
  have hl := lv_entry ([.ref t, .int (nI fi), .int (nI len), .int (nI q)]) (n := 6) (Nat.le_of_ble_eq_true rfl)
  rw [lg_entry_eq]
  generalize (lg_sl ([.ref t, .int (nI fi), .int (nI len), .int (nI q)]) ++ List.replicate (6 - (lg_sl ([.ref t, .int (nI fi), .int (nI len), .int (nI q)])).length) Slot.unset).toArray = ls at hl ⊢
  have hl : lv_has ls 6 [(0, .ref t), (1, .int (nI fi)), (2, .int (nI len)), (3, .int (nI q))] := hl
  refine lv_iconst (pc := 0) (v := nI 0) hx hb dX1_paddedWord_0 (by decide) ?_
  refine lv_istore (pc := 1) (lv' := [(4, .int (nI 0)), (0, .ref t), (1, .int (nI fi)), (2, .int (nI len)), (3, .int (nI q))]) hx hb dX1_paddedWord_1 hl (by decide) rfl (fun ls hl => ?_)
  refine lv_iload_n (pc := 3) hx hb dX1_paddedWord_3 rfl (lv_at hl 4 rfl) ?_
  refine lv_istore (pc := 4) (lv' := [(5, .int (nI q)), (4, .int (nI 0)), (0, .ref t), (1, .int (nI fi)), (2, .int (nI len)), (3, .int (nI q))]) hx hb dX1_paddedWord_4 hl (by decide) rfl (fun ls hl => ?_)
  refine x_loop (σ := (Nat)) (Wd := fun i : (Nat) => []) (Lv := fun i : (Nat) => [(5, .int (nI (q + i))), (4, .int (pw (pad8 G fi len) q i)), (0, .ref t), (1, .int (nI fi)), (2, .int (nI len)), (3, .int (nI q))]) (I := fun i : (Nat) => (i ≤ 4)) (μ := fun i : (Nat) => 4 - i) ?_ (0) (by omega) (va_P0 (dC, dI) _) va_D0 hS (lv_sub hl [0, 1, 2, 3, 4, 5] rfl)
  intro i H locs ls hI hP hD hS hl ih6
  have hi : (i ≤ 4) := hI
  have hl : lv_has ls 6 [(5, .int (nI (q + i))), (4, .int (pw (pad8 G fi len) q i)), (0, .ref t), (1, .int (nI fi)), (2, .int (nI len)), (3, .int (nI q))] := hl
  refine lv_iload (pc := 6) hx hb dX1_paddedWord_6 (lv_at hl 0 rfl) ?_
  refine lv_iload_n (pc := 8) hx hb dX1_paddedWord_8 rfl (lv_at hl 5 rfl) ?_
  refine lv_iconst (pc := 9) (v := nI 4) hx hb dX1_paddedWord_9 (by decide) ?_
  refine lv_iadd (pc := 10) hx hb dX1_paddedWord_10 ?_
  refine lv_cv (nI_add q 4) ?_
  refine lv_icmp_ge (pc := 11) (tgt := 36) hx hb dX1_paddedWord_11 (by decide) (fun c_1 => ?_) (fun c_1 => ?_)
  · skip
    have c_1 : (q + 4) ≤ (q + i) := (nI_leI (a := (q + 4)) (b := (q + i)) (by omega) (by omega)).mp c_1
    refine lv_iload (pc := 36) hx hb dX1_paddedWord_36 (lv_at hl 1 rfl) ?_
    have hi9 : i = 4 := by omega
    subst hi9
    exact W.iret (v := pw (pad8 G fi len) q 4) hx hb hr (fun t ht hW => ⟨⟨pw (pad8 G fi len) q 4, (), rfl, rfl, trivial⟩, hS.F ht⟩) hS.2.2 dX1_paddedWord_38
  · skip
    have c_1 : ¬ (q + 4) ≤ (q + i) := fun z => c_1 ((nI_leI (a := (q + 4)) (b := (q + i)) (by omega) (by omega)).mpr z)
    refine lv_iload (pc := 14) hx hb dX1_paddedWord_14 (lv_at hl 1 rfl) ?_
    refine lv_bipush (pc := 16) (v := nI 8) hx hb dX1_paddedWord_16 (by decide) ?_
    refine lv_ishl (pc := 18) hx hb dX1_paddedWord_18 ?_
    refine lv_aload_n (pc := 19) hx hb dX1_paddedWord_19 rfl (lv_at hl 2 rfl) ?_
    refine lv_iload_n (pc := 20) hx hb dX1_paddedWord_20 rfl (lv_at hl 3 rfl) ?_
    refine lv_iload_n (pc := 21) hx hb dX1_paddedWord_21 rfl (lv_at hl 4 rfl) ?_
    refine lv_iload (pc := 22) hx hb dX1_paddedWord_22 (lv_at hl 0 rfl) ?_
    refine x_roi (pc := 24) (va_runS (As := [.ref t, .int (nI fi), .int (nI len), .int (nI (q + i))]) (rest := [.int ((pw (pad8 G fi len) q i) <<< ((nI 8) &&& 31))]) ⟨hx, hb, hml, hown, hts⟩ (kX1_paddedByte l dC dI tt cI cB _ t n G fi len (q + i) hn hfl (by omega) (by omega)) (va_cwS 4 hts gX1_paddedWord_X1_paddedByte rfl rfl rfl (by decide +kernel) ⟨Nat.le_of_ble_eq_true rfl, Nat.le_of_ble_eq_true rfl⟩) (x_preS hS hE hK (va_P0 (dC, dI) _) va_D0 [] rfl (by decide) (x_ro hS hA) (xRs hS hE (x_ro hS hA))) rfl rfl hl.1 rfl (lv_room (Nat.le_of_ble_eq_true rfl)) dX1_paddedWord_24 ⟨Nat.le_of_ble_eq_true rfl, Nat.le_of_ble_eq_true rfl⟩) hS hA (va_P0 (dC, dI) _) (fun r_2 H locs hr_2 _ hS => ?_)
    subst hr_2
    refine lv_ior (pc := 27) hx hb dX1_paddedWord_27 ?_
    refine lv_cv (show _ = pw (pad8 G fi len) q (i + 1) from rfl) ?_
    refine lv_istore (pc := 28) (lv' := [(4, .int (pw (pad8 G fi len) q (i + 1))), (5, .int (nI (q + i))), (0, .ref t), (1, .int (nI fi)), (2, .int (nI len)), (3, .int (nI q))]) hx hb dX1_paddedWord_28 hl (by decide) rfl (fun ls hl => ?_)
    refine lv_iinc (pc := 30) (v := nI ((q + i) + 1)) (lv' := [(5, .int (nI ((q + i) + 1))), (4, .int (pw (pad8 G fi len) q (i + 1))), (0, .ref t), (1, .int (nI fi)), (2, .int (nI len)), (3, .int (nI q))]) hx hb dX1_paddedWord_30 hl (k := 1) rfl (nI_inc (q + i) 1) (by decide) rfl (fun ls hl => ?_)
    refine lv_goto (pc := 33) (tgt := 6) hx hb dX1_paddedWord_33 (by decide) ?_
    exact ih6 (i + 1) H locs ls (by omega) (by first | omega | (simp only []; omega)) (va_P0 (dC, dI) _) va_D0 hS (lv_sub hl [0, 1, 2, 3, 4, 5] rfl)
set_option maxHeartbeats 4000000 in
set_option maxRecDepth 100000 in
theorem kX1_stretch (l : Launch) (dC : Nat → ClassId) (dI : Nat → Nat → Nat) (tt : Nat → Nat) (cI cB : ClassId) (sz : Nat) (a7 a8 a9 : Nat) (sc hs : Nat → Int32)  : MetV (S := (Nat → Int32)) l yX1_stretchSchedule wsX1_stretchSchedule { frames := 1, cells := 0, slots := 0, locals := 21 } (dC, dI) [(cI, .int), (cB, .byte)] tt [] sz (sW a7 a8 a9 cI sc hs) [.ref a7] (fun u : (Nat → Int32) => sW a7 a8 a9 cI u hs) (fun u => u = stN sc 48) := by
  refine Met.ofW (cc := cX1_stretchSchedule) (maxL := 6) (ret := none) (by decide) rfl ?_
  intro p e s m args below meth c s₁ B hml hv
  obtain ⟨rfl, hsz, hP, hK, hD0, hE⟩ := hv
  have hx := B.exec
  have hb := B.bytes
  have hr := B.returns
  have hts := atoms_spec (ws := wsX1_stretchSchedule) B.pre
  have hown : s.vm.findClass RX1 = some m.cls := findClass_of_methodNamed B.named
  have hlocks := B.notSynchronized
  subst hsz
  have hD := hD0.self (sz := s.heap.size)
  generalize hAe : va_A (sW a7 a8 a9 cI sc hs) s.heap.size = A at hD hE ⊢
  have hA : ∀ q : Nat, s.heap.size ≤ q → A q := fun q h => by rw [← hAe]; exact Or.inr h
  have hS : va_S A s.heap s.heap [] := va_S.rf
  have hl := lv_entry ([.ref a7]) (n := 6) (Nat.le_of_ble_eq_true rfl)
  rw [lg_entry_eq]
  generalize (lg_sl ([.ref a7]) ++ List.replicate (6 - (lg_sl ([.ref a7])).length) Slot.unset).toArray = ls at hl ⊢
  have hl : lv_has ls 6 [(0, .ref a7)] := hl
  have hP : va_P (dC, dI) vwCl (sW a7 a8 a9 cI sc hs) s.heap := hP
  refine lv_bipush (pc := 0) (v := nI 16) hx hb dX1_stretchSchedule_0 (by decide) ?_
  refine lv_istore_n (pc := 2) (lv' := [(1, .int (nI 16)), (0, .ref a7)]) hx hb dX1_stretchSchedule_2 rfl hl (by decide) rfl (fun ls hl => ?_)
  refine x_loop (σ := (Nat)) (Wd := fun i : (Nat) => sW a7 a8 a9 cI (stN sc i) hs) (Lv := fun i : (Nat) => [(1, .int (nI (16 + i))), (0, .ref a7)]) (I := fun i : (Nat) => (i ≤ 48)) (μ := fun i : (Nat) => 48 - i) ?_ (0) (by omega) hP hD hS (lv_sub hl [0, 1] rfl)
  intro i H locs ls hI hP hD hS hl ih3
  have hi : (i ≤ 48) := hI
  have hP : va_P (dC, dI) vwCl (sW a7 a8 a9 cI (stN sc i) hs) _ := hP
  have hD : va_D A (sW a7 a8 a9 cI (stN sc i) hs) := hD
  have hl : lv_has ls 6 [(1, .int (nI (16 + i))), (0, .ref a7)] := hl
  refine lv_iload_n (pc := 3) hx hb dX1_stretchSchedule_3 rfl (lv_at hl 0 rfl) ?_
  refine lv_bipush (pc := 4) (v := nI 64) hx hb dX1_stretchSchedule_4 (by decide) ?_
  refine lv_icmp_ge (pc := 6) (tgt := 104) hx hb dX1_stretchSchedule_6 (by decide) (fun c_1 => ?_) (fun c_1 => ?_)
  · skip
    have c_1 : 64 ≤ (16 + i) := (nI_leI (a := 64) (b := (16 + i)) (by omega) (by omega)).mp c_1
    have hi9 : i = 48 := by omega
    subst hi9
    exact W.vret hx hb hr (fun t ht hW => ⟨⟨stN sc 48, rfl, rfl, by show va_P _ _ _ t.heap; rw [ht]; exact hP, va_K.moved hW.alike hK, hD⟩, hS.F ht⟩) hS.2.2 dX1_stretchSchedule_104
  · skip
    have c_1 : ¬ 64 ≤ (16 + i) := fun z => c_1 ((nI_leI (a := 64) (b := (16 + i)) (by omega) (by omega)).mpr z)
    refine lv_aload_n (pc := 9) hx hb dX1_stretchSchedule_9 rfl (lv_at hl 1 rfl) ?_
    refine va_get (pc := 10) (D := (dC, dI)) (ci := 1) (v := .ref a8) (C := RX1) (T := TX1) (N := 2) hx hb hts (by decide +kernel) hown hK hP 0 rfl rfl 0 (by decide) (hts (.fieldLink RX1 11 "ScratchSwap$Sha256" "schedule" "[I") (by decide +kernel)) (fun _ h9 => h9) rfl dX1_stretchSchedule_10 ?_
    refine lv_iload_n (pc := 13) hx hb dX1_stretchSchedule_13 rfl (lv_at hl 0 rfl) ?_
    refine lv_iconst (pc := 14) (v := nI 2) hx hb dX1_stretchSchedule_14 (by decide) ?_
    refine lv_isub (pc := 15) hx hb dX1_stretchSchedule_15 ?_
    refine lv_cv (pk_sub (a := (16 + i)) (b := 2) (by omega)) ?_
    refine x_iald (pc := 16) (k := (16 + i) - 2) (f := stN sc i) hx hb hK hP 1 0 rfl rfl (by omega) (by decide) dX1_stretchSchedule_16 ?_
    refine lv_istore_n (pc := 17) (lv' := [(2, .int ((stN sc i) ((16 + i) - 2))), (1, .int (nI (16 + i))), (0, .ref a7)]) hx hb dX1_stretchSchedule_17 rfl hl (by decide) rfl (fun ls hl => ?_)
    refine lv_aload_n (pc := 18) hx hb dX1_stretchSchedule_18 rfl (lv_at hl 2 rfl) ?_
    refine va_get (pc := 19) (D := (dC, dI)) (ci := 1) (v := .ref a8) (C := RX1) (T := TX1) (N := 2) hx hb hts (by decide +kernel) hown hK hP 0 rfl rfl 0 (by decide) (hts (.fieldLink RX1 11 "ScratchSwap$Sha256" "schedule" "[I") (by decide +kernel)) (fun _ h9 => h9) rfl dX1_stretchSchedule_19 ?_
    refine lv_iload_n (pc := 22) hx hb dX1_stretchSchedule_22 rfl (lv_at hl 1 rfl) ?_
    refine lv_bipush (pc := 23) (v := nI 15) hx hb dX1_stretchSchedule_23 (by decide) ?_
    refine lv_isub (pc := 25) hx hb dX1_stretchSchedule_25 ?_
    refine lv_cv (pk_sub (a := (16 + i)) (b := 15) (by omega)) ?_
    refine x_iald (pc := 26) (k := (16 + i) - 15) (f := stN sc i) hx hb hK hP 1 0 rfl rfl (by omega) (by decide) dX1_stretchSchedule_26 ?_
    refine lv_istore_n (pc := 27) (lv' := [(3, .int ((stN sc i) ((16 + i) - 15))), (2, .int ((stN sc i) ((16 + i) - 2))), (1, .int (nI (16 + i))), (0, .ref a7)]) hx hb dX1_stretchSchedule_27 rfl hl (by decide) rfl (fun ls hl => ?_)
    refine lv_iload_n (pc := 28) hx hb dX1_stretchSchedule_28 rfl (lv_at hl 1 rfl) ?_
    refine lv_bipush (pc := 29) (v := nI 17) hx hb dX1_stretchSchedule_29 (by decide) ?_
    refine x_roi (pc := 31) (va_runS (As := [.int ((stN sc i) ((16 + i) - 2)), .int (nI 17)]) (rest := []) ⟨hx, hb, hml, hown, hts⟩ (kX1_turn l dC dI tt cI cB _ ((stN sc i) ((16 + i) - 2)) 17 (by omega)) (va_cwS 2 hts gX1_stretchSchedule_X1_turn rfl rfl rfl (by decide +kernel) ⟨Nat.le_of_ble_eq_true rfl, Nat.le_of_ble_eq_true rfl⟩) (x_preS hS hE hK hP hD [] rfl (by decide) (x_ro hS hA) xR0) rfl rfl hl.1 rfl (lv_room (Nat.le_of_ble_eq_true rfl)) dX1_stretchSchedule_31 ⟨Nat.le_of_ble_eq_true rfl, Nat.le_of_ble_eq_true rfl⟩) hS hA hP (fun r_2 H locs hr_2 hP hS => ?_)
    subst hr_2
    refine lv_iload_n (pc := 34) hx hb dX1_stretchSchedule_34 rfl (lv_at hl 1 rfl) ?_
    refine lv_bipush (pc := 35) (v := nI 19) hx hb dX1_stretchSchedule_35 (by decide) ?_
    refine x_roi (pc := 37) (va_runS (As := [.int ((stN sc i) ((16 + i) - 2)), .int (nI 19)]) (rest := [.int (trn ((stN sc i) ((16 + i) - 2)) 17)]) ⟨hx, hb, hml, hown, hts⟩ (kX1_turn l dC dI tt cI cB _ ((stN sc i) ((16 + i) - 2)) 19 (by omega)) (va_cwS 2 hts gX1_stretchSchedule_X1_turn rfl rfl rfl (by decide +kernel) ⟨Nat.le_of_ble_eq_true rfl, Nat.le_of_ble_eq_true rfl⟩) (x_preS hS hE hK hP hD [] rfl (by decide) (x_ro hS hA) xR0) rfl rfl hl.1 rfl (lv_room (Nat.le_of_ble_eq_true rfl)) dX1_stretchSchedule_37 ⟨Nat.le_of_ble_eq_true rfl, Nat.le_of_ble_eq_true rfl⟩) hS hA hP (fun r_3 H locs hr_3 hP hS => ?_)
    subst hr_3
    refine lv_ixor (pc := 40) hx hb dX1_stretchSchedule_40 ?_
    refine lv_iload_n (pc := 41) hx hb dX1_stretchSchedule_41 rfl (lv_at hl 1 rfl) ?_
    refine lv_bipush (pc := 42) (v := nI 10) hx hb dX1_stretchSchedule_42 (by decide) ?_
    refine lv_iushr (pc := 44) hx hb dX1_stretchSchedule_44 rfl ?_
    refine lv_ixor (pc := 45) hx hb dX1_stretchSchedule_45 ?_
    refine lv_cv (show _ = sS1 (stN sc i (16 + i - 2)) from rfl) ?_
    refine lv_istore (pc := 46) (lv' := [(4, .int (sS1 (stN sc i (16 + i - 2)))), (3, .int ((stN sc i) ((16 + i) - 15))), (2, .int ((stN sc i) ((16 + i) - 2))), (1, .int (nI (16 + i))), (0, .ref a7)]) hx hb dX1_stretchSchedule_46 hl (by decide) rfl (fun ls hl => ?_)
    refine lv_iload_n (pc := 48) hx hb dX1_stretchSchedule_48 rfl (lv_at hl 1 rfl) ?_
    refine lv_bipush (pc := 49) (v := nI 7) hx hb dX1_stretchSchedule_49 (by decide) ?_
    refine x_roi (pc := 51) (va_runS (As := [.int ((stN sc i) ((16 + i) - 15)), .int (nI 7)]) (rest := []) ⟨hx, hb, hml, hown, hts⟩ (kX1_turn l dC dI tt cI cB _ ((stN sc i) ((16 + i) - 15)) 7 (by omega)) (va_cwS 2 hts gX1_stretchSchedule_X1_turn rfl rfl rfl (by decide +kernel) ⟨Nat.le_of_ble_eq_true rfl, Nat.le_of_ble_eq_true rfl⟩) (x_preS hS hE hK hP hD [] rfl (by decide) (x_ro hS hA) xR0) rfl rfl hl.1 rfl (lv_room (Nat.le_of_ble_eq_true rfl)) dX1_stretchSchedule_51 ⟨Nat.le_of_ble_eq_true rfl, Nat.le_of_ble_eq_true rfl⟩) hS hA hP (fun r_4 H locs hr_4 hP hS => ?_)
    subst hr_4
    refine lv_iload_n (pc := 54) hx hb dX1_stretchSchedule_54 rfl (lv_at hl 1 rfl) ?_
    refine lv_bipush (pc := 55) (v := nI 18) hx hb dX1_stretchSchedule_55 (by decide) ?_
    refine x_roi (pc := 57) (va_runS (As := [.int ((stN sc i) ((16 + i) - 15)), .int (nI 18)]) (rest := [.int (trn ((stN sc i) ((16 + i) - 15)) 7)]) ⟨hx, hb, hml, hown, hts⟩ (kX1_turn l dC dI tt cI cB _ ((stN sc i) ((16 + i) - 15)) 18 (by omega)) (va_cwS 2 hts gX1_stretchSchedule_X1_turn rfl rfl rfl (by decide +kernel) ⟨Nat.le_of_ble_eq_true rfl, Nat.le_of_ble_eq_true rfl⟩) (x_preS hS hE hK hP hD [] rfl (by decide) (x_ro hS hA) xR0) rfl rfl hl.1 rfl (lv_room (Nat.le_of_ble_eq_true rfl)) dX1_stretchSchedule_57 ⟨Nat.le_of_ble_eq_true rfl, Nat.le_of_ble_eq_true rfl⟩) hS hA hP (fun r_5 H locs hr_5 hP hS => ?_)
    subst hr_5
    refine lv_ixor (pc := 60) hx hb dX1_stretchSchedule_60 ?_
    refine lv_iload_n (pc := 61) hx hb dX1_stretchSchedule_61 rfl (lv_at hl 1 rfl) ?_
    refine lv_iconst (pc := 62) (v := nI 3) hx hb dX1_stretchSchedule_62 (by decide) ?_
    refine lv_iushr (pc := 63) hx hb dX1_stretchSchedule_63 rfl ?_
    refine lv_ixor (pc := 64) hx hb dX1_stretchSchedule_64 ?_
    refine lv_cv (show _ = sS0 (stN sc i (16 + i - 15)) from rfl) ?_
    refine lv_istore (pc := 65) (lv' := [(5, .int (sS0 (stN sc i (16 + i - 15)))), (4, .int (sS1 (stN sc i (16 + i - 2)))), (3, .int ((stN sc i) ((16 + i) - 15))), (2, .int ((stN sc i) ((16 + i) - 2))), (1, .int (nI (16 + i))), (0, .ref a7)]) hx hb dX1_stretchSchedule_65 hl (by decide) rfl (fun ls hl => ?_)
    refine lv_aload_n (pc := 67) hx hb dX1_stretchSchedule_67 rfl (lv_at hl 5 rfl) ?_
    refine va_get (pc := 68) (D := (dC, dI)) (ci := 1) (v := .ref a8) (C := RX1) (T := TX1) (N := 2) hx hb hts (by decide +kernel) hown hK hP 0 rfl rfl 0 (by decide) (hts (.fieldLink RX1 11 "ScratchSwap$Sha256" "schedule" "[I") (by decide +kernel)) (fun _ h9 => h9) rfl dX1_stretchSchedule_68 ?_
    refine lv_iload_n (pc := 71) hx hb dX1_stretchSchedule_71 rfl (lv_at hl 4 rfl) ?_
    refine lv_iload (pc := 72) hx hb dX1_stretchSchedule_72 (lv_at hl 1 rfl) ?_
    refine lv_aload_n (pc := 74) hx hb dX1_stretchSchedule_74 rfl (lv_at hl 5 rfl) ?_
    refine va_get (pc := 75) (D := (dC, dI)) (ci := 1) (v := .ref a8) (C := RX1) (T := TX1) (N := 2) hx hb hts (by decide +kernel) hown hK hP 0 rfl rfl 0 (by decide) (hts (.fieldLink RX1 11 "ScratchSwap$Sha256" "schedule" "[I") (by decide +kernel)) (fun _ h9 => h9) rfl dX1_stretchSchedule_75 ?_
    refine lv_iload_n (pc := 78) hx hb dX1_stretchSchedule_78 rfl (lv_at hl 4 rfl) ?_
    refine lv_bipush (pc := 79) (v := nI 7) hx hb dX1_stretchSchedule_79 (by decide) ?_
    refine lv_isub (pc := 81) hx hb dX1_stretchSchedule_81 ?_
    refine lv_cv (pk_sub (a := (16 + i)) (b := 7) (by omega)) ?_
    refine x_iald (pc := 82) (k := (16 + i) - 7) (f := stN sc i) hx hb hK hP 1 0 rfl rfl (by omega) (by decide) dX1_stretchSchedule_82 ?_
    refine lv_iadd (pc := 83) hx hb dX1_stretchSchedule_83 ?_
    refine lv_iload (pc := 84) hx hb dX1_stretchSchedule_84 (lv_at hl 0 rfl) ?_
    refine lv_iadd (pc := 86) hx hb dX1_stretchSchedule_86 ?_
    refine lv_aload_n (pc := 87) hx hb dX1_stretchSchedule_87 rfl (lv_at hl 5 rfl) ?_
    refine va_get (pc := 88) (D := (dC, dI)) (ci := 1) (v := .ref a8) (C := RX1) (T := TX1) (N := 2) hx hb hts (by decide +kernel) hown hK hP 0 rfl rfl 0 (by decide) (hts (.fieldLink RX1 11 "ScratchSwap$Sha256" "schedule" "[I") (by decide +kernel)) (fun _ h9 => h9) rfl dX1_stretchSchedule_88 ?_
    refine lv_iload_n (pc := 91) hx hb dX1_stretchSchedule_91 rfl (lv_at hl 4 rfl) ?_
    refine lv_bipush (pc := 92) (v := nI 16) hx hb dX1_stretchSchedule_92 (by decide) ?_
    refine lv_isub (pc := 94) hx hb dX1_stretchSchedule_94 ?_
    refine lv_cv (pk_sub (a := (16 + i)) (b := 16) (by omega)) ?_
    refine x_iald (pc := 95) (k := (16 + i) - 16) (f := stN sc i) hx hb hK hP 1 0 rfl rfl (by omega) (by decide) dX1_stretchSchedule_95 ?_
    refine lv_iadd (pc := 96) hx hb dX1_stretchSchedule_96 ?_
    refine x_iast (pc := 97) (k := 16 + i) (f := stN sc i) hx hb hK hP hD hS 1 0 rfl rfl (by omega) (by decide) dX1_stretchSchedule_97 (fun H locs hP hD hS => ?_)
    have hP : va_P (dC, dI) vwCl (sW a7 a8 a9 cI (upd (stN sc i) (16 + i) ((((sS1 (stN sc i (16 + i - 2))) + ((stN sc i) ((16 + i) - 7))) + (sS0 (stN sc i (16 + i - 15)))) + ((stN sc i) ((16 + i) - 16)))) hs) _ := hP
    have hD : va_D A (sW a7 a8 a9 cI (upd (stN sc i) (16 + i) ((((sS1 (stN sc i (16 + i - 2))) + ((stN sc i) ((16 + i) - 7))) + (sS0 (stN sc i (16 + i - 15)))) + ((stN sc i) ((16 + i) - 16)))) hs) := hD
    refine lv_iinc (pc := 98) (v := nI ((16 + i) + 1)) (lv' := [(1, .int (nI ((16 + i) + 1))), (5, .int (sS0 (stN sc i (16 + i - 15)))), (4, .int (sS1 (stN sc i (16 + i - 2)))), (3, .int ((stN sc i) ((16 + i) - 15))), (2, .int ((stN sc i) ((16 + i) - 2))), (0, .ref a7)]) hx hb dX1_stretchSchedule_98 hl (k := 4) rfl (nI_inc (16 + i) 1) (by decide) rfl (fun ls hl => ?_)
    refine lv_goto (pc := 101) (tgt := 3) hx hb dX1_stretchSchedule_101 (by decide) ?_
    have hP : va_P (dC, dI) vwCl (sW a7 a8 a9 cI (stN sc (i + 1)) hs) _ := hP
    have hD : va_D A (sW a7 a8 a9 cI (stN sc (i + 1)) hs) := hD
    exact ih3 (i + 1) H locs ls (by omega) (by first | omega | (simp only []; omega)) hP hD hS (lv_sub hl [0, 5] rfl)
set_option maxHeartbeats 4000000 in
set_option maxRecDepth 100000 in
theorem kX1_mixBlock (l : Launch) (dC : Nat → ClassId) (dI : Nat → Nat → Nat) (tt : Nat → Nat) (cI cB : ClassId) (sz : Nat) (a7 a8 a9 : Nat) (sc hs : Nat → Int32)  : MetV (S := (Nat → Int32)) l yX1_mixBlock wsX1_mixBlock { frames := 1, cells := 0, slots := 0, locals := 21 } (dC, dI) [(cI, .int), (cB, .byte)] tt [] sz (sW a7 a8 a9 cI sc hs) [.ref a7] (fun u : (Nat → Int32) => sW a7 a8 a9 cI sc u) (fun u => u = addH hs (mixN sc 64 (of8 hs))) := by
  refine Met.ofW (cc := cX1_mixBlock) (maxL := 14) (ret := none) (by decide) rfl ?_
  intro p e s m args below meth c s₁ B hml hv
  obtain ⟨rfl, hsz, hP, hK, hD0, hE⟩ := hv
  have hx := B.exec
  have hb := B.bytes
  have hr := B.returns
  have hts := atoms_spec (ws := wsX1_mixBlock) B.pre
  have hown : s.vm.findClass RX1 = some m.cls := findClass_of_methodNamed B.named
  have hlocks := B.notSynchronized
  subst hsz
  have hD := hD0.self (sz := s.heap.size)
  generalize hAe : va_A (sW a7 a8 a9 cI sc hs) s.heap.size = A at hD hE ⊢
  have hA : ∀ q : Nat, s.heap.size ≤ q → A q := fun q h => by rw [← hAe]; exact Or.inr h
  have hS : va_S A s.heap s.heap [] := va_S.rf
  have hl := lv_entry ([.ref a7]) (n := 14) (Nat.le_of_ble_eq_true rfl)
  rw [lg_entry_eq]
  generalize (lg_sl ([.ref a7]) ++ List.replicate (14 - (lg_sl ([.ref a7])).length) Slot.unset).toArray = ls at hl ⊢
  have hl : lv_has ls 14 [(0, .ref a7)] := hl
  have hP : va_P (dC, dI) vwCl (sW a7 a8 a9 cI sc hs) s.heap := hP
  refine lv_aload_n (pc := 0) hx hb dX1_mixBlock_0 rfl (lv_at hl 0 rfl) ?_
  refine va_get (pc := 1) (D := (dC, dI)) (ci := 1) (v := .ref a9) (C := RX1) (T := TX1) (N := 2) hx hb hts (by decide +kernel) hown hK hP 0 rfl rfl 1 (by decide) (hts (.fieldLink RX1 15 "ScratchSwap$Sha256" "hash" "[I") (by decide +kernel)) (fun _ h9 => h9) rfl dX1_mixBlock_1 ?_
  refine lv_iconst (pc := 4) (v := nI 0) hx hb dX1_mixBlock_4 (by decide) ?_
  refine x_iald (pc := 5) (k := 0) (f := hs) hx hb hK hP 2 0 rfl rfl (by omega) (by decide) dX1_mixBlock_5 ?_
  refine lv_istore_n (pc := 6) (lv' := [(1, .int (hs 0)), (0, .ref a7)]) hx hb dX1_mixBlock_6 rfl hl (by decide) rfl (fun ls hl => ?_)
  refine lv_aload_n (pc := 7) hx hb dX1_mixBlock_7 rfl (lv_at hl 1 rfl) ?_
  refine va_get (pc := 8) (D := (dC, dI)) (ci := 1) (v := .ref a9) (C := RX1) (T := TX1) (N := 2) hx hb hts (by decide +kernel) hown hK hP 0 rfl rfl 1 (by decide) (hts (.fieldLink RX1 15 "ScratchSwap$Sha256" "hash" "[I") (by decide +kernel)) (fun _ h9 => h9) rfl dX1_mixBlock_8 ?_
  refine lv_iconst (pc := 11) (v := nI 1) hx hb dX1_mixBlock_11 (by decide) ?_
  refine x_iald (pc := 12) (k := 1) (f := hs) hx hb hK hP 2 0 rfl rfl (by omega) (by decide) dX1_mixBlock_12 ?_
  refine lv_istore_n (pc := 13) (lv' := [(2, .int (hs 1)), (1, .int (hs 0)), (0, .ref a7)]) hx hb dX1_mixBlock_13 rfl hl (by decide) rfl (fun ls hl => ?_)
  refine lv_aload_n (pc := 14) hx hb dX1_mixBlock_14 rfl (lv_at hl 2 rfl) ?_
  refine va_get (pc := 15) (D := (dC, dI)) (ci := 1) (v := .ref a9) (C := RX1) (T := TX1) (N := 2) hx hb hts (by decide +kernel) hown hK hP 0 rfl rfl 1 (by decide) (hts (.fieldLink RX1 15 "ScratchSwap$Sha256" "hash" "[I") (by decide +kernel)) (fun _ h9 => h9) rfl dX1_mixBlock_15 ?_
  refine lv_iconst (pc := 18) (v := nI 2) hx hb dX1_mixBlock_18 (by decide) ?_
  refine x_iald (pc := 19) (k := 2) (f := hs) hx hb hK hP 2 0 rfl rfl (by omega) (by decide) dX1_mixBlock_19 ?_
  refine lv_istore_n (pc := 20) (lv' := [(3, .int (hs 2)), (2, .int (hs 1)), (1, .int (hs 0)), (0, .ref a7)]) hx hb dX1_mixBlock_20 rfl hl (by decide) rfl (fun ls hl => ?_)
  refine lv_aload_n (pc := 21) hx hb dX1_mixBlock_21 rfl (lv_at hl 3 rfl) ?_
  refine va_get (pc := 22) (D := (dC, dI)) (ci := 1) (v := .ref a9) (C := RX1) (T := TX1) (N := 2) hx hb hts (by decide +kernel) hown hK hP 0 rfl rfl 1 (by decide) (hts (.fieldLink RX1 15 "ScratchSwap$Sha256" "hash" "[I") (by decide +kernel)) (fun _ h9 => h9) rfl dX1_mixBlock_22 ?_
  refine lv_iconst (pc := 25) (v := nI 3) hx hb dX1_mixBlock_25 (by decide) ?_
  refine x_iald (pc := 26) (k := 3) (f := hs) hx hb hK hP 2 0 rfl rfl (by omega) (by decide) dX1_mixBlock_26 ?_
  refine lv_istore (pc := 27) (lv' := [(4, .int (hs 3)), (3, .int (hs 2)), (2, .int (hs 1)), (1, .int (hs 0)), (0, .ref a7)]) hx hb dX1_mixBlock_27 hl (by decide) rfl (fun ls hl => ?_)
  refine lv_aload_n (pc := 29) hx hb dX1_mixBlock_29 rfl (lv_at hl 4 rfl) ?_
  refine va_get (pc := 30) (D := (dC, dI)) (ci := 1) (v := .ref a9) (C := RX1) (T := TX1) (N := 2) hx hb hts (by decide +kernel) hown hK hP 0 rfl rfl 1 (by decide) (hts (.fieldLink RX1 15 "ScratchSwap$Sha256" "hash" "[I") (by decide +kernel)) (fun _ h9 => h9) rfl dX1_mixBlock_30 ?_
  refine lv_iconst (pc := 33) (v := nI 4) hx hb dX1_mixBlock_33 (by decide) ?_
  refine x_iald (pc := 34) (k := 4) (f := hs) hx hb hK hP 2 0 rfl rfl (by omega) (by decide) dX1_mixBlock_34 ?_
  refine lv_istore (pc := 35) (lv' := [(5, .int (hs 4)), (4, .int (hs 3)), (3, .int (hs 2)), (2, .int (hs 1)), (1, .int (hs 0)), (0, .ref a7)]) hx hb dX1_mixBlock_35 hl (by decide) rfl (fun ls hl => ?_)
  refine lv_aload_n (pc := 37) hx hb dX1_mixBlock_37 rfl (lv_at hl 5 rfl) ?_
  refine va_get (pc := 38) (D := (dC, dI)) (ci := 1) (v := .ref a9) (C := RX1) (T := TX1) (N := 2) hx hb hts (by decide +kernel) hown hK hP 0 rfl rfl 1 (by decide) (hts (.fieldLink RX1 15 "ScratchSwap$Sha256" "hash" "[I") (by decide +kernel)) (fun _ h9 => h9) rfl dX1_mixBlock_38 ?_
  refine lv_iconst (pc := 41) (v := nI 5) hx hb dX1_mixBlock_41 (by decide) ?_
  refine x_iald (pc := 42) (k := 5) (f := hs) hx hb hK hP 2 0 rfl rfl (by omega) (by decide) dX1_mixBlock_42 ?_
  refine lv_istore (pc := 43) (lv' := [(6, .int (hs 5)), (5, .int (hs 4)), (4, .int (hs 3)), (3, .int (hs 2)), (2, .int (hs 1)), (1, .int (hs 0)), (0, .ref a7)]) hx hb dX1_mixBlock_43 hl (by decide) rfl (fun ls hl => ?_)
  refine lv_aload_n (pc := 45) hx hb dX1_mixBlock_45 rfl (lv_at hl 6 rfl) ?_
  refine va_get (pc := 46) (D := (dC, dI)) (ci := 1) (v := .ref a9) (C := RX1) (T := TX1) (N := 2) hx hb hts (by decide +kernel) hown hK hP 0 rfl rfl 1 (by decide) (hts (.fieldLink RX1 15 "ScratchSwap$Sha256" "hash" "[I") (by decide +kernel)) (fun _ h9 => h9) rfl dX1_mixBlock_46 ?_
  refine lv_bipush (pc := 49) (v := nI 6) hx hb dX1_mixBlock_49 (by decide) ?_
  refine x_iald (pc := 51) (k := 6) (f := hs) hx hb hK hP 2 0 rfl rfl (by omega) (by decide) dX1_mixBlock_51 ?_
  refine lv_istore (pc := 52) (lv' := [(7, .int (hs 6)), (6, .int (hs 5)), (5, .int (hs 4)), (4, .int (hs 3)), (3, .int (hs 2)), (2, .int (hs 1)), (1, .int (hs 0)), (0, .ref a7)]) hx hb dX1_mixBlock_52 hl (by decide) rfl (fun ls hl => ?_)
  refine lv_aload_n (pc := 54) hx hb dX1_mixBlock_54 rfl (lv_at hl 7 rfl) ?_
  refine va_get (pc := 55) (D := (dC, dI)) (ci := 1) (v := .ref a9) (C := RX1) (T := TX1) (N := 2) hx hb hts (by decide +kernel) hown hK hP 0 rfl rfl 1 (by decide) (hts (.fieldLink RX1 15 "ScratchSwap$Sha256" "hash" "[I") (by decide +kernel)) (fun _ h9 => h9) rfl dX1_mixBlock_55 ?_
  refine lv_bipush (pc := 58) (v := nI 7) hx hb dX1_mixBlock_58 (by decide) ?_
  refine x_iald (pc := 60) (k := 7) (f := hs) hx hb hK hP 2 0 rfl rfl (by omega) (by decide) dX1_mixBlock_60 ?_
  refine lv_istore (pc := 61) (lv' := [(8, .int (hs 7)), (7, .int (hs 6)), (6, .int (hs 5)), (5, .int (hs 4)), (4, .int (hs 3)), (3, .int (hs 2)), (2, .int (hs 1)), (1, .int (hs 0)), (0, .ref a7)]) hx hb dX1_mixBlock_61 hl (by decide) rfl (fun ls hl => ?_)
  refine lv_iconst (pc := 63) (v := nI 0) hx hb dX1_mixBlock_63 (by decide) ?_
  refine lv_istore (pc := 64) (lv' := [(9, .int (nI 0)), (8, .int (hs 7)), (7, .int (hs 6)), (6, .int (hs 5)), (5, .int (hs 4)), (4, .int (hs 3)), (3, .int (hs 2)), (2, .int (hs 1)), (1, .int (hs 0)), (0, .ref a7)]) hx hb dX1_mixBlock_64 hl (by decide) rfl (fun ls hl => ?_)
  refine x_loop (σ := (Nat) × (Int32) × (Int32) × (Int32) × (Int32) × (Int32) × (Int32) × (Int32) × (Int32)) (Wd := fun x : (Nat) × (Int32) × (Int32) × (Int32) × (Int32) × (Int32) × (Int32) × (Int32) × (Int32) => match x with | (i, va, vb, vc, vd, ve, vf, vg, vh) => sW a7 a8 a9 cI sc hs) (Lv := fun x : (Nat) × (Int32) × (Int32) × (Int32) × (Int32) × (Int32) × (Int32) × (Int32) × (Int32) => match x with | (i, va, vb, vc, vd, ve, vf, vg, vh) => [(9, .int (nI i)), (8, .int vh), (7, .int vg), (6, .int vf), (5, .int ve), (4, .int vd), (3, .int vc), (2, .int vb), (1, .int va), (0, .ref a7)]) (I := fun x : (Nat) × (Int32) × (Int32) × (Int32) × (Int32) × (Int32) × (Int32) × (Int32) × (Int32) => match x with | (i, va, vb, vc, vd, ve, vf, vg, vh) => (i ≤ 64) ∧ ((va, vb, vc, vd, ve, vf, vg, vh) = mixN sc i (of8 hs))) (μ := fun x : (Nat) × (Int32) × (Int32) × (Int32) × (Int32) × (Int32) × (Int32) × (Int32) × (Int32) => match x with | (i, va, vb, vc, vd, ve, vf, vg, vh) => 64 - i) ?_ (0, hs 0, hs 1, hs 2, hs 3, hs 4, hs 5, hs 6, hs 7) ⟨by omega, rfl⟩ hP hD hS (lv_sub hl [0, 1, 2, 3, 4, 5, 6, 7, 8, 9] rfl)
  intro x H locs ls hI hP hD hS hl ih66
  obtain ⟨i, va, vb, vc, vd, ve, vf, vg, vh⟩ := x
  obtain ⟨hi, hq⟩ : (i ≤ 64) ∧ ((va, vb, vc, vd, ve, vf, vg, vh) = mixN sc i (of8 hs)) := hI
  have hP : va_P (dC, dI) vwCl (sW a7 a8 a9 cI sc hs) _ := hP
  have hD : va_D A (sW a7 a8 a9 cI sc hs) := hD
  have hl : lv_has ls 14 [(9, .int (nI i)), (8, .int vh), (7, .int vg), (6, .int vf), (5, .int ve), (4, .int vd), (3, .int vc), (2, .int vb), (1, .int va), (0, .ref a7)] := hl
  refine lv_iload (pc := 66) hx hb dX1_mixBlock_66 (lv_at hl 0 rfl) ?_
  refine lv_bipush (pc := 68) (v := nI 64) hx hb dX1_mixBlock_68 (by decide) ?_
  refine lv_icmp_ge (pc := 70) (tgt := 209) hx hb dX1_mixBlock_70 (by decide) (fun c_1 => ?_) (fun c_1 => ?_)
  · skip
    have c_1 : 64 ≤ i := (nI_leI (a := 64) (b := i) (by omega) (by omega)).mp c_1
    refine lv_aload_n (pc := 209) hx hb dX1_mixBlock_209 rfl (lv_at hl 9 rfl) ?_
    refine va_get (pc := 210) (D := (dC, dI)) (ci := 1) (v := .ref a9) (C := RX1) (T := TX1) (N := 2) hx hb hts (by decide +kernel) hown hK hP 0 rfl rfl 1 (by decide) (hts (.fieldLink RX1 15 "ScratchSwap$Sha256" "hash" "[I") (by decide +kernel)) (fun _ h9 => h9) rfl dX1_mixBlock_210 ?_
    refine lv_iconst (pc := 213) (v := nI 0) hx hb dX1_mixBlock_213 (by decide) ?_
    refine lv_dup2_11 (pc := 214) hx hb dX1_mixBlock_214 rfl rfl ?_
    refine x_iald (pc := 215) (k := 0) (f := hs) hx hb hK hP 2 0 rfl rfl (by omega) (by decide) dX1_mixBlock_215 ?_
    refine lv_cv (show _ = hs 0 from rfl) ?_
    refine lv_iload_n (pc := 216) hx hb dX1_mixBlock_216 rfl (lv_at hl 8 rfl) ?_
    refine lv_iadd (pc := 217) hx hb dX1_mixBlock_217 ?_
    refine x_iast (pc := 218) (k := 0) (f := hs) hx hb hK hP hD hS 2 0 rfl rfl (by omega) (by decide) dX1_mixBlock_218 (fun H locs hP hD hS => ?_)
    have hP : va_P (dC, dI) vwCl (sW a7 a8 a9 cI sc (upd hs 0 ((hs 0) + va))) _ := hP
    have hD : va_D A (sW a7 a8 a9 cI sc (upd hs 0 ((hs 0) + va))) := hD
    refine lv_aload_n (pc := 219) hx hb dX1_mixBlock_219 rfl (lv_at hl 9 rfl) ?_
    refine va_get (pc := 220) (D := (dC, dI)) (ci := 1) (v := .ref a9) (C := RX1) (T := TX1) (N := 2) hx hb hts (by decide +kernel) hown hK hP 0 rfl rfl 1 (by decide) (hts (.fieldLink RX1 15 "ScratchSwap$Sha256" "hash" "[I") (by decide +kernel)) (fun _ h9 => h9) rfl dX1_mixBlock_220 ?_
    refine lv_iconst (pc := 223) (v := nI 1) hx hb dX1_mixBlock_223 (by decide) ?_
    refine lv_dup2_11 (pc := 224) hx hb dX1_mixBlock_224 rfl rfl ?_
    refine x_iald (pc := 225) (k := 1) (f := upd hs 0 ((hs 0) + va)) hx hb hK hP 2 0 rfl rfl (by omega) (by decide) dX1_mixBlock_225 ?_
    refine lv_cv (show _ = hs 1 from rfl) ?_
    refine lv_iload_n (pc := 226) hx hb dX1_mixBlock_226 rfl (lv_at hl 7 rfl) ?_
    refine lv_iadd (pc := 227) hx hb dX1_mixBlock_227 ?_
    refine x_iast (pc := 228) (k := 1) (f := upd hs 0 ((hs 0) + va)) hx hb hK hP hD hS 2 0 rfl rfl (by omega) (by decide) dX1_mixBlock_228 (fun H locs hP hD hS => ?_)
    have hP : va_P (dC, dI) vwCl (sW a7 a8 a9 cI sc (upd (upd hs 0 ((hs 0) + va)) 1 ((hs 1) + vb))) _ := hP
    have hD : va_D A (sW a7 a8 a9 cI sc (upd (upd hs 0 ((hs 0) + va)) 1 ((hs 1) + vb))) := hD
    refine lv_aload_n (pc := 229) hx hb dX1_mixBlock_229 rfl (lv_at hl 9 rfl) ?_
    refine va_get (pc := 230) (D := (dC, dI)) (ci := 1) (v := .ref a9) (C := RX1) (T := TX1) (N := 2) hx hb hts (by decide +kernel) hown hK hP 0 rfl rfl 1 (by decide) (hts (.fieldLink RX1 15 "ScratchSwap$Sha256" "hash" "[I") (by decide +kernel)) (fun _ h9 => h9) rfl dX1_mixBlock_230 ?_
    refine lv_iconst (pc := 233) (v := nI 2) hx hb dX1_mixBlock_233 (by decide) ?_
    refine lv_dup2_11 (pc := 234) hx hb dX1_mixBlock_234 rfl rfl ?_
    refine x_iald (pc := 235) (k := 2) (f := upd (upd hs 0 ((hs 0) + va)) 1 ((hs 1) + vb)) hx hb hK hP 2 0 rfl rfl (by omega) (by decide) dX1_mixBlock_235 ?_
    refine lv_cv (show _ = hs 2 from rfl) ?_
    refine lv_iload_n (pc := 236) hx hb dX1_mixBlock_236 rfl (lv_at hl 6 rfl) ?_
    refine lv_iadd (pc := 237) hx hb dX1_mixBlock_237 ?_
    refine x_iast (pc := 238) (k := 2) (f := upd (upd hs 0 ((hs 0) + va)) 1 ((hs 1) + vb)) hx hb hK hP hD hS 2 0 rfl rfl (by omega) (by decide) dX1_mixBlock_238 (fun H locs hP hD hS => ?_)
    have hP : va_P (dC, dI) vwCl (sW a7 a8 a9 cI sc (upd (upd (upd hs 0 ((hs 0) + va)) 1 ((hs 1) + vb)) 2 ((hs 2) + vc))) _ := hP
    have hD : va_D A (sW a7 a8 a9 cI sc (upd (upd (upd hs 0 ((hs 0) + va)) 1 ((hs 1) + vb)) 2 ((hs 2) + vc))) := hD
    refine lv_aload_n (pc := 239) hx hb dX1_mixBlock_239 rfl (lv_at hl 9 rfl) ?_
    refine va_get (pc := 240) (D := (dC, dI)) (ci := 1) (v := .ref a9) (C := RX1) (T := TX1) (N := 2) hx hb hts (by decide +kernel) hown hK hP 0 rfl rfl 1 (by decide) (hts (.fieldLink RX1 15 "ScratchSwap$Sha256" "hash" "[I") (by decide +kernel)) (fun _ h9 => h9) rfl dX1_mixBlock_240 ?_
    refine lv_iconst (pc := 243) (v := nI 3) hx hb dX1_mixBlock_243 (by decide) ?_
    refine lv_dup2_11 (pc := 244) hx hb dX1_mixBlock_244 rfl rfl ?_
    refine x_iald (pc := 245) (k := 3) (f := upd (upd (upd hs 0 ((hs 0) + va)) 1 ((hs 1) + vb)) 2 ((hs 2) + vc)) hx hb hK hP 2 0 rfl rfl (by omega) (by decide) dX1_mixBlock_245 ?_
    refine lv_cv (show _ = hs 3 from rfl) ?_
    refine lv_iload (pc := 246) hx hb dX1_mixBlock_246 (lv_at hl 5 rfl) ?_
    refine lv_iadd (pc := 248) hx hb dX1_mixBlock_248 ?_
    refine x_iast (pc := 249) (k := 3) (f := upd (upd (upd hs 0 ((hs 0) + va)) 1 ((hs 1) + vb)) 2 ((hs 2) + vc)) hx hb hK hP hD hS 2 0 rfl rfl (by omega) (by decide) dX1_mixBlock_249 (fun H locs hP hD hS => ?_)
    have hP : va_P (dC, dI) vwCl (sW a7 a8 a9 cI sc (upd (upd (upd (upd hs 0 ((hs 0) + va)) 1 ((hs 1) + vb)) 2 ((hs 2) + vc)) 3 ((hs 3) + vd))) _ := hP
    have hD : va_D A (sW a7 a8 a9 cI sc (upd (upd (upd (upd hs 0 ((hs 0) + va)) 1 ((hs 1) + vb)) 2 ((hs 2) + vc)) 3 ((hs 3) + vd))) := hD
    refine lv_aload_n (pc := 250) hx hb dX1_mixBlock_250 rfl (lv_at hl 9 rfl) ?_
    refine va_get (pc := 251) (D := (dC, dI)) (ci := 1) (v := .ref a9) (C := RX1) (T := TX1) (N := 2) hx hb hts (by decide +kernel) hown hK hP 0 rfl rfl 1 (by decide) (hts (.fieldLink RX1 15 "ScratchSwap$Sha256" "hash" "[I") (by decide +kernel)) (fun _ h9 => h9) rfl dX1_mixBlock_251 ?_
    refine lv_iconst (pc := 254) (v := nI 4) hx hb dX1_mixBlock_254 (by decide) ?_
    refine lv_dup2_11 (pc := 255) hx hb dX1_mixBlock_255 rfl rfl ?_
    refine x_iald (pc := 256) (k := 4) (f := upd (upd (upd (upd hs 0 ((hs 0) + va)) 1 ((hs 1) + vb)) 2 ((hs 2) + vc)) 3 ((hs 3) + vd)) hx hb hK hP 2 0 rfl rfl (by omega) (by decide) dX1_mixBlock_256 ?_
    refine lv_cv (show _ = hs 4 from rfl) ?_
    refine lv_iload (pc := 257) hx hb dX1_mixBlock_257 (lv_at hl 4 rfl) ?_
    refine lv_iadd (pc := 259) hx hb dX1_mixBlock_259 ?_
    refine x_iast (pc := 260) (k := 4) (f := upd (upd (upd (upd hs 0 ((hs 0) + va)) 1 ((hs 1) + vb)) 2 ((hs 2) + vc)) 3 ((hs 3) + vd)) hx hb hK hP hD hS 2 0 rfl rfl (by omega) (by decide) dX1_mixBlock_260 (fun H locs hP hD hS => ?_)
    have hP : va_P (dC, dI) vwCl (sW a7 a8 a9 cI sc (upd (upd (upd (upd (upd hs 0 ((hs 0) + va)) 1 ((hs 1) + vb)) 2 ((hs 2) + vc)) 3 ((hs 3) + vd)) 4 ((hs 4) + ve))) _ := hP
    have hD : va_D A (sW a7 a8 a9 cI sc (upd (upd (upd (upd (upd hs 0 ((hs 0) + va)) 1 ((hs 1) + vb)) 2 ((hs 2) + vc)) 3 ((hs 3) + vd)) 4 ((hs 4) + ve))) := hD
    refine lv_aload_n (pc := 261) hx hb dX1_mixBlock_261 rfl (lv_at hl 9 rfl) ?_
    refine va_get (pc := 262) (D := (dC, dI)) (ci := 1) (v := .ref a9) (C := RX1) (T := TX1) (N := 2) hx hb hts (by decide +kernel) hown hK hP 0 rfl rfl 1 (by decide) (hts (.fieldLink RX1 15 "ScratchSwap$Sha256" "hash" "[I") (by decide +kernel)) (fun _ h9 => h9) rfl dX1_mixBlock_262 ?_
    refine lv_iconst (pc := 265) (v := nI 5) hx hb dX1_mixBlock_265 (by decide) ?_
    refine lv_dup2_11 (pc := 266) hx hb dX1_mixBlock_266 rfl rfl ?_
    refine x_iald (pc := 267) (k := 5) (f := upd (upd (upd (upd (upd hs 0 ((hs 0) + va)) 1 ((hs 1) + vb)) 2 ((hs 2) + vc)) 3 ((hs 3) + vd)) 4 ((hs 4) + ve)) hx hb hK hP 2 0 rfl rfl (by omega) (by decide) dX1_mixBlock_267 ?_
    refine lv_cv (show _ = hs 5 from rfl) ?_
    refine lv_iload (pc := 268) hx hb dX1_mixBlock_268 (lv_at hl 3 rfl) ?_
    refine lv_iadd (pc := 270) hx hb dX1_mixBlock_270 ?_
    refine x_iast (pc := 271) (k := 5) (f := upd (upd (upd (upd (upd hs 0 ((hs 0) + va)) 1 ((hs 1) + vb)) 2 ((hs 2) + vc)) 3 ((hs 3) + vd)) 4 ((hs 4) + ve)) hx hb hK hP hD hS 2 0 rfl rfl (by omega) (by decide) dX1_mixBlock_271 (fun H locs hP hD hS => ?_)
    have hP : va_P (dC, dI) vwCl (sW a7 a8 a9 cI sc (upd (upd (upd (upd (upd (upd hs 0 ((hs 0) + va)) 1 ((hs 1) + vb)) 2 ((hs 2) + vc)) 3 ((hs 3) + vd)) 4 ((hs 4) + ve)) 5 ((hs 5) + vf))) _ := hP
    have hD : va_D A (sW a7 a8 a9 cI sc (upd (upd (upd (upd (upd (upd hs 0 ((hs 0) + va)) 1 ((hs 1) + vb)) 2 ((hs 2) + vc)) 3 ((hs 3) + vd)) 4 ((hs 4) + ve)) 5 ((hs 5) + vf))) := hD
    refine lv_aload_n (pc := 272) hx hb dX1_mixBlock_272 rfl (lv_at hl 9 rfl) ?_
    refine va_get (pc := 273) (D := (dC, dI)) (ci := 1) (v := .ref a9) (C := RX1) (T := TX1) (N := 2) hx hb hts (by decide +kernel) hown hK hP 0 rfl rfl 1 (by decide) (hts (.fieldLink RX1 15 "ScratchSwap$Sha256" "hash" "[I") (by decide +kernel)) (fun _ h9 => h9) rfl dX1_mixBlock_273 ?_
    refine lv_bipush (pc := 276) (v := nI 6) hx hb dX1_mixBlock_276 (by decide) ?_
    refine lv_dup2_11 (pc := 278) hx hb dX1_mixBlock_278 rfl rfl ?_
    refine x_iald (pc := 279) (k := 6) (f := upd (upd (upd (upd (upd (upd hs 0 ((hs 0) + va)) 1 ((hs 1) + vb)) 2 ((hs 2) + vc)) 3 ((hs 3) + vd)) 4 ((hs 4) + ve)) 5 ((hs 5) + vf)) hx hb hK hP 2 0 rfl rfl (by omega) (by decide) dX1_mixBlock_279 ?_
    refine lv_cv (show _ = hs 6 from rfl) ?_
    refine lv_iload (pc := 280) hx hb dX1_mixBlock_280 (lv_at hl 2 rfl) ?_
    refine lv_iadd (pc := 282) hx hb dX1_mixBlock_282 ?_
    refine x_iast (pc := 283) (k := 6) (f := upd (upd (upd (upd (upd (upd hs 0 ((hs 0) + va)) 1 ((hs 1) + vb)) 2 ((hs 2) + vc)) 3 ((hs 3) + vd)) 4 ((hs 4) + ve)) 5 ((hs 5) + vf)) hx hb hK hP hD hS 2 0 rfl rfl (by omega) (by decide) dX1_mixBlock_283 (fun H locs hP hD hS => ?_)
    have hP : va_P (dC, dI) vwCl (sW a7 a8 a9 cI sc (upd (upd (upd (upd (upd (upd (upd hs 0 ((hs 0) + va)) 1 ((hs 1) + vb)) 2 ((hs 2) + vc)) 3 ((hs 3) + vd)) 4 ((hs 4) + ve)) 5 ((hs 5) + vf)) 6 ((hs 6) + vg))) _ := hP
    have hD : va_D A (sW a7 a8 a9 cI sc (upd (upd (upd (upd (upd (upd (upd hs 0 ((hs 0) + va)) 1 ((hs 1) + vb)) 2 ((hs 2) + vc)) 3 ((hs 3) + vd)) 4 ((hs 4) + ve)) 5 ((hs 5) + vf)) 6 ((hs 6) + vg))) := hD
    refine lv_aload_n (pc := 284) hx hb dX1_mixBlock_284 rfl (lv_at hl 9 rfl) ?_
    refine va_get (pc := 285) (D := (dC, dI)) (ci := 1) (v := .ref a9) (C := RX1) (T := TX1) (N := 2) hx hb hts (by decide +kernel) hown hK hP 0 rfl rfl 1 (by decide) (hts (.fieldLink RX1 15 "ScratchSwap$Sha256" "hash" "[I") (by decide +kernel)) (fun _ h9 => h9) rfl dX1_mixBlock_285 ?_
    refine lv_bipush (pc := 288) (v := nI 7) hx hb dX1_mixBlock_288 (by decide) ?_
    refine lv_dup2_11 (pc := 290) hx hb dX1_mixBlock_290 rfl rfl ?_
    refine x_iald (pc := 291) (k := 7) (f := upd (upd (upd (upd (upd (upd (upd hs 0 ((hs 0) + va)) 1 ((hs 1) + vb)) 2 ((hs 2) + vc)) 3 ((hs 3) + vd)) 4 ((hs 4) + ve)) 5 ((hs 5) + vf)) 6 ((hs 6) + vg)) hx hb hK hP 2 0 rfl rfl (by omega) (by decide) dX1_mixBlock_291 ?_
    refine lv_cv (show _ = hs 7 from rfl) ?_
    refine lv_iload (pc := 292) hx hb dX1_mixBlock_292 (lv_at hl 1 rfl) ?_
    refine lv_iadd (pc := 294) hx hb dX1_mixBlock_294 ?_
    refine x_iast (pc := 295) (k := 7) (f := upd (upd (upd (upd (upd (upd (upd hs 0 ((hs 0) + va)) 1 ((hs 1) + vb)) 2 ((hs 2) + vc)) 3 ((hs 3) + vd)) 4 ((hs 4) + ve)) 5 ((hs 5) + vf)) 6 ((hs 6) + vg)) hx hb hK hP hD hS 2 0 rfl rfl (by omega) (by decide) dX1_mixBlock_295 (fun H locs hP hD hS => ?_)
    have hP : va_P (dC, dI) vwCl (sW a7 a8 a9 cI sc (upd (upd (upd (upd (upd (upd (upd (upd hs 0 ((hs 0) + va)) 1 ((hs 1) + vb)) 2 ((hs 2) + vc)) 3 ((hs 3) + vd)) 4 ((hs 4) + ve)) 5 ((hs 5) + vf)) 6 ((hs 6) + vg)) 7 ((hs 7) + vh))) _ := hP
    have hD : va_D A (sW a7 a8 a9 cI sc (upd (upd (upd (upd (upd (upd (upd (upd hs 0 ((hs 0) + va)) 1 ((hs 1) + vb)) 2 ((hs 2) + vc)) 3 ((hs 3) + vd)) 4 ((hs 4) + ve)) 5 ((hs 5) + vf)) 6 ((hs 6) + vg)) 7 ((hs 7) + vh))) := hD
    have hi9 : i = 64 := by omega
    rw [hi9] at hq
    exact W.vret hx hb hr (fun t ht hW => ⟨⟨upd (upd (upd (upd (upd (upd (upd (upd hs 0 ((hs 0) + va)) 1 ((hs 1) + vb)) 2 ((hs 2) + vc)) 3 ((hs 3) + vd)) 4 ((hs 4) + ve)) 5 ((hs 5) + vf)) 6 ((hs 6) + vg)) 7 ((hs 7) + vh), rfl, by rw [← hq]; rfl, by show va_P _ _ _ t.heap; rw [ht]; exact hP, va_K.moved hW.alike hK, hD⟩, hS.F ht⟩) hS.2.2 dX1_mixBlock_296
  · skip
    have c_1 : ¬ 64 ≤ i := fun z => c_1 ((nI_leI (a := 64) (b := i) (by omega) (by omega)).mpr z)
    refine lv_iload (pc := 73) hx hb dX1_mixBlock_73 (lv_at hl 4 rfl) ?_
    refine lv_iload (pc := 75) hx hb dX1_mixBlock_75 (lv_at hl 3 rfl) ?_
    refine lv_iand (pc := 77) hx hb dX1_mixBlock_77 ?_
    refine lv_iload (pc := 78) hx hb dX1_mixBlock_78 (lv_at hl 4 rfl) ?_
    refine lv_iconst (pc := 80) (v := (-1)) hx hb dX1_mixBlock_80 (by decide) ?_
    refine lv_ixor (pc := 81) hx hb dX1_mixBlock_81 ?_
    refine lv_iload (pc := 82) hx hb dX1_mixBlock_82 (lv_at hl 2 rfl) ?_
    refine lv_iand (pc := 84) hx hb dX1_mixBlock_84 ?_
    refine lv_ixor (pc := 85) hx hb dX1_mixBlock_85 ?_
    refine lv_istore (pc := 86) (lv' := [(10, .int ((ve &&& vf) ^^^ ((ve ^^^ (-1)) &&& vg))), (9, .int (nI i)), (8, .int vh), (7, .int vg), (6, .int vf), (5, .int ve), (4, .int vd), (3, .int vc), (2, .int vb), (1, .int va), (0, .ref a7)]) hx hb dX1_mixBlock_86 hl (by decide) rfl (fun ls hl => ?_)
    refine lv_iload_n (pc := 88) hx hb dX1_mixBlock_88 rfl (lv_at hl 9 rfl) ?_
    refine lv_iload_n (pc := 89) hx hb dX1_mixBlock_89 rfl (lv_at hl 8 rfl) ?_
    refine lv_iand (pc := 90) hx hb dX1_mixBlock_90 ?_
    refine lv_iload_n (pc := 91) hx hb dX1_mixBlock_91 rfl (lv_at hl 9 rfl) ?_
    refine lv_iload_n (pc := 92) hx hb dX1_mixBlock_92 rfl (lv_at hl 7 rfl) ?_
    refine lv_iand (pc := 93) hx hb dX1_mixBlock_93 ?_
    refine lv_ixor (pc := 94) hx hb dX1_mixBlock_94 ?_
    refine lv_iload_n (pc := 95) hx hb dX1_mixBlock_95 rfl (lv_at hl 8 rfl) ?_
    refine lv_iload_n (pc := 96) hx hb dX1_mixBlock_96 rfl (lv_at hl 7 rfl) ?_
    refine lv_iand (pc := 97) hx hb dX1_mixBlock_97 ?_
    refine lv_ixor (pc := 98) hx hb dX1_mixBlock_98 ?_
    refine lv_istore (pc := 99) (lv' := [(11, .int (((va &&& vb) ^^^ (va &&& vc)) ^^^ (vb &&& vc))), (10, .int ((ve &&& vf) ^^^ ((ve ^^^ (-1)) &&& vg))), (9, .int (nI i)), (8, .int vh), (7, .int vg), (6, .int vf), (5, .int ve), (4, .int vd), (3, .int vc), (2, .int vb), (1, .int va), (0, .ref a7)]) hx hb dX1_mixBlock_99 hl (by decide) rfl (fun ls hl => ?_)
    refine lv_iload (pc := 101) hx hb dX1_mixBlock_101 (lv_at hl 3 rfl) ?_
    refine lv_iload (pc := 103) hx hb dX1_mixBlock_103 (lv_at hl 6 rfl) ?_
    refine lv_bipush (pc := 105) (v := nI 6) hx hb dX1_mixBlock_105 (by decide) ?_
    refine x_roi (pc := 107) (va_runS (As := [.int ve, .int (nI 6)]) (rest := [.int vh]) ⟨hx, hb, hml, hown, hts⟩ (kX1_turn l dC dI tt cI cB _ ve 6 (by omega)) (va_cwS 2 hts gX1_mixBlock_X1_turn rfl rfl rfl (by decide +kernel) ⟨Nat.le_of_ble_eq_true rfl, Nat.le_of_ble_eq_true rfl⟩) (x_preS hS hE hK hP hD [] rfl (by decide) (x_ro hS hA) xR0) rfl rfl hl.1 rfl (lv_room (Nat.le_of_ble_eq_true rfl)) dX1_mixBlock_107 ⟨Nat.le_of_ble_eq_true rfl, Nat.le_of_ble_eq_true rfl⟩) hS hA hP (fun r_2 H locs hr_2 hP hS => ?_)
    subst hr_2
    refine lv_iload (pc := 110) hx hb dX1_mixBlock_110 (lv_at hl 6 rfl) ?_
    refine lv_bipush (pc := 112) (v := nI 11) hx hb dX1_mixBlock_112 (by decide) ?_
    refine x_roi (pc := 114) (va_runS (As := [.int ve, .int (nI 11)]) (rest := [.int (trn ve 6), .int vh]) ⟨hx, hb, hml, hown, hts⟩ (kX1_turn l dC dI tt cI cB _ ve 11 (by omega)) (va_cwS 2 hts gX1_mixBlock_X1_turn rfl rfl rfl (by decide +kernel) ⟨Nat.le_of_ble_eq_true rfl, Nat.le_of_ble_eq_true rfl⟩) (x_preS hS hE hK hP hD [] rfl (by decide) (x_ro hS hA) xR0) rfl rfl hl.1 rfl (lv_room (Nat.le_of_ble_eq_true rfl)) dX1_mixBlock_114 ⟨Nat.le_of_ble_eq_true rfl, Nat.le_of_ble_eq_true rfl⟩) hS hA hP (fun r_3 H locs hr_3 hP hS => ?_)
    subst hr_3
    refine lv_ixor (pc := 117) hx hb dX1_mixBlock_117 ?_
    refine lv_iload (pc := 118) hx hb dX1_mixBlock_118 (lv_at hl 6 rfl) ?_
    refine lv_bipush (pc := 120) (v := nI 25) hx hb dX1_mixBlock_120 (by decide) ?_
    refine x_roi (pc := 122) (va_runS (As := [.int ve, .int (nI 25)]) (rest := [.int ((trn ve 6) ^^^ (trn ve 11)), .int vh]) ⟨hx, hb, hml, hown, hts⟩ (kX1_turn l dC dI tt cI cB _ ve 25 (by omega)) (va_cwS 2 hts gX1_mixBlock_X1_turn rfl rfl rfl (by decide +kernel) ⟨Nat.le_of_ble_eq_true rfl, Nat.le_of_ble_eq_true rfl⟩) (x_preS hS hE hK hP hD [] rfl (by decide) (x_ro hS hA) xR0) rfl rfl hl.1 rfl (lv_room (Nat.le_of_ble_eq_true rfl)) dX1_mixBlock_122 ⟨Nat.le_of_ble_eq_true rfl, Nat.le_of_ble_eq_true rfl⟩) hS hA hP (fun r_4 H locs hr_4 hP hS => ?_)
    subst hr_4
    refine lv_ixor (pc := 125) hx hb dX1_mixBlock_125 ?_
    refine lv_iadd (pc := 126) hx hb dX1_mixBlock_126 ?_
    refine lv_iload (pc := 127) hx hb dX1_mixBlock_127 (lv_at hl 1 rfl) ?_
    refine lv_iadd (pc := 129) hx hb dX1_mixBlock_129 ?_
    refine va_gets (pc := 130) hx hb (hE.2.2.2.2.1).1 hS hown (hts (.fieldLink RX1 38 "ScratchSwap$Sha256" "ROUND_WORDS" "[I") (by decide +kernel)) (fun _ h9 => h9) dX1_mixBlock_130 ?_
    refine lv_iload (pc := 133) hx hb dX1_mixBlock_133 (lv_at hl 2 rfl) ?_
    refine x_ti (pc := 135) (k := i) hx hb (hE.2.2.2.2.1).2 hS (by omega) (by decide) dX1_mixBlock_135 ?_
    refine lv_iadd (pc := 136) hx hb dX1_mixBlock_136 ?_
    refine lv_aload_n (pc := 137) hx hb dX1_mixBlock_137 rfl (lv_at hl 11 rfl) ?_
    refine va_get (pc := 138) (D := (dC, dI)) (ci := 1) (v := .ref a8) (C := RX1) (T := TX1) (N := 2) hx hb hts (by decide +kernel) hown hK hP 0 rfl rfl 0 (by decide) (hts (.fieldLink RX1 11 "ScratchSwap$Sha256" "schedule" "[I") (by decide +kernel)) (fun _ h9 => h9) rfl dX1_mixBlock_138 ?_
    refine lv_iload (pc := 141) hx hb dX1_mixBlock_141 (lv_at hl 2 rfl) ?_
    refine x_iald (pc := 143) (k := i) (f := sc) hx hb hK hP 1 0 rfl rfl (by omega) (by decide) dX1_mixBlock_143 ?_
    refine lv_iadd (pc := 144) hx hb dX1_mixBlock_144 ?_
    refine lv_cv (show _ = one1 ve vf vg vh (tbR i) (sc i) from rfl) ?_
    refine lv_istore (pc := 145) (lv' := [(12, .int (one1 ve vf vg vh (tbR i) (sc i))), (11, .int (((va &&& vb) ^^^ (va &&& vc)) ^^^ (vb &&& vc))), (10, .int ((ve &&& vf) ^^^ ((ve ^^^ (-1)) &&& vg))), (9, .int (nI i)), (8, .int vh), (7, .int vg), (6, .int vf), (5, .int ve), (4, .int vd), (3, .int vc), (2, .int vb), (1, .int va), (0, .ref a7)]) hx hb dX1_mixBlock_145 hl (by decide) rfl (fun ls hl => ?_)
    refine lv_iload_n (pc := 147) hx hb dX1_mixBlock_147 rfl (lv_at hl 11 rfl) ?_
    refine lv_iconst (pc := 148) (v := nI 2) hx hb dX1_mixBlock_148 (by decide) ?_
    refine x_roi (pc := 149) (va_runS (As := [.int va, .int (nI 2)]) (rest := []) ⟨hx, hb, hml, hown, hts⟩ (kX1_turn l dC dI tt cI cB _ va 2 (by omega)) (va_cwS 2 hts gX1_mixBlock_X1_turn rfl rfl rfl (by decide +kernel) ⟨Nat.le_of_ble_eq_true rfl, Nat.le_of_ble_eq_true rfl⟩) (x_preS hS hE hK hP hD [] rfl (by decide) (x_ro hS hA) xR0) rfl rfl hl.1 rfl (lv_room (Nat.le_of_ble_eq_true rfl)) dX1_mixBlock_149 ⟨Nat.le_of_ble_eq_true rfl, Nat.le_of_ble_eq_true rfl⟩) hS hA hP (fun r_5 H locs hr_5 hP hS => ?_)
    subst hr_5
    refine lv_iload_n (pc := 152) hx hb dX1_mixBlock_152 rfl (lv_at hl 11 rfl) ?_
    refine lv_bipush (pc := 153) (v := nI 13) hx hb dX1_mixBlock_153 (by decide) ?_
    refine x_roi (pc := 155) (va_runS (As := [.int va, .int (nI 13)]) (rest := [.int (trn va 2)]) ⟨hx, hb, hml, hown, hts⟩ (kX1_turn l dC dI tt cI cB _ va 13 (by omega)) (va_cwS 2 hts gX1_mixBlock_X1_turn rfl rfl rfl (by decide +kernel) ⟨Nat.le_of_ble_eq_true rfl, Nat.le_of_ble_eq_true rfl⟩) (x_preS hS hE hK hP hD [] rfl (by decide) (x_ro hS hA) xR0) rfl rfl hl.1 rfl (lv_room (Nat.le_of_ble_eq_true rfl)) dX1_mixBlock_155 ⟨Nat.le_of_ble_eq_true rfl, Nat.le_of_ble_eq_true rfl⟩) hS hA hP (fun r_6 H locs hr_6 hP hS => ?_)
    subst hr_6
    refine lv_ixor (pc := 158) hx hb dX1_mixBlock_158 ?_
    refine lv_iload_n (pc := 159) hx hb dX1_mixBlock_159 rfl (lv_at hl 11 rfl) ?_
    refine lv_bipush (pc := 160) (v := nI 22) hx hb dX1_mixBlock_160 (by decide) ?_
    refine x_roi (pc := 162) (va_runS (As := [.int va, .int (nI 22)]) (rest := [.int ((trn va 2) ^^^ (trn va 13))]) ⟨hx, hb, hml, hown, hts⟩ (kX1_turn l dC dI tt cI cB _ va 22 (by omega)) (va_cwS 2 hts gX1_mixBlock_X1_turn rfl rfl rfl (by decide +kernel) ⟨Nat.le_of_ble_eq_true rfl, Nat.le_of_ble_eq_true rfl⟩) (x_preS hS hE hK hP hD [] rfl (by decide) (x_ro hS hA) xR0) rfl rfl hl.1 rfl (lv_room (Nat.le_of_ble_eq_true rfl)) dX1_mixBlock_162 ⟨Nat.le_of_ble_eq_true rfl, Nat.le_of_ble_eq_true rfl⟩) hS hA hP (fun r_7 H locs hr_7 hP hS => ?_)
    subst hr_7
    refine lv_ixor (pc := 165) hx hb dX1_mixBlock_165 ?_
    refine lv_iload (pc := 166) hx hb dX1_mixBlock_166 (lv_at hl 1 rfl) ?_
    refine lv_iadd (pc := 168) hx hb dX1_mixBlock_168 ?_
    refine lv_cv (show _ = two1 va vb vc from rfl) ?_
    refine lv_istore (pc := 169) (lv' := [(13, .int (two1 va vb vc)), (12, .int (one1 ve vf vg vh (tbR i) (sc i))), (11, .int (((va &&& vb) ^^^ (va &&& vc)) ^^^ (vb &&& vc))), (10, .int ((ve &&& vf) ^^^ ((ve ^^^ (-1)) &&& vg))), (9, .int (nI i)), (8, .int vh), (7, .int vg), (6, .int vf), (5, .int ve), (4, .int vd), (3, .int vc), (2, .int vb), (1, .int va), (0, .ref a7)]) hx hb dX1_mixBlock_169 hl (by decide) rfl (fun ls hl => ?_)
    refine lv_iload (pc := 171) hx hb dX1_mixBlock_171 (lv_at hl 6 rfl) ?_
    refine lv_istore (pc := 173) (lv' := [(8, .int vg), (13, .int (two1 va vb vc)), (12, .int (one1 ve vf vg vh (tbR i) (sc i))), (11, .int (((va &&& vb) ^^^ (va &&& vc)) ^^^ (vb &&& vc))), (10, .int ((ve &&& vf) ^^^ ((ve ^^^ (-1)) &&& vg))), (9, .int (nI i)), (7, .int vg), (6, .int vf), (5, .int ve), (4, .int vd), (3, .int vc), (2, .int vb), (1, .int va), (0, .ref a7)]) hx hb dX1_mixBlock_173 hl (by decide) rfl (fun ls hl => ?_)
    refine lv_iload (pc := 175) hx hb dX1_mixBlock_175 (lv_at hl 7 rfl) ?_
    refine lv_istore (pc := 177) (lv' := [(7, .int vf), (8, .int vg), (13, .int (two1 va vb vc)), (12, .int (one1 ve vf vg vh (tbR i) (sc i))), (11, .int (((va &&& vb) ^^^ (va &&& vc)) ^^^ (vb &&& vc))), (10, .int ((ve &&& vf) ^^^ ((ve ^^^ (-1)) &&& vg))), (9, .int (nI i)), (6, .int vf), (5, .int ve), (4, .int vd), (3, .int vc), (2, .int vb), (1, .int va), (0, .ref a7)]) hx hb dX1_mixBlock_177 hl (by decide) rfl (fun ls hl => ?_)
    refine lv_iload (pc := 179) hx hb dX1_mixBlock_179 (lv_at hl 8 rfl) ?_
    refine lv_istore (pc := 181) (lv' := [(6, .int ve), (7, .int vf), (8, .int vg), (13, .int (two1 va vb vc)), (12, .int (one1 ve vf vg vh (tbR i) (sc i))), (11, .int (((va &&& vb) ^^^ (va &&& vc)) ^^^ (vb &&& vc))), (10, .int ((ve &&& vf) ^^^ ((ve ^^^ (-1)) &&& vg))), (9, .int (nI i)), (5, .int ve), (4, .int vd), (3, .int vc), (2, .int vb), (1, .int va), (0, .ref a7)]) hx hb dX1_mixBlock_181 hl (by decide) rfl (fun ls hl => ?_)
    refine lv_iload (pc := 183) hx hb dX1_mixBlock_183 (lv_at hl 9 rfl) ?_
    refine lv_iload (pc := 185) hx hb dX1_mixBlock_185 (lv_at hl 4 rfl) ?_
    refine lv_iadd (pc := 187) hx hb dX1_mixBlock_187 ?_
    refine lv_istore (pc := 188) (lv' := [(5, .int (vd + (one1 ve vf vg vh (tbR i) (sc i)))), (6, .int ve), (7, .int vf), (8, .int vg), (13, .int (two1 va vb vc)), (12, .int (one1 ve vf vg vh (tbR i) (sc i))), (11, .int (((va &&& vb) ^^^ (va &&& vc)) ^^^ (vb &&& vc))), (10, .int ((ve &&& vf) ^^^ ((ve ^^^ (-1)) &&& vg))), (9, .int (nI i)), (4, .int vd), (3, .int vc), (2, .int vb), (1, .int va), (0, .ref a7)]) hx hb dX1_mixBlock_188 hl (by decide) rfl (fun ls hl => ?_)
    refine lv_iload_n (pc := 190) hx hb dX1_mixBlock_190 rfl (lv_at hl 10 rfl) ?_
    refine lv_istore (pc := 191) (lv' := [(4, .int vc), (5, .int (vd + (one1 ve vf vg vh (tbR i) (sc i)))), (6, .int ve), (7, .int vf), (8, .int vg), (13, .int (two1 va vb vc)), (12, .int (one1 ve vf vg vh (tbR i) (sc i))), (11, .int (((va &&& vb) ^^^ (va &&& vc)) ^^^ (vb &&& vc))), (10, .int ((ve &&& vf) ^^^ ((ve ^^^ (-1)) &&& vg))), (9, .int (nI i)), (3, .int vc), (2, .int vb), (1, .int va), (0, .ref a7)]) hx hb dX1_mixBlock_191 hl (by decide) rfl (fun ls hl => ?_)
    refine lv_iload_n (pc := 193) hx hb dX1_mixBlock_193 rfl (lv_at hl 11 rfl) ?_
    refine lv_istore_n (pc := 194) (lv' := [(3, .int vb), (4, .int vc), (5, .int (vd + (one1 ve vf vg vh (tbR i) (sc i)))), (6, .int ve), (7, .int vf), (8, .int vg), (13, .int (two1 va vb vc)), (12, .int (one1 ve vf vg vh (tbR i) (sc i))), (11, .int (((va &&& vb) ^^^ (va &&& vc)) ^^^ (vb &&& vc))), (10, .int ((ve &&& vf) ^^^ ((ve ^^^ (-1)) &&& vg))), (9, .int (nI i)), (2, .int vb), (1, .int va), (0, .ref a7)]) hx hb dX1_mixBlock_194 rfl hl (by decide) rfl (fun ls hl => ?_)
    refine lv_iload_n (pc := 195) hx hb dX1_mixBlock_195 rfl (lv_at hl 12 rfl) ?_
    refine lv_istore_n (pc := 196) (lv' := [(2, .int va), (3, .int vb), (4, .int vc), (5, .int (vd + (one1 ve vf vg vh (tbR i) (sc i)))), (6, .int ve), (7, .int vf), (8, .int vg), (13, .int (two1 va vb vc)), (12, .int (one1 ve vf vg vh (tbR i) (sc i))), (11, .int (((va &&& vb) ^^^ (va &&& vc)) ^^^ (vb &&& vc))), (10, .int ((ve &&& vf) ^^^ ((ve ^^^ (-1)) &&& vg))), (9, .int (nI i)), (1, .int va), (0, .ref a7)]) hx hb dX1_mixBlock_196 rfl hl (by decide) rfl (fun ls hl => ?_)
    refine lv_iload (pc := 197) hx hb dX1_mixBlock_197 (lv_at hl 8 rfl) ?_
    refine lv_iload (pc := 199) hx hb dX1_mixBlock_199 (lv_at hl 7 rfl) ?_
    refine lv_iadd (pc := 201) hx hb dX1_mixBlock_201 ?_
    refine lv_istore_n (pc := 202) (lv' := [(1, .int ((one1 ve vf vg vh (tbR i) (sc i)) + (two1 va vb vc))), (2, .int va), (3, .int vb), (4, .int vc), (5, .int (vd + (one1 ve vf vg vh (tbR i) (sc i)))), (6, .int ve), (7, .int vf), (8, .int vg), (13, .int (two1 va vb vc)), (12, .int (one1 ve vf vg vh (tbR i) (sc i))), (11, .int (((va &&& vb) ^^^ (va &&& vc)) ^^^ (vb &&& vc))), (10, .int ((ve &&& vf) ^^^ ((ve ^^^ (-1)) &&& vg))), (9, .int (nI i)), (0, .ref a7)]) hx hb dX1_mixBlock_202 rfl hl (by decide) rfl (fun ls hl => ?_)
    refine lv_iinc (pc := 203) (v := nI (i + 1)) (lv' := [(9, .int (nI (i + 1))), (1, .int ((one1 ve vf vg vh (tbR i) (sc i)) + (two1 va vb vc))), (2, .int va), (3, .int vb), (4, .int vc), (5, .int (vd + (one1 ve vf vg vh (tbR i) (sc i)))), (6, .int ve), (7, .int vf), (8, .int vg), (13, .int (two1 va vb vc)), (12, .int (one1 ve vf vg vh (tbR i) (sc i))), (11, .int (((va &&& vb) ^^^ (va &&& vc)) ^^^ (vb &&& vc))), (10, .int ((ve &&& vf) ^^^ ((ve ^^^ (-1)) &&& vg))), (0, .ref a7)]) hx hb dX1_mixBlock_203 hl (k := 12) rfl (nI_inc i 1) (by decide) rfl (fun ls hl => ?_)
    refine lv_goto (pc := 206) (tgt := 66) hx hb dX1_mixBlock_206 (by decide) ?_
    exact ih66 (i + 1, (one1 ve vf vg vh (tbR i) (sc i)) + (two1 va vb vc), va, vb, vc, vd + (one1 ve vf vg vh (tbR i) (sc i)), ve, vf, vg) H locs ls ⟨by omega, by rw [mixN_s, ← hq]; rfl⟩ (by first | omega | (simp only []; omega)) hP hD hS (lv_sub hl [0, 8, 7, 6, 5, 4, 3, 2, 1, 13] rfl)
end
section
set_option maxHeartbeats 4000000 in
set_option maxRecDepth 100000 in
theorem kX1_digest (l : Launch) (dC : Nat → ClassId) (dI : Nat → Nat → Nat) (tt : Nat → Nat) (cI cB : ClassId) (sz : Nat) (a7 a8 a9 : Nat) (sc hs : Nat → Int32) (t n : Nat) (G : Nat → Int8) (fi len : Nat) (hn : n < 2 ^ 30) (hfl : fi + len ≤ n) (hlen : len ≤ 1024) : MetV (S := ((Nat → Int32) × (Nat → Int32))) l yX1_digest wsX1_digest { frames := 2, cells := 0, slots := 0, locals := 54 } (dC, dI) [(cI, .int), (cB, .byte)] tt [(t, n, fun j => ub (G j))] sz (sW a7 a8 a9 cI sc hs) [.ref a7, .ref t, .int (nI fi), .int (nI len)] (fun u : ((Nat → Int32) × (Nat → Int32)) => sW a7 a8 a9 cI u.1 u.2) (fun u => of8 u.2 = sha8 G fi len) := by
  refine Met.ofW (cc := cX1_digest) (maxL := 7) (ret := none) (by decide) rfl ?_
  intro p e s m args below meth c s₁ B hml hv
  obtain ⟨rfl, hsz, hP, hK, hD0, hE⟩ := hv
  have hx := B.exec
  have hb := B.bytes
  have hr := B.returns
  have hts := atoms_spec (ws := wsX1_digest) B.pre
  have hown : s.vm.findClass RX1 = some m.cls := findClass_of_methodNamed B.named
  have hlocks := B.notSynchronized
  subst hsz
  have hD := hD0.self (sz := s.heap.size)
  generalize hAe : va_A (sW a7 a8 a9 cI sc hs) s.heap.size = A at hD hE ⊢
  have hA : ∀ q : Nat, s.heap.size ≤ q → A q := fun q h => by rw [← hAe]; exact Or.inr h
  have hS : va_S A s.heap s.heap [] := va_S.rf
  have hl := lv_entry ([.ref a7, .ref t, .int (nI fi), .int (nI len)]) (n := 7) (Nat.le_of_ble_eq_true rfl)
  rw [lg_entry_eq]
  generalize (lg_sl ([.ref a7, .ref t, .int (nI fi), .int (nI len)]) ++ List.replicate (7 - (lg_sl ([.ref a7, .ref t, .int (nI fi), .int (nI len)])).length) Slot.unset).toArray = ls at hl ⊢
  have hl : lv_has ls 7 [(0, .ref a7), (1, .ref t), (2, .int (nI fi)), (3, .int (nI len))] := hl
  have hP : va_P (dC, dI) vwCl (sW a7 a8 a9 cI sc hs) s.heap := hP
  have hT : va_T .int t n (fun j => .int (ub (G j))) A s s.heap := hE.2.2.2.2.2.2.2.2 _ List.mem_cons_self
  have hn0 := hn
  have hn : n < 2 ^ 31 := by omega
  refine lv_aload_n (pc := 0) hx hb dX1_digest_0 rfl (lv_at hl 1 rfl) ?_
  refine lv_ifnull (pc := 1) hx hb dX1_digest_1 ?_
  refine lv_iload_n (pc := 4) hx hb dX1_digest_4 rfl (lv_at hl 2 rfl) ?_
  refine lv_if_lt (pc := 5) (tgt := 27) hx hb dX1_digest_5 (by decide) (fun c1 => ?_) (fun c1 => ?_)
  · skip
    have c1 : fi < 0 := (nI_ltI (a := fi) (b := 0) (by omega) (by omega)).mp c1
    exfalso; omega
  · skip
    have c1 : ¬ fi < 0 := fun z => c1 ((nI_ltI (a := fi) (b := 0) (by omega) (by omega)).mpr z)
    refine lv_iload_n (pc := 8) hx hb dX1_digest_8 rfl (lv_at hl 3 rfl) ?_
    refine lv_if_lt (pc := 9) (tgt := 27) hx hb dX1_digest_9 (by decide) (fun c2 => ?_) (fun c2 => ?_)
    · skip
      have c2 : len < 0 := (nI_ltI (a := len) (b := 0) (by omega) (by omega)).mp c2
      exfalso; omega
    · skip
      have c2 : ¬ len < 0 := fun z => c2 ((nI_ltI (a := len) (b := 0) (by omega) (by omega)).mpr z)
      refine lv_iload_n (pc := 12) hx hb dX1_digest_12 rfl (lv_at hl 3 rfl) ?_
      refine lv_sipush (pc := 13) (v := nI 1024) hx hb dX1_digest_13 (by decide) ?_
      refine lv_icmp_gt (pc := 16) (tgt := 27) hx hb dX1_digest_16 (by decide) (fun c3 => ?_) (fun c3 => ?_)
      · skip
        have c3 : 1024 < len := (nI_ltI (a := 1024) (b := len) (by omega) (by omega)).mp c3
        exfalso; omega
      · skip
        have c3 : ¬ 1024 < len := fun z => c3 ((nI_ltI (a := 1024) (b := len) (by omega) (by omega)).mpr z)
        refine lv_iload_n (pc := 19) hx hb dX1_digest_19 rfl (lv_at hl 2 rfl) ?_
        refine lv_aload_n (pc := 20) hx hb dX1_digest_20 rfl (lv_at hl 1 rfl) ?_
        refine va_tlen (pc := 21) (v := nI n) hx hb hT hS rfl dX1_digest_21 ?_
        refine lv_iload_n (pc := 22) hx hb dX1_digest_22 rfl (lv_at hl 3 rfl) ?_
        refine lv_isub (pc := 23) hx hb dX1_digest_23 ?_
        refine lv_cv (pk_sub (a := n) (b := len) (by omega)) ?_
        refine lv_icmp_le (pc := 24) (tgt := 28) hx hb dX1_digest_24 (by decide) (fun c4 => ?_) (fun c4 => ?_)
        · skip
          have c4 : fi ≤ (n - len) := (nI_leI (a := fi) (b := (n - len)) (by omega) (by omega)).mp c4
          refine lv_iconst (pc := 28) (v := nI 0) hx hb dX1_digest_28 (by decide) ?_
          refine lv_istore (pc := 29) (lv' := [(4, .int (nI 0)), (0, .ref a7), (1, .ref t), (2, .int (nI fi)), (3, .int (nI len))]) hx hb dX1_digest_29 hl (by decide) rfl (fun ls hl => ?_)
          refine x_loop (σ := (Nat) × (Nat → Int32)) (Wd := fun x : (Nat) × (Nat → Int32) => match x with | (i, hs) => sW a7 a8 a9 cI sc hs) (Lv := fun x : (Nat) × (Nat → Int32) => match x with | (i, hs) => [(4, .int (nI i)), (0, .ref a7), (1, .ref t), (2, .int (nI fi)), (3, .int (nI len))]) (I := fun x : (Nat) × (Nat → Int32) => match x with | (i, hs) => (i ≤ 8) ∧ (∀ j, j < i → hs j = tbF j)) (μ := fun x : (Nat) × (Nat → Int32) => match x with | (i, hs) => 8 - i) ?_ (0, hs) ⟨by omega, fun j hj => absurd hj (Nat.not_lt_zero j)⟩ hP hD hS (lv_sub hl [0, 1, 2, 3, 4] rfl)
          intro x H locs ls hI hP hD hS hl ih31
          obtain ⟨i, hs⟩ := x
          obtain ⟨hi, hh⟩ : (i ≤ 8) ∧ (∀ j, j < i → hs j = tbF j) := hI
          have hP : va_P (dC, dI) vwCl (sW a7 a8 a9 cI sc hs) _ := hP
          have hD : va_D A (sW a7 a8 a9 cI sc hs) := hD
          have hl : lv_has ls 7 [(4, .int (nI i)), (0, .ref a7), (1, .ref t), (2, .int (nI fi)), (3, .int (nI len))] := hl
          refine lv_iload (pc := 31) hx hb dX1_digest_31 (lv_at hl 0 rfl) ?_
          refine lv_bipush (pc := 33) (v := nI 8) hx hb dX1_digest_33 (by decide) ?_
          refine lv_icmp_ge (pc := 35) (tgt := 57) hx hb dX1_digest_35 (by decide) (fun c_1 => ?_) (fun c_1 => ?_)
          · skip
            have c_1 : 8 ≤ i := (nI_leI (a := 8) (b := i) (by omega) (by omega)).mp c_1
            refine lv_iload_n (pc := 57) hx hb dX1_digest_57 rfl (lv_at hl 4 rfl) ?_
            refine lv_bipush (pc := 58) (v := nI 8) hx hb dX1_digest_58 (by decide) ?_
            refine lv_iadd (pc := 60) hx hb dX1_digest_60 ?_
            refine lv_cv (nI_add len 8) ?_
            refine lv_bipush (pc := 61) (v := nI 64) hx hb dX1_digest_61 (by decide) ?_
            refine lv_idiv (pc := 63) hx hb dX1_digest_63 (nI_ne0 (by omega) (by omega)) ?_
            refine lv_cv (pk_div (a := (len + 8)) (d := 64) (by omega) (by omega) (by omega)) ?_
            refine lv_iconst (pc := 64) (v := nI 1) hx hb dX1_digest_64 (by decide) ?_
            refine lv_iadd (pc := 65) hx hb dX1_digest_65 ?_
            refine lv_cv (nI_add ((len + 8) / 64) 1) ?_
            refine lv_istore (pc := 66) (lv' := [(4, .int (nI (((len + 8) / 64) + 1))), (0, .ref a7), (1, .ref t), (2, .int (nI fi)), (3, .int (nI len))]) hx hb dX1_digest_66 hl (by decide) rfl (fun ls hl => ?_)
            refine lv_iconst (pc := 68) (v := nI 0) hx hb dX1_digest_68 (by decide) ?_
            refine lv_istore (pc := 69) (lv' := [(5, .int (nI 0)), (4, .int (nI (((len + 8) / 64) + 1))), (0, .ref a7), (1, .ref t), (2, .int (nI fi)), (3, .int (nI len))]) hx hb dX1_digest_69 hl (by decide) rfl (fun ls hl => ?_)
            have ho0 : of8 hs = shaC (msgW G fi len) 0 := of8_F (fun j hj => hh j (by omega))
            refine x_loop (σ := (Nat) × (Nat → Int32) × (Nat → Int32)) (Wd := fun x : (Nat) × (Nat → Int32) × (Nat → Int32) => match x with | (b, sc, hs) => sW a7 a8 a9 cI sc hs) (Lv := fun x : (Nat) × (Nat → Int32) × (Nat → Int32) => match x with | (b, sc, hs) => [(5, .int (nI b)), (4, .int (nI ((len + 8) / 64 + 1))), (0, .ref a7), (1, .ref t), (2, .int (nI fi)), (3, .int (nI len))]) (I := fun x : (Nat) × (Nat → Int32) × (Nat → Int32) => match x with | (b, sc, hs) => (b ≤ (len + 8) / 64 + 1) ∧ (of8 hs = shaC (msgW G fi len) b)) (μ := fun x : (Nat) × (Nat → Int32) × (Nat → Int32) => match x with | (b, sc, hs) => (len + 8) / 64 + 1 - b) ?_ (0, sc, hs) ⟨by omega, ho0⟩ hP hD hS (lv_sub hl [0, 1, 2, 3, 4, 5] rfl)
            intro x H locs ls hI hP hD hS hl ih71
            obtain ⟨b, sc, hs⟩ := x
            obtain ⟨hb9, ho⟩ : (b ≤ (len + 8) / 64 + 1) ∧ (of8 hs = shaC (msgW G fi len) b) := hI
            have hP : va_P (dC, dI) vwCl (sW a7 a8 a9 cI sc hs) _ := hP
            have hD : va_D A (sW a7 a8 a9 cI sc hs) := hD
            have hl : lv_has ls 7 [(5, .int (nI b)), (4, .int (nI ((len + 8) / 64 + 1))), (0, .ref a7), (1, .ref t), (2, .int (nI fi)), (3, .int (nI len))] := hl
            refine lv_iload (pc := 71) hx hb dX1_digest_71 (lv_at hl 0 rfl) ?_
            refine lv_iload (pc := 73) hx hb dX1_digest_73 (lv_at hl 1 rfl) ?_
            refine lv_icmp_ge (pc := 75) (tgt := 151) hx hb dX1_digest_75 (by decide) (fun c_2 => ?_) (fun c_2 => ?_)
            · skip
              have c_2 : ((len + 8) / 64 + 1) ≤ b := (nI_leI (a := ((len + 8) / 64 + 1)) (b := b) (by omega) (by omega)).mp c_2
              have hb0 : b = (len + 8) / 64 + 1 := by omega
              rw [hb0] at ho
              exact W.vret hx hb hr (fun t ht hW => ⟨⟨(sc, hs), rfl, ho, by show va_P _ _ _ t.heap; rw [ht]; exact hP, va_K.moved hW.alike hK, hD⟩, hS.F ht⟩) hS.2.2 dX1_digest_151
            · skip
              have c_2 : ¬ ((len + 8) / 64 + 1) ≤ b := fun z => c_2 ((nI_leI (a := ((len + 8) / 64 + 1)) (b := b) (by omega) (by omega)).mpr z)
              refine lv_iconst (pc := 78) (v := nI 0) hx hb dX1_digest_78 (by decide) ?_
              refine lv_istore (pc := 79) (lv' := [(6, .int (nI 0)), (5, .int (nI b)), (4, .int (nI ((len + 8) / 64 + 1))), (0, .ref a7), (1, .ref t), (2, .int (nI fi)), (3, .int (nI len))]) hx hb dX1_digest_79 hl (by decide) rfl (fun ls hl => ?_)
              refine x_loop (σ := (Nat) × (Nat → Int32)) (Wd := fun x : (Nat) × (Nat → Int32) => match x with | (v, sc1) => sW a7 a8 a9 cI sc1 hs) (Lv := fun x : (Nat) × (Nat → Int32) => match x with | (v, sc1) => [(6, .int (nI v)), (5, .int (nI b)), (4, .int (nI ((len + 8) / 64 + 1))), (0, .ref a7), (1, .ref t), (2, .int (nI fi)), (3, .int (nI len))]) (I := fun x : (Nat) × (Nat → Int32) => match x with | (v, sc1) => (v ≤ 16) ∧ (∀ j, j < v → sc1 j = pw (pad8 G fi len) (b * 64 + 4 * j) 4)) (μ := fun x : (Nat) × (Nat → Int32) => match x with | (v, sc1) => 16 - v) ?_ (0, sc) ⟨by omega, fun j hj => absurd hj (Nat.not_lt_zero j)⟩ hP hD hS (lv_sub hl [0, 1, 2, 3, 4, 5, 6] rfl)
              intro x H locs ls hI hP hD hS hl ih81
              obtain ⟨v, sc1⟩ := x
              obtain ⟨hv8, hv⟩ : (v ≤ 16) ∧ (∀ j, j < v → sc1 j = pw (pad8 G fi len) (b * 64 + 4 * j) 4) := hI
              have hP : va_P (dC, dI) vwCl (sW a7 a8 a9 cI sc1 hs) _ := hP
              have hD : va_D A (sW a7 a8 a9 cI sc1 hs) := hD
              have hl : lv_has ls 7 [(6, .int (nI v)), (5, .int (nI b)), (4, .int (nI ((len + 8) / 64 + 1))), (0, .ref a7), (1, .ref t), (2, .int (nI fi)), (3, .int (nI len))] := hl
              refine lv_iload (pc := 81) hx hb dX1_digest_81 (lv_at hl 0 rfl) ?_
              refine lv_bipush (pc := 83) (v := nI 16) hx hb dX1_digest_83 (by decide) ?_
              refine lv_icmp_ge (pc := 85) (tgt := 117) hx hb dX1_digest_85 (by decide) (fun c_3 => ?_) (fun c_3 => ?_)
              · skip
                have c_3 : 16 ≤ v := (nI_leI (a := 16) (b := v) (by omega) (by omega)).mp c_3
                refine lv_iload (pc := 117) hx hb dX1_digest_117 (lv_at hl 1 rfl) ?_
                refine lv_iload (pc := 119) hx hb dX1_digest_119 (lv_at hl 2 rfl) ?_
                refine lv_iconst (pc := 121) (v := nI 1) hx hb dX1_digest_121 (by decide) ?_
                refine lv_isub (pc := 122) hx hb dX1_digest_122 ?_
                refine lv_cv (pk_sub (a := ((len + 8) / 64 + 1)) (b := 1) (by omega)) ?_
                refine lv_icmp_ne (pc := 123) (tgt := 137) hx hb dX1_digest_123 (by decide) (fun c5 => ?_) (fun c5 => ?_)
                · skip
                  have c5 : ¬ b = (((len + 8) / 64 + 1) - 1) := fun z => c5 ((nI_eq (a := b) (b := (((len + 8) / 64 + 1) - 1)) (by omega) (by omega)).mpr z)
                  have hw16 : ∀ j, j < 16 → sc1 j = msgW G fi len b j := fun j hj => by rw [hv j (by omega)]; unfold msgW; rw [if_neg (fun z => absurd z.1 (by omega))]
                  refine lv_aload_n (pc := 137) hx hb dX1_digest_137 rfl (lv_at hl 3 rfl) ?_
                  refine x_wrv (pc := 138) (va_runV (As := []) (rest := []) ⟨hx, hb, hml, hown, hts⟩ (kX1_stretch l dC dI tt cI cB _ a7 a8 a9 sc1 hs) (cwV 0 hts gX1_digest_X1_stretchSchedule rfl rfl rfl (by decide +kernel) ⟨Nat.le_of_ble_eq_true rfl, Nat.le_of_ble_eq_true rfl⟩) (x_preV hS hE hK hP hD [0, 1, 2] rfl (by decide) (va_free hD hS hA [0, 1, 2] rfl) xR0 1 0 rfl rfl) rfl rfl hl.1 rfl (lv_room (Nat.le_of_ble_eq_true rfl)) dX1_digest_138 ⟨Nat.le_of_ble_eq_true rfl, Nat.le_of_ble_eq_true rfl⟩) hS hA hP hD [0, 1, 2] [] rfl rfl (by decide) (by decide) (fun u_4 H locs hu_4 hP hD hS => ?_)
                  subst hu_4
                  have hP := hP.sub (ws' := sW a7 a8 a9 cI (stN sc1 48) hs) [0, 1, 2] rfl
                  have hD := hD.sub (ws' := sW a7 a8 a9 cI (stN sc1 48) hs) [0, 1, 2] (by decide) rfl
                  refine lv_aload_n (pc := 141) hx hb dX1_digest_141 rfl (lv_at hl 3 rfl) ?_
                  refine x_wrv (pc := 142) (va_runV (As := []) (rest := []) ⟨hx, hb, hml, hown, hts⟩ (kX1_mixBlock l dC dI tt cI cB _ a7 a8 a9 (stN sc1 48) hs) (cwV 0 hts gX1_digest_X1_mixBlock rfl rfl rfl (by decide +kernel) ⟨Nat.le_of_ble_eq_true rfl, Nat.le_of_ble_eq_true rfl⟩) (x_preV hS hE hK hP hD [0, 1, 2] rfl (by decide) (va_free hD hS hA [0, 1, 2] rfl) xR0 1 0 rfl rfl) rfl rfl hl.1 rfl (lv_room (Nat.le_of_ble_eq_true rfl)) dX1_digest_142 ⟨Nat.le_of_ble_eq_true rfl, Nat.le_of_ble_eq_true rfl⟩) hS hA hP hD [0, 1, 2] [] rfl rfl (by decide) (by decide) (fun u_5 H locs hu_5 hP hD hS => ?_)
                  subst hu_5
                  have hP := hP.sub (ws' := sW a7 a8 a9 cI (stN sc1 48) (addH hs (mixN (stN sc1 48) 64 (of8 hs)))) [0, 1, 2] rfl
                  have hD := hD.sub (ws' := sW a7 a8 a9 cI (stN sc1 48) (addH hs (mixN (stN sc1 48) 64 (of8 hs)))) [0, 1, 2] (by decide) rfl
                  refine lv_iinc (pc := 145) (v := nI (b + 1)) (lv' := [(5, .int (nI (b + 1))), (6, .int (nI v)), (4, .int (nI ((len + 8) / 64 + 1))), (0, .ref a7), (1, .ref t), (2, .int (nI fi)), (3, .int (nI len))]) hx hb dX1_digest_145 hl (k := 1) rfl (nI_inc b 1) (by decide) rfl (fun ls hl => ?_)
                  refine lv_goto (pc := 148) (tgt := 71) hx hb dX1_digest_148 (by decide) ?_
                  exact ih71 (b + 1, stN sc1 48, addH hs (mixN (stN sc1 48) 64 (of8 hs))) H locs ls ⟨by omega, shaC_step ho hw16⟩ (by first | omega | (simp only []; omega)) hP hD hS (lv_sub hl [0, 2, 3, 4, 5, 6] rfl)
                · skip
                  have c5 : b = (((len + 8) / 64 + 1) - 1) := (nI_eq (a := b) (b := (((len + 8) / 64 + 1) - 1)) (by omega) (by omega)).mp c5
                  refine lv_aload_n (pc := 126) hx hb dX1_digest_126 rfl (lv_at hl 3 rfl) ?_
                  refine va_get (pc := 127) (D := (dC, dI)) (ci := 1) (v := .ref a8) (C := RX1) (T := TX1) (N := 2) hx hb hts (by decide +kernel) hown hK hP 0 rfl rfl 0 (by decide) (hts (.fieldLink RX1 11 "ScratchSwap$Sha256" "schedule" "[I") (by decide +kernel)) (fun _ h9 => h9) rfl dX1_digest_127 ?_
                  refine lv_bipush (pc := 130) (v := nI 15) hx hb dX1_digest_130 (by decide) ?_
                  refine lv_bipush (pc := 132) (v := nI 8) hx hb dX1_digest_132 (by decide) ?_
                  refine lv_iload_n (pc := 134) hx hb dX1_digest_134 rfl (lv_at hl 6 rfl) ?_
                  refine lv_imul (pc := 135) hx hb dX1_digest_135 ?_
                  refine lv_cv (pk_mul 8 len) ?_
                  refine x_iast (pc := 136) (k := 15) (f := sc1) hx hb hK hP hD hS 1 0 rfl rfl (by omega) (by decide) dX1_digest_136 (fun H locs hP hD hS => ?_)
                  have hP : va_P (dC, dI) vwCl (sW a7 a8 a9 cI (upd sc1 15 (nI (8 * len))) hs) _ := hP
                  have hD : va_D A (sW a7 a8 a9 cI (upd sc1 15 (nI (8 * len))) hs) := hD
                  have hw16 : ∀ j, j < 16 → (upd sc1 15 (nI (8 * len))) j = msgW G fi len b j := by
                    intro j hj
                    unfold upd msgW
                    by_cases h : j = 15
                    · rw [if_pos h, if_pos ⟨by omega, h⟩]
                    · rw [if_neg h, if_neg (fun z => h z.2)]; exact hv j (by omega)
                  refine lv_aload_n (pc := 137) hx hb dX1_digest_137 rfl (lv_at hl 3 rfl) ?_
                  refine x_wrv (pc := 138) (va_runV (As := []) (rest := []) ⟨hx, hb, hml, hown, hts⟩ (kX1_stretch l dC dI tt cI cB _ a7 a8 a9 (upd sc1 15 (nI (8 * len))) hs) (cwV 0 hts gX1_digest_X1_stretchSchedule rfl rfl rfl (by decide +kernel) ⟨Nat.le_of_ble_eq_true rfl, Nat.le_of_ble_eq_true rfl⟩) (x_preV hS hE hK hP hD [0, 1, 2] rfl (by decide) (va_free hD hS hA [0, 1, 2] rfl) xR0 1 0 rfl rfl) rfl rfl hl.1 rfl (lv_room (Nat.le_of_ble_eq_true rfl)) dX1_digest_138 ⟨Nat.le_of_ble_eq_true rfl, Nat.le_of_ble_eq_true rfl⟩) hS hA hP hD [0, 1, 2] [] rfl rfl (by decide) (by decide) (fun u_6 H locs hu_6 hP hD hS => ?_)
                  subst hu_6
                  have hP := hP.sub (ws' := sW a7 a8 a9 cI (stN (upd sc1 15 (nI (8 * len))) 48) hs) [0, 1, 2] rfl
                  have hD := hD.sub (ws' := sW a7 a8 a9 cI (stN (upd sc1 15 (nI (8 * len))) 48) hs) [0, 1, 2] (by decide) rfl
                  refine lv_aload_n (pc := 141) hx hb dX1_digest_141 rfl (lv_at hl 3 rfl) ?_
                  refine x_wrv (pc := 142) (va_runV (As := []) (rest := []) ⟨hx, hb, hml, hown, hts⟩ (kX1_mixBlock l dC dI tt cI cB _ a7 a8 a9 (stN (upd sc1 15 (nI (8 * len))) 48) hs) (cwV 0 hts gX1_digest_X1_mixBlock rfl rfl rfl (by decide +kernel) ⟨Nat.le_of_ble_eq_true rfl, Nat.le_of_ble_eq_true rfl⟩) (x_preV hS hE hK hP hD [0, 1, 2] rfl (by decide) (va_free hD hS hA [0, 1, 2] rfl) xR0 1 0 rfl rfl) rfl rfl hl.1 rfl (lv_room (Nat.le_of_ble_eq_true rfl)) dX1_digest_142 ⟨Nat.le_of_ble_eq_true rfl, Nat.le_of_ble_eq_true rfl⟩) hS hA hP hD [0, 1, 2] [] rfl rfl (by decide) (by decide) (fun u_7 H locs hu_7 hP hD hS => ?_)
                  subst hu_7
                  have hP := hP.sub (ws' := sW a7 a8 a9 cI (stN (upd sc1 15 (nI (8 * len))) 48) (addH hs (mixN (stN (upd sc1 15 (nI (8 * len))) 48) 64 (of8 hs)))) [0, 1, 2] rfl
                  have hD := hD.sub (ws' := sW a7 a8 a9 cI (stN (upd sc1 15 (nI (8 * len))) 48) (addH hs (mixN (stN (upd sc1 15 (nI (8 * len))) 48) 64 (of8 hs)))) [0, 1, 2] (by decide) rfl
                  refine lv_iinc (pc := 145) (v := nI (b + 1)) (lv' := [(5, .int (nI (b + 1))), (6, .int (nI v)), (4, .int (nI ((len + 8) / 64 + 1))), (0, .ref a7), (1, .ref t), (2, .int (nI fi)), (3, .int (nI len))]) hx hb dX1_digest_145 hl (k := 1) rfl (nI_inc b 1) (by decide) rfl (fun ls hl => ?_)
                  refine lv_goto (pc := 148) (tgt := 71) hx hb dX1_digest_148 (by decide) ?_
                  exact ih71 (b + 1, stN (upd sc1 15 (nI (8 * len))) 48, addH hs (mixN (stN (upd sc1 15 (nI (8 * len))) 48) 64 (of8 hs))) H locs ls ⟨by omega, shaC_step ho hw16⟩ (by first | omega | (simp only []; omega)) hP hD hS (lv_sub hl [0, 2, 3, 4, 5, 6] rfl)
              · skip
                have c_3 : ¬ 16 ≤ v := fun z => c_3 ((nI_leI (a := 16) (b := v) (by omega) (by omega)).mpr z)
                refine lv_aload_n (pc := 88) hx hb dX1_digest_88 rfl (lv_at hl 3 rfl) ?_
                refine va_get (pc := 89) (D := (dC, dI)) (ci := 1) (v := .ref a8) (C := RX1) (T := TX1) (N := 2) hx hb hts (by decide +kernel) hown hK hP 0 rfl rfl 0 (by decide) (hts (.fieldLink RX1 11 "ScratchSwap$Sha256" "schedule" "[I") (by decide +kernel)) (fun _ h9 => h9) rfl dX1_digest_89 ?_
                refine lv_iload (pc := 92) hx hb dX1_digest_92 (lv_at hl 0 rfl) ?_
                refine lv_aload_n (pc := 94) hx hb dX1_digest_94 rfl (lv_at hl 4 rfl) ?_
                refine lv_iload_n (pc := 95) hx hb dX1_digest_95 rfl (lv_at hl 5 rfl) ?_
                refine lv_iload_n (pc := 96) hx hb dX1_digest_96 rfl (lv_at hl 6 rfl) ?_
                refine lv_iload (pc := 97) hx hb dX1_digest_97 (lv_at hl 1 rfl) ?_
                refine lv_bipush (pc := 99) (v := nI 64) hx hb dX1_digest_99 (by decide) ?_
                refine lv_imul (pc := 101) hx hb dX1_digest_101 ?_
                refine lv_cv (pk_mul b 64) ?_
                refine lv_iconst (pc := 102) (v := nI 4) hx hb dX1_digest_102 (by decide) ?_
                refine lv_iload (pc := 103) hx hb dX1_digest_103 (lv_at hl 0 rfl) ?_
                refine lv_imul (pc := 105) hx hb dX1_digest_105 ?_
                refine lv_cv (pk_mul 4 v) ?_
                refine lv_iadd (pc := 106) hx hb dX1_digest_106 ?_
                refine lv_cv (nI_add (b * 64) (4 * v)) ?_
                refine x_roi (pc := 107) (va_runS (As := [.ref t, .int (nI fi), .int (nI len), .int (nI ((b * 64) + (4 * v)))]) (rest := [.int (nI v), .ref a8]) ⟨hx, hb, hml, hown, hts⟩ (kX1_paddedWord l dC dI tt cI cB _ t n G fi len ((b * 64) + (4 * v)) hn hfl (by omega) (by omega)) (va_cwS 4 hts gX1_digest_X1_paddedWord rfl rfl rfl (by decide +kernel) ⟨Nat.le_of_ble_eq_true rfl, Nat.le_of_ble_eq_true rfl⟩) (x_preS hS hE hK hP hD [] rfl (by decide) (x_ro hS hA) (xRs hS hE (x_ro hS hA))) rfl rfl hl.1 rfl (lv_room (Nat.le_of_ble_eq_true rfl)) dX1_digest_107 ⟨Nat.le_of_ble_eq_true rfl, Nat.le_of_ble_eq_true rfl⟩) hS hA hP (fun r_8 H locs hr_8 hP hS => ?_)
                subst hr_8
                refine x_iast (pc := 110) (k := v) (f := sc1) hx hb hK hP hD hS 1 0 rfl rfl (by omega) (by decide) dX1_digest_110 (fun H locs hP hD hS => ?_)
                have hP : va_P (dC, dI) vwCl (sW a7 a8 a9 cI (upd sc1 v (pw (pad8 G fi len) ((b * 64) + (4 * v)) 4)) hs) _ := hP
                have hD : va_D A (sW a7 a8 a9 cI (upd sc1 v (pw (pad8 G fi len) ((b * 64) + (4 * v)) 4)) hs) := hD
                refine lv_iinc (pc := 111) (v := nI (v + 1)) (lv' := [(6, .int (nI (v + 1))), (5, .int (nI b)), (4, .int (nI ((len + 8) / 64 + 1))), (0, .ref a7), (1, .ref t), (2, .int (nI fi)), (3, .int (nI len))]) hx hb dX1_digest_111 hl (k := 0) rfl (nI_inc v 1) (by decide) rfl (fun ls hl => ?_)
                refine lv_goto (pc := 114) (tgt := 81) hx hb dX1_digest_114 (by decide) ?_
                have hv9 : ∀ j, j < v + 1 → (upd sc1 v (pw (pad8 G fi len) ((b * 64) + (4 * v)) 4)) j = pw (pad8 G fi len) (b * 64 + 4 * j) 4 := by
                  intro j hj
                  unfold upd
                  by_cases h : j = v
                  · rw [if_pos h, h]
                  · rw [if_neg h]; exact hv j (by omega)
                exact ih81 (v + 1, upd sc1 v (pw (pad8 G fi len) ((b * 64) + (4 * v)) 4)) H locs ls ⟨by omega, hv9⟩ (by first | omega | (simp only []; omega)) hP hD hS (lv_sub hl [0, 1, 2, 3, 4, 5, 6] rfl)
          · skip
            have c_1 : ¬ 8 ≤ i := fun z => c_1 ((nI_leI (a := 8) (b := i) (by omega) (by omega)).mpr z)
            refine lv_aload_n (pc := 38) hx hb dX1_digest_38 rfl (lv_at hl 1 rfl) ?_
            refine va_get (pc := 39) (D := (dC, dI)) (ci := 1) (v := .ref a9) (C := RX1) (T := TX1) (N := 2) hx hb hts (by decide +kernel) hown hK hP 0 rfl rfl 1 (by decide) (hts (.fieldLink RX1 15 "ScratchSwap$Sha256" "hash" "[I") (by decide +kernel)) (fun _ h9 => h9) rfl dX1_digest_39 ?_
            refine lv_iload (pc := 42) hx hb dX1_digest_42 (lv_at hl 0 rfl) ?_
            refine va_gets (pc := 44) hx hb (hE.2.2.2.1).1 hS hown (hts (.fieldLink RX1 18 "ScratchSwap$Sha256" "FIRST_WORDS" "[I") (by decide +kernel)) (fun _ h9 => h9) dX1_digest_44 ?_
            refine lv_iload (pc := 47) hx hb dX1_digest_47 (lv_at hl 0 rfl) ?_
            refine x_ti (pc := 49) (k := i) hx hb (hE.2.2.2.1).2 hS (by omega) (by decide) dX1_digest_49 ?_
            refine x_iast (pc := 50) (k := i) (f := hs) hx hb hK hP hD hS 2 0 rfl rfl (by omega) (by decide) dX1_digest_50 (fun H locs hP hD hS => ?_)
            have hP : va_P (dC, dI) vwCl (sW a7 a8 a9 cI sc (upd hs i (tbF i))) _ := hP
            have hD : va_D A (sW a7 a8 a9 cI sc (upd hs i (tbF i))) := hD
            refine lv_iinc (pc := 51) (v := nI (i + 1)) (lv' := [(4, .int (nI (i + 1))), (0, .ref a7), (1, .ref t), (2, .int (nI fi)), (3, .int (nI len))]) hx hb dX1_digest_51 hl (k := 0) rfl (nI_inc i 1) (by decide) rfl (fun ls hl => ?_)
            refine lv_goto (pc := 54) (tgt := 31) hx hb dX1_digest_54 (by decide) ?_
            have hh9 : ∀ j, j < i + 1 → (upd hs i (tbF i)) j = tbF j := by
              intro j hj
              unfold upd
              by_cases h : j = i
              · rw [if_pos h, h]
              · rw [if_neg h]; exact hh j (by omega)
            exact ih31 (i + 1, upd hs i (tbF i)) H locs ls ⟨by omega, hh9⟩ (by first | omega | (simp only []; omega)) hP hD hS (lv_sub hl [0, 1, 2, 3, 4] rfl)
        · skip
          have c4 : ¬ fi ≤ (n - len) := fun z => c4 ((nI_leI (a := fi) (b := (n - len)) (by omega) (by omega)).mpr z)
          exfalso; omega
set_option maxHeartbeats 4000000 in
set_option maxRecDepth 100000 in
theorem kX1_digestByte (l : Launch) (dC : Nat → ClassId) (dI : Nat → Nat → Nat) (tt : Nat → Nat) (cI cB : ClassId) (sz : Nat) (a7 a8 a9 : Nat) (sc hs : Nat → Int32) (i : Nat) (hi : i < 32) : MetR l yX1_digestByte wsX1_digestByte { frames := 0, cells := 0, slots := 0, locals := 0 } (dC, dI) [(cI, .int), (cB, .byte)] tt [] sz (sW a7 a8 a9 cI sc hs) [.ref a7, .int (nI i)] (fun r => r = ub (digT (of8 hs) i)) := by
  refine Met.ofW (cc := cX1_digestByte) (maxL := 2) (ret := (some .int)) (by decide) rfl ?_
  intro p e s m args below meth c s₁ B hml hv
  obtain ⟨rfl, hsz, hP, hK, hD0, hE⟩ := hv
  have hx := B.exec
  have hb := B.bytes
  have hr := B.returns
  have hts := atoms_spec (ws := wsX1_digestByte) B.pre
  have hown : s.vm.findClass RX1 = some m.cls := findClass_of_methodNamed B.named
  have hlocks := B.notSynchronized
  subst hsz
  have hD := hD0
  generalize hAe : va_A [] s.heap.size = A at hE ⊢
  have hA : ∀ q : Nat, s.heap.size ≤ q → A q := fun q h => by rw [← hAe]; exact Or.inr h
  have hS : va_S A s.heap s.heap [] := va_S.rf
  have hl := lv_entry ([.ref a7, .int (nI i)]) (n := 2) (Nat.le_of_ble_eq_true rfl)
  rw [lg_entry_eq]
  generalize (lg_sl ([.ref a7, .int (nI i)]) ++ List.replicate (2 - (lg_sl ([.ref a7, .int (nI i)])).length) Slot.unset).toArray = ls at hl ⊢
  have hl : lv_has ls 2 [(0, .ref a7), (1, .int (nI i))] := hl
  have hP : va_P (dC, dI) vwCl (sW a7 a8 a9 cI sc hs) s.heap := hP
  refine lv_iload_n (pc := 0) hx hb dX1_digestByte_0 rfl (lv_at hl 1 rfl) ?_
  refine lv_if_lt (pc := 1) (tgt := 10) hx hb dX1_digestByte_1 (by decide) (fun c1 => ?_) (fun c1 => ?_)
  · skip
    have c1 : i < 0 := (nI_ltI (a := i) (b := 0) (by omega) (by omega)).mp c1
    exfalso; omega
  · skip
    have c1 : ¬ i < 0 := fun z => c1 ((nI_ltI (a := i) (b := 0) (by omega) (by omega)).mpr z)
    refine lv_iload_n (pc := 4) hx hb dX1_digestByte_4 rfl (lv_at hl 1 rfl) ?_
    refine lv_bipush (pc := 5) (v := nI 32) hx hb dX1_digestByte_5 (by decide) ?_
    refine lv_icmp_lt (pc := 7) (tgt := 12) hx hb dX1_digestByte_7 (by decide) (fun c2 => ?_) (fun c2 => ?_)
    · skip
      have c2 : i < 32 := (nI_ltI (a := i) (b := 32) (by omega) (by omega)).mp c2
      refine lv_aload_n (pc := 12) hx hb dX1_digestByte_12 rfl (lv_at hl 0 rfl) ?_
      refine va_get (pc := 13) (D := (dC, dI)) (ci := 1) (v := .ref a9) (C := RX1) (T := TX1) (N := 2) hx hb hts (by decide +kernel) hown hK hP 0 rfl rfl 1 (by decide) (hts (.fieldLink RX1 15 "ScratchSwap$Sha256" "hash" "[I") (by decide +kernel)) (fun _ h9 => h9) rfl dX1_digestByte_13 ?_
      refine lv_iload_n (pc := 16) hx hb dX1_digestByte_16 rfl (lv_at hl 1 rfl) ?_
      refine lv_iconst (pc := 17) (v := nI 4) hx hb dX1_digestByte_17 (by decide) ?_
      refine lv_idiv (pc := 18) hx hb dX1_digestByte_18 (nI_ne0 (by omega) (by omega)) ?_
      refine lv_cv (pk_div (a := i) (d := 4) (by omega) (by omega) (by omega)) ?_
      refine x_iald (pc := 19) (k := i / 4) (f := hs) hx hb hK hP 2 0 rfl rfl (by omega) (by decide) dX1_digestByte_19 ?_
      refine lv_bipush (pc := 20) (v := nI 24) hx hb dX1_digestByte_20 (by decide) ?_
      refine lv_bipush (pc := 22) (v := nI 8) hx hb dX1_digestByte_22 (by decide) ?_
      refine lv_iload_n (pc := 24) hx hb dX1_digestByte_24 rfl (lv_at hl 1 rfl) ?_
      refine lv_iconst (pc := 25) (v := nI 4) hx hb dX1_digestByte_25 (by decide) ?_
      refine lv_irem (pc := 26) hx hb dX1_digestByte_26 (nI_ne0 (by omega) (by omega)) ?_
      refine lv_cv (pk_rem (a := i) (d := 4) (by omega) (by omega) (by omega)) ?_
      refine lv_imul (pc := 27) hx hb dX1_digestByte_27 ?_
      refine lv_cv (pk_mul 8 (i % 4)) ?_
      refine lv_isub (pc := 28) hx hb dX1_digestByte_28 ?_
      refine lv_cv (pk_sub (a := 24) (b := (8 * (i % 4))) (by omega)) ?_
      refine lv_iushr (pc := 29) hx hb dX1_digestByte_29 rfl ?_
      refine lv_sipush (pc := 30) (v := nI 255) hx hb dX1_digestByte_30 (by decide) ?_
      refine lv_iand (pc := 33) hx hb dX1_digestByte_33 ?_
      refine lv_cv (ub_of ((Int32.toUInt32 (hs (i / 4)) >>> (Int32.toUInt32 (nI (24 - (8 * (i % 4)))) &&& Int32.toUInt32 31)).toInt32)) ?_
      exact W.iret (v := ub (Int32.toInt8 ((Int32.toUInt32 (hs (i / 4)) >>> (Int32.toUInt32 (nI (24 - (8 * (i % 4)))) &&& Int32.toUInt32 31)).toInt32))) hx hb hr (fun t ht hW => ⟨⟨ub (Int32.toInt8 ((Int32.toUInt32 (hs (i / 4)) >>> (Int32.toUInt32 (nI (24 - (8 * (i % 4)))) &&& Int32.toUInt32 31)).toInt32)), (), rfl, by rw [digT, sel8_of hs (by omega)]; rfl, trivial⟩, hS.F ht⟩) hS.2.2 dX1_digestByte_34
    · skip
      have c2 : ¬ i < 32 := fun z => c2 ((nI_ltI (a := i) (b := 32) (by omega) (by omega)).mpr z)
      exfalso; omega
end
section
theorem xRc {s : State} {D : va_G} {tys : List (ClassId × FieldType)} {ws wc : va_W} {H : Heap} {A' : Nat → Prop} {a n : Nat} {cA : ClassId} {f : Nat → Int32} (hK : va_K D vwCl tys s) (hP : va_P D vwCl ws H) (hD : va_D A' ws) (q0 t0 : Nat) (ha : ws[q0]? = some (a, .inl (cA, n, .inl f))) (ht : tys[t0]? = some (cA, .int)) (isC : List Nat) (hC : isC.map (fun i => ws[i]?) = wc.map some) (hq : q0 ∉ isC) :
    ∀ U : State, U.heap = H → s.WarmedH U.vm → ∀ q ∈ [(a, n, f)], va_T .int q.1 q.2.1 (fun j => .int (q.2.2 j)) (va_A wc H.size) U U.heap := by
  intro U hU hW q hm
  obtain rfl : q = (a, n, f) := List.mem_singleton.mp hm
  rw [hU]
  have hc : H[a]? = some (arrV cA n (fun j => .int (f j))) := hP q0 _ ha
  refine ⟨arrV cA n (fun j => .int (f j)), hc, State.isArrayOf_alike hW.alike ((hK.2 t0 _ ht).1 n (fun j => .int (f j))), (fun q => by cases q), ?_, ?_, fun j hj => arrV_read _ _ hj, ?_⟩
  · rw [arrV_size]; exact Nat.le_refl _
  · rw [arrV_size]
  · intro z
    rcases z with ⟨k, e, h⟩ | h
    · have h1 : (isC.map (fun i => ws[i]?))[k]? = some (some (a, e)) := by rw [hC, List.getElem?_map, h]; rfl
      rw [List.getElem?_map] at h1
      cases hi : isC[k]? with
      | none => rw [hi] at h1; cases h1
      | some i =>
        rw [hi] at h1
        have h2 : ws[i]? = some (a, e) := Option.some.inj h1
        have h3 := hD.1 q0 i _ _ ha h2 rfl
        rw [h3] at hq
        exact hq (List.mem_of_getElem? hi)
    · have h4 : a < H.size := (hP q0 _ ha).lt
      have h5 : H.size ≤ a := h
      omega
theorem nI_decI (k : Nat) : nI k + Int32.ofInt (-1) = nI k - nI 1 := by rw [Int32.sub_eq_add_neg]; rfl
theorem nI_sub1 (k : Nat) : nI (k + 1) - nI 1 = nI k := pk_sub (a := k + 1) (b := 1) (by omega)
theorem nI_neg1 {k : Nat} (hk : k < 2 ^ 30) : nI k - nI 1 < 0 ↔ k = 0 := by
  constructor
  · intro h
    rcases Nat.eq_zero_or_pos k with q | q
    · exact q
    · obtain ⟨j, rfl⟩ : ∃ j, k = j + 1 := ⟨k - 1, by omega⟩
      rw [nI_sub1] at h
      exact absurd h (nI_pos (by omega))
  · intro h; rw [h]; exact pk_sneg (by decide) (by decide)
abbrev tsW (a5 a6 a7 a8 a9 : Nat) (cI : ClassId) (tb : Nat → Int8) (tn : Nat) (sc hs : Nat → Int32) : va_W := [(a5, .inr (2, [.ref a6, .int (nI tn)])), (a6, .inl (cI, 1024, .inl (fun j => ub (tb j)))), (a7, .inr (1, [.ref a8, .ref a9])), (a8, .inl (cI, 64, .inl sc)), (a9, .inl (cI, 8, .inl hs))]
def hiT (tb : Nat → Int8) (tn : Nat) (x : Int32) : Nat → Int8 := va_up (va_up (va_up (va_up tb tn (Int32.toInt8 (x >>> (nI 24 &&& 31)))) (tn + 1) (Int32.toInt8 (x >>> (nI 16 &&& 31)))) (tn + 1 + 1) (Int32.toInt8 (x >>> (nI 8 &&& 31)))) (tn + 1 + 1 + 1) (Int32.toInt8 x)
def loT (tb : Nat → Int8) (tn : Nat) (x : Int32) : Nat → Int8 := va_up (va_up (va_up (va_up tb tn (Int32.toInt8 x)) (tn + 1) (Int32.toInt8 (x >>> (nI 8 &&& 31)))) (tn + 1 + 1) (Int32.toInt8 (x >>> (nI 16 &&& 31)))) (tn + 1 + 1 + 1) (Int32.toInt8 (x >>> (nI 24 &&& 31)))
def shT (tb : Nat → Int8) (len d : Nat) : Nat → Int8 := fun j => if 8 + d ≤ j ∧ j < 8 + len then tb (j - 8) else tb j
theorem shT_0 (tb : Nat → Int8) (len : Nat) : shT tb len len = tb := by funext j; unfold shT; rw [if_neg (by omega)]
theorem shT_step (tb : Nat → Int8) {len d : Nat} (hd : d < len) : va_up (shT tb len (d + 1)) (8 + d) (shT tb len (d + 1) d) = shT tb len d := by
  have h0 : shT tb len (d + 1) d = tb d := by unfold shT; rw [if_neg (by omega)]
  rw [h0]
  funext j
  unfold va_up shT
  by_cases h : j = 8 + d
  · rw [if_pos h, if_pos (by omega), h]; congr 1; omega
  · rw [if_neg h]
    by_cases h2 : 8 + (d + 1) ≤ j ∧ j < 8 + len
    · rw [if_pos h2, if_pos (by omega)]
    · rw [if_neg h2, if_neg (by omega)]
def dgT (tb : Nat → Int8) (n0 : Nat) (g : Nat → Int8) (i : Nat) : Nat → Int8 := fun j => if n0 ≤ j ∧ j < n0 + i then g (j - n0) else tb j
theorem dgT_0 (tb : Nat → Int8) (n0 : Nat) (g : Nat → Int8) : dgT tb n0 g 0 = tb := by funext j; unfold dgT; rw [if_neg (by omega)]
theorem dgT_step (tb : Nat → Int8) (n0 : Nat) (g : Nat → Int8) (i : Nat) : va_up (dgT tb n0 g i) (n0 + i) (g i) = dgT tb n0 g (i + 1) := by
  funext j
  unfold va_up dgT
  by_cases h : j = n0 + i
  · rw [if_pos h, if_pos (by omega), h, Nat.add_sub_cancel_left]
  · rw [if_neg h]
    by_cases h2 : n0 ≤ j ∧ j < n0 + i
    · rw [if_pos h2, if_pos (by omega)]
    · rw [if_neg h2, if_neg (by omega)]
def headT (tb : Nat → Int8) (len : Nat) (v : Int32) : Nat → Int8 := loT (loT (shT tb len 0) 0 (nI len)) 4 v
def imgT (tb : Nat → Int8) (len : Nat) (v : Int32) : Nat → Int8 := dgT (headT tb len v) (8 + len) (digT (sha8 (headT tb len v) 0 (8 + len))) 32
end
section
set_option maxHeartbeats 4000000 in
set_option maxRecDepth 100000 in
theorem kX2_add (l : Launch) (dC : Nat → ClassId) (dI : Nat → Nat → Nat) (tt : Nat → Nat) (cI cB : ClassId) (sz : Nat) (a5 a6 : Nat) (tb : Nat → Int8) (tn : Nat) (x : Int32) (htn : tn < 1024) : MetV (S := ((Nat → Int8) × Nat)) l yX2_add wsX2_add { frames := 0, cells := 0, slots := 0, locals := 0 } (dC, dI) [(cI, .int), (cB, .byte)] tt [] sz (tW a5 a6 cI tb tn) [.ref a5, .int x] (fun u : ((Nat → Int8) × Nat) => tW a5 a6 cI u.1 u.2) (fun u => u = (va_up tb tn (Int32.toInt8 x), tn + 1)) := by
  refine Met.ofW (cc := cX2_add) (maxL := 2) (ret := none) (by decide) rfl ?_
  intro p e s m args below meth c s₁ B hml hv
  obtain ⟨rfl, hsz, hP, hK, hD0, hE⟩ := hv
  have hx := B.exec
  have hb := B.bytes
  have hr := B.returns
  have hts := atoms_spec (ws := wsX2_add) B.pre
  have hown : s.vm.findClass RX2 = some m.cls := findClass_of_methodNamed B.named
  have hlocks := B.notSynchronized
  subst hsz
  have hD := hD0.self (sz := s.heap.size)
  generalize hAe : va_A (tW a5 a6 cI tb tn) s.heap.size = A at hD hE ⊢
  have hA : ∀ q : Nat, s.heap.size ≤ q → A q := fun q h => by rw [← hAe]; exact Or.inr h
  have hS : va_S A s.heap s.heap [] := va_S.rf
  have hl := lv_entry ([.ref a5, .int x]) (n := 2) (Nat.le_of_ble_eq_true rfl)
  rw [lg_entry_eq]
  generalize (lg_sl ([.ref a5, .int x]) ++ List.replicate (2 - (lg_sl ([.ref a5, .int x])).length) Slot.unset).toArray = ls at hl ⊢
  have hl : lv_has ls 2 [(0, .ref a5), (1, .int x)] := hl
  have hP : va_P (dC, dI) vwCl (tW a5 a6 cI tb tn) s.heap := hP
  refine lv_aload_n (pc := 0) hx hb dX2_add_0 rfl (lv_at hl 0 rfl) ?_
  refine va_get (pc := 1) (D := (dC, dI)) (ci := 2) (v := .int (nI tn)) (C := RX2) (T := TX2) (N := 2) hx hb hts (by decide +kernel) hown hK hP 0 rfl rfl 1 (by decide) (hts (.fieldLink RX2 15 "ScratchSwap$Tape" "count" "I") (by decide +kernel)) (fun _ h9 => h9) rfl dX2_add_1 ?_
  refine lv_if_lt (pc := 4) (tgt := 41) hx hb dX2_add_4 (by decide) (fun c1 => ?_) (fun c1 => ?_)
  · skip
    have c1 : tn < 0 := (nI_ltI (a := tn) (b := 0) (by omega) (by omega)).mp c1
    exfalso; omega
  · skip
    have c1 : ¬ tn < 0 := fun z => c1 ((nI_ltI (a := tn) (b := 0) (by omega) (by omega)).mpr z)
    refine lv_aload_n (pc := 7) hx hb dX2_add_7 rfl (lv_at hl 0 rfl) ?_
    refine va_get (pc := 8) (D := (dC, dI)) (ci := 2) (v := .int (nI tn)) (C := RX2) (T := TX2) (N := 2) hx hb hts (by decide +kernel) hown hK hP 0 rfl rfl 1 (by decide) (hts (.fieldLink RX2 15 "ScratchSwap$Tape" "count" "I") (by decide +kernel)) (fun _ h9 => h9) rfl dX2_add_8 ?_
    refine lv_sipush (pc := 11) (v := nI 1024) hx hb dX2_add_11 (by decide) ?_
    refine lv_icmp_ge (pc := 14) (tgt := 41) hx hb dX2_add_14 (by decide) (fun c2 => ?_) (fun c2 => ?_)
    · skip
      have c2 : 1024 ≤ tn := (nI_leI (a := 1024) (b := tn) (by omega) (by omega)).mp c2
      exfalso; omega
    · skip
      have c2 : ¬ 1024 ≤ tn := fun z => c2 ((nI_leI (a := 1024) (b := tn) (by omega) (by omega)).mpr z)
      refine lv_aload_n (pc := 17) hx hb dX2_add_17 rfl (lv_at hl 0 rfl) ?_
      refine va_get (pc := 18) (D := (dC, dI)) (ci := 2) (v := .ref a6) (C := RX2) (T := TX2) (N := 2) hx hb hts (by decide +kernel) hown hK hP 0 rfl rfl 0 (by decide) (hts (.fieldLink RX2 9 "ScratchSwap$Tape" "bytes" "[I") (by decide +kernel)) (fun _ h9 => h9) rfl dX2_add_18 ?_
      refine lv_aload_n (pc := 21) hx hb dX2_add_21 rfl (lv_at hl 0 rfl) ?_
      refine va_get (pc := 22) (D := (dC, dI)) (ci := 2) (v := .int (nI tn)) (C := RX2) (T := TX2) (N := 2) hx hb hts (by decide +kernel) hown hK hP 0 rfl rfl 1 (by decide) (hts (.fieldLink RX2 15 "ScratchSwap$Tape" "count" "I") (by decide +kernel)) (fun _ h9 => h9) rfl dX2_add_22 ?_
      refine lv_iload_n (pc := 25) hx hb dX2_add_25 rfl (lv_at hl 1 rfl) ?_
      refine lv_sipush (pc := 26) (v := nI 255) hx hb dX2_add_26 (by decide) ?_
      refine lv_iand (pc := 29) hx hb dX2_add_29 ?_
      refine lv_cv (ub_of x) ?_
      refine x_ust (pc := 30) (k := tn) (F := tb) (x := Int32.toInt8 x) hx hb hK hP hD hS 1 0 rfl rfl (by omega) (by decide) dX2_add_30 (fun H locs hP hD hS => ?_)
      have hP : va_P (dC, dI) vwCl (tW a5 a6 cI (va_up tb tn (Int32.toInt8 x)) tn) _ := hP
      have hD : va_D A (tW a5 a6 cI (va_up tb tn (Int32.toInt8 x)) tn) := hD
      refine lv_aload_n (pc := 31) hx hb dX2_add_31 rfl (lv_at hl 0 rfl) ?_
      refine lv_dup (pc := 32) hx hb dX2_add_32 rfl ?_
      refine va_get (pc := 33) (D := (dC, dI)) (ci := 2) (v := .int (nI tn)) (C := RX2) (T := TX2) (N := 2) hx hb hts (by decide +kernel) hown hK hP 0 rfl rfl 1 (by decide) (hts (.fieldLink RX2 15 "ScratchSwap$Tape" "count" "I") (by decide +kernel)) (fun _ h9 => h9) rfl dX2_add_33 ?_
      refine lv_iconst (pc := 36) (v := nI 1) hx hb dX2_add_36 (by decide) ?_
      refine lv_iadd (pc := 37) hx hb dX2_add_37 ?_
      refine lv_cv (nI_add tn 1) ?_
      refine va_put (pc := 38) (D := (dC, dI)) (ci := 2) (v := .int (nI (tn + 1))) (ty := .int) (C := RX2) (T := TX2) (N := 2) hx hb hts (by decide +kernel) tyX2 tyX2_ok nmX2 hown hK hP hD hS 0 rfl rfl 1 (by decide) (hts (.fieldLink RX2 15 "ScratchSwap$Tape" "count" "I") (by decide +kernel)) (fun _ h9 => h9) rfl (by decide +kernel) rfl rfl (Nat.le_of_ble_eq_true rfl) dX2_add_38 (fun H locs hP hD hS => ?_)
      have hP : va_P (dC, dI) vwCl (tW a5 a6 cI (va_up tb tn (Int32.toInt8 x)) (tn + 1)) _ := hP
      have hD : va_D A (tW a5 a6 cI (va_up tb tn (Int32.toInt8 x)) (tn + 1)) := hD
      exact W.vret hx hb hr (fun t ht hW => ⟨⟨(va_up tb tn (Int32.toInt8 x), tn + 1), rfl, rfl, by show va_P _ _ _ t.heap; rw [ht]; exact hP, va_K.moved hW.alike hK, hD⟩, hS.F ht⟩) hS.2.2 dX2_add_41
set_option maxHeartbeats 4000000 in
set_option maxRecDepth 100000 in
theorem kX2_addHighestFirst (l : Launch) (dC : Nat → ClassId) (dI : Nat → Nat → Nat) (tt : Nat → Nat) (cI cB : ClassId) (sz : Nat) (a5 a6 : Nat) (tb : Nat → Int8) (tn : Nat) (x : Int32) (htn : tn + 3 < 1024) : MetV (S := ((Nat → Int8) × Nat)) l yX2_addHighestFirst wsX2_addHighestFirst { frames := 1, cells := 0, slots := 0, locals := 21 } (dC, dI) [(cI, .int), (cB, .byte)] tt [] sz (tW a5 a6 cI tb tn) [.ref a5, .int x] (fun u : ((Nat → Int8) × Nat) => tW a5 a6 cI u.1 u.2) (fun u => u = (hiT tb tn x, tn + 4)) := by
  refine Met.ofW (cc := cX2_addHighestFirst) (maxL := 2) (ret := none) (by decide) rfl ?_
  intro p e s m args below meth c s₁ B hml hv
  obtain ⟨rfl, hsz, hP, hK, hD0, hE⟩ := hv
  have hx := B.exec
  have hb := B.bytes
  have hr := B.returns
  have hts := atoms_spec (ws := wsX2_addHighestFirst) B.pre
  have hown : s.vm.findClass RX2 = some m.cls := findClass_of_methodNamed B.named
  have hlocks := B.notSynchronized
  subst hsz
  have hD := hD0.self (sz := s.heap.size)
  generalize hAe : va_A (tW a5 a6 cI tb tn) s.heap.size = A at hD hE ⊢
  have hA : ∀ q : Nat, s.heap.size ≤ q → A q := fun q h => by rw [← hAe]; exact Or.inr h
  have hS : va_S A s.heap s.heap [] := va_S.rf
  have hl := lv_entry ([.ref a5, .int x]) (n := 2) (Nat.le_of_ble_eq_true rfl)
  rw [lg_entry_eq]
  generalize (lg_sl ([.ref a5, .int x]) ++ List.replicate (2 - (lg_sl ([.ref a5, .int x])).length) Slot.unset).toArray = ls at hl ⊢
  have hl : lv_has ls 2 [(0, .ref a5), (1, .int x)] := hl
  have hP : va_P (dC, dI) vwCl (tW a5 a6 cI tb tn) s.heap := hP
  refine lv_aload_n (pc := 0) hx hb dX2_addHighestFirst_0 rfl (lv_at hl 0 rfl) ?_
  refine lv_iload_n (pc := 1) hx hb dX2_addHighestFirst_1 rfl (lv_at hl 1 rfl) ?_
  refine lv_bipush (pc := 2) (v := nI 24) hx hb dX2_addHighestFirst_2 (by decide) ?_
  refine lv_ishr (pc := 4) hx hb dX2_addHighestFirst_4 ?_
  refine x_wrv (pc := 5) (va_runV (As := [.int (x >>> ((nI 24) &&& 31))]) (rest := []) ⟨hx, hb, hml, hown, hts⟩ (kX2_add l dC dI tt cI cB _ a5 a6 tb tn (x >>> ((nI 24) &&& 31)) (by omega)) (cwV 1 hts gX2_addHighestFirst_X2_add rfl rfl rfl (by decide +kernel) ⟨Nat.le_of_ble_eq_true rfl, Nat.le_of_ble_eq_true rfl⟩) (x_preV hS hE hK hP hD [0, 1] rfl (by decide) (va_free hD hS hA [0, 1] rfl) xR0 2 0 rfl rfl) rfl rfl hl.1 rfl (lv_room (Nat.le_of_ble_eq_true rfl)) dX2_addHighestFirst_5 ⟨Nat.le_of_ble_eq_true rfl, Nat.le_of_ble_eq_true rfl⟩) hS hA hP hD [0, 1] [] rfl rfl (by decide) (by decide) (fun u_1 H locs hu_1 hP hD hS => ?_)
  subst hu_1
  have hP := hP.sub (ws' := tW a5 a6 cI (va_up tb tn (Int32.toInt8 (x >>> ((nI 24) &&& 31)))) (tn + 1)) [0, 1] rfl
  have hD := hD.sub (ws' := tW a5 a6 cI (va_up tb tn (Int32.toInt8 (x >>> ((nI 24) &&& 31)))) (tn + 1)) [0, 1] (by decide) rfl
  refine lv_aload_n (pc := 8) hx hb dX2_addHighestFirst_8 rfl (lv_at hl 0 rfl) ?_
  refine lv_iload_n (pc := 9) hx hb dX2_addHighestFirst_9 rfl (lv_at hl 1 rfl) ?_
  refine lv_bipush (pc := 10) (v := nI 16) hx hb dX2_addHighestFirst_10 (by decide) ?_
  refine lv_ishr (pc := 12) hx hb dX2_addHighestFirst_12 ?_
  refine x_wrv (pc := 13) (va_runV (As := [.int (x >>> ((nI 16) &&& 31))]) (rest := []) ⟨hx, hb, hml, hown, hts⟩ (kX2_add l dC dI tt cI cB _ a5 a6 (va_up tb tn (Int32.toInt8 (x >>> ((nI 24) &&& 31)))) (tn + 1) (x >>> ((nI 16) &&& 31)) (by omega)) (cwV 1 hts gX2_addHighestFirst_X2_add rfl rfl rfl (by decide +kernel) ⟨Nat.le_of_ble_eq_true rfl, Nat.le_of_ble_eq_true rfl⟩) (x_preV hS hE hK hP hD [0, 1] rfl (by decide) (va_free hD hS hA [0, 1] rfl) xR0 2 0 rfl rfl) rfl rfl hl.1 rfl (lv_room (Nat.le_of_ble_eq_true rfl)) dX2_addHighestFirst_13 ⟨Nat.le_of_ble_eq_true rfl, Nat.le_of_ble_eq_true rfl⟩) hS hA hP hD [0, 1] [] rfl rfl (by decide) (by decide) (fun u_2 H locs hu_2 hP hD hS => ?_)
  subst hu_2
  have hP := hP.sub (ws' := tW a5 a6 cI (va_up (va_up tb tn (Int32.toInt8 (x >>> ((nI 24) &&& 31)))) (tn + 1) (Int32.toInt8 (x >>> ((nI 16) &&& 31)))) ((tn + 1) + 1)) [0, 1] rfl
  have hD := hD.sub (ws' := tW a5 a6 cI (va_up (va_up tb tn (Int32.toInt8 (x >>> ((nI 24) &&& 31)))) (tn + 1) (Int32.toInt8 (x >>> ((nI 16) &&& 31)))) ((tn + 1) + 1)) [0, 1] (by decide) rfl
  refine lv_aload_n (pc := 16) hx hb dX2_addHighestFirst_16 rfl (lv_at hl 0 rfl) ?_
  refine lv_iload_n (pc := 17) hx hb dX2_addHighestFirst_17 rfl (lv_at hl 1 rfl) ?_
  refine lv_bipush (pc := 18) (v := nI 8) hx hb dX2_addHighestFirst_18 (by decide) ?_
  refine lv_ishr (pc := 20) hx hb dX2_addHighestFirst_20 ?_
  refine x_wrv (pc := 21) (va_runV (As := [.int (x >>> ((nI 8) &&& 31))]) (rest := []) ⟨hx, hb, hml, hown, hts⟩ (kX2_add l dC dI tt cI cB _ a5 a6 (va_up (va_up tb tn (Int32.toInt8 (x >>> ((nI 24) &&& 31)))) (tn + 1) (Int32.toInt8 (x >>> ((nI 16) &&& 31)))) ((tn + 1) + 1) (x >>> ((nI 8) &&& 31)) (by omega)) (cwV 1 hts gX2_addHighestFirst_X2_add rfl rfl rfl (by decide +kernel) ⟨Nat.le_of_ble_eq_true rfl, Nat.le_of_ble_eq_true rfl⟩) (x_preV hS hE hK hP hD [0, 1] rfl (by decide) (va_free hD hS hA [0, 1] rfl) xR0 2 0 rfl rfl) rfl rfl hl.1 rfl (lv_room (Nat.le_of_ble_eq_true rfl)) dX2_addHighestFirst_21 ⟨Nat.le_of_ble_eq_true rfl, Nat.le_of_ble_eq_true rfl⟩) hS hA hP hD [0, 1] [] rfl rfl (by decide) (by decide) (fun u_3 H locs hu_3 hP hD hS => ?_)
  subst hu_3
  have hP := hP.sub (ws' := tW a5 a6 cI (va_up (va_up (va_up tb tn (Int32.toInt8 (x >>> ((nI 24) &&& 31)))) (tn + 1) (Int32.toInt8 (x >>> ((nI 16) &&& 31)))) ((tn + 1) + 1) (Int32.toInt8 (x >>> ((nI 8) &&& 31)))) (((tn + 1) + 1) + 1)) [0, 1] rfl
  have hD := hD.sub (ws' := tW a5 a6 cI (va_up (va_up (va_up tb tn (Int32.toInt8 (x >>> ((nI 24) &&& 31)))) (tn + 1) (Int32.toInt8 (x >>> ((nI 16) &&& 31)))) ((tn + 1) + 1) (Int32.toInt8 (x >>> ((nI 8) &&& 31)))) (((tn + 1) + 1) + 1)) [0, 1] (by decide) rfl
  refine lv_aload_n (pc := 24) hx hb dX2_addHighestFirst_24 rfl (lv_at hl 0 rfl) ?_
  refine lv_iload_n (pc := 25) hx hb dX2_addHighestFirst_25 rfl (lv_at hl 1 rfl) ?_
  refine x_wrv (pc := 26) (va_runV (As := [.int x]) (rest := []) ⟨hx, hb, hml, hown, hts⟩ (kX2_add l dC dI tt cI cB _ a5 a6 (va_up (va_up (va_up tb tn (Int32.toInt8 (x >>> ((nI 24) &&& 31)))) (tn + 1) (Int32.toInt8 (x >>> ((nI 16) &&& 31)))) ((tn + 1) + 1) (Int32.toInt8 (x >>> ((nI 8) &&& 31)))) (((tn + 1) + 1) + 1) x (by omega)) (cwV 1 hts gX2_addHighestFirst_X2_add rfl rfl rfl (by decide +kernel) ⟨Nat.le_of_ble_eq_true rfl, Nat.le_of_ble_eq_true rfl⟩) (x_preV hS hE hK hP hD [0, 1] rfl (by decide) (va_free hD hS hA [0, 1] rfl) xR0 2 0 rfl rfl) rfl rfl hl.1 rfl (lv_room (Nat.le_of_ble_eq_true rfl)) dX2_addHighestFirst_26 ⟨Nat.le_of_ble_eq_true rfl, Nat.le_of_ble_eq_true rfl⟩) hS hA hP hD [0, 1] [] rfl rfl (by decide) (by decide) (fun u_4 H locs hu_4 hP hD hS => ?_)
  subst hu_4
  have hP := hP.sub (ws' := tW a5 a6 cI (va_up (va_up (va_up (va_up tb tn (Int32.toInt8 (x >>> ((nI 24) &&& 31)))) (tn + 1) (Int32.toInt8 (x >>> ((nI 16) &&& 31)))) ((tn + 1) + 1) (Int32.toInt8 (x >>> ((nI 8) &&& 31)))) (((tn + 1) + 1) + 1) (Int32.toInt8 x)) ((((tn + 1) + 1) + 1) + 1)) [0, 1] rfl
  have hD := hD.sub (ws' := tW a5 a6 cI (va_up (va_up (va_up (va_up tb tn (Int32.toInt8 (x >>> ((nI 24) &&& 31)))) (tn + 1) (Int32.toInt8 (x >>> ((nI 16) &&& 31)))) ((tn + 1) + 1) (Int32.toInt8 (x >>> ((nI 8) &&& 31)))) (((tn + 1) + 1) + 1) (Int32.toInt8 x)) ((((tn + 1) + 1) + 1) + 1)) [0, 1] (by decide) rfl
  exact W.vret hx hb hr (fun t ht hW => ⟨⟨(va_up (va_up (va_up (va_up tb tn (Int32.toInt8 (x >>> ((nI 24) &&& 31)))) (tn + 1) (Int32.toInt8 (x >>> ((nI 16) &&& 31)))) ((tn + 1) + 1) (Int32.toInt8 (x >>> ((nI 8) &&& 31)))) (((tn + 1) + 1) + 1) (Int32.toInt8 x), (((tn + 1) + 1) + 1) + 1), rfl, rfl, by show va_P _ _ _ t.heap; rw [ht]; exact hP, va_K.moved hW.alike hK, hD⟩, hS.F ht⟩) hS.2.2 dX2_addHighestFirst_29
set_option maxHeartbeats 4000000 in
set_option maxRecDepth 100000 in
theorem kX2_addLowestFirst (l : Launch) (dC : Nat → ClassId) (dI : Nat → Nat → Nat) (tt : Nat → Nat) (cI cB : ClassId) (sz : Nat) (a5 a6 : Nat) (tb : Nat → Int8) (tn : Nat) (x : Int32) (htn : tn + 3 < 1024) : MetV (S := ((Nat → Int8) × Nat)) l yX2_addLowestFirst wsX2_addLowestFirst { frames := 1, cells := 0, slots := 0, locals := 21 } (dC, dI) [(cI, .int), (cB, .byte)] tt [] sz (tW a5 a6 cI tb tn) [.ref a5, .int x] (fun u : ((Nat → Int8) × Nat) => tW a5 a6 cI u.1 u.2) (fun u => u = (loT tb tn x, tn + 4)) := by
  refine Met.ofW (cc := cX2_addLowestFirst) (maxL := 2) (ret := none) (by decide) rfl ?_
  intro p e s m args below meth c s₁ B hml hv
  obtain ⟨rfl, hsz, hP, hK, hD0, hE⟩ := hv
  have hx := B.exec
  have hb := B.bytes
  have hr := B.returns
  have hts := atoms_spec (ws := wsX2_addLowestFirst) B.pre
  have hown : s.vm.findClass RX2 = some m.cls := findClass_of_methodNamed B.named
  have hlocks := B.notSynchronized
  subst hsz
  have hD := hD0.self (sz := s.heap.size)
  generalize hAe : va_A (tW a5 a6 cI tb tn) s.heap.size = A at hD hE ⊢
  have hA : ∀ q : Nat, s.heap.size ≤ q → A q := fun q h => by rw [← hAe]; exact Or.inr h
  have hS : va_S A s.heap s.heap [] := va_S.rf
  have hl := lv_entry ([.ref a5, .int x]) (n := 2) (Nat.le_of_ble_eq_true rfl)
  rw [lg_entry_eq]
  generalize (lg_sl ([.ref a5, .int x]) ++ List.replicate (2 - (lg_sl ([.ref a5, .int x])).length) Slot.unset).toArray = ls at hl ⊢
  have hl : lv_has ls 2 [(0, .ref a5), (1, .int x)] := hl
  have hP : va_P (dC, dI) vwCl (tW a5 a6 cI tb tn) s.heap := hP
  refine lv_aload_n (pc := 0) hx hb dX2_addLowestFirst_0 rfl (lv_at hl 0 rfl) ?_
  refine lv_iload_n (pc := 1) hx hb dX2_addLowestFirst_1 rfl (lv_at hl 1 rfl) ?_
  refine x_wrv (pc := 2) (va_runV (As := [.int x]) (rest := []) ⟨hx, hb, hml, hown, hts⟩ (kX2_add l dC dI tt cI cB _ a5 a6 tb tn x (by omega)) (cwV 1 hts gX2_addLowestFirst_X2_add rfl rfl rfl (by decide +kernel) ⟨Nat.le_of_ble_eq_true rfl, Nat.le_of_ble_eq_true rfl⟩) (x_preV hS hE hK hP hD [0, 1] rfl (by decide) (va_free hD hS hA [0, 1] rfl) xR0 2 0 rfl rfl) rfl rfl hl.1 rfl (lv_room (Nat.le_of_ble_eq_true rfl)) dX2_addLowestFirst_2 ⟨Nat.le_of_ble_eq_true rfl, Nat.le_of_ble_eq_true rfl⟩) hS hA hP hD [0, 1] [] rfl rfl (by decide) (by decide) (fun u_1 H locs hu_1 hP hD hS => ?_)
  subst hu_1
  have hP := hP.sub (ws' := tW a5 a6 cI (va_up tb tn (Int32.toInt8 x)) (tn + 1)) [0, 1] rfl
  have hD := hD.sub (ws' := tW a5 a6 cI (va_up tb tn (Int32.toInt8 x)) (tn + 1)) [0, 1] (by decide) rfl
  refine lv_aload_n (pc := 5) hx hb dX2_addLowestFirst_5 rfl (lv_at hl 0 rfl) ?_
  refine lv_iload_n (pc := 6) hx hb dX2_addLowestFirst_6 rfl (lv_at hl 1 rfl) ?_
  refine lv_bipush (pc := 7) (v := nI 8) hx hb dX2_addLowestFirst_7 (by decide) ?_
  refine lv_ishr (pc := 9) hx hb dX2_addLowestFirst_9 ?_
  refine x_wrv (pc := 10) (va_runV (As := [.int (x >>> ((nI 8) &&& 31))]) (rest := []) ⟨hx, hb, hml, hown, hts⟩ (kX2_add l dC dI tt cI cB _ a5 a6 (va_up tb tn (Int32.toInt8 x)) (tn + 1) (x >>> ((nI 8) &&& 31)) (by omega)) (cwV 1 hts gX2_addLowestFirst_X2_add rfl rfl rfl (by decide +kernel) ⟨Nat.le_of_ble_eq_true rfl, Nat.le_of_ble_eq_true rfl⟩) (x_preV hS hE hK hP hD [0, 1] rfl (by decide) (va_free hD hS hA [0, 1] rfl) xR0 2 0 rfl rfl) rfl rfl hl.1 rfl (lv_room (Nat.le_of_ble_eq_true rfl)) dX2_addLowestFirst_10 ⟨Nat.le_of_ble_eq_true rfl, Nat.le_of_ble_eq_true rfl⟩) hS hA hP hD [0, 1] [] rfl rfl (by decide) (by decide) (fun u_2 H locs hu_2 hP hD hS => ?_)
  subst hu_2
  have hP := hP.sub (ws' := tW a5 a6 cI (va_up (va_up tb tn (Int32.toInt8 x)) (tn + 1) (Int32.toInt8 (x >>> ((nI 8) &&& 31)))) ((tn + 1) + 1)) [0, 1] rfl
  have hD := hD.sub (ws' := tW a5 a6 cI (va_up (va_up tb tn (Int32.toInt8 x)) (tn + 1) (Int32.toInt8 (x >>> ((nI 8) &&& 31)))) ((tn + 1) + 1)) [0, 1] (by decide) rfl
  refine lv_aload_n (pc := 13) hx hb dX2_addLowestFirst_13 rfl (lv_at hl 0 rfl) ?_
  refine lv_iload_n (pc := 14) hx hb dX2_addLowestFirst_14 rfl (lv_at hl 1 rfl) ?_
  refine lv_bipush (pc := 15) (v := nI 16) hx hb dX2_addLowestFirst_15 (by decide) ?_
  refine lv_ishr (pc := 17) hx hb dX2_addLowestFirst_17 ?_
  refine x_wrv (pc := 18) (va_runV (As := [.int (x >>> ((nI 16) &&& 31))]) (rest := []) ⟨hx, hb, hml, hown, hts⟩ (kX2_add l dC dI tt cI cB _ a5 a6 (va_up (va_up tb tn (Int32.toInt8 x)) (tn + 1) (Int32.toInt8 (x >>> ((nI 8) &&& 31)))) ((tn + 1) + 1) (x >>> ((nI 16) &&& 31)) (by omega)) (cwV 1 hts gX2_addLowestFirst_X2_add rfl rfl rfl (by decide +kernel) ⟨Nat.le_of_ble_eq_true rfl, Nat.le_of_ble_eq_true rfl⟩) (x_preV hS hE hK hP hD [0, 1] rfl (by decide) (va_free hD hS hA [0, 1] rfl) xR0 2 0 rfl rfl) rfl rfl hl.1 rfl (lv_room (Nat.le_of_ble_eq_true rfl)) dX2_addLowestFirst_18 ⟨Nat.le_of_ble_eq_true rfl, Nat.le_of_ble_eq_true rfl⟩) hS hA hP hD [0, 1] [] rfl rfl (by decide) (by decide) (fun u_3 H locs hu_3 hP hD hS => ?_)
  subst hu_3
  have hP := hP.sub (ws' := tW a5 a6 cI (va_up (va_up (va_up tb tn (Int32.toInt8 x)) (tn + 1) (Int32.toInt8 (x >>> ((nI 8) &&& 31)))) ((tn + 1) + 1) (Int32.toInt8 (x >>> ((nI 16) &&& 31)))) (((tn + 1) + 1) + 1)) [0, 1] rfl
  have hD := hD.sub (ws' := tW a5 a6 cI (va_up (va_up (va_up tb tn (Int32.toInt8 x)) (tn + 1) (Int32.toInt8 (x >>> ((nI 8) &&& 31)))) ((tn + 1) + 1) (Int32.toInt8 (x >>> ((nI 16) &&& 31)))) (((tn + 1) + 1) + 1)) [0, 1] (by decide) rfl
  refine lv_aload_n (pc := 21) hx hb dX2_addLowestFirst_21 rfl (lv_at hl 0 rfl) ?_
  refine lv_iload_n (pc := 22) hx hb dX2_addLowestFirst_22 rfl (lv_at hl 1 rfl) ?_
  refine lv_bipush (pc := 23) (v := nI 24) hx hb dX2_addLowestFirst_23 (by decide) ?_
  refine lv_ishr (pc := 25) hx hb dX2_addLowestFirst_25 ?_
  refine x_wrv (pc := 26) (va_runV (As := [.int (x >>> ((nI 24) &&& 31))]) (rest := []) ⟨hx, hb, hml, hown, hts⟩ (kX2_add l dC dI tt cI cB _ a5 a6 (va_up (va_up (va_up tb tn (Int32.toInt8 x)) (tn + 1) (Int32.toInt8 (x >>> ((nI 8) &&& 31)))) ((tn + 1) + 1) (Int32.toInt8 (x >>> ((nI 16) &&& 31)))) (((tn + 1) + 1) + 1) (x >>> ((nI 24) &&& 31)) (by omega)) (cwV 1 hts gX2_addLowestFirst_X2_add rfl rfl rfl (by decide +kernel) ⟨Nat.le_of_ble_eq_true rfl, Nat.le_of_ble_eq_true rfl⟩) (x_preV hS hE hK hP hD [0, 1] rfl (by decide) (va_free hD hS hA [0, 1] rfl) xR0 2 0 rfl rfl) rfl rfl hl.1 rfl (lv_room (Nat.le_of_ble_eq_true rfl)) dX2_addLowestFirst_26 ⟨Nat.le_of_ble_eq_true rfl, Nat.le_of_ble_eq_true rfl⟩) hS hA hP hD [0, 1] [] rfl rfl (by decide) (by decide) (fun u_4 H locs hu_4 hP hD hS => ?_)
  subst hu_4
  have hP := hP.sub (ws' := tW a5 a6 cI (va_up (va_up (va_up (va_up tb tn (Int32.toInt8 x)) (tn + 1) (Int32.toInt8 (x >>> ((nI 8) &&& 31)))) ((tn + 1) + 1) (Int32.toInt8 (x >>> ((nI 16) &&& 31)))) (((tn + 1) + 1) + 1) (Int32.toInt8 (x >>> ((nI 24) &&& 31)))) ((((tn + 1) + 1) + 1) + 1)) [0, 1] rfl
  have hD := hD.sub (ws' := tW a5 a6 cI (va_up (va_up (va_up (va_up tb tn (Int32.toInt8 x)) (tn + 1) (Int32.toInt8 (x >>> ((nI 8) &&& 31)))) ((tn + 1) + 1) (Int32.toInt8 (x >>> ((nI 16) &&& 31)))) (((tn + 1) + 1) + 1) (Int32.toInt8 (x >>> ((nI 24) &&& 31)))) ((((tn + 1) + 1) + 1) + 1)) [0, 1] (by decide) rfl
  exact W.vret hx hb hr (fun t ht hW => ⟨⟨(va_up (va_up (va_up (va_up tb tn (Int32.toInt8 x)) (tn + 1) (Int32.toInt8 (x >>> ((nI 8) &&& 31)))) ((tn + 1) + 1) (Int32.toInt8 (x >>> ((nI 16) &&& 31)))) (((tn + 1) + 1) + 1) (Int32.toInt8 (x >>> ((nI 24) &&& 31))), (((tn + 1) + 1) + 1) + 1), rfl, rfl, by show va_P _ _ _ t.heap; rw [ht]; exact hP, va_K.moved hW.alike hK, hD⟩, hS.F ht⟩) hS.2.2 dX2_addLowestFirst_29
set_option maxHeartbeats 4000000 in
set_option maxRecDepth 100000 in
theorem kX2_becomeImage (l : Launch) (dC : Nat → ClassId) (dI : Nat → Nat → Nat) (tt : Nat → Nat) (cI cB : ClassId) (sz : Nat) (a5 a6 a7 a8 a9 : Nat) (tb : Nat → Int8) (len : Nat) (sc hs : Nat → Int32) (v : Int32) (hlen : len ≤ 984) : MetV (S := ((Nat → Int8) × Nat × (Nat → Int32) × (Nat → Int32))) l yX2_becomeImage wsX2_becomeImage { frames := 3, cells := 0, slots := 0, locals := 80 } (dC, dI) [(cI, .int), (cB, .byte)] tt [] sz (tsW a5 a6 a7 a8 a9 cI tb len sc hs) [.ref a5, .int v, .ref a7] (fun u : ((Nat → Int8) × Nat × (Nat → Int32) × (Nat → Int32)) => tsW a5 a6 a7 a8 a9 cI u.1 u.2.1 u.2.2.1 u.2.2.2) (fun u => u.1 = imgT tb len v ∧ u.2.1 = len + 40) := by
  refine Met.ofW (cc := cX2_becomeImage) (maxL := 5) (ret := none) (by decide) rfl ?_
  intro p e s m args below meth c s₁ B hml hv
  obtain ⟨rfl, hsz, hP, hK, hD0, hE⟩ := hv
  have hx := B.exec
  have hb := B.bytes
  have hr := B.returns
  have hts := atoms_spec (ws := wsX2_becomeImage) B.pre
  have hown : s.vm.findClass RX2 = some m.cls := findClass_of_methodNamed B.named
  have hlocks := B.notSynchronized
  subst hsz
  have hD := hD0.self (sz := s.heap.size)
  generalize hAe : va_A (tsW a5 a6 a7 a8 a9 cI tb len sc hs) s.heap.size = A at hD hE ⊢
  have hA : ∀ q : Nat, s.heap.size ≤ q → A q := fun q h => by rw [← hAe]; exact Or.inr h
  have hS : va_S A s.heap s.heap [] := va_S.rf
  have hl := lv_entry ([.ref a5, .int v, .ref a7]) (n := 5) (Nat.le_of_ble_eq_true rfl)
  rw [lg_entry_eq]
  generalize (lg_sl ([.ref a5, .int v, .ref a7]) ++ List.replicate (5 - (lg_sl ([.ref a5, .int v, .ref a7])).length) Slot.unset).toArray = ls at hl ⊢
  have hl : lv_has ls 5 [(0, .ref a5), (1, .int v), (2, .ref a7)] := hl
  have hP : va_P (dC, dI) vwCl (tsW a5 a6 a7 a8 a9 cI tb len sc hs) s.heap := hP
  refine lv_aload_n (pc := 0) hx hb dX2_becomeImage_0 rfl (lv_at hl 0 rfl) ?_
  refine va_get (pc := 1) (D := (dC, dI)) (ci := 2) (v := .int (nI len)) (C := RX2) (T := TX2) (N := 2) hx hb hts (by decide +kernel) hown hK hP 0 rfl rfl 1 (by decide) (hts (.fieldLink RX2 15 "ScratchSwap$Tape" "count" "I") (by decide +kernel)) (fun _ h9 => h9) rfl dX2_becomeImage_1 ?_
  refine lv_istore_n (pc := 4) (lv' := [(3, .int (nI len)), (0, .ref a5), (1, .int v), (2, .ref a7)]) hx hb dX2_becomeImage_4 rfl hl (by decide) rfl (fun ls hl => ?_)
  refine lv_iload_n (pc := 5) hx hb dX2_becomeImage_5 rfl (lv_at hl 0 rfl) ?_
  refine lv_if_lt (pc := 6) (tgt := 20) hx hb dX2_becomeImage_6 (by decide) (fun c1 => ?_) (fun c1 => ?_)
  · skip
    have c1 : len < 0 := (nI_ltI (a := len) (b := 0) (by omega) (by omega)).mp c1
    exfalso; omega
  · skip
    have c1 : ¬ len < 0 := fun z => c1 ((nI_ltI (a := len) (b := 0) (by omega) (by omega)).mpr z)
    refine lv_iload_n (pc := 9) hx hb dX2_becomeImage_9 rfl (lv_at hl 0 rfl) ?_
    refine lv_sipush (pc := 10) (v := nI 984) hx hb dX2_becomeImage_10 (by decide) ?_
    refine lv_icmp_gt (pc := 13) (tgt := 20) hx hb dX2_becomeImage_13 (by decide) (fun c2 => ?_) (fun c2 => ?_)
    · skip
      have c2 : 984 < len := (nI_ltI (a := 984) (b := len) (by omega) (by omega)).mp c2
      exfalso; omega
    · skip
      have c2 : ¬ 984 < len := fun z => c2 ((nI_ltI (a := 984) (b := len) (by omega) (by omega)).mpr z)
      refine lv_aload_n (pc := 16) hx hb dX2_becomeImage_16 rfl (lv_at hl 3 rfl) ?_
      refine lv_ifnonnull (pc := 17) (tgt := 21) hx hb dX2_becomeImage_17 (by decide) ?_
      refine lv_iload_n (pc := 21) hx hb dX2_becomeImage_21 rfl (lv_at hl 0 rfl) ?_
      refine lv_iconst (pc := 22) (v := nI 1) hx hb dX2_becomeImage_22 (by decide) ?_
      refine lv_isub (pc := 23) hx hb dX2_becomeImage_23 ?_
      refine lv_istore (pc := 24) (lv' := [(4, .int ((nI len) - (nI 1))), (3, .int (nI len)), (0, .ref a5), (1, .int v), (2, .ref a7)]) hx hb dX2_becomeImage_24 hl (by decide) rfl (fun ls hl => ?_)
      rw [← shT_0 tb len] at hP hD
      refine x_loop (σ := (Nat)) (Wd := fun d : (Nat) => tsW a5 a6 a7 a8 a9 cI (shT tb len d) len sc hs) (Lv := fun d : (Nat) => [(4, .int (nI d - nI 1)), (3, .int (nI len)), (0, .ref a5), (1, .int v), (2, .ref a7)]) (I := fun d : (Nat) => (d ≤ len)) (μ := fun d : (Nat) => d) ?_ (len) (Nat.le_refl _) hP hD hS (lv_sub hl [0, 1, 2, 3, 4] rfl)
      intro d H locs ls hI hP hD hS hl ih26
      have hd : (d ≤ len) := hI
      have hP : va_P (dC, dI) vwCl (tsW a5 a6 a7 a8 a9 cI (shT tb len d) len sc hs) _ := hP
      have hD : va_D A (tsW a5 a6 a7 a8 a9 cI (shT tb len d) len sc hs) := hD
      have hl : lv_has ls 5 [(4, .int (nI d - nI 1)), (3, .int (nI len)), (0, .ref a5), (1, .int v), (2, .ref a7)] := hl
      refine lv_iload (pc := 26) hx hb dX2_becomeImage_26 (lv_at hl 0 rfl) ?_
      refine lv_if_lt (pc := 28) (tgt := 54) hx hb dX2_becomeImage_28 (by decide) (fun c5 => ?_) (fun c5 => ?_)
      · skip
        have c5 : d = 0 := (nI_neg1 (by omega)).mp c5
        subst c5
        have hP : va_P (dC, dI) vwCl (tsW a5 a6 a7 a8 a9 cI (shT tb len 0) len sc hs) _ := hP
        have hD : va_D A (tsW a5 a6 a7 a8 a9 cI (shT tb len 0) len sc hs) := hD
        refine lv_aload_n (pc := 54) hx hb dX2_becomeImage_54 rfl (lv_at hl 2 rfl) ?_
        refine lv_iconst (pc := 55) (v := nI 0) hx hb dX2_becomeImage_55 (by decide) ?_
        refine va_put (pc := 56) (D := (dC, dI)) (ci := 2) (v := .int (nI 0)) (ty := .int) (C := RX2) (T := TX2) (N := 2) hx hb hts (by decide +kernel) tyX2 tyX2_ok nmX2 hown hK hP hD hS 0 rfl rfl 1 (by decide) (hts (.fieldLink RX2 15 "ScratchSwap$Tape" "count" "I") (by decide +kernel)) (fun _ h9 => h9) rfl (by decide +kernel) rfl rfl (Nat.le_of_ble_eq_true rfl) dX2_becomeImage_56 (fun H locs hP hD hS => ?_)
        have hP : va_P (dC, dI) vwCl (tsW a5 a6 a7 a8 a9 cI (shT tb len 0) 0 sc hs) _ := hP
        have hD : va_D A (tsW a5 a6 a7 a8 a9 cI (shT tb len 0) 0 sc hs) := hD
        refine lv_aload_n (pc := 59) hx hb dX2_becomeImage_59 rfl (lv_at hl 2 rfl) ?_
        refine lv_iload_n (pc := 60) hx hb dX2_becomeImage_60 rfl (lv_at hl 1 rfl) ?_
        refine x_wrv (pc := 61) (va_runV (As := [.int (nI len)]) (rest := []) ⟨hx, hb, hml, hown, hts⟩ (kX2_addLowestFirst l dC dI tt cI cB _ a5 a6 (shT tb len 0) 0 (nI len) (by omega)) (cwV 1 hts gX2_becomeImage_X2_addLowestFirst rfl rfl rfl (by decide +kernel) ⟨Nat.le_of_ble_eq_true rfl, Nat.le_of_ble_eq_true rfl⟩) (x_preV hS hE hK hP hD [0, 1] rfl (by decide) (va_free hD hS hA [0, 1] rfl) xR0 2 0 rfl rfl) rfl rfl hl.1 rfl (lv_room (Nat.le_of_ble_eq_true rfl)) dX2_becomeImage_61 ⟨Nat.le_of_ble_eq_true rfl, Nat.le_of_ble_eq_true rfl⟩) hS hA hP hD [0, 1] [2, 3, 4] rfl rfl (by decide) (by decide) (fun u_1 H locs hu_1 hP hD hS => ?_)
        subst hu_1
        have hP := hP.sub (ws' := tsW a5 a6 a7 a8 a9 cI (loT (shT tb len 0) 0 (nI len)) (0 + 4) sc hs) [3, 4, 0, 1, 2] rfl
        have hD := hD.sub (ws' := tsW a5 a6 a7 a8 a9 cI (loT (shT tb len 0) 0 (nI len)) (0 + 4) sc hs) [3, 4, 0, 1, 2] (by decide) rfl
        refine lv_aload_n (pc := 64) hx hb dX2_becomeImage_64 rfl (lv_at hl 2 rfl) ?_
        refine lv_iload_n (pc := 65) hx hb dX2_becomeImage_65 rfl (lv_at hl 3 rfl) ?_
        refine x_wrv (pc := 66) (va_runV (As := [.int v]) (rest := []) ⟨hx, hb, hml, hown, hts⟩ (kX2_addLowestFirst l dC dI tt cI cB _ a5 a6 (loT (shT tb len 0) 0 (nI len)) (0 + 4) v (by omega)) (cwV 1 hts gX2_becomeImage_X2_addLowestFirst rfl rfl rfl (by decide +kernel) ⟨Nat.le_of_ble_eq_true rfl, Nat.le_of_ble_eq_true rfl⟩) (x_preV hS hE hK hP hD [0, 1] rfl (by decide) (va_free hD hS hA [0, 1] rfl) xR0 2 0 rfl rfl) rfl rfl hl.1 rfl (lv_room (Nat.le_of_ble_eq_true rfl)) dX2_becomeImage_66 ⟨Nat.le_of_ble_eq_true rfl, Nat.le_of_ble_eq_true rfl⟩) hS hA hP hD [0, 1] [2, 3, 4] rfl rfl (by decide) (by decide) (fun u_2 H locs hu_2 hP hD hS => ?_)
        subst hu_2
        have hP := hP.sub (ws' := tsW a5 a6 a7 a8 a9 cI (loT (loT (shT tb len 0) 0 (nI len)) (0 + 4) v) ((0 + 4) + 4) sc hs) [3, 4, 0, 1, 2] rfl
        have hD := hD.sub (ws' := tsW a5 a6 a7 a8 a9 cI (loT (loT (shT tb len 0) 0 (nI len)) (0 + 4) v) ((0 + 4) + 4) sc hs) [3, 4, 0, 1, 2] (by decide) rfl
        refine lv_aload_n (pc := 69) hx hb dX2_becomeImage_69 rfl (lv_at hl 2 rfl) ?_
        refine lv_bipush (pc := 70) (v := nI 8) hx hb dX2_becomeImage_70 (by decide) ?_
        refine lv_iload_n (pc := 72) hx hb dX2_becomeImage_72 rfl (lv_at hl 1 rfl) ?_
        refine lv_iadd (pc := 73) hx hb dX2_becomeImage_73 ?_
        refine lv_cv (nI_add 8 len) ?_
        refine va_put (pc := 74) (D := (dC, dI)) (ci := 2) (v := .int (nI (8 + len))) (ty := .int) (C := RX2) (T := TX2) (N := 2) hx hb hts (by decide +kernel) tyX2 tyX2_ok nmX2 hown hK hP hD hS 0 rfl rfl 1 (by decide) (hts (.fieldLink RX2 15 "ScratchSwap$Tape" "count" "I") (by decide +kernel)) (fun _ h9 => h9) rfl (by decide +kernel) rfl rfl (Nat.le_of_ble_eq_true rfl) dX2_becomeImage_74 (fun H locs hP hD hS => ?_)
        have hP : va_P (dC, dI) vwCl (tsW a5 a6 a7 a8 a9 cI (loT (loT (shT tb len 0) 0 (nI len)) (0 + 4) v) (8 + len) sc hs) _ := hP
        have hD : va_D A (tsW a5 a6 a7 a8 a9 cI (loT (loT (shT tb len 0) 0 (nI len)) (0 + 4) v) (8 + len) sc hs) := hD
        refine lv_aload_n (pc := 77) hx hb dX2_becomeImage_77 rfl (lv_at hl 4 rfl) ?_
        refine lv_aload_n (pc := 78) hx hb dX2_becomeImage_78 rfl (lv_at hl 2 rfl) ?_
        refine va_get (pc := 79) (D := (dC, dI)) (ci := 2) (v := .ref a6) (C := RX2) (T := TX2) (N := 2) hx hb hts (by decide +kernel) hown hK hP 0 rfl rfl 0 (by decide) (hts (.fieldLink RX2 9 "ScratchSwap$Tape" "bytes" "[I") (by decide +kernel)) (fun _ h9 => h9) rfl dX2_becomeImage_79 ?_
        refine lv_iconst (pc := 82) (v := nI 0) hx hb dX2_becomeImage_82 (by decide) ?_
        refine lv_aload_n (pc := 83) hx hb dX2_becomeImage_83 rfl (lv_at hl 2 rfl) ?_
        refine va_get (pc := 84) (D := (dC, dI)) (ci := 2) (v := .int (nI (8 + len))) (C := RX2) (T := TX2) (N := 2) hx hb hts (by decide +kernel) hown hK hP 0 rfl rfl 1 (by decide) (hts (.fieldLink RX2 15 "ScratchSwap$Tape" "count" "I") (by decide +kernel)) (fun _ h9 => h9) rfl dX2_becomeImage_84 ?_
        refine x_wrv (pc := 87) (va_runVN (As := [.ref a6, .int (nI 0), .int (nI (8 + len))]) (rest := []) ⟨hx, hb, hml, hown, hts⟩ (kX1_digest l dC dI tt cI cB _ a7 a8 a9 sc hs a6 1024 (loT (loT (shT tb len 0) 0 (nI len)) (0 + 4) v) 0 (8 + len) (by omega) (by omega) (by omega)) (⟨va_cnB 3 hts gX2_becomeImage_X1_digest_n26 rfl rfl rfl (hE.m 5 rfl) (hts (.initialized RX1) (by decide +kernel)) (by decide +kernel) ⟨Nat.le_of_ble_eq_true rfl, Nat.le_of_ble_eq_true rfl⟩, hts (.instanceMethod yX1_digest) (by decide +kernel), hts (.selects RX1 yX1_digest yX1_digest) (by decide +kernel)⟩) (x_preV hS hE hK hP hD [2, 3, 4] rfl (by decide) (va_free hD hS hA [2, 3, 4] rfl) (xRc hK hP hD 1 0 rfl rfl [2, 3, 4] rfl (by decide)) 1 2 rfl rfl) rfl rfl hl.1 rfl (lv_room (Nat.le_of_ble_eq_true rfl)) dX2_becomeImage_87 ⟨Nat.le_of_ble_eq_true rfl, Nat.le_of_ble_eq_true rfl⟩) hS hA hP hD [2, 3, 4] [0, 1] rfl rfl (by decide) (by decide) (fun u_3 H locs hu_3 hP hD hS => ?_)
        obtain ⟨sc_4, hs_5⟩ := u_3
        have hdhs_5 : of8 hs_5 = sha8 (loT (loT (shT tb len 0) 0 (nI len)) (0 + 4) v) 0 (8 + len) := hu_3
        have hP := hP.sub (ws' := tsW a5 a6 a7 a8 a9 cI (loT (loT (shT tb len 0) 0 (nI len)) (0 + 4) v) (8 + len) sc_4 hs_5) [0, 1, 2, 3, 4] rfl
        have hD := hD.sub (ws' := tsW a5 a6 a7 a8 a9 cI (loT (loT (shT tb len 0) 0 (nI len)) (0 + 4) v) (8 + len) sc_4 hs_5) [0, 1, 2, 3, 4] (by decide) rfl
        refine lv_iconst (pc := 90) (v := nI 0) hx hb dX2_becomeImage_90 (by decide) ?_
        refine lv_istore (pc := 91) (lv' := [(4, .int (nI 0)), (3, .int (nI len)), (0, .ref a5), (1, .int v), (2, .ref a7)]) hx hb dX2_becomeImage_91 hl (by decide) rfl (fun ls hl => ?_)
        rw [← dgT_0 (loT (loT (shT tb len 0) 0 (nI len)) 4 v) (8 + len) (digT (of8 hs_5))] at hP hD
        have hP : va_P (dC, dI) vwCl (tsW a5 a6 a7 a8 a9 cI (dgT (headT tb len v) (8 + len) (digT (of8 hs_5)) 0) (8 + len) sc_4 hs_5) _ := hP
        have hD : va_D A (tsW a5 a6 a7 a8 a9 cI (dgT (headT tb len v) (8 + len) (digT (of8 hs_5)) 0) (8 + len) sc_4 hs_5) := hD
        refine x_loop (σ := (Nat)) (Wd := fun i : (Nat) => tsW a5 a6 a7 a8 a9 cI (dgT (headT tb len v) (8 + len) (digT (of8 hs_5)) i) (8 + len + i) sc_4 hs_5) (Lv := fun i : (Nat) => [(4, .int (nI i)), (3, .int (nI len)), (0, .ref a5), (1, .int v), (2, .ref a7)]) (I := fun i : (Nat) => (i ≤ 32)) (μ := fun i : (Nat) => 32 - i) ?_ (0) (Nat.zero_le _) hP hD hS (lv_sub hl [0, 1, 2, 3, 4] rfl)
        intro i H locs ls hI hP hD hS hl ih93
        have hi : (i ≤ 32) := hI
        have hP : va_P (dC, dI) vwCl (tsW a5 a6 a7 a8 a9 cI (dgT (headT tb len v) (8 + len) (digT (of8 hs_5)) i) (8 + len + i) sc_4 hs_5) _ := hP
        have hD : va_D A (tsW a5 a6 a7 a8 a9 cI (dgT (headT tb len v) (8 + len) (digT (of8 hs_5)) i) (8 + len + i) sc_4 hs_5) := hD
        have hl : lv_has ls 5 [(4, .int (nI i)), (3, .int (nI len)), (0, .ref a5), (1, .int v), (2, .ref a7)] := hl
        refine lv_iload (pc := 93) hx hb dX2_becomeImage_93 (lv_at hl 0 rfl) ?_
        refine lv_bipush (pc := 95) (v := nI 32) hx hb dX2_becomeImage_95 (by decide) ?_
        refine lv_icmp_ge (pc := 97) (tgt := 116) hx hb dX2_becomeImage_97 (by decide) (fun c_6 => ?_) (fun c_6 => ?_)
        · skip
          have c_6 : 32 ≤ i := (nI_leI (a := 32) (b := i) (by omega) (by omega)).mp c_6
          have hi9 : i = 32 := by omega
          subst hi9
          exact W.vret hx hb hr (fun t ht hW => ⟨⟨(dgT (headT tb len v) (8 + len) (digT (of8 hs_5)) 32, 8 + len + 32, sc_4, hs_5), rfl, ⟨by have hd9 : of8 hs_5 = sha8 (headT tb len v) 0 (8 + len) := hdhs_5; show dgT (headT tb len v) (8 + len) (digT (of8 hs_5)) 32 = _; rw [imgT, ← hd9], by show 8 + len + 32 = len + 40; omega⟩, by show va_P _ _ _ t.heap; rw [ht]; exact hP, va_K.moved hW.alike hK, hD⟩, hS.F ht⟩) hS.2.2 dX2_becomeImage_116
        · skip
          have c_6 : ¬ 32 ≤ i := fun z => c_6 ((nI_leI (a := 32) (b := i) (by omega) (by omega)).mpr z)
          refine lv_aload_n (pc := 100) hx hb dX2_becomeImage_100 rfl (lv_at hl 2 rfl) ?_
          refine lv_aload_n (pc := 101) hx hb dX2_becomeImage_101 rfl (lv_at hl 4 rfl) ?_
          refine lv_iload (pc := 102) hx hb dX2_becomeImage_102 (lv_at hl 0 rfl) ?_
          refine x_roi (pc := 104) (va_runVN (As := [.int (nI i)]) (rest := [.ref a5]) ⟨hx, hb, hml, hown, hts⟩ (kX1_digestByte l dC dI tt cI cB _ a7 a8 a9 sc_4 hs_5 i (by omega)) (⟨va_cnB 1 hts gX2_becomeImage_X1_digestByte_n32 rfl rfl rfl (hE.m 6 rfl) (hts (.initialized RX1) (by decide +kernel)) (by decide +kernel) ⟨Nat.le_of_ble_eq_true rfl, Nat.le_of_ble_eq_true rfl⟩, hts (.instanceMethod yX1_digestByte) (by decide +kernel), hts (.selects RX1 yX1_digestByte yX1_digestByte) (by decide +kernel)⟩) (x_preV hS hE hK hP hD [2, 3, 4] rfl (by decide) (x_ro hS hA) xR0 1 2 rfl rfl) rfl rfl hl.1 rfl (lv_room (Nat.le_of_ble_eq_true rfl)) dX2_becomeImage_104 ⟨Nat.le_of_ble_eq_true rfl, Nat.le_of_ble_eq_true rfl⟩) hS hA hP (fun r_7 H locs hr_7 hP hS => ?_)
          subst hr_7
          refine x_wrv (pc := 107) (va_runV (As := [.int (ub (digT (of8 hs_5) i))]) (rest := []) ⟨hx, hb, hml, hown, hts⟩ (kX2_add l dC dI tt cI cB _ a5 a6 (dgT (headT tb len v) (8 + len) (digT (of8 hs_5)) i) (8 + len + i) (ub (digT (of8 hs_5) i)) (by omega)) (cwV 1 hts gX2_becomeImage_X2_add rfl rfl rfl (by decide +kernel) ⟨Nat.le_of_ble_eq_true rfl, Nat.le_of_ble_eq_true rfl⟩) (x_preV hS hE hK hP hD [0, 1] rfl (by decide) (va_free hD hS hA [0, 1] rfl) xR0 2 0 rfl rfl) rfl rfl hl.1 rfl (lv_room (Nat.le_of_ble_eq_true rfl)) dX2_becomeImage_107 ⟨Nat.le_of_ble_eq_true rfl, Nat.le_of_ble_eq_true rfl⟩) hS hA hP hD [0, 1] [2, 3, 4] rfl rfl (by decide) (by decide) (fun u_8 H locs hu_8 hP hD hS => ?_)
          subst hu_8
          rw [ub_8] at hP hD
          have hP := hP.sub (ws' := tsW a5 a6 a7 a8 a9 cI (va_up (dgT (headT tb len v) (8 + len) (digT (of8 hs_5)) i) (8 + len + i) (digT (of8 hs_5) i)) ((8 + len + i) + 1) sc_4 hs_5) [3, 4, 0, 1, 2] rfl
          have hD := hD.sub (ws' := tsW a5 a6 a7 a8 a9 cI (va_up (dgT (headT tb len v) (8 + len) (digT (of8 hs_5)) i) (8 + len + i) (digT (of8 hs_5) i)) ((8 + len + i) + 1) sc_4 hs_5) [3, 4, 0, 1, 2] (by decide) rfl
          refine lv_iinc (pc := 110) (v := nI (i + 1)) (lv' := [(4, .int (nI (i + 1))), (3, .int (nI len)), (0, .ref a5), (1, .int v), (2, .ref a7)]) hx hb dX2_becomeImage_110 hl (k := 0) rfl (nI_inc i 1) (by decide) rfl (fun ls hl => ?_)
          refine lv_goto (pc := 113) (tgt := 93) hx hb dX2_becomeImage_113 (by decide) ?_
          rw [dgT_step] at hP hD
          exact ih93 (i + 1) H locs ls (by omega) (by first | omega | (simp only []; omega)) hP hD hS (lv_sub hl [0, 1, 2, 3, 4] rfl)
      · skip
        have c5 : ¬ d = 0 := fun z => c5 ((nI_neg1 (by omega)).mpr z)
        obtain ⟨d, rfl⟩ : ∃ z, d = z + 1 := ⟨d - 1, by omega⟩
        have hl : lv_has ls 5 [(4, .int (nI d)), (3, .int (nI len)), (0, .ref a5), (1, .int v), (2, .ref a7)] := by rw [← nI_sub1 d]; exact hl
        have hP : va_P (dC, dI) vwCl (tsW a5 a6 a7 a8 a9 cI (shT tb len (d + 1)) len sc hs) _ := hP
        have hD : va_D A (tsW a5 a6 a7 a8 a9 cI (shT tb len (d + 1)) len sc hs) := hD
        refine lv_aload_n (pc := 31) hx hb dX2_becomeImage_31 rfl (lv_at hl 2 rfl) ?_
        refine va_get (pc := 32) (D := (dC, dI)) (ci := 2) (v := .ref a6) (C := RX2) (T := TX2) (N := 2) hx hb hts (by decide +kernel) hown hK hP 0 rfl rfl 0 (by decide) (hts (.fieldLink RX2 9 "ScratchSwap$Tape" "bytes" "[I") (by decide +kernel)) (fun _ h9 => h9) rfl dX2_becomeImage_32 ?_
        refine lv_bipush (pc := 35) (v := nI 8) hx hb dX2_becomeImage_35 (by decide) ?_
        refine lv_iload (pc := 37) hx hb dX2_becomeImage_37 (lv_at hl 0 rfl) ?_
        refine lv_iadd (pc := 39) hx hb dX2_becomeImage_39 ?_
        refine lv_cv (nI_add 8 d) ?_
        refine lv_aload_n (pc := 40) hx hb dX2_becomeImage_40 rfl (lv_at hl 2 rfl) ?_
        refine va_get (pc := 41) (D := (dC, dI)) (ci := 2) (v := .ref a6) (C := RX2) (T := TX2) (N := 2) hx hb hts (by decide +kernel) hown hK hP 0 rfl rfl 0 (by decide) (hts (.fieldLink RX2 9 "ScratchSwap$Tape" "bytes" "[I") (by decide +kernel)) (fun _ h9 => h9) rfl dX2_becomeImage_41 ?_
        refine lv_iload (pc := 44) hx hb dX2_becomeImage_44 (lv_at hl 0 rfl) ?_
        refine x_iald (pc := 46) (k := d) (f := fun j => ub ((shT tb len (d + 1)) j)) hx hb hK hP 1 0 rfl rfl (by omega) (by decide) dX2_becomeImage_46 ?_
        refine x_ust (pc := 47) (k := 8 + d) (F := shT tb len (d + 1)) (x := (shT tb len (d + 1)) d) hx hb hK hP hD hS 1 0 rfl rfl (by omega) (by decide) dX2_becomeImage_47 (fun H locs hP hD hS => ?_)
        have hP : va_P (dC, dI) vwCl (tsW a5 a6 a7 a8 a9 cI (va_up (shT tb len (d + 1)) (8 + d) ((shT tb len (d + 1)) d)) len sc hs) _ := hP
        have hD : va_D A (tsW a5 a6 a7 a8 a9 cI (va_up (shT tb len (d + 1)) (8 + d) ((shT tb len (d + 1)) d)) len sc hs) := hD
        refine lv_iinc (pc := 48) (v := nI d - nI 1) (lv' := [(4, .int (nI d - nI 1)), (3, .int (nI len)), (0, .ref a5), (1, .int v), (2, .ref a7)]) hx hb dX2_becomeImage_48 hl (k := 0) rfl (nI_decI d) (by decide) rfl (fun ls hl => ?_)
        refine lv_goto (pc := 51) (tgt := 26) hx hb dX2_becomeImage_51 (by decide) ?_
        rw [shT_step tb (show d < len by omega)] at hP hD
        exact ih26 (d) H locs ls (by omega) (by first | omega | (simp only []; omega)) hP hD hS (lv_sub hl [0, 1, 2, 3, 4] rfl)
end
section
section XCA
variable {p : Program} {l : Launch} {e : Env} {R : Room} {s : State} {m : MethodId} {args : Array Value} {below : List Frame} {meth : Method} {c : Code} {H : Heap} {locs : List Loc} {cells slots : Nat} {Q : State → Prop}
variable {pc : Nat} {ls : Array Slot} {rest st0 : List Value} {a : Array Value} {A0 B : Nat → Prop} {mc ms : Nat} {D : va_G} {tys : List (ClassId × FieldType)} {tt : Nat → Nat} {rt rt1 : List (Nat × Nat × (Nat → Int32))} {ws : va_W}
theorem x_all {H0 : Heap} (hD : va_D A0 ws) (hS : va_S A0 H0 H locs) (hA : ∀ q, H0.size ≤ q → A0 q) : ∀ q, va_A ws H.size q → A0 q := by
  intro q h
  rcases h with ⟨k, e, h⟩ | h
  · exact hD.2 k _ h
  · exact hA q (Nat.le_trans hS.1 h)
theorem x_preSa {As : List Value} (hS : va_S A0 s.heap H locs) (hE : xE tt rt A0 s s.heap) (hK : va_K D vwCl tys s) (hP : va_P D vwCl ws H) {A' : Nat → Prop} (hD : va_D A' ws) (hB : ∀ q, B q → A0 q) (hR : ∀ U : State, U.heap = H → s.WarmedH U.vm → ∀ q ∈ rt1, va_T .int q.1 q.2.1 (fun j => .int (q.2.2 j)) B U U.heap) : PreS s H (xP D tys tt rt1 B H.size ws As) As :=
  ⟨xP.blind, fun U hU hW => ⟨rfl, by rw [hU], by rw [hU]; exact hP, va_K.moved hW.alike hK, hD.weaken (fun _ _ _ _ => trivial), hE.go hS hB hU hW (hR U hU hW)⟩⟩
theorem x_preVa {As : List Value} {b : Addr} {fs : List Value} {q : vw_C} (hS : va_S A0 s.heap H locs) (hE : xE tt rt A0 s s.heap) (hK : va_K D vwCl tys s) (hP : va_P D vwCl ws H) {A' : Nat → Prop} (hD : va_D A' ws) (hB : ∀ q, B q → A0 q) (hR : ∀ U : State, U.heap = H → s.WarmedH U.vm → ∀ q ∈ rt1, va_T .int q.1 q.2.1 (fun j => .int (q.2.2 j)) B U U.heap) (ci q0 : Nat) (hc : vwCl[ci]? = some q) (he : ws[q0]? = some (b, .inr (ci, fs))) : PreV s H q.1 b (xP D tys tt rt1 B H.size ws (.ref b :: As)) As :=
  ⟨xP.blind, va_recv hK hP hc he, fun U hU hW => ⟨rfl, by rw [hU], by rw [hU]; exact hP, va_K.moved hW.alike hK, hD.weaken (fun _ _ _ _ => trivial), hE.go hS hB hU hW (hR U hU hW)⟩⟩
theorem x_wria {H0 : Heap} {S : Type} {post : Int32 → S → Prop} {Wf : S → va_W} (hr : va_Run p l e R s m args below meth c H locs cells slots mc ms (F0 m pc ls st0) rest (va_Qi post (xB D tys (va_A ws H.size) Wf) (va_A ws H.size) a) (va_A ws H.size)) (hS : va_S A0 H0 H locs) (hA : ∀ q, H0.size ≤ q → A0 q) (hD : va_D A0 ws)
    (kk : ∀ (r : Int32) (u : S) (H1 : Heap) (locs1 : List Loc), post r u → va_P D vwCl (Wf u) H1 → va_D A0 (Wf u) → va_S A0 H0 H1 locs1 → W p l e R s m args below meth c H1 locs1 (cells + mc) (slots + ms) Q (F0 m (pc + 3) ls (.int r :: rest))) : W p l e R s m args below meth c H locs cells slots Q (F0 m pc ls st0) := by
  have hF := x_all hD hS hA
  refine va_calli hr hS (fun q _ h => hF q h) hF (fun r u t H1 locs1 ht hvm hw hB hz hk hS1 => ?_)
  obtain ⟨hP1, -, hD1⟩ := hB
  rw [ht] at hP1
  exact kk r u H1 locs1 hw hP1 (hD1.weaken (fun _ q _ h => hF q.1 h)) hS1
theorem x_wrva {H0 : Heap} {S : Type} {post : S → Prop} {Wf : S → va_W} (hr : va_Run p l e R s m args below meth c H locs cells slots mc ms (F0 m pc ls st0) rest (va_Qv post (xB D tys (va_A ws H.size) Wf) (va_A ws H.size) a) (va_A ws H.size)) (hS : va_S A0 H0 H locs) (hA : ∀ q, H0.size ≤ q → A0 q) (hD : va_D A0 ws)
    (kk : ∀ (u : S) (H1 : Heap) (locs1 : List Loc), post u → va_P D vwCl (Wf u) H1 → va_D A0 (Wf u) → va_S A0 H0 H1 locs1 → W p l e R s m args below meth c H1 locs1 (cells + mc) (slots + ms) Q (F0 m (pc + 3) ls rest)) : W p l e R s m args below meth c H locs cells slots Q (F0 m pc ls st0) := by
  have hF := x_all hD hS hA
  refine va_callv hr hS (fun q _ h => hF q h) hF (fun u t H1 locs1 ht hvm hw hB hz hk hS1 => ?_)
  obtain ⟨hP1, -, hD1⟩ := hB
  rw [ht] at hP1
  exact kk u H1 locs1 hw hP1 (hD1.weaken (fun _ q _ h => hF q.1 h)) hS1
end XCA
end
section
abbrev xW (a0 a1 a2 a3 a4 a5 a6 a7 a8 a9 : Nat) (cI : ClassId) (k : K0) (ut : Nat → Int32) (tb : Nat → Int8) (tn : Nat) (sc hs : Nat → Int32) (rn : Bool) (rv wb ee we : Int32) : va_W := [(a0, .inr (3, [.ref a1, .ref a5, .ref a7, .int (bI rn), .int rv, .int wb, .int ee, .int we])), (a1, .inr (0, [.ref a2, .ref a3, .ref a4, .int (bI k.2.2.1), .int (bI k.2.2.2.1), .int (nI k.2.2.2.2.1), .int (nI k.2.2.2.2.2.1), .int k.2.2.2.2.2.2.1, .int k.2.2.2.2.2.2.2])), (a2, .inl (cI, 2816, .inl (fun j => ub (k.1 j)))), (a3, .inl (cI, 11, .inl k.2.1)), (a4, .inl (cI, 8, .inl ut)), (a5, .inr (2, [.ref a6, .int (nI tn)])), (a6, .inl (cI, 1024, .inl (fun j => ub (tb j)))), (a7, .inr (1, [.ref a8, .ref a9])), (a8, .inl (cI, 64, .inl sc)), (a9, .inl (cI, 8, .inl hs))]
def slotB (x : Int32) : Bool := decide (x = nI 0 ∨ x = nI 1)
theorem slotB_of {x : Int32} (h : slotB x = true) : ∃ w : Nat, w < 2 ∧ x = nI w := by
  rcases of_decide_eq_true h with q | q
  · exact ⟨0, by omega, q⟩
  · exact ⟨1, by omega, q⟩
def mkB (F : Nat → Int8) (p : Nat) : Bool := decide (setN F p = 1)
def uwB (F : Nat → Int8) : Bool := decide (¬ setN F (4 * 256 + 1 * 8) = 0) && !mkB F (4 * 256 + 2 * 8)
def askN (F : Nat → Int8) : Nat := if setN F (9 * 256 + 1 * 8) = 0 then (if magB F (9 * 256) = true then (if mkB F (9 * 256 + 3 * 8) = true then 2 else 1) else 0) else setN F (9 * 256 + 1 * 8)
theorem askN_le (F : Nat → Int8) : askN F ≤ 3 := by
  have := setN_le F (9 * 256 + 1 * 8)
  unfold askN; split
  · split
    · split <;> omega
    · omega
  · exact this
def tuB (F : Nat → Int8) : Bool := magB F (4 * 256) && (decide (setN F (4 * 256 + 1 * 8) = 1) && (mkB F (4 * 256 + 2 * 8) && !mkB F (4 * 256 + 3 * 8)))
def rightB (F : Nat → Int8) (a : Nat) : Bool := inB 985 (mI F a) && eqTo (fun i => F (a + (8 + (mI F a).toNatClampNeg) + i)) (digT (sha8 F a (8 + (mI F a).toNatClampNeg))) 32
theorem rightB_n {F : Nat → Int8} {a n : Nat} (hn : n ≤ 984) (h : mI F a = nI n) : rightB F a = eqTo (fun i => F (a + (8 + n) + i)) (digT (sha8 F a (8 + n))) 32 := by
  unfold rightB
  rw [h, nI_clamp (by omega), inB_nI (by omega) (by decide), Bool.true_and]
theorem rightB_f {F : Nat → Int8} {a : Nat} (h : mI F a < 0 ∨ nI 984 < mI F a) : rightB F a = false := by
  unfold rightB
  have : inB 985 (mI F a) = false := by
    apply decide_eq_false
    intro z
    rcases h with q | q
    · exact z.1 q
    · apply z.2
      rw [Int32.le_iff_toInt_le, nI_toInt (by decide)]
      rw [Int32.lt_iff_toInt_lt, nI_toInt (by decide)] at q
      omega
  rw [this, Bool.false_and]
def dueN (F : Nat → Int8) : Nat := if uwB F = true then 5 else if askN F = 3 then 3 else if askN F = 0 then (if tuB F = true then 3 else 0) else if rightB F (1 * 5 * 256) = true then askN F else 4
def cntN (F : Nat → Int8) (p : Nat) : Nat → Nat
  | 0 => 0
  | n + 1 => cntN F p n + (if mkB F (p + (4 + n) * 8) = true then 1 else 0)
theorem cntN_s (F : Nat → Int8) (p n : Nat) : cntN F p (n + 1) = cntN F p n + (if mkB F (p + (4 + n) * 8) = true then 1 else 0) := rfl
theorem cntN_le (F : Nat → Int8) (p n : Nat) : cntN F p n ≤ n := by
  induction n with
  | zero => exact Nat.le_refl 0
  | succ n ih => rw [cntN_s]; split <;> omega
end
section
set_option maxHeartbeats 4000000 in
set_option maxRecDepth 100000 in
theorem kX3_asNumber (l : Launch) (dC : Nat → ClassId) (dI : Nat → Nat → Nat) (tt : Nat → Nat) (cI cB : ClassId) (sz : Nat) (b : Bool)  : MetR l yX3_asNumber wsX3_asNumber { frames := 0, cells := 0, slots := 0, locals := 0 } (dC, dI) [(cI, .int), (cB, .byte)] tt [] sz ([]) [.int (bI b)] (fun r => r = bI b) := by
  refine Met.ofW (cc := cX3_asNumber) (maxL := 1) (ret := (some .int)) (by decide) rfl ?_
  intro p e s m args below meth c s₁ B hml hv
  obtain ⟨rfl, hsz, hP, hK, hD0, hE⟩ := hv
  have hx := B.exec
  have hb := B.bytes
  have hr := B.returns
  have hts := atoms_spec (ws := wsX3_asNumber) B.pre
  have hown : s.vm.findClass RX3 = some m.cls := findClass_of_methodNamed B.named
  have hlocks := B.notSynchronized
  subst hsz
  have hD := hD0
  generalize hAe : va_A [] s.heap.size = A at hE ⊢
  have hA : ∀ q : Nat, s.heap.size ≤ q → A q := fun q h => by rw [← hAe]; exact Or.inr h
  have hS : va_S A s.heap s.heap [] := va_S.rf
  have hl := lv_entry ([.int (bI b)]) (n := 1) (Nat.le_of_ble_eq_true rfl)
  rw [lg_entry_eq]
  generalize (lg_sl ([.int (bI b)]) ++ List.replicate (1 - (lg_sl ([.int (bI b)])).length) Slot.unset).toArray = ls at hl ⊢
  have hl : lv_has ls 1 [(0, .int (bI b))] := hl
  refine lv_iload_n (pc := 0) hx hb dX3_asNumber_0 rfl (lv_at hl 0 rfl) ?_
  refine lv_if_eq (pc := 1) (tgt := 8) hx hb dX3_asNumber_1 (by decide) (fun c1 => ?_) (fun c1 => ?_)
  · skip
    have c1 : b = false := bI_0.mp c1
    refine lv_iconst (pc := 8) (v := nI 0) hx hb dX3_asNumber_8 (by decide) ?_
    exact W.iret (v := nI 0) hx hb hr (fun t ht hW => ⟨⟨nI 0, (), rfl, by rw [c1]; rfl, trivial⟩, hS.F ht⟩) hS.2.2 dX3_asNumber_9
  · skip
    have c1 : b = true := bI_1.mp c1
    refine lv_iconst (pc := 4) (v := nI 1) hx hb dX3_asNumber_4 (by decide) ?_
    refine lv_goto (pc := 5) (tgt := 9) hx hb dX3_asNumber_5 (by decide) ?_
    exact W.iret (v := nI 1) hx hb hr (fun t ht hW => ⟨⟨nI 1, (), rfl, by rw [c1]; rfl, trivial⟩, hS.F ht⟩) hS.2.2 dX3_asNumber_9
set_option maxHeartbeats 4000000 in
set_option maxRecDepth 100000 in
theorem kX3_isSlot (l : Launch) (dC : Nat → ClassId) (dI : Nat → Nat → Nat) (tt : Nat → Nat) (cI cB : ClassId) (sz : Nat) (x : Int32)  : MetR l yX3_isSlot wsX3_isSlot { frames := 0, cells := 0, slots := 0, locals := 0 } (dC, dI) [(cI, .int), (cB, .byte)] tt [] sz ([]) [.int x] (fun r => r = bI (slotB x)) := by
  refine Met.ofW (cc := cX3_isSlot) (maxL := 1) (ret := (some .boolean)) (by decide) rfl ?_
  intro p e s m args below meth c s₁ B hml hv
  obtain ⟨rfl, hsz, hP, hK, hD0, hE⟩ := hv
  have hx := B.exec
  have hb := B.bytes
  have hr := B.returns
  have hts := atoms_spec (ws := wsX3_isSlot) B.pre
  have hown : s.vm.findClass RX3 = some m.cls := findClass_of_methodNamed B.named
  have hlocks := B.notSynchronized
  subst hsz
  have hD := hD0
  generalize hAe : va_A [] s.heap.size = A at hE ⊢
  have hA : ∀ q : Nat, s.heap.size ≤ q → A q := fun q h => by rw [← hAe]; exact Or.inr h
  have hS : va_S A s.heap s.heap [] := va_S.rf
  have hl := lv_entry ([.int x]) (n := 1) (Nat.le_of_ble_eq_true rfl)
  rw [lg_entry_eq]
  generalize (lg_sl ([.int x]) ++ List.replicate (1 - (lg_sl ([.int x])).length) Slot.unset).toArray = ls at hl ⊢
  have hl : lv_has ls 1 [(0, .int x)] := hl
  refine lv_iload_n (pc := 0) hx hb dX3_isSlot_0 rfl (lv_at hl 0 rfl) ?_
  refine lv_if_eq (pc := 1) (tgt := 9) hx hb dX3_isSlot_1 (by decide) (fun c1 => ?_) (fun c1 => ?_)
  · skip
    refine lv_iconst (pc := 9) (v := nI 1) hx hb dX3_isSlot_9 (by decide) ?_
    refine lv_goto (pc := 10) (tgt := 14) hx hb dX3_isSlot_10 (by decide) ?_
    exact W.zret (v := nI 1) hx hb hr rfl (fun t ht hW => ⟨⟨nI 1, (), rfl, by rw [show slotB x = true from decide_eq_true (by first | exact Or.inl c1 | exact Or.inr c2)]; rfl, trivial⟩, hS.F ht⟩) hS.2.2 dX3_isSlot_14
  · skip
    refine lv_iload_n (pc := 4) hx hb dX3_isSlot_4 rfl (lv_at hl 0 rfl) ?_
    refine lv_iconst (pc := 5) (v := nI 1) hx hb dX3_isSlot_5 (by decide) ?_
    refine lv_icmp_ne (pc := 6) (tgt := 13) hx hb dX3_isSlot_6 (by decide) (fun c2 => ?_) (fun c2 => ?_)
    · skip
      refine lv_iconst (pc := 13) (v := nI 0) hx hb dX3_isSlot_13 (by decide) ?_
      exact W.zret (v := nI 0) hx hb hr rfl (fun t ht hW => ⟨⟨nI 0, (), rfl, by rw [show slotB x = false from decide_eq_false (fun z => z.elim c1 c2)]; rfl, trivial⟩, hS.F ht⟩) hS.2.2 dX3_isSlot_14
    · skip
      refine lv_iconst (pc := 9) (v := nI 1) hx hb dX3_isSlot_9 (by decide) ?_
      refine lv_goto (pc := 10) (tgt := 14) hx hb dX3_isSlot_10 (by decide) ?_
      exact W.zret (v := nI 1) hx hb hr rfl (fun t ht hW => ⟨⟨nI 1, (), rfl, by rw [show slotB x = true from decide_eq_true (by first | exact Or.inl c1 | exact Or.inr c2)]; rfl, trivial⟩, hS.F ht⟩) hS.2.2 dX3_isSlot_14
set_option maxHeartbeats 4000000 in
set_option maxRecDepth 100000 in
theorem kX3_firstSectorOf (l : Launch) (dC : Nat → ClassId) (dI : Nat → Nat → Nat) (tt : Nat → Nat) (cI cB : ClassId) (sz : Nat) (w : Nat) (hw2 : w < 2) : MetR l yX3_firstSectorOf wsX3_firstSectorOf { frames := 0, cells := 0, slots := 0, locals := 0 } (dC, dI) [(cI, .int), (cB, .byte)] tt [] sz ([]) [.int (nI w)] (fun r => r = nI (w * 5)) := by
  refine Met.ofW (cc := cX3_firstSectorOf) (maxL := 1) (ret := (some .int)) (by decide) rfl ?_
  intro p e s m args below meth c s₁ B hml hv
  obtain ⟨rfl, hsz, hP, hK, hD0, hE⟩ := hv
  have hx := B.exec
  have hb := B.bytes
  have hr := B.returns
  have hts := atoms_spec (ws := wsX3_firstSectorOf) B.pre
  have hown : s.vm.findClass RX3 = some m.cls := findClass_of_methodNamed B.named
  have hlocks := B.notSynchronized
  subst hsz
  have hD := hD0
  generalize hAe : va_A [] s.heap.size = A at hE ⊢
  have hA : ∀ q : Nat, s.heap.size ≤ q → A q := fun q h => by rw [← hAe]; exact Or.inr h
  have hS : va_S A s.heap s.heap [] := va_S.rf
  have hl := lv_entry ([.int (nI w)]) (n := 1) (Nat.le_of_ble_eq_true rfl)
  rw [lg_entry_eq]
  generalize (lg_sl ([.int (nI w)]) ++ List.replicate (1 - (lg_sl ([.int (nI w)])).length) Slot.unset).toArray = ls at hl ⊢
  have hl : lv_has ls 1 [(0, .int (nI w))] := hl
  refine lv_iload_n (pc := 0) hx hb dX3_firstSectorOf_0 rfl (lv_at hl 0 rfl) ?_
  refine lv_if_ne (pc := 1) (tgt := 8) hx hb dX3_firstSectorOf_1 (by decide) (fun c1 => ?_) (fun c1 => ?_)
  · skip
    have c1 : ¬ w = 0 := fun z => c1 ((nI_eq (a := w) (b := 0) (by omega) (by omega)).mpr z)
    refine lv_iconst (pc := 8) (v := nI 5) hx hb dX3_firstSectorOf_8 (by decide) ?_
    exact W.iret (v := nI 5) hx hb hr (fun t ht hW => ⟨⟨nI 5, (), rfl, by congr 1; omega, trivial⟩, hS.F ht⟩) hS.2.2 dX3_firstSectorOf_9
  · skip
    have c1 : w = 0 := (nI_eq (a := w) (b := 0) (by omega) (by omega)).mp c1
    refine lv_iconst (pc := 4) (v := nI 0) hx hb dX3_firstSectorOf_4 (by decide) ?_
    refine lv_goto (pc := 5) (tgt := 9) hx hb dX3_firstSectorOf_5 (by decide) ?_
    exact W.iret (v := nI 0) hx hb hr (fun t ht hW => ⟨⟨nI 0, (), rfl, by congr 1; omega, trivial⟩, hS.F ht⟩) hS.2.2 dX3_firstSectorOf_9
set_option maxHeartbeats 4000000 in
set_option maxRecDepth 100000 in
theorem kX3_firstByteOf (l : Launch) (dC : Nat → ClassId) (dI : Nat → Nat → Nat) (tt : Nat → Nat) (cI cB : ClassId) (sz : Nat) (w : Nat) (hw2 : w < 2) : MetR l yX3_firstByteOf wsX3_firstByteOf { frames := 1, cells := 0, slots := 0, locals := 20 } (dC, dI) [(cI, .int), (cB, .byte)] tt [] sz ([]) [.int (nI w)] (fun r => r = nI (w * 5 * 256)) := by
  refine Met.ofW (cc := cX3_firstByteOf) (maxL := 1) (ret := (some .int)) (by decide) rfl ?_
  intro p e s m args below meth c s₁ B hml hv
  obtain ⟨rfl, hsz, hP, hK, hD0, hE⟩ := hv
  have hx := B.exec
  have hb := B.bytes
  have hr := B.returns
  have hts := atoms_spec (ws := wsX3_firstByteOf) B.pre
  have hown : s.vm.findClass RX3 = some m.cls := findClass_of_methodNamed B.named
  have hlocks := B.notSynchronized
  subst hsz
  have hD := hD0
  generalize hAe : va_A [] s.heap.size = A at hE ⊢
  have hA : ∀ q : Nat, s.heap.size ≤ q → A q := fun q h => by rw [← hAe]; exact Or.inr h
  have hS : va_S A s.heap s.heap [] := va_S.rf
  have hl := lv_entry ([.int (nI w)]) (n := 1) (Nat.le_of_ble_eq_true rfl)
  rw [lg_entry_eq]
  generalize (lg_sl ([.int (nI w)]) ++ List.replicate (1 - (lg_sl ([.int (nI w)])).length) Slot.unset).toArray = ls at hl ⊢
  have hl : lv_has ls 1 [(0, .int (nI w))] := hl
  refine lv_iload_n (pc := 0) hx hb dX3_firstByteOf_0 rfl (lv_at hl 0 rfl) ?_
  refine x_roi (pc := 1) (va_runS (As := [.int (nI w)]) (rest := []) ⟨hx, hb, hml, hown, hts⟩ (kX3_firstSectorOf l dC dI tt cI cB _ w (by omega)) (va_cwS 1 hts gX3_firstByteOf_X3_firstSectorOf rfl rfl rfl (by decide +kernel) ⟨Nat.le_of_ble_eq_true rfl, Nat.le_of_ble_eq_true rfl⟩) (x_preS hS hE hK (va_P0 (dC, dI) _) va_D0 [] rfl (by decide) (x_ro hS hA) xR0) rfl rfl hl.1 rfl (lv_room (Nat.le_of_ble_eq_true rfl)) dX3_firstByteOf_1 ⟨Nat.le_of_ble_eq_true rfl, Nat.le_of_ble_eq_true rfl⟩) hS hA (va_P0 (dC, dI) _) (fun r_1 H locs hr_1 _ hS => ?_)
  subst hr_1
  refine lv_sipush (pc := 4) (v := nI 256) hx hb dX3_firstByteOf_4 (by decide) ?_
  refine lv_imul (pc := 7) hx hb dX3_firstByteOf_7 ?_
  refine lv_cv (pk_mul (w * 5) 256) ?_
  exact W.iret (v := nI ((w * 5) * 256)) hx hb hr (fun t ht hW => ⟨⟨nI ((w * 5) * 256), (), rfl, rfl, trivial⟩, hS.F ht⟩) hS.2.2 dX3_firstByteOf_8
set_option maxHeartbeats 4000000 in
set_option maxRecDepth 100000 in
theorem kX3_trailerOf (l : Launch) (dC : Nat → ClassId) (dI : Nat → Nat → Nat) (tt : Nat → Nat) (cI cB : ClassId) (sz : Nat) (w : Nat) (hw2 : w < 2) : MetR l yX3_trailerOf wsX3_trailerOf { frames := 0, cells := 0, slots := 0, locals := 0 } (dC, dI) [(cI, .int), (cB, .byte)] tt [] sz ([]) [.int (nI w)] (fun r => r = nI (w * 5 + 4)) := by
  refine Met.ofW (cc := cX3_trailerOf) (maxL := 1) (ret := (some .int)) (by decide) rfl ?_
  intro p e s m args below meth c s₁ B hml hv
  obtain ⟨rfl, hsz, hP, hK, hD0, hE⟩ := hv
  have hx := B.exec
  have hb := B.bytes
  have hr := B.returns
  have hts := atoms_spec (ws := wsX3_trailerOf) B.pre
  have hown : s.vm.findClass RX3 = some m.cls := findClass_of_methodNamed B.named
  have hlocks := B.notSynchronized
  subst hsz
  have hD := hD0
  generalize hAe : va_A [] s.heap.size = A at hE ⊢
  have hA : ∀ q : Nat, s.heap.size ≤ q → A q := fun q h => by rw [← hAe]; exact Or.inr h
  have hS : va_S A s.heap s.heap [] := va_S.rf
  have hl := lv_entry ([.int (nI w)]) (n := 1) (Nat.le_of_ble_eq_true rfl)
  rw [lg_entry_eq]
  generalize (lg_sl ([.int (nI w)]) ++ List.replicate (1 - (lg_sl ([.int (nI w)])).length) Slot.unset).toArray = ls at hl ⊢
  have hl : lv_has ls 1 [(0, .int (nI w))] := hl
  refine lv_iload_n (pc := 0) hx hb dX3_trailerOf_0 rfl (lv_at hl 0 rfl) ?_
  refine lv_if_ne (pc := 1) (tgt := 8) hx hb dX3_trailerOf_1 (by decide) (fun c1 => ?_) (fun c1 => ?_)
  · skip
    have c1 : ¬ w = 0 := fun z => c1 ((nI_eq (a := w) (b := 0) (by omega) (by omega)).mpr z)
    refine lv_bipush (pc := 8) (v := nI 9) hx hb dX3_trailerOf_8 (by decide) ?_
    exact W.iret (v := nI 9) hx hb hr (fun t ht hW => ⟨⟨nI 9, (), rfl, by congr 1; omega, trivial⟩, hS.F ht⟩) hS.2.2 dX3_trailerOf_10
  · skip
    have c1 : w = 0 := (nI_eq (a := w) (b := 0) (by omega) (by omega)).mp c1
    refine lv_iconst (pc := 4) (v := nI 4) hx hb dX3_trailerOf_4 (by decide) ?_
    refine lv_goto (pc := 5) (tgt := 10) hx hb dX3_trailerOf_5 (by decide) ?_
    exact W.iret (v := nI 4) hx hb hr (fun t ht hW => ⟨⟨nI 4, (), rfl, by congr 1; omega, trivial⟩, hS.F ht⟩) hS.2.2 dX3_trailerOf_10
set_option maxHeartbeats 4000000 in
set_option maxRecDepth 100000 in
theorem kX3_stopRunning (l : Launch) (dC : Nat → ClassId) (dI : Nat → Nat → Nat) (tt : Nat → Nat) (cI cB : ClassId) (sz : Nat) (a0 a1 a2 a3 a4 a5 a6 a7 a8 a9 : Nat) (k : K0) (ut : Nat → Int32) (tb : Nat → Int8) (tn : Nat) (sc hs : Nat → Int32) (rn : Bool) (rv wb ee we : Int32)  : MetV (S := Unit) l yX3_stopRunning wsX3_stopRunning { frames := 0, cells := 0, slots := 0, locals := 0 } (dC, dI) [(cI, .int), (cB, .byte)] tt [] sz (xW a0 a1 a2 a3 a4 a5 a6 a7 a8 a9 cI k ut tb tn sc hs rn rv wb ee we) [.ref a0] (fun u : Unit => xW a0 a1 a2 a3 a4 a5 a6 a7 a8 a9 cI k ut tb tn sc hs false (nI 0) wb ee we) (fun u => u = ()) := by
  refine Met.ofW (cc := cX3_stopRunning) (maxL := 1) (ret := none) (by decide) rfl ?_
  intro p e s m args below meth c s₁ B hml hv
  obtain ⟨rfl, hsz, hP, hK, hD0, hE⟩ := hv
  have hx := B.exec
  have hb := B.bytes
  have hr := B.returns
  have hts := atoms_spec (ws := wsX3_stopRunning) B.pre
  have hown : s.vm.findClass RX3 = some m.cls := findClass_of_methodNamed B.named
  have hlocks := B.notSynchronized
  subst hsz
  have hD := hD0.self (sz := s.heap.size)
  generalize hAe : va_A (xW a0 a1 a2 a3 a4 a5 a6 a7 a8 a9 cI k ut tb tn sc hs rn rv wb ee we) s.heap.size = A at hD hE ⊢
  have hA : ∀ q : Nat, s.heap.size ≤ q → A q := fun q h => by rw [← hAe]; exact Or.inr h
  have hS : va_S A s.heap s.heap [] := va_S.rf
  have hl := lv_entry ([.ref a0]) (n := 1) (Nat.le_of_ble_eq_true rfl)
  rw [lg_entry_eq]
  generalize (lg_sl ([.ref a0]) ++ List.replicate (1 - (lg_sl ([.ref a0])).length) Slot.unset).toArray = ls at hl ⊢
  have hl : lv_has ls 1 [(0, .ref a0)] := hl
  have hP : va_P (dC, dI) vwCl (xW a0 a1 a2 a3 a4 a5 a6 a7 a8 a9 cI k ut tb tn sc hs rn rv wb ee we) s.heap := hP
  refine lv_aload_n (pc := 0) hx hb dX3_stopRunning_0 rfl (lv_at hl 0 rfl) ?_
  refine lv_iconst (pc := 1) (v := nI 0) hx hb dX3_stopRunning_1 (by decide) ?_
  refine lv_cv (show nI 0 = bI false from rfl) ?_
  refine va_put (pc := 2) (D := (dC, dI)) (ci := 3) (v := .int (bI false)) (ty := .boolean) (C := RX3) (T := TX3) (N := 8) hx hb hts (by decide +kernel) tyX3 tyX3_ok nmX3 hown hK hP hD hS 0 rfl rfl 3 (by decide) (hts (.fieldLink RX3 30 "ScratchSwap" "runs" "Z") (by decide +kernel)) (fun _ h9 => h9) rfl (by decide +kernel) (nbI false) (fbI false) (Nat.le_of_ble_eq_true rfl) dX3_stopRunning_2 (fun H locs hP hD hS => ?_)
  have hP : va_P (dC, dI) vwCl (xW a0 a1 a2 a3 a4 a5 a6 a7 a8 a9 cI k ut tb tn sc hs false rv wb ee we) _ := hP
  have hD : va_D A (xW a0 a1 a2 a3 a4 a5 a6 a7 a8 a9 cI k ut tb tn sc hs false rv wb ee we) := hD
  refine lv_aload_n (pc := 5) hx hb dX3_stopRunning_5 rfl (lv_at hl 0 rfl) ?_
  refine lv_iconst (pc := 6) (v := nI 0) hx hb dX3_stopRunning_6 (by decide) ?_
  refine va_put (pc := 7) (D := (dC, dI)) (ci := 3) (v := .int (nI 0)) (ty := .int) (C := RX3) (T := TX3) (N := 8) hx hb hts (by decide +kernel) tyX3 tyX3_ok nmX3 hown hK hP hD hS 0 rfl rfl 4 (by decide) (hts (.fieldLink RX3 34 "ScratchSwap" "runningVersion" "I") (by decide +kernel)) (fun _ h9 => h9) rfl (by decide +kernel) rfl rfl (Nat.le_of_ble_eq_true rfl) dX3_stopRunning_7 (fun H locs hP hD hS => ?_)
  have hP : va_P (dC, dI) vwCl (xW a0 a1 a2 a3 a4 a5 a6 a7 a8 a9 cI k ut tb tn sc hs false (nI 0) wb ee we) _ := hP
  have hD : va_D A (xW a0 a1 a2 a3 a4 a5 a6 a7 a8 a9 cI k ut tb tn sc hs false (nI 0) wb ee we) := hD
  exact W.vret hx hb hr (fun t ht hW => ⟨⟨(), rfl, rfl, by show va_P _ _ _ t.heap; rw [ht]; exact hP, va_K.moved hW.alike hK, hD⟩, hS.F ht⟩) hS.2.2 dX3_stopRunning_10
set_option maxHeartbeats 4000000 in
set_option maxRecDepth 100000 in
theorem kX3_powerWent (l : Launch) (dC : Nat → ClassId) (dI : Nat → Nat → Nat) (tt : Nat → Nat) (cI cB : ClassId) (sz : Nat) (a0 a1 a2 a3 a4 a5 a6 a7 a8 a9 : Nat) (k : K0) (ut : Nat → Int32) (tb : Nat → Int8) (tn : Nat) (sc hs : Nat → Int32) (rn : Bool) (rv wb ee we : Int32)  : MetI (S := Unit) l yX3_powerWent wsX3_powerWent { frames := 1, cells := 0, slots := 0, locals := 20 } (dC, dI) [(cI, .int), (cB, .byte)] tt [] sz (xW a0 a1 a2 a3 a4 a5 a6 a7 a8 a9 cI k ut tb tn sc hs rn rv wb ee we) [.ref a0] (fun u : Unit => xW a0 a1 a2 a3 a4 a5 a6 a7 a8 a9 cI k ut tb tn sc hs false (nI 0) wb ee we) (fun r u => r = (-9)) := by
  refine Met.ofW (cc := cX3_powerWent) (maxL := 1) (ret := (some .int)) (by decide) rfl ?_
  intro p e s m args below meth c s₁ B hml hv
  obtain ⟨rfl, hsz, hP, hK, hD0, hE⟩ := hv
  have hx := B.exec
  have hb := B.bytes
  have hr := B.returns
  have hts := atoms_spec (ws := wsX3_powerWent) B.pre
  have hown : s.vm.findClass RX3 = some m.cls := findClass_of_methodNamed B.named
  have hlocks := B.notSynchronized
  subst hsz
  have hD := hD0.self (sz := s.heap.size)
  generalize hAe : va_A (xW a0 a1 a2 a3 a4 a5 a6 a7 a8 a9 cI k ut tb tn sc hs rn rv wb ee we) s.heap.size = A at hD hE ⊢
  have hA : ∀ q : Nat, s.heap.size ≤ q → A q := fun q h => by rw [← hAe]; exact Or.inr h
  have hS : va_S A s.heap s.heap [] := va_S.rf
  have hl := lv_entry ([.ref a0]) (n := 1) (Nat.le_of_ble_eq_true rfl)
  rw [lg_entry_eq]
  generalize (lg_sl ([.ref a0]) ++ List.replicate (1 - (lg_sl ([.ref a0])).length) Slot.unset).toArray = ls at hl ⊢
  have hl : lv_has ls 1 [(0, .ref a0)] := hl
  have hP : va_P (dC, dI) vwCl (xW a0 a1 a2 a3 a4 a5 a6 a7 a8 a9 cI k ut tb tn sc hs rn rv wb ee we) s.heap := hP
  refine lv_aload_n (pc := 0) hx hb dX3_powerWent_0 rfl (lv_at hl 0 rfl) ?_
  refine x_wrva (pc := 1) (va_runV (As := []) (rest := []) ⟨hx, hb, hml, hown, hts⟩ (kX3_stopRunning l dC dI tt cI cB _ a0 a1 a2 a3 a4 a5 a6 a7 a8 a9 k ut tb tn sc hs rn rv wb ee we ) (cwV 0 hts gX3_powerWent_X3_stopRunning rfl rfl rfl (by decide +kernel) ⟨Nat.le_of_ble_eq_true rfl, Nat.le_of_ble_eq_true rfl⟩) (x_preVa hS hE hK hP hD (x_all hD hS hA) xR0 3 0 rfl rfl) rfl rfl hl.1 rfl (lv_room (Nat.le_of_ble_eq_true rfl)) dX3_powerWent_1 ⟨Nat.le_of_ble_eq_true rfl, Nat.le_of_ble_eq_true rfl⟩) hS hA hD (fun u_1 H locs hu_1 hP hD hS => ?_)
  have hP : va_P (dC, dI) vwCl (xW a0 a1 a2 a3 a4 a5 a6 a7 a8 a9 cI k ut tb tn sc hs false (nI 0) wb ee we) _ := hP
  have hD : va_D A (xW a0 a1 a2 a3 a4 a5 a6 a7 a8 a9 cI k ut tb tn sc hs false (nI 0) wb ee we) := hD
  refine lv_bipush (pc := 4) (v := (-9)) hx hb dX3_powerWent_4 (by decide) ?_
  exact W.iret (v := (-9)) hx hb hr (fun t ht hW => ⟨⟨(-9), (), rfl, rfl, by show va_P _ _ _ t.heap; rw [ht]; exact hP, va_K.moved hW.alike hK, hD⟩, hS.F ht⟩) hS.2.2 dX3_powerWent_6
set_option maxHeartbeats 4000000 in
set_option maxRecDepth 100000 in
theorem kX3_lengthIn (l : Launch) (dC : Nat → ClassId) (dI : Nat → Nat → Nat) (tt : Nat → Nat) (cI cB : ClassId) (sz : Nat) (a0 a1 a2 a3 a4 a5 a6 a7 a8 a9 : Nat) (k : K0) (ut : Nat → Int32) (tb : Nat → Int8) (tn : Nat) (sc hs : Nat → Int32) (rn : Bool) (rv wb ee we : Int32) (w : Nat) (hw2 : w < 2) : MetR l yX3_lengthIn wsX3_lengthIn { frames := 2, cells := 0, slots := 0, locals := 42 } (dC, dI) [(cI, .int), (cB, .byte)] tt [] sz (xW a0 a1 a2 a3 a4 a5 a6 a7 a8 a9 cI k ut tb tn sc hs rn rv wb ee we) [.ref a0, .int (nI w)] (fun r => r = mI k.1 (w * 5 * 256)) := by
  refine Met.ofW (cc := cX3_lengthIn) (maxL := 2) (ret := (some .int)) (by decide) rfl ?_
  intro p e s m args below meth c s₁ B hml hv
  obtain ⟨rfl, hsz, hP, hK, hD0, hE⟩ := hv
  have hx := B.exec
  have hb := B.bytes
  have hr := B.returns
  have hts := atoms_spec (ws := wsX3_lengthIn) B.pre
  have hown : s.vm.findClass RX3 = some m.cls := findClass_of_methodNamed B.named
  have hlocks := B.notSynchronized
  subst hsz
  have hD := hD0
  generalize hAe : va_A [] s.heap.size = A at hE ⊢
  have hA : ∀ q : Nat, s.heap.size ≤ q → A q := fun q h => by rw [← hAe]; exact Or.inr h
  have hS : va_S A s.heap s.heap [] := va_S.rf
  have hl := lv_entry ([.ref a0, .int (nI w)]) (n := 2) (Nat.le_of_ble_eq_true rfl)
  rw [lg_entry_eq]
  generalize (lg_sl ([.ref a0, .int (nI w)]) ++ List.replicate (2 - (lg_sl ([.ref a0, .int (nI w)])).length) Slot.unset).toArray = ls at hl ⊢
  have hl : lv_has ls 2 [(0, .ref a0), (1, .int (nI w))] := hl
  have hP : va_P (dC, dI) vwCl (xW a0 a1 a2 a3 a4 a5 a6 a7 a8 a9 cI k ut tb tn sc hs rn rv wb ee we) s.heap := hP
  refine lv_aload_n (pc := 0) hx hb dX3_lengthIn_0 rfl (lv_at hl 0 rfl) ?_
  refine va_get (pc := 1) (D := (dC, dI)) (ci := 3) (v := .ref a1) (C := RX3) (T := TX3) (N := 8) hx hb hts (by decide +kernel) hown hK hP 0 rfl rfl 0 (by decide) (hts (.fieldLink RX3 12 "ScratchSwap" "memory" "LScratchSwap$Memory;") (by decide +kernel)) (fun _ h9 => h9) rfl dX3_lengthIn_1 ?_
  refine lv_iload_n (pc := 4) hx hb dX3_lengthIn_4 rfl (lv_at hl 1 rfl) ?_
  refine x_roi (pc := 5) (va_runS (As := [.int (nI w)]) (rest := [.ref a1]) ⟨hx, hb, hml, hown, hts⟩ (kX3_firstByteOf l dC dI tt cI cB _ w (by omega)) (va_cwS 1 hts gX3_lengthIn_X3_firstByteOf rfl rfl rfl (by decide +kernel) ⟨Nat.le_of_ble_eq_true rfl, Nat.le_of_ble_eq_true rfl⟩) (x_preS hS hE hK hP hD [] rfl (by decide) (x_ro hS hA) xR0) rfl rfl hl.1 rfl (lv_room (Nat.le_of_ble_eq_true rfl)) dX3_lengthIn_5 ⟨Nat.le_of_ble_eq_true rfl, Nat.le_of_ble_eq_true rfl⟩) hS hA hP (fun r_1 H locs hr_1 hP hS => ?_)
  subst hr_1
  refine x_roi (pc := 8) (va_runVN (As := [.int (nI (w * 5 * 256))]) (rest := []) ⟨hx, hb, hml, hown, hts⟩ (kX0_intAt l dC dI tt cI cB _ a1 a2 a3 a4 k ut (w * 5 * 256) (by omega)) (⟨va_cnB 1 hts gX3_lengthIn_X0_intAt_n169 rfl rfl rfl (hE.m 13 (q := (RX3, 169, yX0_intAt, "ScratchSwap")) rfl) (hts (.initialized RX0) (by decide +kernel)) (by decide +kernel) ⟨Nat.le_of_ble_eq_true rfl, Nat.le_of_ble_eq_true rfl⟩, hts (.instanceMethod yX0_intAt) (by decide +kernel), hts (.selects RX0 yX0_intAt yX0_intAt) (by decide +kernel)⟩) (x_preV hS hE hK hP hD [1, 2, 3, 4] rfl (by decide) (x_ro hS hA) xR0 0 1 rfl rfl) rfl rfl hl.1 rfl (lv_room (Nat.le_of_ble_eq_true rfl)) dX3_lengthIn_8 ⟨Nat.le_of_ble_eq_true rfl, Nat.le_of_ble_eq_true rfl⟩) hS hA hP (fun r_2 H locs hr_2 hP hS => ?_)
  subst hr_2
  exact W.iret (v := mI k.1 (w * 5 * 256)) hx hb hr (fun t ht hW => ⟨⟨mI k.1 (w * 5 * 256), (), rfl, rfl, trivial⟩, hS.F ht⟩) hS.2.2 dX3_lengthIn_11
set_option maxHeartbeats 4000000 in
set_option maxRecDepth 100000 in
theorem kX3_versionIn (l : Launch) (dC : Nat → ClassId) (dI : Nat → Nat → Nat) (tt : Nat → Nat) (cI cB : ClassId) (sz : Nat) (a0 a1 a2 a3 a4 a5 a6 a7 a8 a9 : Nat) (k : K0) (ut : Nat → Int32) (tb : Nat → Int8) (tn : Nat) (sc hs : Nat → Int32) (rn : Bool) (rv wb ee we : Int32) (w : Nat) (hw2 : w < 2) : MetR l yX3_versionIn wsX3_versionIn { frames := 2, cells := 0, slots := 0, locals := 42 } (dC, dI) [(cI, .int), (cB, .byte)] tt [] sz (xW a0 a1 a2 a3 a4 a5 a6 a7 a8 a9 cI k ut tb tn sc hs rn rv wb ee we) [.ref a0, .int (nI w)] (fun r => r = mI k.1 (w * 5 * 256 + 4)) := by
  refine Met.ofW (cc := cX3_versionIn) (maxL := 2) (ret := (some .int)) (by decide) rfl ?_
  intro p e s m args below meth c s₁ B hml hv
  obtain ⟨rfl, hsz, hP, hK, hD0, hE⟩ := hv
  have hx := B.exec
  have hb := B.bytes
  have hr := B.returns
  have hts := atoms_spec (ws := wsX3_versionIn) B.pre
  have hown : s.vm.findClass RX3 = some m.cls := findClass_of_methodNamed B.named
  have hlocks := B.notSynchronized
  subst hsz
  have hD := hD0
  generalize hAe : va_A [] s.heap.size = A at hE ⊢
  have hA : ∀ q : Nat, s.heap.size ≤ q → A q := fun q h => by rw [← hAe]; exact Or.inr h
  have hS : va_S A s.heap s.heap [] := va_S.rf
  have hl := lv_entry ([.ref a0, .int (nI w)]) (n := 2) (Nat.le_of_ble_eq_true rfl)
  rw [lg_entry_eq]
  generalize (lg_sl ([.ref a0, .int (nI w)]) ++ List.replicate (2 - (lg_sl ([.ref a0, .int (nI w)])).length) Slot.unset).toArray = ls at hl ⊢
  have hl : lv_has ls 2 [(0, .ref a0), (1, .int (nI w))] := hl
  have hP : va_P (dC, dI) vwCl (xW a0 a1 a2 a3 a4 a5 a6 a7 a8 a9 cI k ut tb tn sc hs rn rv wb ee we) s.heap := hP
  refine lv_aload_n (pc := 0) hx hb dX3_versionIn_0 rfl (lv_at hl 0 rfl) ?_
  refine va_get (pc := 1) (D := (dC, dI)) (ci := 3) (v := .ref a1) (C := RX3) (T := TX3) (N := 8) hx hb hts (by decide +kernel) hown hK hP 0 rfl rfl 0 (by decide) (hts (.fieldLink RX3 12 "ScratchSwap" "memory" "LScratchSwap$Memory;") (by decide +kernel)) (fun _ h9 => h9) rfl dX3_versionIn_1 ?_
  refine lv_iload_n (pc := 4) hx hb dX3_versionIn_4 rfl (lv_at hl 1 rfl) ?_
  refine x_roi (pc := 5) (va_runS (As := [.int (nI w)]) (rest := [.ref a1]) ⟨hx, hb, hml, hown, hts⟩ (kX3_firstByteOf l dC dI tt cI cB _ w (by omega)) (va_cwS 1 hts gX3_versionIn_X3_firstByteOf rfl rfl rfl (by decide +kernel) ⟨Nat.le_of_ble_eq_true rfl, Nat.le_of_ble_eq_true rfl⟩) (x_preS hS hE hK hP hD [] rfl (by decide) (x_ro hS hA) xR0) rfl rfl hl.1 rfl (lv_room (Nat.le_of_ble_eq_true rfl)) dX3_versionIn_5 ⟨Nat.le_of_ble_eq_true rfl, Nat.le_of_ble_eq_true rfl⟩) hS hA hP (fun r_1 H locs hr_1 hP hS => ?_)
  subst hr_1
  refine lv_iconst (pc := 8) (v := nI 4) hx hb dX3_versionIn_8 (by decide) ?_
  refine lv_iadd (pc := 9) hx hb dX3_versionIn_9 ?_
  refine lv_cv (nI_add (w * 5 * 256) 4) ?_
  refine x_roi (pc := 10) (va_runVN (As := [.int (nI ((w * 5 * 256) + 4))]) (rest := []) ⟨hx, hb, hml, hown, hts⟩ (kX0_intAt l dC dI tt cI cB _ a1 a2 a3 a4 k ut ((w * 5 * 256) + 4) (by omega)) (⟨va_cnB 1 hts gX3_versionIn_X0_intAt_n169 rfl rfl rfl (hE.m 13 (q := (RX3, 169, yX0_intAt, "ScratchSwap")) rfl) (hts (.initialized RX0) (by decide +kernel)) (by decide +kernel) ⟨Nat.le_of_ble_eq_true rfl, Nat.le_of_ble_eq_true rfl⟩, hts (.instanceMethod yX0_intAt) (by decide +kernel), hts (.selects RX0 yX0_intAt yX0_intAt) (by decide +kernel)⟩) (x_preV hS hE hK hP hD [1, 2, 3, 4] rfl (by decide) (x_ro hS hA) xR0 0 1 rfl rfl) rfl rfl hl.1 rfl (lv_room (Nat.le_of_ble_eq_true rfl)) dX3_versionIn_10 ⟨Nat.le_of_ble_eq_true rfl, Nat.le_of_ble_eq_true rfl⟩) hS hA hP (fun r_2 H locs hr_2 hP hS => ?_)
  subst hr_2
  exact W.iret (v := mI k.1 ((w * 5 * 256) + 4)) hx hb hr (fun t ht hW => ⟨⟨mI k.1 ((w * 5 * 256) + 4), (), rfl, rfl, trivial⟩, hS.F ht⟩) hS.2.2 dX3_versionIn_13
set_option maxHeartbeats 4000000 in
set_option maxRecDepth 100000 in
theorem kX3_isMarked (l : Launch) (dC : Nat → ClassId) (dI : Nat → Nat → Nat) (tt : Nat → Nat) (cI cB : ClassId) (sz : Nat) (a0 a1 a2 a3 a4 a5 a6 a7 a8 a9 : Nat) (k : K0) (ut : Nat → Int32) (tb : Nat → Int8) (tn : Nat) (sc hs : Nat → Int32) (rn : Bool) (rv wb ee we : Int32) (i0 j0 : Nat) (hp : i0 * 256 + j0 * 8 + 8 ≤ 2816) : MetR l yX3_isMarked wsX3_isMarked { frames := 2, cells := 0, slots := 0, locals := 46 } (dC, dI) [(cI, .int), (cB, .byte)] tt [] sz (xW a0 a1 a2 a3 a4 a5 a6 a7 a8 a9 cI k ut tb tn sc hs rn rv wb ee we) [.ref a0, .int (nI i0), .int (nI j0)] (fun r => r = bI (mkB k.1 (i0 * 256 + j0 * 8))) := by
  refine Met.ofW (cc := cX3_isMarked) (maxL := 3) (ret := (some .boolean)) (by decide) rfl ?_
  intro p e s m args below meth c s₁ B hml hv
  obtain ⟨rfl, hsz, hP, hK, hD0, hE⟩ := hv
  have hx := B.exec
  have hb := B.bytes
  have hr := B.returns
  have hts := atoms_spec (ws := wsX3_isMarked) B.pre
  have hown : s.vm.findClass RX3 = some m.cls := findClass_of_methodNamed B.named
  have hlocks := B.notSynchronized
  subst hsz
  have hD := hD0
  generalize hAe : va_A [] s.heap.size = A at hE ⊢
  have hA : ∀ q : Nat, s.heap.size ≤ q → A q := fun q h => by rw [← hAe]; exact Or.inr h
  have hS : va_S A s.heap s.heap [] := va_S.rf
  have hl := lv_entry ([.ref a0, .int (nI i0), .int (nI j0)]) (n := 3) (Nat.le_of_ble_eq_true rfl)
  rw [lg_entry_eq]
  generalize (lg_sl ([.ref a0, .int (nI i0), .int (nI j0)]) ++ List.replicate (3 - (lg_sl ([.ref a0, .int (nI i0), .int (nI j0)])).length) Slot.unset).toArray = ls at hl ⊢
  have hl : lv_has ls 3 [(0, .ref a0), (1, .int (nI i0)), (2, .int (nI j0))] := hl
  have hP : va_P (dC, dI) vwCl (xW a0 a1 a2 a3 a4 a5 a6 a7 a8 a9 cI k ut tb tn sc hs rn rv wb ee we) s.heap := hP
  refine lv_aload_n (pc := 0) hx hb dX3_isMarked_0 rfl (lv_at hl 0 rfl) ?_
  refine va_get (pc := 1) (D := (dC, dI)) (ci := 3) (v := .ref a1) (C := RX3) (T := TX3) (N := 8) hx hb hts (by decide +kernel) hown hK hP 0 rfl rfl 0 (by decide) (hts (.fieldLink RX3 12 "ScratchSwap" "memory" "LScratchSwap$Memory;") (by decide +kernel)) (fun _ h9 => h9) rfl dX3_isMarked_1 ?_
  refine lv_iload_n (pc := 4) hx hb dX3_isMarked_4 rfl (lv_at hl 1 rfl) ?_
  refine lv_iload_n (pc := 5) hx hb dX3_isMarked_5 rfl (lv_at hl 2 rfl) ?_
  refine x_roi (pc := 6) (va_runVN (As := [.int (nI i0), .int (nI j0)]) (rest := []) ⟨hx, hb, hml, hown, hts⟩ (kX0_markIn l dC dI tt cI cB _ a1 a2 a3 a4 k ut i0 j0 (by omega)) (⟨va_cnB 2 hts gX3_isMarked_X0_markIn_n144 rfl rfl rfl (hE.m 7 (q := (RX3, 144, yX0_markIn, "ScratchSwap")) rfl) (hts (.initialized RX0) (by decide +kernel)) (by decide +kernel) ⟨Nat.le_of_ble_eq_true rfl, Nat.le_of_ble_eq_true rfl⟩, hts (.instanceMethod yX0_markIn) (by decide +kernel), hts (.selects RX0 yX0_markIn yX0_markIn) (by decide +kernel)⟩) (x_preV hS hE hK hP hD [1, 2, 3, 4] rfl (by decide) (x_ro hS hA) xR0 0 1 rfl rfl) rfl rfl hl.1 rfl (lv_room (Nat.le_of_ble_eq_true rfl)) dX3_isMarked_6 ⟨Nat.le_of_ble_eq_true rfl, Nat.le_of_ble_eq_true rfl⟩) hS hA hP (fun r_1 H locs hr_1 hP hS => ?_)
  subst hr_1
  have hs_2 := setN_le k.1 (i0 * 256 + j0 * 8)
  refine lv_iconst (pc := 9) (v := nI 1) hx hb dX3_isMarked_9 (by decide) ?_
  refine lv_icmp_ne (pc := 10) (tgt := 17) hx hb dX3_isMarked_10 (by decide) (fun c1 => ?_) (fun c1 => ?_)
  · skip
    have c1 : ¬ (setN k.1 (i0 * 256 + j0 * 8)) = 1 := fun z => c1 ((nI_eq (a := (setN k.1 (i0 * 256 + j0 * 8))) (b := 1) (by omega) (by omega)).mpr z)
    refine lv_iconst (pc := 17) (v := nI 0) hx hb dX3_isMarked_17 (by decide) ?_
    exact W.zret (v := nI 0) hx hb hr rfl (fun t ht hW => ⟨⟨nI 0, (), rfl, by rw [show mkB k.1 (i0 * 256 + j0 * 8) = false from decide_eq_false c1]; rfl, trivial⟩, hS.F ht⟩) hS.2.2 dX3_isMarked_18
  · skip
    have c1 : (setN k.1 (i0 * 256 + j0 * 8)) = 1 := (nI_eq (a := (setN k.1 (i0 * 256 + j0 * 8))) (b := 1) (by omega) (by omega)).mp c1
    refine lv_iconst (pc := 13) (v := nI 1) hx hb dX3_isMarked_13 (by decide) ?_
    refine lv_goto (pc := 14) (tgt := 18) hx hb dX3_isMarked_14 (by decide) ?_
    exact W.zret (v := nI 1) hx hb hr rfl (fun t ht hW => ⟨⟨nI 1, (), rfl, by rw [show mkB k.1 (i0 * 256 + j0 * 8) = true from decide_eq_true c1]; rfl, trivial⟩, hS.F ht⟩) hS.2.2 dX3_isMarked_18
set_option maxHeartbeats 4000000 in
set_option maxRecDepth 100000 in
theorem kX3_isUnderWay (l : Launch) (dC : Nat → ClassId) (dI : Nat → Nat → Nat) (tt : Nat → Nat) (cI cB : ClassId) (sz : Nat) (a0 a1 a2 a3 a4 a5 a6 a7 a8 a9 : Nat) (k : K0) (ut : Nat → Int32) (tb : Nat → Int8) (tn : Nat) (sc hs : Nat → Int32) (rn : Bool) (rv wb ee we : Int32)  : MetR l yX3_isUnderWay wsX3_isUnderWay { frames := 3, cells := 0, slots := 0, locals := 68 } (dC, dI) [(cI, .int), (cB, .byte)] tt [] sz (xW a0 a1 a2 a3 a4 a5 a6 a7 a8 a9 cI k ut tb tn sc hs rn rv wb ee we) [.ref a0] (fun r => r = bI (uwB k.1)) := by
  refine Met.ofW (cc := cX3_isUnderWay) (maxL := 1) (ret := (some .boolean)) (by decide) rfl ?_
  intro p e s m args below meth c s₁ B hml hv
  obtain ⟨rfl, hsz, hP, hK, hD0, hE⟩ := hv
  have hx := B.exec
  have hb := B.bytes
  have hr := B.returns
  have hts := atoms_spec (ws := wsX3_isUnderWay) B.pre
  have hown : s.vm.findClass RX3 = some m.cls := findClass_of_methodNamed B.named
  have hlocks := B.notSynchronized
  subst hsz
  have hD := hD0
  generalize hAe : va_A [] s.heap.size = A at hE ⊢
  have hA : ∀ q : Nat, s.heap.size ≤ q → A q := fun q h => by rw [← hAe]; exact Or.inr h
  have hS : va_S A s.heap s.heap [] := va_S.rf
  have hl := lv_entry ([.ref a0]) (n := 1) (Nat.le_of_ble_eq_true rfl)
  rw [lg_entry_eq]
  generalize (lg_sl ([.ref a0]) ++ List.replicate (1 - (lg_sl ([.ref a0])).length) Slot.unset).toArray = ls at hl ⊢
  have hl : lv_has ls 1 [(0, .ref a0)] := hl
  have hP : va_P (dC, dI) vwCl (xW a0 a1 a2 a3 a4 a5 a6 a7 a8 a9 cI k ut tb tn sc hs rn rv wb ee we) s.heap := hP
  refine lv_aload_n (pc := 0) hx hb dX3_isUnderWay_0 rfl (lv_at hl 0 rfl) ?_
  refine va_get (pc := 1) (D := (dC, dI)) (ci := 3) (v := .ref a1) (C := RX3) (T := TX3) (N := 8) hx hb hts (by decide +kernel) hown hK hP 0 rfl rfl 0 (by decide) (hts (.fieldLink RX3 12 "ScratchSwap" "memory" "LScratchSwap$Memory;") (by decide +kernel)) (fun _ h9 => h9) rfl dX3_isUnderWay_1 ?_
  refine lv_iconst (pc := 4) (v := nI 4) hx hb dX3_isUnderWay_4 (by decide) ?_
  refine lv_iconst (pc := 5) (v := nI 1) hx hb dX3_isUnderWay_5 (by decide) ?_
  refine x_roi (pc := 6) (va_runVN (As := [.int (nI 4), .int (nI 1)]) (rest := []) ⟨hx, hb, hml, hown, hts⟩ (kX0_markIn l dC dI tt cI cB _ a1 a2 a3 a4 k ut 4 1 (by omega)) (⟨va_cnB 2 hts gX3_isUnderWay_X0_markIn_n144 rfl rfl rfl (hE.m 7 (q := (RX3, 144, yX0_markIn, "ScratchSwap")) rfl) (hts (.initialized RX0) (by decide +kernel)) (by decide +kernel) ⟨Nat.le_of_ble_eq_true rfl, Nat.le_of_ble_eq_true rfl⟩, hts (.instanceMethod yX0_markIn) (by decide +kernel), hts (.selects RX0 yX0_markIn yX0_markIn) (by decide +kernel)⟩) (x_preV hS hE hK hP hD [1, 2, 3, 4] rfl (by decide) (x_ro hS hA) xR0 0 1 rfl rfl) rfl rfl hl.1 rfl (lv_room (Nat.le_of_ble_eq_true rfl)) dX3_isUnderWay_6 ⟨Nat.le_of_ble_eq_true rfl, Nat.le_of_ble_eq_true rfl⟩) hS hA hP (fun r_1 H locs hr_1 hP hS => ?_)
  subst hr_1
  have hs_2 := setN_le k.1 (4 * 256 + 1 * 8)
  refine lv_if_eq (pc := 9) (tgt := 25) hx hb dX3_isUnderWay_9 (by decide) (fun c1 => ?_) (fun c1 => ?_)
  · skip
    have c1 : (setN k.1 (4 * 256 + 1 * 8)) = 0 := (nI_eq (a := (setN k.1 (4 * 256 + 1 * 8))) (b := 0) (by omega) (by omega)).mp c1
    refine lv_iconst (pc := 25) (v := nI 0) hx hb dX3_isUnderWay_25 (by decide) ?_
    exact W.zret (v := nI 0) hx hb hr rfl (fun t ht hW => ⟨⟨nI 0, (), rfl, by rw [show uwB k.1 = false from by first | (simp [uwB, c1, c2]; done) | (simp [uwB, c1]; done)]; rfl, trivial⟩, hS.F ht⟩) hS.2.2 dX3_isUnderWay_26
  · skip
    have c1 : ¬ (setN k.1 (4 * 256 + 1 * 8)) = 0 := fun z => c1 ((nI_eq (a := (setN k.1 (4 * 256 + 1 * 8))) (b := 0) (by omega) (by omega)).mpr z)
    refine lv_aload_n (pc := 12) hx hb dX3_isUnderWay_12 rfl (lv_at hl 0 rfl) ?_
    refine lv_iconst (pc := 13) (v := nI 4) hx hb dX3_isUnderWay_13 (by decide) ?_
    refine lv_iconst (pc := 14) (v := nI 2) hx hb dX3_isUnderWay_14 (by decide) ?_
    refine x_roi (pc := 15) (va_runV (As := [.int (nI 4), .int (nI 2)]) (rest := []) ⟨hx, hb, hml, hown, hts⟩ (kX3_isMarked l dC dI tt cI cB _ a0 a1 a2 a3 a4 a5 a6 a7 a8 a9 k ut tb tn sc hs rn rv wb ee we 4 2 (by omega)) (cwV 2 hts gX3_isUnderWay_X3_isMarked rfl rfl rfl (by decide +kernel) ⟨Nat.le_of_ble_eq_true rfl, Nat.le_of_ble_eq_true rfl⟩) (x_preVa hS hE hK hP hD (x_ro hS hA) xR0 3 0 rfl rfl) rfl rfl hl.1 rfl (lv_room (Nat.le_of_ble_eq_true rfl)) dX3_isUnderWay_15 ⟨Nat.le_of_ble_eq_true rfl, Nat.le_of_ble_eq_true rfl⟩) hS hA hP (fun r_3 H locs hr_3 hP hS => ?_)
    subst hr_3
    refine lv_if_ne (pc := 18) (tgt := 25) hx hb dX3_isUnderWay_18 (by decide) (fun c2 => ?_) (fun c2 => ?_)
    · skip
      have c2 : mkB k.1 (4 * 256 + 2 * 8) = true := bI_1.mp c2
      refine lv_iconst (pc := 25) (v := nI 0) hx hb dX3_isUnderWay_25 (by decide) ?_
      exact W.zret (v := nI 0) hx hb hr rfl (fun t ht hW => ⟨⟨nI 0, (), rfl, by rw [show uwB k.1 = false from by first | (simp [uwB, c1, c2]; done) | (simp [uwB, c1]; done)]; rfl, trivial⟩, hS.F ht⟩) hS.2.2 dX3_isUnderWay_26
    · skip
      have c2 : mkB k.1 (4 * 256 + 2 * 8) = false := bI_0.mp c2
      refine lv_iconst (pc := 21) (v := nI 1) hx hb dX3_isUnderWay_21 (by decide) ?_
      refine lv_goto (pc := 22) (tgt := 26) hx hb dX3_isUnderWay_22 (by decide) ?_
      exact W.zret (v := nI 1) hx hb hr rfl (fun t ht hW => ⟨⟨nI 1, (), rfl, by rw [show uwB k.1 = true from by first | (simp [uwB, c1, c2]; done) | (simp [uwB, c1]; done)]; rfl, trivial⟩, hS.F ht⟩) hS.2.2 dX3_isUnderWay_26
set_option maxHeartbeats 4000000 in
set_option maxRecDepth 100000 in
theorem kX3_isTrialUnconfirmed (l : Launch) (dC : Nat → ClassId) (dI : Nat → Nat → Nat) (tt : Nat → Nat) (cI cB : ClassId) (sz : Nat) (a0 a1 a2 a3 a4 a5 a6 a7 a8 a9 : Nat) (k : K0) (ut : Nat → Int32) (tb : Nat → Int8) (tn : Nat) (sc hs : Nat → Int32) (rn : Bool) (rv wb ee we : Int32)  : MetR l yX3_isTrialUnconfirmed wsX3_isTrialUnconfirmed { frames := 3, cells := 0, slots := 0, locals := 68 } (dC, dI) [(cI, .int), (cB, .byte)] tt [] sz (xW a0 a1 a2 a3 a4 a5 a6 a7 a8 a9 cI k ut tb tn sc hs rn rv wb ee we) [.ref a0] (fun r => r = bI (tuB k.1)) := by
  refine Met.ofW (cc := cX3_isTrialUnconfirmed) (maxL := 1) (ret := (some .boolean)) (by decide) rfl ?_
  intro p e s m args below meth c s₁ B hml hv
  obtain ⟨rfl, hsz, hP, hK, hD0, hE⟩ := hv
  have hx := B.exec
  have hb := B.bytes
  have hr := B.returns
  have hts := atoms_spec (ws := wsX3_isTrialUnconfirmed) B.pre
  have hown : s.vm.findClass RX3 = some m.cls := findClass_of_methodNamed B.named
  have hlocks := B.notSynchronized
  subst hsz
  have hD := hD0
  generalize hAe : va_A [] s.heap.size = A at hE ⊢
  have hA : ∀ q : Nat, s.heap.size ≤ q → A q := fun q h => by rw [← hAe]; exact Or.inr h
  have hS : va_S A s.heap s.heap [] := va_S.rf
  have hl := lv_entry ([.ref a0]) (n := 1) (Nat.le_of_ble_eq_true rfl)
  rw [lg_entry_eq]
  generalize (lg_sl ([.ref a0]) ++ List.replicate (1 - (lg_sl ([.ref a0])).length) Slot.unset).toArray = ls at hl ⊢
  have hl : lv_has ls 1 [(0, .ref a0)] := hl
  have hP : va_P (dC, dI) vwCl (xW a0 a1 a2 a3 a4 a5 a6 a7 a8 a9 cI k ut tb tn sc hs rn rv wb ee we) s.heap := hP
  refine lv_aload_n (pc := 0) hx hb dX3_isTrialUnconfirmed_0 rfl (lv_at hl 0 rfl) ?_
  refine va_get (pc := 1) (D := (dC, dI)) (ci := 3) (v := .ref a1) (C := RX3) (T := TX3) (N := 8) hx hb hts (by decide +kernel) hown hK hP 0 rfl rfl 0 (by decide) (hts (.fieldLink RX3 12 "ScratchSwap" "memory" "LScratchSwap$Memory;") (by decide +kernel)) (fun _ h9 => h9) rfl dX3_isTrialUnconfirmed_1 ?_
  refine lv_iconst (pc := 4) (v := nI 4) hx hb dX3_isTrialUnconfirmed_4 (by decide) ?_
  refine x_roi (pc := 5) (va_runVN (As := [.int (nI 4)]) (rest := []) ⟨hx, hb, hml, hown, hts⟩ (kX0_hasMagic l dC dI tt cI cB _ a1 a2 a3 a4 k ut 4 (by omega)) (⟨va_cnB 1 hts gX3_isTrialUnconfirmed_X0_hasMagic_n102 rfl rfl rfl (hE.m 12 (q := (RX3, 102, yX0_hasMagic, "ScratchSwap")) rfl) (hts (.initialized RX0) (by decide +kernel)) (by decide +kernel) ⟨Nat.le_of_ble_eq_true rfl, Nat.le_of_ble_eq_true rfl⟩, hts (.instanceMethod yX0_hasMagic) (by decide +kernel), hts (.selects RX0 yX0_hasMagic yX0_hasMagic) (by decide +kernel)⟩) (x_preV hS hE hK hP hD [1, 2, 3, 4] rfl (by decide) (x_ro hS hA) xR0 0 1 rfl rfl) rfl rfl hl.1 rfl (lv_room (Nat.le_of_ble_eq_true rfl)) dX3_isTrialUnconfirmed_5 ⟨Nat.le_of_ble_eq_true rfl, Nat.le_of_ble_eq_true rfl⟩) hS hA hP (fun r_1 H locs hr_1 hP hS => ?_)
  subst hr_1
  refine lv_if_eq (pc := 8) (tgt := 46) hx hb dX3_isTrialUnconfirmed_8 (by decide) (fun c1 => ?_) (fun c1 => ?_)
  · skip
    have c1 : magB k.1 (4 * 256) = false := bI_0.mp c1
    refine lv_iconst (pc := 46) (v := nI 0) hx hb dX3_isTrialUnconfirmed_46 (by decide) ?_
    exact W.zret (v := nI 0) hx hb hr rfl (fun t ht hW => ⟨⟨nI 0, (), rfl, by rw [show tuB k.1 = false from by first | (simp [tuB, c1, c2, c3, c4]; done) | (simp [tuB, c1, c2, c3]; done) | (simp [tuB, c1, c2]; done) | (simp [tuB, c1]; done)]; rfl, trivial⟩, hS.F ht⟩) hS.2.2 dX3_isTrialUnconfirmed_47
  · skip
    have c1 : magB k.1 (4 * 256) = true := bI_1.mp c1
    refine lv_aload_n (pc := 11) hx hb dX3_isTrialUnconfirmed_11 rfl (lv_at hl 0 rfl) ?_
    refine va_get (pc := 12) (D := (dC, dI)) (ci := 3) (v := .ref a1) (C := RX3) (T := TX3) (N := 8) hx hb hts (by decide +kernel) hown hK hP 0 rfl rfl 0 (by decide) (hts (.fieldLink RX3 12 "ScratchSwap" "memory" "LScratchSwap$Memory;") (by decide +kernel)) (fun _ h9 => h9) rfl dX3_isTrialUnconfirmed_12 ?_
    refine lv_iconst (pc := 15) (v := nI 4) hx hb dX3_isTrialUnconfirmed_15 (by decide) ?_
    refine lv_iconst (pc := 16) (v := nI 1) hx hb dX3_isTrialUnconfirmed_16 (by decide) ?_
    refine x_roi (pc := 17) (va_runVN (As := [.int (nI 4), .int (nI 1)]) (rest := []) ⟨hx, hb, hml, hown, hts⟩ (kX0_markIn l dC dI tt cI cB _ a1 a2 a3 a4 k ut 4 1 (by omega)) (⟨va_cnB 2 hts gX3_isTrialUnconfirmed_X0_markIn_n144 rfl rfl rfl (hE.m 7 (q := (RX3, 144, yX0_markIn, "ScratchSwap")) rfl) (hts (.initialized RX0) (by decide +kernel)) (by decide +kernel) ⟨Nat.le_of_ble_eq_true rfl, Nat.le_of_ble_eq_true rfl⟩, hts (.instanceMethod yX0_markIn) (by decide +kernel), hts (.selects RX0 yX0_markIn yX0_markIn) (by decide +kernel)⟩) (x_preV hS hE hK hP hD [1, 2, 3, 4] rfl (by decide) (x_ro hS hA) xR0 0 1 rfl rfl) rfl rfl hl.1 rfl (lv_room (Nat.le_of_ble_eq_true rfl)) dX3_isTrialUnconfirmed_17 ⟨Nat.le_of_ble_eq_true rfl, Nat.le_of_ble_eq_true rfl⟩) hS hA hP (fun r_2 H locs hr_2 hP hS => ?_)
    subst hr_2
    have hs_3 := setN_le k.1 (4 * 256 + 1 * 8)
    refine lv_iconst (pc := 20) (v := nI 1) hx hb dX3_isTrialUnconfirmed_20 (by decide) ?_
    refine lv_icmp_ne (pc := 21) (tgt := 46) hx hb dX3_isTrialUnconfirmed_21 (by decide) (fun c2 => ?_) (fun c2 => ?_)
    · skip
      have c2 : ¬ (setN k.1 (4 * 256 + 1 * 8)) = 1 := fun z => c2 ((nI_eq (a := (setN k.1 (4 * 256 + 1 * 8))) (b := 1) (by omega) (by omega)).mpr z)
      refine lv_iconst (pc := 46) (v := nI 0) hx hb dX3_isTrialUnconfirmed_46 (by decide) ?_
      exact W.zret (v := nI 0) hx hb hr rfl (fun t ht hW => ⟨⟨nI 0, (), rfl, by rw [show tuB k.1 = false from by first | (simp [tuB, c1, c2, c3, c4]; done) | (simp [tuB, c1, c2, c3]; done) | (simp [tuB, c1, c2]; done) | (simp [tuB, c1]; done)]; rfl, trivial⟩, hS.F ht⟩) hS.2.2 dX3_isTrialUnconfirmed_47
    · skip
      have c2 : (setN k.1 (4 * 256 + 1 * 8)) = 1 := (nI_eq (a := (setN k.1 (4 * 256 + 1 * 8))) (b := 1) (by omega) (by omega)).mp c2
      refine lv_aload_n (pc := 24) hx hb dX3_isTrialUnconfirmed_24 rfl (lv_at hl 0 rfl) ?_
      refine lv_iconst (pc := 25) (v := nI 4) hx hb dX3_isTrialUnconfirmed_25 (by decide) ?_
      refine lv_iconst (pc := 26) (v := nI 2) hx hb dX3_isTrialUnconfirmed_26 (by decide) ?_
      refine x_roi (pc := 27) (va_runV (As := [.int (nI 4), .int (nI 2)]) (rest := []) ⟨hx, hb, hml, hown, hts⟩ (kX3_isMarked l dC dI tt cI cB _ a0 a1 a2 a3 a4 a5 a6 a7 a8 a9 k ut tb tn sc hs rn rv wb ee we 4 2 (by omega)) (cwV 2 hts gX3_isTrialUnconfirmed_X3_isMarked rfl rfl rfl (by decide +kernel) ⟨Nat.le_of_ble_eq_true rfl, Nat.le_of_ble_eq_true rfl⟩) (x_preVa hS hE hK hP hD (x_ro hS hA) xR0 3 0 rfl rfl) rfl rfl hl.1 rfl (lv_room (Nat.le_of_ble_eq_true rfl)) dX3_isTrialUnconfirmed_27 ⟨Nat.le_of_ble_eq_true rfl, Nat.le_of_ble_eq_true rfl⟩) hS hA hP (fun r_4 H locs hr_4 hP hS => ?_)
      subst hr_4
      refine lv_if_eq (pc := 30) (tgt := 46) hx hb dX3_isTrialUnconfirmed_30 (by decide) (fun c3 => ?_) (fun c3 => ?_)
      · skip
        have c3 : mkB k.1 (4 * 256 + 2 * 8) = false := bI_0.mp c3
        refine lv_iconst (pc := 46) (v := nI 0) hx hb dX3_isTrialUnconfirmed_46 (by decide) ?_
        exact W.zret (v := nI 0) hx hb hr rfl (fun t ht hW => ⟨⟨nI 0, (), rfl, by rw [show tuB k.1 = false from by first | (simp [tuB, c1, c2, c3, c4]; done) | (simp [tuB, c1, c2, c3]; done) | (simp [tuB, c1, c2]; done) | (simp [tuB, c1]; done)]; rfl, trivial⟩, hS.F ht⟩) hS.2.2 dX3_isTrialUnconfirmed_47
      · skip
        have c3 : mkB k.1 (4 * 256 + 2 * 8) = true := bI_1.mp c3
        refine lv_aload_n (pc := 33) hx hb dX3_isTrialUnconfirmed_33 rfl (lv_at hl 0 rfl) ?_
        refine lv_iconst (pc := 34) (v := nI 4) hx hb dX3_isTrialUnconfirmed_34 (by decide) ?_
        refine lv_iconst (pc := 35) (v := nI 3) hx hb dX3_isTrialUnconfirmed_35 (by decide) ?_
        refine x_roi (pc := 36) (va_runV (As := [.int (nI 4), .int (nI 3)]) (rest := []) ⟨hx, hb, hml, hown, hts⟩ (kX3_isMarked l dC dI tt cI cB _ a0 a1 a2 a3 a4 a5 a6 a7 a8 a9 k ut tb tn sc hs rn rv wb ee we 4 3 (by omega)) (cwV 2 hts gX3_isTrialUnconfirmed_X3_isMarked rfl rfl rfl (by decide +kernel) ⟨Nat.le_of_ble_eq_true rfl, Nat.le_of_ble_eq_true rfl⟩) (x_preVa hS hE hK hP hD (x_ro hS hA) xR0 3 0 rfl rfl) rfl rfl hl.1 rfl (lv_room (Nat.le_of_ble_eq_true rfl)) dX3_isTrialUnconfirmed_36 ⟨Nat.le_of_ble_eq_true rfl, Nat.le_of_ble_eq_true rfl⟩) hS hA hP (fun r_5 H locs hr_5 hP hS => ?_)
        subst hr_5
        refine lv_if_ne (pc := 39) (tgt := 46) hx hb dX3_isTrialUnconfirmed_39 (by decide) (fun c4 => ?_) (fun c4 => ?_)
        · skip
          have c4 : mkB k.1 (4 * 256 + 3 * 8) = true := bI_1.mp c4
          refine lv_iconst (pc := 46) (v := nI 0) hx hb dX3_isTrialUnconfirmed_46 (by decide) ?_
          exact W.zret (v := nI 0) hx hb hr rfl (fun t ht hW => ⟨⟨nI 0, (), rfl, by rw [show tuB k.1 = false from by first | (simp [tuB, c1, c2, c3, c4]; done) | (simp [tuB, c1, c2, c3]; done) | (simp [tuB, c1, c2]; done) | (simp [tuB, c1]; done)]; rfl, trivial⟩, hS.F ht⟩) hS.2.2 dX3_isTrialUnconfirmed_47
        · skip
          have c4 : mkB k.1 (4 * 256 + 3 * 8) = false := bI_0.mp c4
          refine lv_iconst (pc := 42) (v := nI 1) hx hb dX3_isTrialUnconfirmed_42 (by decide) ?_
          refine lv_goto (pc := 43) (tgt := 47) hx hb dX3_isTrialUnconfirmed_43 (by decide) ?_
          exact W.zret (v := nI 1) hx hb hr rfl (fun t ht hW => ⟨⟨nI 1, (), rfl, by rw [show tuB k.1 = true from by first | (simp [tuB, c1, c2, c3, c4]; done) | (simp [tuB, c1, c2, c3]; done) | (simp [tuB, c1, c2]; done) | (simp [tuB, c1]; done)]; rfl, trivial⟩, hS.F ht⟩) hS.2.2 dX3_isTrialUnconfirmed_47
set_option maxHeartbeats 4000000 in
set_option maxRecDepth 100000 in
theorem kX3_kindAskedFor (l : Launch) (dC : Nat → ClassId) (dI : Nat → Nat → Nat) (tt : Nat → Nat) (cI cB : ClassId) (sz : Nat) (a0 a1 a2 a3 a4 a5 a6 a7 a8 a9 : Nat) (k : K0) (ut : Nat → Int32) (tb : Nat → Int8) (tn : Nat) (sc hs : Nat → Int32) (rn : Bool) (rv wb ee we : Int32)  : MetR l yX3_kindAskedFor wsX3_kindAskedFor { frames := 3, cells := 0, slots := 0, locals := 68 } (dC, dI) [(cI, .int), (cB, .byte)] tt [] sz (xW a0 a1 a2 a3 a4 a5 a6 a7 a8 a9 cI k ut tb tn sc hs rn rv wb ee we) [.ref a0] (fun r => r = nI (askN k.1)) := by
  refine Met.ofW (cc := cX3_kindAskedFor) (maxL := 2) (ret := (some .int)) (by decide) rfl ?_
  intro p e s m args below meth c s₁ B hml hv
  obtain ⟨rfl, hsz, hP, hK, hD0, hE⟩ := hv
  have hx := B.exec
  have hb := B.bytes
  have hr := B.returns
  have hts := atoms_spec (ws := wsX3_kindAskedFor) B.pre
  have hown : s.vm.findClass RX3 = some m.cls := findClass_of_methodNamed B.named
  have hlocks := B.notSynchronized
  subst hsz
  have hD := hD0
  generalize hAe : va_A [] s.heap.size = A at hE ⊢
  have hA : ∀ q : Nat, s.heap.size ≤ q → A q := fun q h => by rw [← hAe]; exact Or.inr h
  have hS : va_S A s.heap s.heap [] := va_S.rf
  have hl := lv_entry ([.ref a0]) (n := 2) (Nat.le_of_ble_eq_true rfl)
  rw [lg_entry_eq]
  generalize (lg_sl ([.ref a0]) ++ List.replicate (2 - (lg_sl ([.ref a0])).length) Slot.unset).toArray = ls at hl ⊢
  have hl : lv_has ls 2 [(0, .ref a0)] := hl
  have hP : va_P (dC, dI) vwCl (xW a0 a1 a2 a3 a4 a5 a6 a7 a8 a9 cI k ut tb tn sc hs rn rv wb ee we) s.heap := hP
  refine lv_aload_n (pc := 0) hx hb dX3_kindAskedFor_0 rfl (lv_at hl 0 rfl) ?_
  refine va_get (pc := 1) (D := (dC, dI)) (ci := 3) (v := .ref a1) (C := RX3) (T := TX3) (N := 8) hx hb hts (by decide +kernel) hown hK hP 0 rfl rfl 0 (by decide) (hts (.fieldLink RX3 12 "ScratchSwap" "memory" "LScratchSwap$Memory;") (by decide +kernel)) (fun _ h9 => h9) rfl dX3_kindAskedFor_1 ?_
  refine lv_bipush (pc := 4) (v := nI 9) hx hb dX3_kindAskedFor_4 (by decide) ?_
  refine lv_iconst (pc := 6) (v := nI 1) hx hb dX3_kindAskedFor_6 (by decide) ?_
  refine x_roi (pc := 7) (va_runVN (As := [.int (nI 9), .int (nI 1)]) (rest := []) ⟨hx, hb, hml, hown, hts⟩ (kX0_markIn l dC dI tt cI cB _ a1 a2 a3 a4 k ut 9 1 (by omega)) (⟨va_cnB 2 hts gX3_kindAskedFor_X0_markIn_n144 rfl rfl rfl (hE.m 7 (q := (RX3, 144, yX0_markIn, "ScratchSwap")) rfl) (hts (.initialized RX0) (by decide +kernel)) (by decide +kernel) ⟨Nat.le_of_ble_eq_true rfl, Nat.le_of_ble_eq_true rfl⟩, hts (.instanceMethod yX0_markIn) (by decide +kernel), hts (.selects RX0 yX0_markIn yX0_markIn) (by decide +kernel)⟩) (x_preV hS hE hK hP hD [1, 2, 3, 4] rfl (by decide) (x_ro hS hA) xR0 0 1 rfl rfl) rfl rfl hl.1 rfl (lv_room (Nat.le_of_ble_eq_true rfl)) dX3_kindAskedFor_7 ⟨Nat.le_of_ble_eq_true rfl, Nat.le_of_ble_eq_true rfl⟩) hS hA hP (fun r_1 H locs hr_1 hP hS => ?_)
  subst hr_1
  have hs_2 := setN_le k.1 (9 * 256 + 1 * 8)
  refine lv_istore_n (pc := 10) (lv' := [(1, .int (nI (setN k.1 (9 * 256 + 1 * 8)))), (0, .ref a0)]) hx hb dX3_kindAskedFor_10 rfl hl (by decide) rfl (fun ls hl => ?_)
  refine lv_iload_n (pc := 11) hx hb dX3_kindAskedFor_11 rfl (lv_at hl 0 rfl) ?_
  refine lv_if_eq (pc := 12) (tgt := 17) hx hb dX3_kindAskedFor_12 (by decide) (fun c1 => ?_) (fun c1 => ?_)
  · skip
    have c1 : (setN k.1 (9 * 256 + 1 * 8)) = 0 := (nI_eq (a := (setN k.1 (9 * 256 + 1 * 8))) (b := 0) (by omega) (by omega)).mp c1
    refine lv_aload_n (pc := 17) hx hb dX3_kindAskedFor_17 rfl (lv_at hl 1 rfl) ?_
    refine va_get (pc := 18) (D := (dC, dI)) (ci := 3) (v := .ref a1) (C := RX3) (T := TX3) (N := 8) hx hb hts (by decide +kernel) hown hK hP 0 rfl rfl 0 (by decide) (hts (.fieldLink RX3 12 "ScratchSwap" "memory" "LScratchSwap$Memory;") (by decide +kernel)) (fun _ h9 => h9) rfl dX3_kindAskedFor_18 ?_
    refine lv_bipush (pc := 21) (v := nI 9) hx hb dX3_kindAskedFor_21 (by decide) ?_
    refine x_roi (pc := 23) (va_runVN (As := [.int (nI 9)]) (rest := []) ⟨hx, hb, hml, hown, hts⟩ (kX0_hasMagic l dC dI tt cI cB _ a1 a2 a3 a4 k ut 9 (by omega)) (⟨va_cnB 1 hts gX3_kindAskedFor_X0_hasMagic_n102 rfl rfl rfl (hE.m 12 (q := (RX3, 102, yX0_hasMagic, "ScratchSwap")) rfl) (hts (.initialized RX0) (by decide +kernel)) (by decide +kernel) ⟨Nat.le_of_ble_eq_true rfl, Nat.le_of_ble_eq_true rfl⟩, hts (.instanceMethod yX0_hasMagic) (by decide +kernel), hts (.selects RX0 yX0_hasMagic yX0_hasMagic) (by decide +kernel)⟩) (x_preV hS hE hK hP hD [1, 2, 3, 4] rfl (by decide) (x_ro hS hA) xR0 0 1 rfl rfl) rfl rfl hl.1 rfl (lv_room (Nat.le_of_ble_eq_true rfl)) dX3_kindAskedFor_23 ⟨Nat.le_of_ble_eq_true rfl, Nat.le_of_ble_eq_true rfl⟩) hS hA hP (fun r_3 H locs hr_3 hP hS => ?_)
    subst hr_3
    refine lv_if_ne (pc := 26) (tgt := 31) hx hb dX3_kindAskedFor_26 (by decide) (fun c2 => ?_) (fun c2 => ?_)
    · skip
      have c2 : magB k.1 (9 * 256) = true := bI_1.mp c2
      refine lv_aload_n (pc := 31) hx hb dX3_kindAskedFor_31 rfl (lv_at hl 1 rfl) ?_
      refine lv_bipush (pc := 32) (v := nI 9) hx hb dX3_kindAskedFor_32 (by decide) ?_
      refine lv_iconst (pc := 34) (v := nI 3) hx hb dX3_kindAskedFor_34 (by decide) ?_
      refine x_roi (pc := 35) (va_runV (As := [.int (nI 9), .int (nI 3)]) (rest := []) ⟨hx, hb, hml, hown, hts⟩ (kX3_isMarked l dC dI tt cI cB _ a0 a1 a2 a3 a4 a5 a6 a7 a8 a9 k ut tb tn sc hs rn rv wb ee we 9 3 (by omega)) (cwV 2 hts gX3_kindAskedFor_X3_isMarked rfl rfl rfl (by decide +kernel) ⟨Nat.le_of_ble_eq_true rfl, Nat.le_of_ble_eq_true rfl⟩) (x_preVa hS hE hK hP hD (x_ro hS hA) xR0 3 0 rfl rfl) rfl rfl hl.1 rfl (lv_room (Nat.le_of_ble_eq_true rfl)) dX3_kindAskedFor_35 ⟨Nat.le_of_ble_eq_true rfl, Nat.le_of_ble_eq_true rfl⟩) hS hA hP (fun r_4 H locs hr_4 hP hS => ?_)
      subst hr_4
      refine lv_if_eq (pc := 38) (tgt := 45) hx hb dX3_kindAskedFor_38 (by decide) (fun c3 => ?_) (fun c3 => ?_)
      · skip
        have c3 : mkB k.1 (9 * 256 + 3 * 8) = false := bI_0.mp c3
        refine lv_iconst (pc := 45) (v := nI 1) hx hb dX3_kindAskedFor_45 (by decide) ?_
        exact W.iret (v := nI 1) hx hb hr (fun t ht hW => ⟨⟨nI 1, (), rfl, by unfold askN; first | (rw [if_neg c1]; done) | (rw [if_pos c1, c2, if_neg (by decide)]; done) | (rw [if_pos c1, c2, if_pos rfl, c3]; rfl), trivial⟩, hS.F ht⟩) hS.2.2 dX3_kindAskedFor_46
      · skip
        have c3 : mkB k.1 (9 * 256 + 3 * 8) = true := bI_1.mp c3
        refine lv_iconst (pc := 41) (v := nI 2) hx hb dX3_kindAskedFor_41 (by decide) ?_
        refine lv_goto (pc := 42) (tgt := 46) hx hb dX3_kindAskedFor_42 (by decide) ?_
        exact W.iret (v := nI 2) hx hb hr (fun t ht hW => ⟨⟨nI 2, (), rfl, by unfold askN; first | (rw [if_neg c1]; done) | (rw [if_pos c1, c2, if_neg (by decide)]; done) | (rw [if_pos c1, c2, if_pos rfl, c3]; rfl), trivial⟩, hS.F ht⟩) hS.2.2 dX3_kindAskedFor_46
    · skip
      have c2 : magB k.1 (9 * 256) = false := bI_0.mp c2
      refine lv_iconst (pc := 29) (v := nI 0) hx hb dX3_kindAskedFor_29 (by decide) ?_
      exact W.iret (v := nI 0) hx hb hr (fun t ht hW => ⟨⟨nI 0, (), rfl, by unfold askN; first | (rw [if_neg c1]; done) | (rw [if_pos c1, c2, if_neg (by decide)]; done) | (rw [if_pos c1, c2, if_pos rfl, c3]; rfl), trivial⟩, hS.F ht⟩) hS.2.2 dX3_kindAskedFor_30
  · skip
    have c1 : ¬ (setN k.1 (9 * 256 + 1 * 8)) = 0 := fun z => c1 ((nI_eq (a := (setN k.1 (9 * 256 + 1 * 8))) (b := 0) (by omega) (by omega)).mpr z)
    refine lv_iload_n (pc := 15) hx hb dX3_kindAskedFor_15 rfl (lv_at hl 0 rfl) ?_
    exact W.iret (v := nI (setN k.1 (9 * 256 + 1 * 8))) hx hb hr (fun t ht hW => ⟨⟨nI (setN k.1 (9 * 256 + 1 * 8)), (), rfl, by unfold askN; first | (rw [if_neg c1]; done) | (rw [if_pos c1, c2, if_neg (by decide)]; done) | (rw [if_pos c1, c2, if_pos rfl, c3]; rfl), trivial⟩, hS.F ht⟩) hS.2.2 dX3_kindAskedFor_16
set_option maxHeartbeats 4000000 in
set_option maxRecDepth 100000 in
theorem kX3_stepsSet (l : Launch) (dC : Nat → ClassId) (dI : Nat → Nat → Nat) (tt : Nat → Nat) (cI cB : ClassId) (sz : Nat) (a0 a1 a2 a3 a4 a5 a6 a7 a8 a9 : Nat) (k : K0) (ut : Nat → Int32) (tb : Nat → Int8) (tn : Nat) (sc hs : Nat → Int32) (rn : Bool) (rv wb ee we : Int32) (i0 : Nat) (hi0 : i0 < 11) : MetR l yX3_stepsSet wsX3_stepsSet { frames := 3, cells := 0, slots := 0, locals := 68 } (dC, dI) [(cI, .int), (cB, .byte)] tt [] sz (xW a0 a1 a2 a3 a4 a5 a6 a7 a8 a9 cI k ut tb tn sc hs rn rv wb ee we) [.ref a0, .int (nI i0)] (fun r => r = nI (cntN k.1 (i0 * 256) 12)) := by
  refine Met.ofW (cc := cX3_stepsSet) (maxL := 4) (ret := (some .int)) (by decide) rfl ?_
  intro p e s m args below meth c s₁ B hml hv
  obtain ⟨rfl, hsz, hP, hK, hD0, hE⟩ := hv
  have hx := B.exec
  have hb := B.bytes
  have hr := B.returns
  have hts := atoms_spec (ws := wsX3_stepsSet) B.pre
  have hown : s.vm.findClass RX3 = some m.cls := findClass_of_methodNamed B.named
  have hlocks := B.notSynchronized
  subst hsz
  have hD := hD0
  generalize hAe : va_A [] s.heap.size = A at hE ⊢
  have hA : ∀ q : Nat, s.heap.size ≤ q → A q := fun q h => by rw [← hAe]; exact Or.inr h
  have hS : va_S A s.heap s.heap [] := va_S.rf
  have hl := lv_entry ([.ref a0, .int (nI i0)]) (n := 4) (Nat.le_of_ble_eq_true rfl)
  rw [lg_entry_eq]
  generalize (lg_sl ([.ref a0, .int (nI i0)]) ++ List.replicate (4 - (lg_sl ([.ref a0, .int (nI i0)])).length) Slot.unset).toArray = ls at hl ⊢
  have hl : lv_has ls 4 [(0, .ref a0), (1, .int (nI i0))] := hl
  have hP : va_P (dC, dI) vwCl (xW a0 a1 a2 a3 a4 a5 a6 a7 a8 a9 cI k ut tb tn sc hs rn rv wb ee we) s.heap := hP
  refine lv_iconst (pc := 0) (v := nI 0) hx hb dX3_stepsSet_0 (by decide) ?_
  refine lv_istore_n (pc := 1) (lv' := [(2, .int (nI 0)), (0, .ref a0), (1, .int (nI i0))]) hx hb dX3_stepsSet_1 rfl hl (by decide) rfl (fun ls hl => ?_)
  refine lv_iconst (pc := 2) (v := nI 0) hx hb dX3_stepsSet_2 (by decide) ?_
  refine lv_istore_n (pc := 3) (lv' := [(3, .int (nI 0)), (2, .int (nI 0)), (0, .ref a0), (1, .int (nI i0))]) hx hb dX3_stepsSet_3 rfl hl (by decide) rfl (fun ls hl => ?_)
  refine x_loop (σ := (Nat)) (Wd := fun i : (Nat) => xW a0 a1 a2 a3 a4 a5 a6 a7 a8 a9 cI k ut tb tn sc hs rn rv wb ee we) (Lv := fun i : (Nat) => [(3, .int (nI i)), (2, .int (nI (cntN k.1 (i0 * 256) i))), (0, .ref a0), (1, .int (nI i0))]) (I := fun i : (Nat) => (i ≤ 12)) (μ := fun i : (Nat) => 12 - i) ?_ (0) (by omega) hP hD hS (lv_sub hl [0, 1, 2, 3] rfl)
  intro i H locs ls hI hP hD hS hl ih4
  have hi : (i ≤ 12) := hI
  have hP : va_P (dC, dI) vwCl (xW a0 a1 a2 a3 a4 a5 a6 a7 a8 a9 cI k ut tb tn sc hs rn rv wb ee we) _ := hP
  have hD : va_D (fun _ => True) (xW a0 a1 a2 a3 a4 a5 a6 a7 a8 a9 cI k ut tb tn sc hs rn rv wb ee we) := hD
  have hl : lv_has ls 4 [(3, .int (nI i)), (2, .int (nI (cntN k.1 (i0 * 256) i))), (0, .ref a0), (1, .int (nI i0))] := hl
  have hcn := cntN_le k.1 (i0 * 256) i
  refine lv_iload_n (pc := 4) hx hb dX3_stepsSet_4 rfl (lv_at hl 0 rfl) ?_
  refine lv_bipush (pc := 5) (v := nI 12) hx hb dX3_stepsSet_5 (by decide) ?_
  refine lv_icmp_ge (pc := 7) (tgt := 30) hx hb dX3_stepsSet_7 (by decide) (fun c_1 => ?_) (fun c_1 => ?_)
  · skip
    have c_1 : 12 ≤ i := (nI_leI (a := 12) (b := i) (by omega) (by omega)).mp c_1
    refine lv_iload_n (pc := 30) hx hb dX3_stepsSet_30 rfl (lv_at hl 1 rfl) ?_
    have hi9 : i = 12 := by omega
    subst hi9
    exact W.iret (v := nI (cntN k.1 (i0 * 256) 12)) hx hb hr (fun t ht hW => ⟨⟨nI (cntN k.1 (i0 * 256) 12), (), rfl, rfl, trivial⟩, hS.F ht⟩) hS.2.2 dX3_stepsSet_31
  · skip
    have c_1 : ¬ 12 ≤ i := fun z => c_1 ((nI_leI (a := 12) (b := i) (by omega) (by omega)).mpr z)
    refine lv_aload_n (pc := 10) hx hb dX3_stepsSet_10 rfl (lv_at hl 2 rfl) ?_
    refine lv_iload_n (pc := 11) hx hb dX3_stepsSet_11 rfl (lv_at hl 3 rfl) ?_
    refine lv_iconst (pc := 12) (v := nI 4) hx hb dX3_stepsSet_12 (by decide) ?_
    refine lv_iload_n (pc := 13) hx hb dX3_stepsSet_13 rfl (lv_at hl 0 rfl) ?_
    refine lv_iadd (pc := 14) hx hb dX3_stepsSet_14 ?_
    refine lv_cv (nI_add 4 i) ?_
    refine x_roi (pc := 15) (va_runV (As := [.int (nI i0), .int (nI (4 + i))]) (rest := []) ⟨hx, hb, hml, hown, hts⟩ (kX3_isMarked l dC dI tt cI cB _ a0 a1 a2 a3 a4 a5 a6 a7 a8 a9 k ut tb tn sc hs rn rv wb ee we i0 (4 + i) (by omega)) (cwV 2 hts gX3_stepsSet_X3_isMarked rfl rfl rfl (by decide +kernel) ⟨Nat.le_of_ble_eq_true rfl, Nat.le_of_ble_eq_true rfl⟩) (x_preVa hS hE hK hP hD (x_ro hS hA) xR0 3 0 rfl rfl) rfl rfl hl.1 rfl (lv_room (Nat.le_of_ble_eq_true rfl)) dX3_stepsSet_15 ⟨Nat.le_of_ble_eq_true rfl, Nat.le_of_ble_eq_true rfl⟩) hS hA hP (fun r_2 H locs hr_2 hP hS => ?_)
    subst hr_2
    refine lv_if_eq (pc := 18) (tgt := 24) hx hb dX3_stepsSet_18 (by decide) (fun c2 => ?_) (fun c2 => ?_)
    · skip
      have c2 : mkB k.1 (i0 * 256 + (4 + i) * 8) = false := bI_0.mp c2
      refine lv_iinc (pc := 24) (v := nI (i + 1)) (lv' := [(3, .int (nI (i + 1))), (2, .int (nI (cntN k.1 (i0 * 256) i))), (0, .ref a0), (1, .int (nI i0))]) hx hb dX3_stepsSet_24 hl (k := 0) rfl (nI_inc i 1) (by decide) rfl (fun ls hl => ?_)
      refine lv_goto (pc := 27) (tgt := 4) hx hb dX3_stepsSet_27 (by decide) ?_
      have hl : lv_has ls 4 [(3, .int (nI (i + 1))), (2, .int (nI (cntN k.1 (i0 * 256) (i + 1)))), (0, .ref a0), (1, .int (nI i0))] := by rw [cntN_s, c2]; exact hl
      exact ih4 (i + 1) H locs ls (by omega) (by first | omega | (simp only []; omega)) hP hD hS (lv_sub hl [0, 1, 2, 3] rfl)
    · skip
      have c2 : mkB k.1 (i0 * 256 + (4 + i) * 8) = true := bI_1.mp c2
      refine lv_iinc (pc := 21) (v := nI ((cntN k.1 (i0 * 256) i) + 1)) (lv' := [(2, .int (nI ((cntN k.1 (i0 * 256) i) + 1))), (3, .int (nI i)), (0, .ref a0), (1, .int (nI i0))]) hx hb dX3_stepsSet_21 hl (k := 1) rfl (nI_inc (cntN k.1 (i0 * 256) i) 1) (by decide) rfl (fun ls hl => ?_)
      refine lv_iinc (pc := 24) (v := nI (i + 1)) (lv' := [(3, .int (nI (i + 1))), (2, .int (nI ((cntN k.1 (i0 * 256) i) + 1))), (0, .ref a0), (1, .int (nI i0))]) hx hb dX3_stepsSet_24 hl (k := 1) rfl (nI_inc i 1) (by decide) rfl (fun ls hl => ?_)
      refine lv_goto (pc := 27) (tgt := 4) hx hb dX3_stepsSet_27 (by decide) ?_
      have hl : lv_has ls 4 [(3, .int (nI (i + 1))), (2, .int (nI (cntN k.1 (i0 * 256) (i + 1)))), (0, .ref a0), (1, .int (nI i0))] := by rw [cntN_s, c2]; exact hl
      exact ih4 (i + 1) H locs ls (by omega) (by first | omega | (simp only []; omega)) hP hD hS (lv_sub hl [0, 1, 2, 3] rfl)
end
