section
-- ===== PART A: goes FIRST, ahead of the names: the tables' words, and 'selects' of the private methods out of them =====
/-- a private method of a class that the tables say can be made, by its rows of tables_1 -/
def lw_okq (q : MethodName × Nat) : Prop := (q.1.cls ≠ "java/lang/invoke/MethodHandle" ∧ q.1.cls ≠ "java/lang/invoke/VarHandle") ∧ Cond.instantiable q.1.cls q.2 ∈ tables_1 ∧ Cond.privateMethod q.1 ∈ tables_1 ∧ Cond.instanceMethod q.1 ∈ tables_1
theorem lw_p0 : lw_okq (⟨"ExactReader$NumberText", "room", "()I"⟩, 13) := ⟨⟨by decide +kernel, by decide +kernel⟩, List.mem_of_getElem? (i := 31) (by decide +kernel), List.mem_of_getElem? (i := 182) (by decide +kernel), List.mem_of_getElem? (i := 183) (by decide +kernel)⟩
theorem lw_p1 : lw_okq (⟨"ExactReader$NumberText", "append", "(C)V"⟩, 13) := ⟨⟨by decide +kernel, by decide +kernel⟩, List.mem_of_getElem? (i := 31) (by decide +kernel), List.mem_of_getElem? (i := 186) (by decide +kernel), List.mem_of_getElem? (i := 187) (by decide +kernel)⟩
theorem lw_p2 : lw_okq (⟨"ExactReader$NumberText", "dropLast", "(I)V"⟩, 13) := ⟨⟨by decide +kernel, by decide +kernel⟩, List.mem_of_getElem? (i := 31) (by decide +kernel), List.mem_of_getElem? (i := 194) (by decide +kernel), List.mem_of_getElem? (i := 195) (by decide +kernel)⟩
theorem lw_p3 : lw_okq (⟨"ExactReader$NumberText", "scan", "()V"⟩, 13) := ⟨⟨by decide +kernel, by decide +kernel⟩, List.mem_of_getElem? (i := 31) (by decide +kernel), List.mem_of_getElem? (i := 205) (by decide +kernel), List.mem_of_getElem? (i := 206) (by decide +kernel)⟩
theorem lw_p4 : lw_okq (⟨"ExactReader$NumberText", "skipBlanks", "()V"⟩, 13) := ⟨⟨by decide +kernel, by decide +kernel⟩, List.mem_of_getElem? (i := 31) (by decide +kernel), List.mem_of_getElem? (i := 209) (by decide +kernel), List.mem_of_getElem? (i := 210) (by decide +kernel)⟩
theorem lw_p5 : lw_okq (⟨"ExactReader$NumberText", "here", "()C"⟩, 13) := ⟨⟨by decide +kernel, by decide +kernel⟩, List.mem_of_getElem? (i := 31) (by decide +kernel), List.mem_of_getElem? (i := 213) (by decide +kernel), List.mem_of_getElem? (i := 214) (by decide +kernel)⟩
theorem lw_p6 : lw_okq (⟨"ExactReader$NumberText", "skipOneOf", "(CC)Z"⟩, 13) := ⟨⟨by decide +kernel, by decide +kernel⟩, List.mem_of_getElem? (i := 31) (by decide +kernel), List.mem_of_getElem? (i := 217) (by decide +kernel), List.mem_of_getElem? (i := 218) (by decide +kernel)⟩
theorem lw_p7 : lw_okq (⟨"ExactReader$NumberText", "takeBody", "()I"⟩, 13) := ⟨⟨by decide +kernel, by decide +kernel⟩, List.mem_of_getElem? (i := 31) (by decide +kernel), List.mem_of_getElem? (i := 221) (by decide +kernel), List.mem_of_getElem? (i := 222) (by decide +kernel)⟩
theorem lw_p8 : lw_okq (⟨"ExactReader$NumberText", "takeWord", "(Ljava/lang/String;)Z"⟩, 13) := ⟨⟨by decide +kernel, by decide +kernel⟩, List.mem_of_getElem? (i := 31) (by decide +kernel), List.mem_of_getElem? (i := 226) (by decide +kernel), List.mem_of_getElem? (i := 227) (by decide +kernel)⟩
theorem lw_p9 : lw_okq (⟨"ExactReader$NumberText", "characterAt", "(I)C"⟩, 13) := ⟨⟨by decide +kernel, by decide +kernel⟩, List.mem_of_getElem? (i := 31) (by decide +kernel), List.mem_of_getElem? (i := 279) (by decide +kernel), List.mem_of_getElem? (i := 280) (by decide +kernel)⟩
theorem lw_p10 : lw_okq (⟨"ExactReader$NumberText", "takeHexadecimal", "()Z"⟩, 13) := ⟨⟨by decide +kernel, by decide +kernel⟩, List.mem_of_getElem? (i := 31) (by decide +kernel), List.mem_of_getElem? (i := 283) (by decide +kernel), List.mem_of_getElem? (i := 284) (by decide +kernel)⟩
theorem lw_p11 : lw_okq (⟨"ExactReader$NumberText", "takeDigits", "(I)Z"⟩, 13) := ⟨⟨by decide +kernel, by decide +kernel⟩, List.mem_of_getElem? (i := 31) (by decide +kernel), List.mem_of_getElem? (i := 287) (by decide +kernel), List.mem_of_getElem? (i := 288) (by decide +kernel)⟩
theorem lw_p12 : lw_okq (⟨"ExactReader$NumberText", "takeExponent", "()Z"⟩, 13) := ⟨⟨by decide +kernel, by decide +kernel⟩, List.mem_of_getElem? (i := 31) (by decide +kernel), List.mem_of_getElem? (i := 294) (by decide +kernel), List.mem_of_getElem? (i := 295) (by decide +kernel)⟩
theorem lw_p13 : lw_okq (⟨"ExactReader$NumberText", "skipSuffix", "()V"⟩, 13) := ⟨⟨by decide +kernel, by decide +kernel⟩, List.mem_of_getElem? (i := 31) (by decide +kernel), List.mem_of_getElem? (i := 299) (by decide +kernel), List.mem_of_getElem? (i := 300) (by decide +kernel)⟩
theorem lw_p14 : lw_okq (⟨"ExactReader$NumberText", "takeDecimal", "()Z"⟩, 13) := ⟨⟨by decide +kernel, by decide +kernel⟩, List.mem_of_getElem? (i := 31) (by decide +kernel), List.mem_of_getElem? (i := 303) (by decide +kernel), List.mem_of_getElem? (i := 304) (by decide +kernel)⟩
theorem lw_p15 : lw_okq (⟨"java/lang/Throwable", "fillInStackTrace", "(I)Ljava/lang/Throwable;"⟩, 6) := ⟨⟨by decide +kernel, by decide +kernel⟩, List.mem_of_getElem? (i := 357) (by decide +kernel), List.mem_of_getElem? (i := 355) (by decide +kernel), List.mem_of_getElem? (i := 356) (by decide +kernel)⟩
def lw_privs_1 : List (MethodName × Nat) := [(⟨"ExactReader$NumberText", "room", "()I"⟩, 13), (⟨"ExactReader$NumberText", "append", "(C)V"⟩, 13), (⟨"ExactReader$NumberText", "dropLast", "(I)V"⟩, 13), (⟨"ExactReader$NumberText", "scan", "()V"⟩, 13), (⟨"ExactReader$NumberText", "skipBlanks", "()V"⟩, 13), (⟨"ExactReader$NumberText", "here", "()C"⟩, 13), (⟨"ExactReader$NumberText", "skipOneOf", "(CC)Z"⟩, 13), (⟨"ExactReader$NumberText", "takeBody", "()I"⟩, 13), (⟨"ExactReader$NumberText", "takeWord", "(Ljava/lang/String;)Z"⟩, 13), (⟨"ExactReader$NumberText", "characterAt", "(I)C"⟩, 13), (⟨"ExactReader$NumberText", "takeHexadecimal", "()Z"⟩, 13), (⟨"ExactReader$NumberText", "takeDigits", "(I)Z"⟩, 13), (⟨"ExactReader$NumberText", "takeExponent", "()Z"⟩, 13), (⟨"ExactReader$NumberText", "skipSuffix", "()V"⟩, 13), (⟨"ExactReader$NumberText", "takeDecimal", "()Z"⟩, 13), (⟨"java/lang/Throwable", "fillInStackTrace", "(I)Ljava/lang/Throwable;"⟩, 6)]
theorem lw_r1 : ∀ q ∈ lw_privs_1, lw_okq q := List.forall_mem_cons.mpr ⟨lw_p0, List.forall_mem_cons.mpr ⟨lw_p1, List.forall_mem_cons.mpr ⟨lw_p2, List.forall_mem_cons.mpr ⟨lw_p3, List.forall_mem_cons.mpr ⟨lw_p4, List.forall_mem_cons.mpr ⟨lw_p5, List.forall_mem_cons.mpr ⟨lw_p6, List.forall_mem_cons.mpr ⟨lw_p7, List.forall_mem_cons.mpr ⟨lw_p8, List.forall_mem_cons.mpr ⟨lw_p9, List.forall_mem_cons.mpr ⟨lw_p10, List.forall_mem_cons.mpr ⟨lw_p11, List.forall_mem_cons.mpr ⟨lw_p12, List.forall_mem_cons.mpr ⟨lw_p13, List.forall_mem_cons.mpr ⟨lw_p14, List.forall_mem_cons.mpr ⟨lw_p15, fun _ h => absurd h List.not_mem_nil⟩⟩⟩⟩⟩⟩⟩⟩⟩⟩⟩⟩⟩⟩⟩⟩
theorem lw_p16 : lw_okq (⟨"ExactReader", "bitsRead", "(LExactReader$Format;)J"⟩, 5) := ⟨⟨by decide +kernel, by decide +kernel⟩, List.mem_of_getElem? (i := 23) (by decide +kernel), List.mem_of_getElem? (i := 420) (by decide +kernel), List.mem_of_getElem? (i := 421) (by decide +kernel)⟩
theorem lw_p17 : lw_okq (⟨"ExactReader$Format", "bitsOfNoNumber", "()J"⟩, 6) := ⟨⟨by decide +kernel, by decide +kernel⟩, List.mem_of_getElem? (i := 426) (by decide +kernel), List.mem_of_getElem? (i := 424) (by decide +kernel), List.mem_of_getElem? (i := 425) (by decide +kernel)⟩
theorem lw_p18 : lw_okq (⟨"ExactReader$Format", "infiniteField", "()I"⟩, 6) := ⟨⟨by decide +kernel, by decide +kernel⟩, List.mem_of_getElem? (i := 426) (by decide +kernel), List.mem_of_getElem? (i := 429) (by decide +kernel), List.mem_of_getElem? (i := 430) (by decide +kernel)⟩
theorem lw_p19 : lw_okq (⟨"ExactReader$Format", "hiddenBit", "()J"⟩, 6) := ⟨⟨by decide +kernel, by decide +kernel⟩, List.mem_of_getElem? (i := 426) (by decide +kernel), List.mem_of_getElem? (i := 433) (by decide +kernel), List.mem_of_getElem? (i := 434) (by decide +kernel)⟩
theorem lw_p20 : lw_okq (⟨"ExactReader$Format", "bitsOf", "(IJ)J"⟩, 6) := ⟨⟨by decide +kernel, by decide +kernel⟩, List.mem_of_getElem? (i := 426) (by decide +kernel), List.mem_of_getElem? (i := 437) (by decide +kernel), List.mem_of_getElem? (i := 438) (by decide +kernel)⟩
theorem lw_p21 : lw_okq (⟨"ExactReader$Format", "lowField", "(J)J"⟩, 6) := ⟨⟨by decide +kernel, by decide +kernel⟩, List.mem_of_getElem? (i := 426) (by decide +kernel), List.mem_of_getElem? (i := 441) (by decide +kernel), List.mem_of_getElem? (i := 442) (by decide +kernel)⟩
theorem lw_p22 : lw_okq (⟨"ExactReader", "measureText", "()V"⟩, 5) := ⟨⟨by decide +kernel, by decide +kernel⟩, List.mem_of_getElem? (i := 23) (by decide +kernel), List.mem_of_getElem? (i := 445) (by decide +kernel), List.mem_of_getElem? (i := 446) (by decide +kernel)⟩
theorem lw_p23 : lw_okq (⟨"ExactReader$Measure", "hexadecimal", "(LExactReader$NumberText;LExactReader$Size;)V"⟩, 1) := ⟨⟨by decide +kernel, by decide +kernel⟩, List.mem_of_getElem? (i := 88) (by decide +kernel), List.mem_of_getElem? (i := 449) (by decide +kernel), List.mem_of_getElem? (i := 450) (by decide +kernel)⟩
theorem lw_p24 : lw_okq (⟨"ExactReader$Size", "begin", "()V"⟩, 3) := ⟨⟨by decide +kernel, by decide +kernel⟩, List.mem_of_getElem? (i := 119) (by decide +kernel), List.mem_of_getElem? (i := 453) (by decide +kernel), List.mem_of_getElem? (i := 454) (by decide +kernel)⟩
theorem lw_p25 : lw_okq (⟨"ExactReader$NumberText", "digitAt", "(II)I"⟩, 13) := ⟨⟨by decide +kernel, by decide +kernel⟩, List.mem_of_getElem? (i := 31) (by decide +kernel), List.mem_of_getElem? (i := 457) (by decide +kernel), List.mem_of_getElem? (i := 458) (by decide +kernel)⟩
theorem lw_p26 : lw_okq (⟨"ExactReader$Size", "push", "(II)V"⟩, 3) := ⟨⟨by decide +kernel, by decide +kernel⟩, List.mem_of_getElem? (i := 119) (by decide +kernel), List.mem_of_getElem? (i := 461) (by decide +kernel), List.mem_of_getElem? (i := 462) (by decide +kernel)⟩
theorem lw_p27 : lw_okq (⟨"ExactReader$Size", "pushBit", "(I)V"⟩, 3) := ⟨⟨by decide +kernel, by decide +kernel⟩, List.mem_of_getElem? (i := 119) (by decide +kernel), List.mem_of_getElem? (i := 466) (by decide +kernel), List.mem_of_getElem? (i := 467) (by decide +kernel)⟩
theorem lw_p28 : lw_okq (⟨"ExactReader$Size", "end", "(IZ)V"⟩, 3) := ⟨⟨by decide +kernel, by decide +kernel⟩, List.mem_of_getElem? (i := 119) (by decide +kernel), List.mem_of_getElem? (i := 470) (by decide +kernel), List.mem_of_getElem? (i := 471) (by decide +kernel)⟩
theorem lw_p29 : lw_okq (⟨"ExactReader$Size", "set", "(JI)V"⟩, 3) := ⟨⟨by decide +kernel, by decide +kernel⟩, List.mem_of_getElem? (i := 119) (by decide +kernel), List.mem_of_getElem? (i := 474) (by decide +kernel), List.mem_of_getElem? (i := 475) (by decide +kernel)⟩
theorem lw_p30 : lw_okq (⟨"ExactReader$Measure", "decimal", "(LExactReader$NumberText;LExactReader$Size;)V"⟩, 1) := ⟨⟨by decide +kernel, by decide +kernel⟩, List.mem_of_getElem? (i := 88) (by decide +kernel), List.mem_of_getElem? (i := 485) (by decide +kernel), List.mem_of_getElem? (i := 486) (by decide +kernel)⟩
theorem lw_p31 : lw_okq (⟨"ExactReader$Measure", "loadDigits", "(LExactReader$NumberText;I)Z"⟩, 1) := ⟨⟨by decide +kernel, by decide +kernel⟩, List.mem_of_getElem? (i := 88) (by decide +kernel), List.mem_of_getElem? (i := 491) (by decide +kernel), List.mem_of_getElem? (i := 492) (by decide +kernel)⟩
def lw_privs_2 : List (MethodName × Nat) := [(⟨"ExactReader", "bitsRead", "(LExactReader$Format;)J"⟩, 5), (⟨"ExactReader$Format", "bitsOfNoNumber", "()J"⟩, 6), (⟨"ExactReader$Format", "infiniteField", "()I"⟩, 6), (⟨"ExactReader$Format", "hiddenBit", "()J"⟩, 6), (⟨"ExactReader$Format", "bitsOf", "(IJ)J"⟩, 6), (⟨"ExactReader$Format", "lowField", "(J)J"⟩, 6), (⟨"ExactReader", "measureText", "()V"⟩, 5), (⟨"ExactReader$Measure", "hexadecimal", "(LExactReader$NumberText;LExactReader$Size;)V"⟩, 1), (⟨"ExactReader$Size", "begin", "()V"⟩, 3), (⟨"ExactReader$NumberText", "digitAt", "(II)I"⟩, 13), (⟨"ExactReader$Size", "push", "(II)V"⟩, 3), (⟨"ExactReader$Size", "pushBit", "(I)V"⟩, 3), (⟨"ExactReader$Size", "end", "(IZ)V"⟩, 3), (⟨"ExactReader$Size", "set", "(JI)V"⟩, 3), (⟨"ExactReader$Measure", "decimal", "(LExactReader$NumberText;LExactReader$Size;)V"⟩, 1), (⟨"ExactReader$Measure", "loadDigits", "(LExactReader$NumberText;I)Z"⟩, 1)]
theorem lw_r2 : ∀ q ∈ lw_privs_2, lw_okq q := List.forall_mem_cons.mpr ⟨lw_p16, List.forall_mem_cons.mpr ⟨lw_p17, List.forall_mem_cons.mpr ⟨lw_p18, List.forall_mem_cons.mpr ⟨lw_p19, List.forall_mem_cons.mpr ⟨lw_p20, List.forall_mem_cons.mpr ⟨lw_p21, List.forall_mem_cons.mpr ⟨lw_p22, List.forall_mem_cons.mpr ⟨lw_p23, List.forall_mem_cons.mpr ⟨lw_p24, List.forall_mem_cons.mpr ⟨lw_p25, List.forall_mem_cons.mpr ⟨lw_p26, List.forall_mem_cons.mpr ⟨lw_p27, List.forall_mem_cons.mpr ⟨lw_p28, List.forall_mem_cons.mpr ⟨lw_p29, List.forall_mem_cons.mpr ⟨lw_p30, List.forall_mem_cons.mpr ⟨lw_p31, fun _ h => absurd h List.not_mem_nil⟩⟩⟩⟩⟩⟩⟩⟩⟩⟩⟩⟩⟩⟩⟩⟩
theorem lw_p32 : lw_okq (⟨"ExactReader$Natural", "begin", "()V"⟩, 4) := ⟨⟨by decide +kernel, by decide +kernel⟩, List.mem_of_getElem? (i := 94) (by decide +kernel), List.mem_of_getElem? (i := 495) (by decide +kernel), List.mem_of_getElem? (i := 496) (by decide +kernel)⟩
theorem lw_p33 : lw_okq (⟨"ExactReader$Natural", "pushDigit", "(I)V"⟩, 4) := ⟨⟨by decide +kernel, by decide +kernel⟩, List.mem_of_getElem? (i := 94) (by decide +kernel), List.mem_of_getElem? (i := 499) (by decide +kernel), List.mem_of_getElem? (i := 500) (by decide +kernel)⟩
theorem lw_p34 : lw_okq (⟨"ExactReader$Natural", "end", "()V"⟩, 4) := ⟨⟨by decide +kernel, by decide +kernel⟩, List.mem_of_getElem? (i := 94) (by decide +kernel), List.mem_of_getElem? (i := 504) (by decide +kernel), List.mem_of_getElem? (i := 505) (by decide +kernel)⟩
theorem lw_p35 : lw_okq (⟨"ExactReader$Natural", "multiplyAdd", "(II)V"⟩, 4) := ⟨⟨by decide +kernel, by decide +kernel⟩, List.mem_of_getElem? (i := 94) (by decide +kernel), List.mem_of_getElem? (i := 508) (by decide +kernel), List.mem_of_getElem? (i := 509) (by decide +kernel)⟩
theorem lw_p36 : lw_okq (⟨"ExactReader$Measure", "takeTimesTen", "(IZLExactReader$Size;)V"⟩, 1) := ⟨⟨by decide +kernel, by decide +kernel⟩, List.mem_of_getElem? (i := 88) (by decide +kernel), List.mem_of_getElem? (i := 514) (by decide +kernel), List.mem_of_getElem? (i := 515) (by decide +kernel)⟩
theorem lw_p37 : lw_okq (⟨"ExactReader$Natural", "multiplyByFives", "(I)V"⟩, 4) := ⟨⟨by decide +kernel, by decide +kernel⟩, List.mem_of_getElem? (i := 94) (by decide +kernel), List.mem_of_getElem? (i := 518) (by decide +kernel), List.mem_of_getElem? (i := 519) (by decide +kernel)⟩
theorem lw_p38 : lw_okq (⟨"ExactReader$Natural", "raiseAboveFives", "(I)I"⟩, 4) := ⟨⟨by decide +kernel, by decide +kernel⟩, List.mem_of_getElem? (i := 94) (by decide +kernel), List.mem_of_getElem? (i := 528) (by decide +kernel), List.mem_of_getElem? (i := 529) (by decide +kernel)⟩
theorem lw_p39 : lw_okq (⟨"ExactReader$Natural", "wordAt", "(I)I"⟩, 4) := ⟨⟨by decide +kernel, by decide +kernel⟩, List.mem_of_getElem? (i := 94) (by decide +kernel), List.mem_of_getElem? (i := 532) (by decide +kernel), List.mem_of_getElem? (i := 533) (by decide +kernel)⟩
theorem lw_p40 : lw_okq (⟨"ExactReader$Natural", "divideByFives", "(I)Z"⟩, 4) := ⟨⟨by decide +kernel, by decide +kernel⟩, List.mem_of_getElem? (i := 94) (by decide +kernel), List.mem_of_getElem? (i := 536) (by decide +kernel), List.mem_of_getElem? (i := 537) (by decide +kernel)⟩
theorem lw_p41 : lw_okq (⟨"ExactReader$Natural", "divide", "(I)Z"⟩, 4) := ⟨⟨by decide +kernel, by decide +kernel⟩, List.mem_of_getElem? (i := 94) (by decide +kernel), List.mem_of_getElem? (i := 540) (by decide +kernel), List.mem_of_getElem? (i := 541) (by decide +kernel)⟩
theorem lw_p42 : lw_okq (⟨"ExactReader$Size", "setInfinite", "()V"⟩, 3) := ⟨⟨by decide +kernel, by decide +kernel⟩, List.mem_of_getElem? (i := 119) (by decide +kernel), List.mem_of_getElem? (i := 545) (by decide +kernel), List.mem_of_getElem? (i := 546) (by decide +kernel)⟩
theorem lw_p43 : lw_okq (⟨"ExactReader$Rounding", "round", "(LExactReader$Size;LExactReader$Format;)V"⟩, 4) := ⟨⟨by decide +kernel, by decide +kernel⟩, List.mem_of_getElem? (i := 138) (by decide +kernel), List.mem_of_getElem? (i := 550) (by decide +kernel), List.mem_of_getElem? (i := 551) (by decide +kernel)⟩
theorem lw_p44 : lw_okq (⟨"ExactReader$Rounding", "setWhole", "(JI)V"⟩, 4) := ⟨⟨by decide +kernel, by decide +kernel⟩, List.mem_of_getElem? (i := 138) (by decide +kernel), List.mem_of_getElem? (i := 557) (by decide +kernel), List.mem_of_getElem? (i := 558) (by decide +kernel)⟩
theorem lw_p45 : lw_okq (⟨"ExactReader$Rounding", "roundLead", "(LExactReader$Size;I)V"⟩, 4) := ⟨⟨by decide +kernel, by decide +kernel⟩, List.mem_of_getElem? (i := 138) (by decide +kernel), List.mem_of_getElem? (i := 561) (by decide +kernel), List.mem_of_getElem? (i := 562) (by decide +kernel)⟩
theorem lw_p46 : lw_okq (⟨"ExactReader$Rounding", "carry", "(LExactReader$Format;)V"⟩, 4) := ⟨⟨by decide +kernel, by decide +kernel⟩, List.mem_of_getElem? (i := 138) (by decide +kernel), List.mem_of_getElem? (i := 565) (by decide +kernel), List.mem_of_getElem? (i := 566) (by decide +kernel)⟩
theorem lw_p47 : lw_okq (⟨"ExactReader$Format", "exponentOf", "(I)I"⟩, 6) := ⟨⟨by decide +kernel, by decide +kernel⟩, List.mem_of_getElem? (i := 426) (by decide +kernel), List.mem_of_getElem? (i := 572) (by decide +kernel), List.mem_of_getElem? (i := 573) (by decide +kernel)⟩
def lw_privs_3 : List (MethodName × Nat) := [(⟨"ExactReader$Natural", "begin", "()V"⟩, 4), (⟨"ExactReader$Natural", "pushDigit", "(I)V"⟩, 4), (⟨"ExactReader$Natural", "end", "()V"⟩, 4), (⟨"ExactReader$Natural", "multiplyAdd", "(II)V"⟩, 4), (⟨"ExactReader$Measure", "takeTimesTen", "(IZLExactReader$Size;)V"⟩, 1), (⟨"ExactReader$Natural", "multiplyByFives", "(I)V"⟩, 4), (⟨"ExactReader$Natural", "raiseAboveFives", "(I)I"⟩, 4), (⟨"ExactReader$Natural", "wordAt", "(I)I"⟩, 4), (⟨"ExactReader$Natural", "divideByFives", "(I)Z"⟩, 4), (⟨"ExactReader$Natural", "divide", "(I)Z"⟩, 4), (⟨"ExactReader$Size", "setInfinite", "()V"⟩, 3), (⟨"ExactReader$Rounding", "round", "(LExactReader$Size;LExactReader$Format;)V"⟩, 4), (⟨"ExactReader$Rounding", "setWhole", "(JI)V"⟩, 4), (⟨"ExactReader$Rounding", "roundLead", "(LExactReader$Size;I)V"⟩, 4), (⟨"ExactReader$Rounding", "carry", "(LExactReader$Format;)V"⟩, 4), (⟨"ExactReader$Format", "exponentOf", "(I)I"⟩, 6)]
theorem lw_r3 : ∀ q ∈ lw_privs_3, lw_okq q := List.forall_mem_cons.mpr ⟨lw_p32, List.forall_mem_cons.mpr ⟨lw_p33, List.forall_mem_cons.mpr ⟨lw_p34, List.forall_mem_cons.mpr ⟨lw_p35, List.forall_mem_cons.mpr ⟨lw_p36, List.forall_mem_cons.mpr ⟨lw_p37, List.forall_mem_cons.mpr ⟨lw_p38, List.forall_mem_cons.mpr ⟨lw_p39, List.forall_mem_cons.mpr ⟨lw_p40, List.forall_mem_cons.mpr ⟨lw_p41, List.forall_mem_cons.mpr ⟨lw_p42, List.forall_mem_cons.mpr ⟨lw_p43, List.forall_mem_cons.mpr ⟨lw_p44, List.forall_mem_cons.mpr ⟨lw_p45, List.forall_mem_cons.mpr ⟨lw_p46, List.forall_mem_cons.mpr ⟨lw_p47, fun _ h => absurd h List.not_mem_nil⟩⟩⟩⟩⟩⟩⟩⟩⟩⟩⟩⟩⟩⟩⟩⟩
theorem lw_p48 : lw_okq (⟨"ExactReader$Rounding", "bitsOfSize", "(LExactReader$Format;)J"⟩, 4) := ⟨⟨by decide +kernel, by decide +kernel⟩, List.mem_of_getElem? (i := 138) (by decide +kernel), List.mem_of_getElem? (i := 576) (by decide +kernel), List.mem_of_getElem? (i := 577) (by decide +kernel)⟩
theorem lw_p49 : lw_okq (⟨"ExactReader$Format", "signBit", "()J"⟩, 6) := ⟨⟨by decide +kernel, by decide +kernel⟩, List.mem_of_getElem? (i := 426) (by decide +kernel), List.mem_of_getElem? (i := 581) (by decide +kernel), List.mem_of_getElem? (i := 582) (by decide +kernel)⟩
theorem lw_p50 : lw_okq (⟨"ExactReader$Format", "exponentField", "(J)I"⟩, 6) := ⟨⟨by decide +kernel, by decide +kernel⟩, List.mem_of_getElem? (i := 426) (by decide +kernel), List.mem_of_getElem? (i := 612) (by decide +kernel), List.mem_of_getElem? (i := 613) (by decide +kernel)⟩
theorem lw_p51 : lw_okq (⟨"ExactReader$Size", "setDouble", "(J)V"⟩, 3) := ⟨⟨by decide +kernel, by decide +kernel⟩, List.mem_of_getElem? (i := 119) (by decide +kernel), List.mem_of_getElem? (i := 617) (by decide +kernel), List.mem_of_getElem? (i := 618) (by decide +kernel)⟩
theorem lw_p52 : lw_okq (⟨"ExactReader$Size", "signWith", "(Z)I"⟩, 3) := ⟨⟨by decide +kernel, by decide +kernel⟩, List.mem_of_getElem? (i := 119) (by decide +kernel), List.mem_of_getElem? (i := 628) (by decide +kernel), List.mem_of_getElem? (i := 629) (by decide +kernel)⟩
theorem lw_p53 : lw_okq (⟨"ExactReader$Size", "order", "(LExactReader$Size;)I"⟩, 3) := ⟨⟨by decide +kernel, by decide +kernel⟩, List.mem_of_getElem? (i := 119) (by decide +kernel), List.mem_of_getElem? (i := 635) (by decide +kernel), List.mem_of_getElem? (i := 636) (by decide +kernel)⟩
theorem lw_p54 : lw_okq (⟨"ExactReaderModel", "scan", "()Z"⟩, 17) := ⟨⟨by decide +kernel, by decide +kernel⟩, List.mem_of_getElem? (i := 643) (by decide +kernel), List.mem_of_getElem? (i := 726) (by decide +kernel), List.mem_of_getElem? (i := 727) (by decide +kernel)⟩
theorem lw_p55 : lw_okq (⟨"ExactReaderModel", "blanks", "()V"⟩, 17) := ⟨⟨by decide +kernel, by decide +kernel⟩, List.mem_of_getElem? (i := 643) (by decide +kernel), List.mem_of_getElem? (i := 730) (by decide +kernel), List.mem_of_getElem? (i := 731) (by decide +kernel)⟩
theorem lw_p56 : lw_okq (⟨"ExactReaderModel", "here", "()I"⟩, 17) := ⟨⟨by decide +kernel, by decide +kernel⟩, List.mem_of_getElem? (i := 643) (by decide +kernel), List.mem_of_getElem? (i := 734) (by decide +kernel), List.mem_of_getElem? (i := 735) (by decide +kernel)⟩
theorem lw_p57 : lw_okq (⟨"ExactReaderModel", "spells", "(J)Z"⟩, 17) := ⟨⟨by decide +kernel, by decide +kernel⟩, List.mem_of_getElem? (i := 643) (by decide +kernel), List.mem_of_getElem? (i := 739) (by decide +kernel), List.mem_of_getElem? (i := 740) (by decide +kernel)⟩
theorem lw_p58 : lw_okq (⟨"ExactReaderModel", "number", "()Z"⟩, 17) := ⟨⟨by decide +kernel, by decide +kernel⟩, List.mem_of_getElem? (i := 643) (by decide +kernel), List.mem_of_getElem? (i := 744) (by decide +kernel), List.mem_of_getElem? (i := 745) (by decide +kernel)⟩
theorem lw_p59 : lw_okq (⟨"ExactReaderModel", "digits", "(Z)Z"⟩, 17) := ⟨⟨by decide +kernel, by decide +kernel⟩, List.mem_of_getElem? (i := 643) (by decide +kernel), List.mem_of_getElem? (i := 748) (by decide +kernel), List.mem_of_getElem? (i := 749) (by decide +kernel)⟩
theorem lw_p60 : lw_okq (⟨"ExactReaderModel", "isAt", "(II)Z"⟩, 17) := ⟨⟨by decide +kernel, by decide +kernel⟩, List.mem_of_getElem? (i := 643) (by decide +kernel), List.mem_of_getElem? (i := 758) (by decide +kernel), List.mem_of_getElem? (i := 759) (by decide +kernel)⟩
theorem lw_p61 : lw_okq (⟨"ExactReaderModel", "power", "()Z"⟩, 17) := ⟨⟨by decide +kernel, by decide +kernel⟩, List.mem_of_getElem? (i := 643) (by decide +kernel), List.mem_of_getElem? (i := 762) (by decide +kernel), List.mem_of_getElem? (i := 763) (by decide +kernel)⟩
theorem lw_p62 : lw_okq (⟨"ExactReaderModel", "sizeRead", "(II)J"⟩, 17) := ⟨⟨by decide +kernel, by decide +kernel⟩, List.mem_of_getElem? (i := 643) (by decide +kernel), List.mem_of_getElem? (i := 777) (by decide +kernel), List.mem_of_getElem? (i := 778) (by decide +kernel)⟩
theorem lw_p63 : lw_okq (⟨"ExactReaderModel", "find", "(II)V"⟩, 17) := ⟨⟨by decide +kernel, by decide +kernel⟩, List.mem_of_getElem? (i := 643) (by decide +kernel), List.mem_of_getElem? (i := 782) (by decide +kernel), List.mem_of_getElem? (i := 783) (by decide +kernel)⟩
def lw_privs_4 : List (MethodName × Nat) := [(⟨"ExactReader$Rounding", "bitsOfSize", "(LExactReader$Format;)J"⟩, 4), (⟨"ExactReader$Format", "signBit", "()J"⟩, 6), (⟨"ExactReader$Format", "exponentField", "(J)I"⟩, 6), (⟨"ExactReader$Size", "setDouble", "(J)V"⟩, 3), (⟨"ExactReader$Size", "signWith", "(Z)I"⟩, 3), (⟨"ExactReader$Size", "order", "(LExactReader$Size;)I"⟩, 3), (⟨"ExactReaderModel", "scan", "()Z"⟩, 17), (⟨"ExactReaderModel", "blanks", "()V"⟩, 17), (⟨"ExactReaderModel", "here", "()I"⟩, 17), (⟨"ExactReaderModel", "spells", "(J)Z"⟩, 17), (⟨"ExactReaderModel", "number", "()Z"⟩, 17), (⟨"ExactReaderModel", "digits", "(Z)Z"⟩, 17), (⟨"ExactReaderModel", "isAt", "(II)Z"⟩, 17), (⟨"ExactReaderModel", "power", "()Z"⟩, 17), (⟨"ExactReaderModel", "sizeRead", "(II)J"⟩, 17), (⟨"ExactReaderModel", "find", "(II)V"⟩, 17)]
theorem lw_r4 : ∀ q ∈ lw_privs_4, lw_okq q := List.forall_mem_cons.mpr ⟨lw_p48, List.forall_mem_cons.mpr ⟨lw_p49, List.forall_mem_cons.mpr ⟨lw_p50, List.forall_mem_cons.mpr ⟨lw_p51, List.forall_mem_cons.mpr ⟨lw_p52, List.forall_mem_cons.mpr ⟨lw_p53, List.forall_mem_cons.mpr ⟨lw_p54, List.forall_mem_cons.mpr ⟨lw_p55, List.forall_mem_cons.mpr ⟨lw_p56, List.forall_mem_cons.mpr ⟨lw_p57, List.forall_mem_cons.mpr ⟨lw_p58, List.forall_mem_cons.mpr ⟨lw_p59, List.forall_mem_cons.mpr ⟨lw_p60, List.forall_mem_cons.mpr ⟨lw_p61, List.forall_mem_cons.mpr ⟨lw_p62, List.forall_mem_cons.mpr ⟨lw_p63, fun _ h => absurd h List.not_mem_nil⟩⟩⟩⟩⟩⟩⟩⟩⟩⟩⟩⟩⟩⟩⟩⟩
theorem lw_p64 : lw_okq (⟨"ExactReaderModel", "findDecimal", "(III)V"⟩, 17) := ⟨⟨by decide +kernel, by decide +kernel⟩, List.mem_of_getElem? (i := 643) (by decide +kernel), List.mem_of_getElem? (i := 786) (by decide +kernel), List.mem_of_getElem? (i := 787) (by decide +kernel)⟩
theorem lw_p65 : lw_okq (⟨"ExactReaderModel", "writeOut", "(II)V"⟩, 17) := ⟨⟨by decide +kernel, by decide +kernel⟩, List.mem_of_getElem? (i := 643) (by decide +kernel), List.mem_of_getElem? (i := 792) (by decide +kernel), List.mem_of_getElem? (i := 793) (by decide +kernel)⟩
theorem lw_p66 : lw_okq (⟨"ExactReaderModel", "wholePart", "()J"⟩, 17) := ⟨⟨by decide +kernel, by decide +kernel⟩, List.mem_of_getElem? (i := 643) (by decide +kernel), List.mem_of_getElem? (i := 796) (by decide +kernel), List.mem_of_getElem? (i := 797) (by decide +kernel)⟩
theorem lw_p67 : lw_okq (⟨"ExactReaderModel", "half", "()V"⟩, 17) := ⟨⟨by decide +kernel, by decide +kernel⟩, List.mem_of_getElem? (i := 643) (by decide +kernel), List.mem_of_getElem? (i := 802) (by decide +kernel), List.mem_of_getElem? (i := 803) (by decide +kernel)⟩
theorem lw_p68 : lw_okq (⟨"ExactReaderModel", "twice", "()V"⟩, 17) := ⟨⟨by decide +kernel, by decide +kernel⟩, List.mem_of_getElem? (i := 643) (by decide +kernel), List.mem_of_getElem? (i := 808) (by decide +kernel), List.mem_of_getElem? (i := 809) (by decide +kernel)⟩
theorem lw_p69 : lw_okq (⟨"ExactReaderModel", "findHexadecimal", "(III)V"⟩, 17) := ⟨⟨by decide +kernel, by decide +kernel⟩, List.mem_of_getElem? (i := 643) (by decide +kernel), List.mem_of_getElem? (i := 812) (by decide +kernel), List.mem_of_getElem? (i := 813) (by decide +kernel)⟩
theorem lw_p70 : lw_okq (⟨"ExactReaderModel", "bitAt", "(J)I"⟩, 17) := ⟨⟨by decide +kernel, by decide +kernel⟩, List.mem_of_getElem? (i := 643) (by decide +kernel), List.mem_of_getElem? (i := 821) (by decide +kernel), List.mem_of_getElem? (i := 822) (by decide +kernel)⟩
theorem lw_p71 : lw_okq (⟨"ExactReaderModel", "goesUp", "()Z"⟩, 17) := ⟨⟨by decide +kernel, by decide +kernel⟩, List.mem_of_getElem? (i := 643) (by decide +kernel), List.mem_of_getElem? (i := 826) (by decide +kernel), List.mem_of_getElem? (i := 827) (by decide +kernel)⟩
theorem lw_p72 : lw_okq (⟨"ExactReaderModel", "pack", "(JII)J"⟩, 17) := ⟨⟨by decide +kernel, by decide +kernel⟩, List.mem_of_getElem? (i := 643) (by decide +kernel), List.mem_of_getElem? (i := 830) (by decide +kernel), List.mem_of_getElem? (i := 831) (by decide +kernel)⟩
theorem lw_p73 : lw_okq (⟨"ExactReaderModel", "compareSize", "(J)I"⟩, 17) := ⟨⟨by decide +kernel, by decide +kernel⟩, List.mem_of_getElem? (i := 643) (by decide +kernel), List.mem_of_getElem? (i := 850) (by decide +kernel), List.mem_of_getElem? (i := 851) (by decide +kernel)⟩
def lw_privs_5 : List (MethodName × Nat) := [(⟨"ExactReaderModel", "findDecimal", "(III)V"⟩, 17), (⟨"ExactReaderModel", "writeOut", "(II)V"⟩, 17), (⟨"ExactReaderModel", "wholePart", "()J"⟩, 17), (⟨"ExactReaderModel", "half", "()V"⟩, 17), (⟨"ExactReaderModel", "twice", "()V"⟩, 17), (⟨"ExactReaderModel", "findHexadecimal", "(III)V"⟩, 17), (⟨"ExactReaderModel", "bitAt", "(J)I"⟩, 17), (⟨"ExactReaderModel", "goesUp", "()Z"⟩, 17), (⟨"ExactReaderModel", "pack", "(JII)J"⟩, 17), (⟨"ExactReaderModel", "compareSize", "(J)I"⟩, 17)]
theorem lw_r5 : ∀ q ∈ lw_privs_5, lw_okq q := List.forall_mem_cons.mpr ⟨lw_p64, List.forall_mem_cons.mpr ⟨lw_p65, List.forall_mem_cons.mpr ⟨lw_p66, List.forall_mem_cons.mpr ⟨lw_p67, List.forall_mem_cons.mpr ⟨lw_p68, List.forall_mem_cons.mpr ⟨lw_p69, List.forall_mem_cons.mpr ⟨lw_p70, List.forall_mem_cons.mpr ⟨lw_p71, List.forall_mem_cons.mpr ⟨lw_p72, List.forall_mem_cons.mpr ⟨lw_p73, fun _ h => absurd h List.not_mem_nil⟩⟩⟩⟩⟩⟩⟩⟩⟩⟩
def lw_privs : List (MethodName × Nat) := lw_privs_1 ++ (lw_privs_2 ++ (lw_privs_3 ++ (lw_privs_4 ++ (lw_privs_5))))
def lw_tbl : List Cond := k2_sels lw_privs ++ tables_1
theorem lw_privs_ok : ∀ q ∈ lw_privs, lw_okq q := by
  show ∀ q ∈ lw_privs_1 ++ (lw_privs_2 ++ (lw_privs_3 ++ (lw_privs_4 ++ (lw_privs_5)))), lw_okq q
  exact List.forall_mem_append.mpr ⟨lw_r1, List.forall_mem_append.mpr ⟨lw_r2, List.forall_mem_append.mpr ⟨lw_r3, List.forall_mem_append.mpr ⟨lw_r4, lw_r5⟩⟩⟩⟩
/-! names: classes, fields, methods, decode rows; words of the tables by their places (by program, out of the Statement) -/
abbrev R_Ms : String := "ExactReader$Measure"
def T_Ms : u_T := fun k => match k with
  | _ => ("ExactReader$Measure", "natural", "LExactReader$Natural;", true)
def ty_Ms : Nat → FieldType := fun k => match k with
  | _ => .object "ExactReader$Natural"
theorem nmo_Ms : ∀ a, a < 1 → ∀ b, b < 1 → a ≠ b → (T_Ms a).2.1 ≠ (T_Ms b).2.1 := by decide +kernel
theorem tyo_Ms : ∀ k, k < 1 → parseFieldDescriptor (T_Ms k).2.2.1 = some (ty_Ms k) := by decide +kernel
abbrev R_Na : String := "ExactReader$Natural"
def T_Na : u_T := fun k => match k with
  | 0 => ("ExactReader$Natural", "words", "[I", true)
  | 1 => ("ExactReader$Natural", "size", "I", false)
  | 2 => ("ExactReader$Natural", "gathered", "I", false)
  | _ => ("ExactReader$Natural", "weight", "I", false)
def ty_Na : Nat → FieldType := fun k => match k with
  | 0 => .array .int
  | 1 => .int
  | 2 => .int
  | _ => .int
theorem nmo_Na : ∀ a, a < 4 → ∀ b, b < 4 → a ≠ b → (T_Na a).2.1 ≠ (T_Na b).2.1 := by decide +kernel
theorem tyo_Na : ∀ k, k < 4 → parseFieldDescriptor (T_Na k).2.2.1 = some (ty_Na k) := by decide +kernel
abbrev R_Nt : String := "ExactReader$NumberText"
def T_Nt : u_T := fun k => match k with
  | 0 => ("ExactReader$NumberText", "row", "[C", true)
  | 1 => ("ExactReader$NumberText", "length", "I", false)
  | 2 => ("ExactReader$NumberText", "scanned", "Z", false)
  | 3 => ("ExactReader$NumberText", "measured", "Z", false)
  | 4 => ("ExactReader$NumberText", "at", "I", false)
  | 5 => ("ExactReader$NumberText", "found", "I", false)
  | 6 => ("ExactReader$NumberText", "wrongAt", "I", false)
  | 7 => ("ExactReader$NumberText", "negative", "Z", false)
  | 8 => ("ExactReader$NumberText", "digitsFrom", "I", false)
  | 9 => ("ExactReader$NumberText", "digitsTo", "I", false)
  | 10 => ("ExactReader$NumberText", "significant", "I", false)
  | 11 => ("ExactReader$NumberText", "fraction", "I", false)
  | _ => ("ExactReader$NumberText", "exponent", "I", false)
def ty_Nt : Nat → FieldType := fun k => match k with
  | 0 => .array .char
  | 1 => .int
  | 2 => .boolean
  | 3 => .boolean
  | 4 => .int
  | 5 => .int
  | 6 => .int
  | 7 => .boolean
  | 8 => .int
  | 9 => .int
  | 10 => .int
  | 11 => .int
  | _ => .int
theorem nmo_Nt : ∀ a, a < 13 → ∀ b, b < 13 → a ≠ b → (T_Nt a).2.1 ≠ (T_Nt b).2.1 := by decide +kernel
theorem tyo_Nt : ∀ k, k < 13 → parseFieldDescriptor (T_Nt k).2.2.1 = some (ty_Nt k) := by decide +kernel
abbrev R_Ro : String := "ExactReader$Rounding"
def T_Ro : u_T := fun k => match k with
  | 0 => ("ExactReader$Rounding", "m", "J", false)
  | 1 => ("ExactReader$Rounding", "k", "I", false)
  | 2 => ("ExactReader$Rounding", "infinite", "Z", false)
  | _ => ("ExactReader$Rounding", "lies", "I", false)
def ty_Ro : Nat → FieldType := fun k => match k with
  | 0 => .long
  | 1 => .int
  | 2 => .boolean
  | _ => .int
theorem nmo_Ro : ∀ a, a < 4 → ∀ b, b < 4 → a ≠ b → (T_Ro a).2.1 ≠ (T_Ro b).2.1 := by decide +kernel
theorem tyo_Ro : ∀ k, k < 4 → parseFieldDescriptor (T_Ro k).2.2.1 = some (ty_Ro k) := by decide +kernel
abbrev R_Si : String := "ExactReader$Size"
def T_Si : u_T := fun k => match k with
  | 0 => ("ExactReader$Size", "lead", "J", false)
  | 1 => ("ExactReader$Size", "place", "I", false)
  | _ => ("ExactReader$Size", "rest", "Z", false)
def ty_Si : Nat → FieldType := fun k => match k with
  | 0 => .long
  | 1 => .int
  | _ => .boolean
theorem nmo_Si : ∀ a, a < 3 → ∀ b, b < 3 → a ≠ b → (T_Si a).2.1 ≠ (T_Si b).2.1 := by decide +kernel
theorem tyo_Si : ∀ k, k < 3 → parseFieldDescriptor (T_Si k).2.2.1 = some (ty_Si k) := by decide +kernel
abbrev R_Er : String := "ExactReader"
def T_Er : u_T := fun k => match k with
  | 0 => ("ExactReader", "text", "LExactReader$NumberText;", true)
  | 1 => ("ExactReader", "measure", "LExactReader$Measure;", true)
  | 2 => ("ExactReader", "said", "LExactReader$Size;", true)
  | 3 => ("ExactReader", "other", "LExactReader$Size;", true)
  | _ => ("ExactReader", "rounding", "LExactReader$Rounding;", true)
def ty_Er : Nat → FieldType := fun k => match k with
  | 0 => .object "ExactReader$NumberText"
  | 1 => .object "ExactReader$Measure"
  | 2 => .object "ExactReader$Size"
  | 3 => .object "ExactReader$Size"
  | _ => .object "ExactReader$Rounding"
theorem nmo_Er : ∀ a, a < 5 → ∀ b, b < 5 → a ≠ b → (T_Er a).2.1 ≠ (T_Er b).2.1 := by decide +kernel
theorem tyo_Er : ∀ k, k < 5 → parseFieldDescriptor (T_Er k).2.2.1 = some (ty_Er k) := by decide +kernel
abbrev R_Mo : String := "ExactReaderModel"
def T_Mo : u_T := fun k => match k with
  | 0 => ("ExactReaderModel", "thrown", "I", false)
  | 1 => ("ExactReaderModel", "text", "[I", true)
  | 2 => ("ExactReaderModel", "length", "I", false)
  | 3 => ("ExactReaderModel", "kind", "I", false)
  | 4 => ("ExactReaderModel", "place", "I", false)
  | 5 => ("ExactReaderModel", "below", "Z", false)
  | 6 => ("ExactReaderModel", "figures", "[I", true)
  | 7 => ("ExactReaderModel", "many", "I", false)
  | 8 => ("ExactReaderModel", "point", "I", false)
  | 9 => ("ExactReaderModel", "exponent", "J", false)
  | 10 => ("ExactReaderModel", "words", "[I", true)
  | 11 => ("ExactReaderModel", "from", "I", false)
  | 12 => ("ExactReaderModel", "to", "I", false)
  | 13 => ("ExactReaderModel", "whole", "J", false)
  | 14 => ("ExactReaderModel", "scale", "J", false)
  | 15 => ("ExactReaderModel", "rest", "I", false)
  | _ => ("ExactReaderModel", "huge", "Z", false)
def ty_Mo : Nat → FieldType := fun k => match k with
  | 0 => .int
  | 1 => .array .int
  | 2 => .int
  | 3 => .int
  | 4 => .int
  | 5 => .boolean
  | 6 => .array .int
  | 7 => .int
  | 8 => .int
  | 9 => .long
  | 10 => .array .int
  | 11 => .int
  | 12 => .int
  | 13 => .long
  | 14 => .long
  | 15 => .int
  | _ => .boolean
theorem nmo_Mo : ∀ a, a < 17 → ∀ b, b < 17 → a ≠ b → (T_Mo a).2.1 ≠ (T_Mo b).2.1 := by decide +kernel
theorem tyo_Mo : ∀ k, k < 17 → parseFieldDescriptor (T_Mo k).2.2.1 = some (ty_Mo k) := by decide +kernel
abbrev vwCl : List vw_C := [(R_Ms, T_Ms, 1), (R_Na, T_Na, 4), (R_Nt, T_Nt, 13), (R_Ro, T_Ro, 4), (R_Si, T_Si, 3), (R_Er, T_Er, 5), (R_Mo, T_Mo, 17)]
def yEr_init : MethodName := ⟨"ExactReader", "<init>", "()V"⟩
abbrev cEr_init : ByteArray := prog_1_method_1_code
def yNt_init : MethodName := ⟨"ExactReader$NumberText", "<init>", "()V"⟩
abbrev cNt_init : ByteArray := prog_5_method_1_code
def yMs_init : MethodName := ⟨"ExactReader$Measure", "<init>", "()V"⟩
abbrev cMs_init : ByteArray := prog_3_method_1_code
def yNa_init : MethodName := ⟨"ExactReader$Natural", "<init>", "()V"⟩
abbrev cNa_init : ByteArray := prog_4_method_1_code
def ySi_init : MethodName := ⟨"ExactReader$Size", "<init>", "()V"⟩
abbrev cSi_init : ByteArray := prog_7_method_1_code
def yRo_init : MethodName := ⟨"ExactReader$Rounding", "<init>", "()V"⟩
abbrev cRo_init : ByteArray := prog_6_method_1_code
def yEr_write : MethodName := ⟨"ExactReader", "write", "(J)I"⟩
abbrev cEr_write : ByteArray := prog_1_method_2_code
def yEr_byteOf : MethodName := ⟨"ExactReader", "byteOf", "(JI)C"⟩
abbrev cEr_byteOf : ByteArray := prog_1_method_12_code
def yNt_room : MethodName := ⟨"ExactReader$NumberText", "room", "()I"⟩
abbrev cNt_room : ByteArray := prog_5_method_2_code
def yNt_append : MethodName := ⟨"ExactReader$NumberText", "append", "(C)V"⟩
abbrev cNt_append : ByteArray := prog_5_method_3_code
def yEr_wipe : MethodName := ⟨"ExactReader", "wipe", "()I"⟩
abbrev cEr_wipe : ByteArray := prog_1_method_5_code
def yNt_dropLast : MethodName := ⟨"ExactReader$NumberText", "dropLast", "(I)V"⟩
abbrev cNt_dropLast : ByteArray := prog_5_method_4_code
def yJM_min : MethodName := ⟨"java/lang/Math", "min", "(II)I"⟩
abbrev cJM_min : ByteArray := prog_16_method_69_code
def yEr_kind : MethodName := ⟨"ExactReader", "kind", "()I"⟩
abbrev cEr_kind : ByteArray := prog_1_method_6_code
def yNt_scan : MethodName := ⟨"ExactReader$NumberText", "scan", "()V"⟩
abbrev cNt_scan : ByteArray := prog_5_method_5_code
def yNt_skipBlanks : MethodName := ⟨"ExactReader$NumberText", "skipBlanks", "()V"⟩
abbrev cNt_skipBlanks : ByteArray := prog_5_method_8_code
def yNt_here : MethodName := ⟨"ExactReader$NumberText", "here", "()C"⟩
abbrev cNt_here : ByteArray := prog_5_method_6_code
def yNt_skipOneOf : MethodName := ⟨"ExactReader$NumberText", "skipOneOf", "(CC)Z"⟩
abbrev cNt_skipOneOf : ByteArray := prog_5_method_9_code
def yNt_takeBody : MethodName := ⟨"ExactReader$NumberText", "takeBody", "()I"⟩
abbrev cNt_takeBody : ByteArray := prog_5_method_10_code
def yNt_takeWord : MethodName := ⟨"ExactReader$NumberText", "takeWord", "(Ljava/lang/String;)Z"⟩
abbrev cNt_takeWord : ByteArray := prog_5_method_11_code
def yJS_length : MethodName := ⟨"java/lang/String", "length", "()I"⟩
abbrev cJS_length : ByteArray := prog_18_method_54_code
def yJS_coder : MethodName := ⟨"java/lang/String", "coder", "()B"⟩
abbrev cJS_coder : ByteArray := prog_18_method_152_code
def yJS_charAt : MethodName := ⟨"java/lang/String", "charAt", "(I)C"⟩
abbrev cJS_charAt : ByteArray := prog_18_method_56_code
def yJS_isLatin1 : MethodName := ⟨"java/lang/String", "isLatin1", "()Z"⟩
abbrev cJS_isLatin1 : ByteArray := prog_18_method_154_code
def yJT_charAt : MethodName := ⟨"java/lang/StringLatin1", "charAt", "([BI)C"⟩
abbrev cJT_charAt : ByteArray := prog_19_method_2_code
def yJS_checkIndex : MethodName := ⟨"java/lang/String", "checkIndex", "(II)V"⟩
abbrev cJS_checkIndex : ByteArray := prog_18_method_155_code
def yNt_characterAt : MethodName := ⟨"ExactReader$NumberText", "characterAt", "(I)C"⟩
abbrev cNt_characterAt : ByteArray := prog_5_method_7_code
def yNt_takeHexadecimal : MethodName := ⟨"ExactReader$NumberText", "takeHexadecimal", "()Z"⟩
abbrev cNt_takeHexadecimal : ByteArray := prog_5_method_13_code
def yNt_takeDigits : MethodName := ⟨"ExactReader$NumberText", "takeDigits", "(I)Z"⟩
abbrev cNt_takeDigits : ByteArray := prog_5_method_14_code
def yNt_digitOf : MethodName := ⟨"ExactReader$NumberText", "digitOf", "(CI)I"⟩
abbrev cNt_digitOf : ByteArray := prog_5_method_18_code
def yNt_takeExponent : MethodName := ⟨"ExactReader$NumberText", "takeExponent", "()Z"⟩
abbrev cNt_takeExponent : ByteArray := prog_5_method_15_code
def yNt_skipSuffix : MethodName := ⟨"ExactReader$NumberText", "skipSuffix", "()V"⟩
abbrev cNt_skipSuffix : ByteArray := prog_5_method_16_code
def yNt_takeDecimal : MethodName := ⟨"ExactReader$NumberText", "takeDecimal", "()Z"⟩
abbrev cNt_takeDecimal : ByteArray := prog_5_method_12_code
def yEr_fault : MethodName := ⟨"ExactReader", "fault", "()I"⟩
abbrev cEr_fault : ByteArray := prog_1_method_7_code
def yEr_repeat : MethodName := ⟨"ExactReader", "repeat", "(II)I"⟩
abbrev cEr_repeat : ByteArray := prog_1_method_3_code
def yEr_cut : MethodName := ⟨"ExactReader", "cut", "(I)I"⟩
abbrev cEr_cut : ByteArray := prog_1_method_4_code
def yEr_bits : MethodName := ⟨"ExactReader", "bits", "()J"⟩
abbrev cEr_bits : ByteArray := prog_1_method_8_code
def yEr_bitsRead : MethodName := ⟨"ExactReader", "bitsRead", "(LExactReader$Format;)J"⟩
abbrev cEr_bitsRead : ByteArray := prog_1_method_13_code
def yFm_bitsOfNoNumber : MethodName := ⟨"ExactReader$Format", "bitsOfNoNumber", "()J"⟩
abbrev cFm_bitsOfNoNumber : ByteArray := prog_2_method_12_code
def yFm_infiniteField : MethodName := ⟨"ExactReader$Format", "infiniteField", "()I"⟩
abbrev cFm_infiniteField : ByteArray := prog_2_method_5_code
def yFm_hiddenBit : MethodName := ⟨"ExactReader$Format", "hiddenBit", "()J"⟩
abbrev cFm_hiddenBit : ByteArray := prog_2_method_9_code
def yFm_bitsOf : MethodName := ⟨"ExactReader$Format", "bitsOf", "(IJ)J"⟩
abbrev cFm_bitsOf : ByteArray := prog_2_method_11_code
def yFm_lowField : MethodName := ⟨"ExactReader$Format", "lowField", "(J)J"⟩
abbrev cFm_lowField : ByteArray := prog_2_method_8_code
def yEr_measureText : MethodName := ⟨"ExactReader", "measureText", "()V"⟩
abbrev cEr_measureText : ByteArray := prog_1_method_14_code
def yMs_hexadecimal : MethodName := ⟨"ExactReader$Measure", "hexadecimal", "(LExactReader$NumberText;LExactReader$Size;)V"⟩
abbrev cMs_hexadecimal : ByteArray := prog_3_method_2_code
def ySi_begin : MethodName := ⟨"ExactReader$Size", "begin", "()V"⟩
abbrev cSi_begin : ByteArray := prog_7_method_2_code
def yNt_digitAt : MethodName := ⟨"ExactReader$NumberText", "digitAt", "(II)I"⟩
abbrev cNt_digitAt : ByteArray := prog_5_method_17_code
def ySi_push : MethodName := ⟨"ExactReader$Size", "push", "(II)V"⟩
abbrev cSi_push : ByteArray := prog_7_method_3_code
def ySi_pushBit : MethodName := ⟨"ExactReader$Size", "pushBit", "(I)V"⟩
abbrev cSi_pushBit : ByteArray := prog_7_method_4_code
def ySi_end : MethodName := ⟨"ExactReader$Size", "end", "(IZ)V"⟩
abbrev cSi_end : ByteArray := prog_7_method_5_code
def ySi_set : MethodName := ⟨"ExactReader$Size", "set", "(JI)V"⟩
abbrev cSi_set : ByteArray := prog_7_method_6_code
def yJL_numberOfLeadingZeros : MethodName := ⟨"java/lang/Long", "numberOfLeadingZeros", "(J)I"⟩
abbrev cJL_numberOfLeadingZeros : ByteArray := prog_15_method_48_code
def yJI_numberOfLeadingZeros : MethodName := ⟨"java/lang/Integer", "numberOfLeadingZeros", "(I)I"⟩
abbrev cJI_numberOfLeadingZeros : ByteArray := prog_14_method_47_code
def yMs_decimal : MethodName := ⟨"ExactReader$Measure", "decimal", "(LExactReader$NumberText;LExactReader$Size;)V"⟩
abbrev cMs_decimal : ByteArray := prog_3_method_3_code
def yMs_loadDigits : MethodName := ⟨"ExactReader$Measure", "loadDigits", "(LExactReader$NumberText;I)Z"⟩
abbrev cMs_loadDigits : ByteArray := prog_3_method_4_code
def yNa_begin : MethodName := ⟨"ExactReader$Natural", "begin", "()V"⟩
abbrev cNa_begin : ByteArray := prog_4_method_3_code
def yNa_pushDigit : MethodName := ⟨"ExactReader$Natural", "pushDigit", "(I)V"⟩
abbrev cNa_pushDigit : ByteArray := prog_4_method_4_code
def yNa_end : MethodName := ⟨"ExactReader$Natural", "end", "()V"⟩
abbrev cNa_end : ByteArray := prog_4_method_5_code
def yNa_multiplyAdd : MethodName := ⟨"ExactReader$Natural", "multiplyAdd", "(II)V"⟩
abbrev cNa_multiplyAdd : ByteArray := prog_4_method_6_code
def yMs_takeTimesTen : MethodName := ⟨"ExactReader$Measure", "takeTimesTen", "(IZLExactReader$Size;)V"⟩
abbrev cMs_takeTimesTen : ByteArray := prog_3_method_5_code
def yNa_multiplyByFives : MethodName := ⟨"ExactReader$Natural", "multiplyByFives", "(I)V"⟩
abbrev cNa_multiplyByFives : ByteArray := prog_4_method_8_code
def yNa_powerOfFive : MethodName := ⟨"ExactReader$Natural", "powerOfFive", "(I)I"⟩
abbrev cNa_powerOfFive : ByteArray := prog_4_method_7_code
def yNa_raiseAboveFives : MethodName := ⟨"ExactReader$Natural", "raiseAboveFives", "(I)I"⟩
abbrev cNa_raiseAboveFives : ByteArray := prog_4_method_11_code
def yNa_wordAt : MethodName := ⟨"ExactReader$Natural", "wordAt", "(I)I"⟩
abbrev cNa_wordAt : ByteArray := prog_4_method_2_code
def yNa_divideByFives : MethodName := ⟨"ExactReader$Natural", "divideByFives", "(I)Z"⟩
abbrev cNa_divideByFives : ByteArray := prog_4_method_9_code
def yNa_divide : MethodName := ⟨"ExactReader$Natural", "divide", "(I)Z"⟩
abbrev cNa_divide : ByteArray := prog_4_method_10_code
def ySi_setInfinite : MethodName := ⟨"ExactReader$Size", "setInfinite", "()V"⟩
abbrev cSi_setInfinite : ByteArray := prog_7_method_7_code
def yRo_round : MethodName := ⟨"ExactReader$Rounding", "round", "(LExactReader$Size;LExactReader$Format;)V"⟩
abbrev cRo_round : ByteArray := prog_6_method_2_code
def yJM_max : MethodName := ⟨"java/lang/Math", "max", "(II)I"⟩
abbrev cJM_max : ByteArray := prog_16_method_65_code
def yRo_setWhole : MethodName := ⟨"ExactReader$Rounding", "setWhole", "(JI)V"⟩
abbrev cRo_setWhole : ByteArray := prog_6_method_3_code
def yRo_roundLead : MethodName := ⟨"ExactReader$Rounding", "roundLead", "(LExactReader$Size;I)V"⟩
abbrev cRo_roundLead : ByteArray := prog_6_method_4_code
def yRo_carry : MethodName := ⟨"ExactReader$Rounding", "carry", "(LExactReader$Format;)V"⟩
abbrev cRo_carry : ByteArray := prog_6_method_5_code
def yFm_exponentOf : MethodName := ⟨"ExactReader$Format", "exponentOf", "(I)I"⟩
abbrev cFm_exponentOf : ByteArray := prog_2_method_6_code
def yRo_bitsOfSize : MethodName := ⟨"ExactReader$Rounding", "bitsOfSize", "(LExactReader$Format;)J"⟩
abbrev cRo_bitsOfSize : ByteArray := prog_6_method_6_code
def yFm_signBit : MethodName := ⟨"ExactReader$Format", "signBit", "()J"⟩
abbrev cFm_signBit : ByteArray := prog_2_method_10_code
def yEr_floatBits : MethodName := ⟨"ExactReader", "floatBits", "()I"⟩
abbrev cEr_floatBits : ByteArray := prog_1_method_9_code
def yEr_side : MethodName := ⟨"ExactReader", "side", "(Z)I"⟩
abbrev cEr_side : ByteArray := prog_1_method_10_code
def yEr_compare : MethodName := ⟨"ExactReader", "compare", "(J)I"⟩
abbrev cEr_compare : ByteArray := prog_1_method_11_code
def yFm_areNoNumber : MethodName := ⟨"ExactReader$Format", "areNoNumber", "(J)Z"⟩
abbrev cFm_areNoNumber : ByteArray := prog_2_method_4_code
def yFm_exponentField : MethodName := ⟨"ExactReader$Format", "exponentField", "(J)I"⟩
abbrev cFm_exponentField : ByteArray := prog_2_method_7_code
def ySi_setDouble : MethodName := ⟨"ExactReader$Size", "setDouble", "(J)V"⟩
abbrev cSi_setDouble : ByteArray := prog_7_method_8_code
def ySi_signWith : MethodName := ⟨"ExactReader$Size", "signWith", "(Z)I"⟩
abbrev cSi_signWith : ByteArray := prog_7_method_9_code
def yJI_compare : MethodName := ⟨"java/lang/Integer", "compare", "(II)I"⟩
abbrev cJI_compare : ByteArray := prog_14_method_40_code
def ySi_order : MethodName := ⟨"ExactReader$Size", "order", "(LExactReader$Size;)I"⟩
abbrev cSi_order : ByteArray := prog_7_method_10_code
def yJL_compare : MethodName := ⟨"java/lang/Long", "compare", "(JJ)I"⟩
abbrev cJL_compare : ByteArray := prog_15_method_42_code
def yMo_init : MethodName := ⟨"ExactReaderModel", "<init>", "()V"⟩
abbrev cMo_init : ByteArray := prog_9_method_1_code
def yMo_thrown : MethodName := ⟨"ExactReaderModel", "thrown", "()I"⟩
abbrev cMo_thrown : ByteArray := prog_9_method_2_code
def yMo_write : MethodName := ⟨"ExactReaderModel", "write", "(J)I"⟩
abbrev cMo_write : ByteArray := prog_9_method_3_code
def yMo_repeat : MethodName := ⟨"ExactReaderModel", "repeat", "(II)I"⟩
abbrev cMo_repeat : ByteArray := prog_9_method_4_code
def yMo_cut : MethodName := ⟨"ExactReaderModel", "cut", "(I)I"⟩
abbrev cMo_cut : ByteArray := prog_9_method_5_code
def yMo_wipe : MethodName := ⟨"ExactReaderModel", "wipe", "()I"⟩
abbrev cMo_wipe : ByteArray := prog_9_method_6_code
def yMo_kind : MethodName := ⟨"ExactReaderModel", "kind", "()I"⟩
abbrev cMo_kind : ByteArray := prog_9_method_17_code
def yMo_scan : MethodName := ⟨"ExactReaderModel", "scan", "()Z"⟩
abbrev cMo_scan : ByteArray := prog_9_method_16_code
def yMo_blanks : MethodName := ⟨"ExactReaderModel", "blanks", "()V"⟩
abbrev cMo_blanks : ByteArray := prog_9_method_15_code
def yMo_here : MethodName := ⟨"ExactReaderModel", "here", "()I"⟩
abbrev cMo_here : ByteArray := prog_9_method_7_code
def yMo_spells : MethodName := ⟨"ExactReaderModel", "spells", "(J)Z"⟩
abbrev cMo_spells : ByteArray := prog_9_method_11_code
def yMo_number : MethodName := ⟨"ExactReaderModel", "number", "()Z"⟩
abbrev cMo_number : ByteArray := prog_9_method_14_code
def yMo_digits : MethodName := ⟨"ExactReaderModel", "digits", "(Z)Z"⟩
abbrev cMo_digits : ByteArray := prog_9_method_12_code
def yMo_hex : MethodName := ⟨"ExactReaderModel", "hex", "(I)I"⟩
abbrev cMo_hex : ByteArray := prog_9_method_9_code
def yMo_isDigit : MethodName := ⟨"ExactReaderModel", "isDigit", "(I)Z"⟩
abbrev cMo_isDigit : ByteArray := prog_9_method_8_code
def yMo_isAt : MethodName := ⟨"ExactReaderModel", "isAt", "(II)Z"⟩
abbrev cMo_isAt : ByteArray := prog_9_method_10_code
def yMo_power : MethodName := ⟨"ExactReaderModel", "power", "()Z"⟩
abbrev cMo_power : ByteArray := prog_9_method_13_code
def yMo_fault : MethodName := ⟨"ExactReaderModel", "fault", "()I"⟩
abbrev cMo_fault : ByteArray := prog_9_method_18_code
def yMo_bits : MethodName := ⟨"ExactReaderModel", "bits", "()J"⟩
abbrev cMo_bits : ByteArray := prog_9_method_30_code
def yMo_sizeRead : MethodName := ⟨"ExactReaderModel", "sizeRead", "(II)J"⟩
abbrev cMo_sizeRead : ByteArray := prog_9_method_29_code
def yMo_find : MethodName := ⟨"ExactReaderModel", "find", "(II)V"⟩
abbrev cMo_find : ByteArray := prog_9_method_26_code
def yMo_findDecimal : MethodName := ⟨"ExactReaderModel", "findDecimal", "(III)V"⟩
abbrev cMo_findDecimal : ByteArray := prog_9_method_23_code
def yMo_writeOut : MethodName := ⟨"ExactReaderModel", "writeOut", "(II)V"⟩
abbrev cMo_writeOut : ByteArray := prog_9_method_22_code
def yMo_wholePart : MethodName := ⟨"ExactReaderModel", "wholePart", "()J"⟩
abbrev cMo_wholePart : ByteArray := prog_9_method_21_code
def yMo_half : MethodName := ⟨"ExactReaderModel", "half", "()V"⟩
abbrev cMo_half : ByteArray := prog_9_method_20_code
def yMo_twice : MethodName := ⟨"ExactReaderModel", "twice", "()V"⟩
abbrev cMo_twice : ByteArray := prog_9_method_19_code
def yMo_findHexadecimal : MethodName := ⟨"ExactReaderModel", "findHexadecimal", "(III)V"⟩
abbrev cMo_findHexadecimal : ByteArray := prog_9_method_25_code
def yMo_bitAt : MethodName := ⟨"ExactReaderModel", "bitAt", "(J)I"⟩
abbrev cMo_bitAt : ByteArray := prog_9_method_24_code
def yMo_goesUp : MethodName := ⟨"ExactReaderModel", "goesUp", "()Z"⟩
abbrev cMo_goesUp : ByteArray := prog_9_method_27_code
def yMo_pack : MethodName := ⟨"ExactReaderModel", "pack", "(JII)J"⟩
abbrev cMo_pack : ByteArray := prog_9_method_28_code
def yMo_floatBits : MethodName := ⟨"ExactReaderModel", "floatBits", "()I"⟩
abbrev cMo_floatBits : ByteArray := prog_9_method_31_code
def yMo_side : MethodName := ⟨"ExactReaderModel", "side", "(Z)I"⟩
abbrev cMo_side : ByteArray := prog_9_method_32_code
def yMo_compare : MethodName := ⟨"ExactReaderModel", "compare", "(J)I"⟩
abbrev cMo_compare : ByteArray := prog_9_method_34_code
def yMo_compareSize : MethodName := ⟨"ExactReaderModel", "compareSize", "(J)I"⟩
abbrev cMo_compareSize : ByteArray := prog_9_method_33_code
def yLa_repeat : MethodName := ⟨"ExactReaderLaw", "repeat", "(LExactReader;II[J)I"⟩
abbrev cLa_repeat : ByteArray := method_3_code
def yLa_cut : MethodName := ⟨"ExactReaderLaw", "cut", "(LExactReader;I[J)I"⟩
abbrev cLa_cut : ByteArray := method_4_code
def yLa_bits : MethodName := ⟨"ExactReaderLaw", "bits", "(LExactReader;[J)I"⟩
abbrev cLa_bits : ByteArray := method_5_code
def yLa_floatBits : MethodName := ⟨"ExactReaderLaw", "floatBits", "(LExactReader;[J)I"⟩
abbrev cLa_floatBits : ByteArray := method_6_code
def yLa_side : MethodName := ⟨"ExactReaderLaw", "side", "(LExactReader;Z[J)I"⟩
abbrev cLa_side : ByteArray := method_7_code
def yLa_compare : MethodName := ⟨"ExactReaderLaw", "compare", "(LExactReader;J[J)I"⟩
abbrev cLa_compare : ByteArray := method_8_code
def yLa_law : MethodName := ⟨"ExactReaderLaw", "law", "([I)Z"⟩
abbrev cLa_law : ByteArray := code
end
section
def g_nf : List (String × Nat × String × String × String × String) := [("ExactReader", 52, "ExactReader$NumberText", "length", "I", "ExactReader"), ("ExactReader", 146, "ExactReader$NumberText", "measured", "Z", "ExactReader"), ("ExactReader", 72, "ExactReader$NumberText", "found", "I", "ExactReader"), ("ExactReader", 75, "ExactReader$NumberText", "wrongAt", "I", "ExactReader"), ("ExactReader", 103, "ExactReader$NumberText", "negative", "Z", "ExactReader"), ("ExactReader$Measure", 23, "ExactReader$NumberText", "digitsFrom", "I", "ExactReader"), ("ExactReader$Measure", 29, "ExactReader$NumberText", "digitsTo", "I", "ExactReader"), ("ExactReader$Measure", 50, "ExactReader$NumberText", "significant", "I", "ExactReader"), ("ExactReader$Measure", 43, "ExactReader$NumberText", "fraction", "I", "ExactReader"), ("ExactReader$Measure", 40, "ExactReader$NumberText", "exponent", "I", "ExactReader"), ("ExactReader$Measure", 88, "ExactReader$Natural", "size", "I", "ExactReader"), ("ExactReader$Rounding", 36, "ExactReader$Size", "lead", "J", "ExactReader"), ("ExactReader$Rounding", 13, "ExactReader$Size", "place", "I", "ExactReader"), ("ExactReader$Rounding", 58, "ExactReader$Size", "rest", "Z", "ExactReader"), ("ExactReader", 107, "ExactReader$Rounding", "lies", "I", "ExactReader"), ("ExactReader$Rounding", 7, "ExactReader$Format", "least", "I", "ExactReader"), ("ExactReader$Rounding", 20, "ExactReader$Format", "precision", "I", "ExactReader"), ("ExactReader$Size", 58, "ExactReader$Format", "least", "I", "ExactReader")]
def g_nm : List (String × Nat × MethodName × String) := [("ExactReader", 25, ⟨"ExactReader$Size", "<init>", "()V"⟩, "ExactReader"), ("ExactReader", 35, ⟨"ExactReader$Rounding", "<init>", "()V"⟩, "ExactReader"), ("ExactReader", 44, ⟨"ExactReader$NumberText", "room", "()I"⟩, "ExactReader"), ("ExactReader", 48, ⟨"ExactReader$NumberText", "append", "(C)V"⟩, "ExactReader"), ("ExactReader", 65, ⟨"ExactReader$NumberText", "dropLast", "(I)V"⟩, "ExactReader"), ("ExactReader", 69, ⟨"ExactReader$NumberText", "scan", "()V"⟩, "ExactReader"), ("ExactReader", 136, ⟨"ExactReader$Format", "bitsOfNoNumber", "()J"⟩, "ExactReader"), ("ExactReader", 149, ⟨"ExactReader$Measure", "hexadecimal", "(LExactReader$NumberText;LExactReader$Size;)V"⟩, "ExactReader"), ("ExactReader$Measure", 18, ⟨"ExactReader$Size", "begin", "()V"⟩, "ExactReader"), ("ExactReader$Measure", 32, ⟨"ExactReader$NumberText", "digitAt", "(II)I"⟩, "ExactReader"), ("ExactReader$Measure", 36, ⟨"ExactReader$Size", "push", "(II)V"⟩, "ExactReader"), ("ExactReader$Measure", 46, ⟨"ExactReader$Size", "end", "(IZ)V"⟩, "ExactReader"), ("ExactReader", 153, ⟨"ExactReader$Measure", "decimal", "(LExactReader$NumberText;LExactReader$Size;)V"⟩, "ExactReader"), ("ExactReader$Measure", 53, ⟨"ExactReader$Size", "set", "(JI)V"⟩, "ExactReader"), ("ExactReader$Measure", 70, ⟨"ExactReader$Natural", "begin", "()V"⟩, "ExactReader"), ("ExactReader$Measure", 71, ⟨"ExactReader$Natural", "pushDigit", "(I)V"⟩, "ExactReader"), ("ExactReader$Measure", 75, ⟨"ExactReader$Natural", "end", "()V"⟩, "ExactReader"), ("ExactReader$Measure", 77, ⟨"ExactReader$Natural", "multiplyByFives", "(I)V"⟩, "ExactReader"), ("ExactReader$Measure", 80, ⟨"ExactReader$Natural", "raiseAboveFives", "(I)I"⟩, "ExactReader"), ("ExactReader$Measure", 84, ⟨"ExactReader$Natural", "divideByFives", "(I)Z"⟩, "ExactReader"), ("ExactReader$Measure", 91, ⟨"ExactReader$Natural", "wordAt", "(I)I"⟩, "ExactReader"), ("ExactReader", 156, ⟨"ExactReader$Size", "setInfinite", "()V"⟩, "ExactReader"), ("ExactReader", 99, ⟨"ExactReader$Rounding", "round", "(LExactReader$Size;LExactReader$Format;)V"⟩, "ExactReader"), ("ExactReader$Rounding", 63, ⟨"ExactReader$Format", "hiddenBit", "()J"⟩, "ExactReader"), ("ExactReader$Rounding", 67, ⟨"ExactReader$Format", "infiniteField", "()I"⟩, "ExactReader"), ("ExactReader$Rounding", 71, ⟨"ExactReader$Format", "exponentOf", "(I)I"⟩, "ExactReader"), ("ExactReader", 140, ⟨"ExactReader$Rounding", "bitsOfSize", "(LExactReader$Format;)J"⟩, "ExactReader"), ("ExactReader$Rounding", 75, ⟨"ExactReader$Format", "bitsOf", "(IJ)J"⟩, "ExactReader"), ("ExactReader", 143, ⟨"ExactReader$Format", "signBit", "()J"⟩, "ExactReader"), ("ExactReader", 110, ⟨"ExactReader$Format", "areNoNumber", "(J)Z"⟩, "ExactReader"), ("ExactReader", 116, ⟨"ExactReader$Size", "setDouble", "(J)V"⟩, "ExactReader"), ("ExactReader$Size", 44, ⟨"ExactReader$Format", "exponentField", "(J)I"⟩, "ExactReader"), ("ExactReader$Size", 47, ⟨"ExactReader$Format", "lowField", "(J)J"⟩, "ExactReader"), ("ExactReader$Size", 51, ⟨"ExactReader$Format", "infiniteField", "()I"⟩, "ExactReader"), ("ExactReader$Size", 61, ⟨"ExactReader$Format", "hiddenBit", "()J"⟩, "ExactReader"), ("ExactReader$Size", 65, ⟨"ExactReader$Format", "exponentOf", "(I)I"⟩, "ExactReader"), ("ExactReader", 120, ⟨"ExactReader$Size", "signWith", "(Z)I"⟩, "ExactReader"), ("ExactReader", 130, ⟨"ExactReader$Size", "order", "(LExactReader$Size;)I"⟩, "ExactReader")]
def g_tbl : List Cond := lw_tbl.filter goodWord
theorem g_good : ∀ w ∈ g_tbl, (w.onTables && w.keeps) = true ∨ ∃ ty, w = .arrayClass ty := fun w h => good_of_word (List.mem_filter.mp h).2
abbrev gG : Type := va_G × ClassId × ClassId × ClassId × (Nat → Nat) × Nat × (Nat → Nat) × (Nat → Nat)
abbrev gM : Type := MethodName × ByteArray × Nat × Option FieldType × Room
def g_tys (G : gG) : List (ClassId × FieldType) := [(G.2.1, .char), (G.2.2.1, .int), (G.2.2.2.1, .long)]
abbrev g_adE (G : gG) : Nat → Nat := G.2.2.2.2.1
abbrev g_t5 (G : gG) : Nat := G.2.2.2.2.2.1
abbrev g_adK (G : gG) : Nat → Nat := G.2.2.2.2.2.2.1
abbrev g_adV (G : gG) : Nat → Nat := G.2.2.2.2.2.2.2
def g_eF0 : String × String × String × List Int32 := ("ExactReader$Format", "precision", "I", [53, 24])
def g_eF1 : String × String × String × List Int32 := ("ExactReader$Format", "least", "I", [-1074, -149])
def g_eF2 : String × String × String × List Int32 := ("ExactReader$Format", "exponentBits", "I", [11, 8])
def g_F : List (String × String × String × List Int32) := [g_eF0, g_eF1, g_eF2]
theorem g_in0 : g_eF0 ∈ g_F := List.mem_of_getElem? (i := 0) rfl
theorem g_in1 : g_eF1 ∈ g_F := List.mem_of_getElem? (i := 1) rfl
theorem g_in2 : g_eF2 ∈ g_F := List.mem_of_getElem? (i := 2) rfl
def g_nm2 : List String := ["DOUBLE", "FLOAT"]
def g_fives : List Int32 := [1, 5, 25, 125, 625, 3125, 15625, 78125, 390625, 1953125, 9765625, 48828125, 244140625, 1220703125]
def g_five (j : Nat) : Int32 := g_fives.getD j 0
def g_len : List Nat := [3, 8]
def g_byt : List (List Int32) := [[78, 97, 78], [73, 110, 102, 105, 110, 105, 116, 121]]
def g_sr : List (String × Nat × String × Nat) := [("ExactReader$NumberText", 59, "NaN", 0), ("ExactReader$NumberText", 65, "Infinity", 1), ("ExactReader", 58, "no character, or a number of times below 0", 2), ("ExactReader", 63, "a number of characters below 0", 3), ("ExactReader", 80, "the text is no number text", 4), ("ExactReader", 114, "what is no number lies nowhere", 5)]
def g_Zo (G : gG) (A : Nat → Prop) (U : State) (H : Heap) : Prop :=
  va_En "ExactReader$Format" "LExactReader$Format;" g_nm2 g_F (g_adE G) A U H ∧ va_Z "ExactReader$Natural" "FIVES" "[I" (.ref (g_t5 G)) A U H ∧ va_T .int (g_t5 G) 14 (fun j => .int (g_five j)) A U H ∧
  vk_S 2 g_len g_byt (g_adK G) (g_adV G) A U H ∧ (∀ q ∈ g_sr, vk_R q.1 q.2.1 q.2.2.1 (g_adK G q.2.2.2) U) ∧ va_Z "java/lang/String" "COMPACT_STRINGS" "Z" (.int 1) A U H ∧
  va_Zq "jdk/internal/util/Preconditions" "SIOOBE_FORMATTER" "Ljava/util/function/BiFunction;" A U H ∧ va_Zq "java/lang/Throwable" "UNASSIGNED_STACK" "[Ljava/lang/StackTraceElement;" A U H ∧ va_Zq "java/lang/Throwable" "SUPPRESSED_SENTINEL" "Ljava/util/List;" A U H ∧
  va_Nc "java/lang/IllegalArgumentException" "java/lang/IllegalStateException" U ∧ va_Nc "java/lang/IllegalStateException" "java/lang/IllegalArgumentException" U
theorem g_Zo.go {G : gG} {A A1 : Nat → Prop} {s U : State} {H : Heap} {locs : List Loc} (hz : g_Zo G A s s.heap) (hS : va_S A s.heap H locs) (hAA : ∀ q, A1 q → A q) (hU : U.heap = H) (hW : s.WarmedH U.vm) : g_Zo G A1 U U.heap := by
  subst hU
  obtain ⟨h1, h2, h3, h4, h5, h6, h7, h8, h9, h10, h11⟩ := hz
  have hv := hW.alike
  exact ⟨((h1.kept hS.2.1).narrow hAA).moved hv, ((h2.kept hS.2.1).narrow hAA).moved hv, ((h3.kept hS.2.1).narrow hAA).moved hv, ((h4.kept hS.2.1).narrow hAA).moved hv, fun q hq => vk_R.warm hW (h5 q hq), ((h6.kept hS.2.1).narrow hAA).moved hv, ((h7.kept hS.2.1).narrow hAA).moved hv, ((h8.kept hS.2.1).narrow hAA).moved hv, ((h9.kept hS.2.1).narrow hAA).moved hv, h10.moved hv, h11.moved hv⟩
theorem g_Zo.same {G : gG} {A : Nat → Prop} {u U : State} {H : Heap} (hv : u.vm = U.vm) (hz : g_Zo G A u H) : g_Zo G A U H := by
  obtain ⟨h1, h2, h3, h4, h5, h6, h7, h8, h9, h10, h11⟩ := hz
  have ha : u.vm.Alike U.vm := hv ▸ Vm.Alike.refl u.vm
  exact ⟨h1.moved ha, h2.moved ha, h3.moved ha, h4.moved ha, fun q hq => vk_R.same hv.symm (h5 q hq), h6.moved ha, h7.moved ha, h8.moved ha, h9.moved ha, h10.moved ha, h11.moved ha⟩
/-! THE JUDGEMENT gAt: a method's frame at pc, its locals, stack and cells as lists; it comes to the end (res, w1). Contracts gCt. -/
def g_Z (G : gG) (A : Nat → Prop) (U : State) (H : Heap) : Prop :=
  (∀ q ∈ g_nf, va_Nw (.fieldLinkNest q.1 q.2.1 q.2.2.1 q.2.2.2.1 q.2.2.2.2.1 q.2.2.2.2.2) U) ∧ (∀ q ∈ g_nm, va_Nw (.methodLinkNest q.1 q.2.1 q.2.2.1 q.2.2.2) U) ∧ g_Zo G A U H
theorem g_Z.nf {G : gG} {A : Nat → Prop} {U : State} {H : Heap} (h : g_Z G A U H) : ∀ q ∈ g_nf, va_Nw (.fieldLinkNest q.1 q.2.1 q.2.2.1 q.2.2.2.1 q.2.2.2.2.1 q.2.2.2.2.2) U := h.1
theorem g_Z.nm {G : gG} {A : Nat → Prop} {U : State} {H : Heap} (h : g_Z G A U H) : ∀ q ∈ g_nm, va_Nw (.methodLinkNest q.1 q.2.1 q.2.2.1 q.2.2.2) U := h.2.1
theorem g_Z.go {G : gG} {A A1 : Nat → Prop} {s U : State} {H : Heap} {locs : List Loc} (hz : g_Z G A s s.heap) (hS : va_S A s.heap H locs) (hAA : ∀ q, A1 q → A q) (hU : U.heap = H) (hW : s.WarmedH U.vm) : g_Z G A1 U U.heap :=
  ⟨fun q hq => va_Nw.warmF hW (hz.1 q hq), fun q hq => va_Nw.warmM hW (hz.2.1 q hq), g_Zo.go hz.2.2 hS hAA hU hW⟩
theorem g_Z.same {G : gG} {A : Nat → Prop} {u U : State} {H : Heap} (hv : u.vm = U.vm) (hz : g_Z G A u H) : g_Z G A U H :=
  ⟨fun q hq => va_Nw.same rfl hv (hz.1 q hq), fun q hq => va_Nw.same rfl hv (hz.2.1 q hq), g_Zo.same hv hz.2.2⟩
def gCx (G : gG) (M : gM) (w0 : va_W) (p : Program) (s : State) (m : MethodId) (args : Array Value) (meth : Method) (c : Code) (A : Nat → Prop) : Prop :=
  p.tables.exec = Jvm.exec ∧ c.code = M.2.1 ∧ c.maxLocals = M.2.2.1 ∧ meth.sig.returnType = M.2.2.2.1 ∧ s.vm.findClass M.1.cls = some m.cls ∧ (∀ w ∈ g_tbl, w.before args s = true) ∧ meth.locks = false ∧ A = va_A w0 s.heap.size ∧ va_K G.1 vwCl (g_tys G) s ∧ g_Z G A s s.heap
section gCxS
variable {G : gG} {M : gM} {w0 : va_W} {p : Program} {s : State} {m : MethodId} {args : Array Value} {meth : Method} {c : Code} {A : Nat → Prop}
theorem gCx.ml (h : gCx G M w0 p s m args meth c A) : c.maxLocals = M.2.2.1 := h.2.2.1
theorem gCx.ret (h : gCx G M w0 p s m args meth c A) : meth.sig.returnType = M.2.2.2.1 := h.2.2.2.1
theorem gCx.own (h : gCx G M w0 p s m args meth c A) : s.vm.findClass M.1.cls = some m.cls := h.2.2.2.2.1
theorem gCx.tb (h : gCx G M w0 p s m args meth c A) : ∀ w ∈ g_tbl, w.before args s = true := h.2.2.2.2.2.1
theorem gCx.nl (h : gCx G M w0 p s m args meth c A) : meth.locks = false := h.2.2.2.2.2.2.1
theorem gCx.hA (h : gCx G M w0 p s m args meth c A) : ∀ q : Nat, s.heap.size ≤ q → A q := fun q hq => by rw [h.2.2.2.2.2.2.2.1]; exact Or.inr hq
theorem gCx.kk (h : gCx G M w0 p s m args meth c A) : va_K G.1 vwCl (g_tys G) s := h.2.2.2.2.2.2.2.2.1
theorem gCx.zz (h : gCx G M w0 p s m args meth c A) : g_Z G A s s.heap := h.2.2.2.2.2.2.2.2.2
end gCxS
def g_Q (G : gG) (res : Option Value) (w1 : va_W) (A : Nat → Prop) : Array Value → State → Outcome → State → Prop := fun _ st oc t => oc = .returned res ∧ va_P G.1 vwCl w1 t.heap ∧ va_K G.1 vwCl (g_tys G) t ∧ va_D A w1 ∧ va_F A st t
def gAt (l : Launch) (G : gG) (M : gM) (w0 : va_W) (res : Option Value) (w1 : va_W) (pc : Nat) (lv : List (Nat × Value)) (st : List Value) (ws : va_W) : Prop :=
  ∀ (p : Program) (e : Env) (s : State) (m : MethodId) (args : Array Value) (below : List Frame) (meth : Method) (c : Code) (A : Nat → Prop) (H : Heap) (locs : List Loc) (ls : Array Slot),
    gCx G M w0 p s m args meth c A → va_P G.1 vwCl ws H → va_D A ws → va_S A s.heap H locs → lv_has ls M.2.2.1 lv →
    W p l e M.2.2.2.2 s m args below meth c H locs 0 0 (MQ below (g_Q G res w1 A) args s 0 0 A) (F0 m pc ls st)
def g_ws (M : gM) : List Cond := .code M.1 M.2.1 M.2.2.1 M.2.2.2.1 :: g_tbl
def g_Pc (G : gG) (av : List Value) (w0 : va_W) (sz : Nat) : Array Value → State → Prop := va_Pc av (fun U => U.heap.size = sz ∧ va_P G.1 vwCl w0 U.heap ∧ va_K G.1 vwCl (g_tys G) U ∧ va_D (fun _ => True) w0 ∧ g_Z G (va_A w0 sz) U U.heap)
def gCt (l : Launch) (G : gG) (M : gM) (av : List Value) (w0 : va_W) (res : Option Value) (w1 : va_W) : Prop :=
  ∀ sz : Nat, Met l M.1 (g_ws M) M.2.2.2.2 (g_Pc G av w0 sz) (g_Q G res w1 (va_A w0 sz)) 0 0 (va_A w0 sz)
theorem g_Pc.blind {G : gG} {av : List Value} {w0 : va_W} {sz : Nat} : FrameBlind (g_Pc G av w0 sz) := fun a U g mk q => by
  obtain ⟨q0, q1, q2, q3, q4, q5⟩ := q
  exact ⟨q0, q1, q2, va_K.moved (u := U) (U := U.calling g mk a) (Vm.Alike.refl U.vm) q3, q4, g_Z.same (u := U) rfl q5⟩
theorem gCt.of {l : Launch} {G : gG} {M : gM} {av : List Value} {w0 : va_W} {res : Option Value} {w1 : va_W} (hy : plainName M.1.cls = true) (hn : (lg_sl av).length ≤ M.2.2.1) (h : gAt l G M w0 res w1 0 (lv_args 0 av) [] w0) : gCt l G M av w0 res w1 := by
  intro sz
  refine Met.ofW (cc := M.2.1) (maxL := M.2.2.1) (ret := M.2.2.2.1) hy rfl ?_
  intro p e s m args below meth c s₁ B hml hv
  obtain ⟨rfl, hsz, hP, hK, hD0, hZ⟩ := hv
  subst hsz
  have hts := atoms_spec (ws := g_ws M) B.pre
  have hD := hD0.self (sz := s.heap.size)
  have hl := lv_entry av (n := M.2.2.1) hn
  rw [lg_entry_eq]
  exact h p e s m _ below meth c _ s.heap [] _ ⟨B.exec, B.bytes, hml, B.returns, findClass_of_methodNamed B.named, fun w hw => hts w (List.mem_cons_of_mem _ hw), B.notSynchronized, rfl, hK, hZ⟩ hP hD va_S.rf hl
/-- what a callee's own words are -/
def gOk (M : gM) (n : Nat) : Prop := Cond.initialized M.1.cls ∈ g_tbl ∧ Cond.code M.1 M.2.1 M.2.2.1 M.2.2.2.1 ∈ g_tbl ∧ (M.1.cls ≠ "java/lang/invoke/MethodHandle" ∧ M.1.cls ≠ "java/lang/invoke/VarHandle") ∧ (parseMethodDescriptor M.1.desc).map (fun d => d.parameters.length) = some n ∧ M.2.2.2.2.cells = 0 ∧ M.2.2.2.2.slots = 0
def gRm (M Mc : gM) : Prop := Mc.2.2.2.2.frames + 1 ≤ M.2.2.2.2.frames ∧ 8 + (Mc.2.2.1 + 11) + Mc.2.2.2.2.locals ≤ M.2.2.2.2.locals
theorem g_pay {args : Array Value} {s : State} {Mc : gM} (htb : ∀ w ∈ g_tbl, w.before args s = true) (hcode : Cond.code Mc.1 Mc.2.1 Mc.2.2.1 Mc.2.2.2.1 ∈ g_tbl) : ∀ w ∈ g_ws Mc, ∀ (a' : Array Value) (U : State), s.WarmedH U.vm → w.before a' U = true := by
  intro w hw a' U hW
  have hw' : w ∈ g_tbl := by
    rcases List.mem_cons.mp hw with h | h
    · rw [h]; exact hcode
    · exact h
  exact word_at hW (g_good w hw') (htb w hw')
theorem gOk.len {M : gM} {n : Nat} (h : gOk M n) : ∀ sig, parseMethodDescriptor M.1.desc = some sig → n = sig.parameters.length := fun sig hs => by
  have h2 := h.2.2.2.1
  rw [hs] at h2
  exact (Option.some.inj h2).symm
theorem g_callB {G : gG} {M Mc : gM} {w0 : va_W} {p : Program} {s : State} {m : MethodId} {args : Array Value} {meth : Method} {c : Code} {A : Nat → Prop} {n index : Nat} (hC : gCx G M w0 p s m args meth c A) (ok : gOk Mc n) (rm : gRm M Mc) (hlk : Cond.methodLink M.1.cls index Mc.1 ∈ g_tbl) : CallB M.2.2.2.2 s args M.1.cls index Mc.1 Mc.2.1 Mc.2.2.1 Mc.2.2.2.1 (g_ws Mc) Mc.2.2.2.2 0 0 n :=
  ⟨ok.2.2.2.2.1, ok.2.2.2.2.2, rm.1, rm.2, g_pay hC.tb ok.2.1, List.mem_cons_self, hC.tb _ ok.2.1, hC.tb _ ok.1, ok.2.2.1, ok.len, hC.tb _ hlk⟩
theorem g_callN {G : gG} {M Mc : gM} {w0 : va_W} {p : Program} {s : State} {m : MethodId} {args : Array Value} {meth : Method} {c : Code} {A : Nat → Prop} {n index : Nat} {host : String} (hC : gCx G M w0 p s m args meth c A) (ok : gOk Mc n) (rm : gRm M Mc) (hlk : (M.1.cls, index, Mc.1, host) ∈ g_nm) : va_CN M.2.2.2.2 s args M.1.cls index Mc.1 host Mc.2.1 Mc.2.2.1 Mc.2.2.2.1 (g_ws Mc) Mc.2.2.2.2 0 0 n :=
  ⟨⟨ok.2.2.2.2.1, ok.2.2.2.2.2, rm.1, rm.2, g_pay hC.tb ok.2.1, List.mem_cons_self⟩, hC.tb _ ok.2.1, hC.tb _ ok.1, ok.2.2.1, ok.len, va_Nw.use rfl (hC.zz.nm _ hlk)⟩
theorem g_subP {D : va_G} {cl : List vw_C} {ws ws' : va_W} {H : Heap} (h : va_P D cl ws H) (is : List Nat) (hs : is.map (fun i => ws[i]?) = ws'.map some) : va_P D cl ws' H := by
  intro k q hk
  have h1 : (is.map (fun i => ws[i]?))[k]? = some (some q) := by rw [hs, List.getElem?_map, hk]; rfl
  rw [List.getElem?_map] at h1
  cases hi : is[k]? with
  | none => rw [hi] at h1; cases h1
  | some i => rw [hi] at h1; exact h i q (Option.some.inj h1)
/-- what the caller hands over -/
theorem g_pre {G : gG} {M : gM} {w0 ws wc : va_W} {p : Program} {s : State} {m : MethodId} {args : Array Value} {meth : Method} {c : Code} {A : Nat → Prop} {H : Heap} {locs : List Loc} {av : List Value} (hC : gCx G M w0 p s m args meth c A) (hP : va_P G.1 vwCl ws H) (hD : va_D A ws) (hS : va_S A s.heap H locs) (isC : List Nat) (hnC : va_nd isC = true) (hCm : isC.map (fun i => ws[i]?) = wc.map some) : ∀ U : State, U.heap = H → s.WarmedH U.vm → g_Pc G av wc H.size av.toArray U := by
  intro U hU hW
  refine ⟨rfl, by rw [hU], by rw [hU]; exact g_subP hP isC hCm, va_K.moved hW.alike hC.kk, (hD.sub isC hnC hCm).weaken (fun _ _ _ _ => trivial), ?_⟩
  exact g_Z.go hC.zz hS (va_free hD hS hC.hA isC hCm) hU hW
/-- behind a call: what came back stands beside the rest, which is unchanged -/
theorem g_after {l : Launch} {G : gG} {M : gM} {w0 : va_W} {res : Option Value} {w1 : va_W} {pc : Nat} {lv : List (Nat × Value)} {st0 rest : List Value} {ws ws' wc wr w1c : va_W} {r : Option Value} {a : Array Value}
    {p : Program} {e : Env} {s : State} {m : MethodId} {args : Array Value} {below : List Frame} {meth : Method} {c : Code} {A : Nat → Prop} {H : Heap} {locs : List Loc} {ls : Array Slot}
    (hr : va_Run p l e M.2.2.2.2 s m args below meth c H locs 0 0 0 0 (F0 m pc ls st0) rest (g_Q G r w1c (va_A wc H.size) a) (va_A wc H.size))
    (hC : gCx G M w0 p s m args meth c A) (hP : va_P G.1 vwCl ws H) (hD : va_D A ws) (hS : va_S A s.heap H locs) (hl : lv_has ls M.2.2.1 lv)
    (isC isR perm : List Nat) (hCm : isC.map (fun i => ws[i]?) = wc.map some) (hRm : isR.map (fun i => ws[i]?) = wr.map some) (hn : va_nd isR = true) (hdis : ∀ i ∈ isR, i ∉ isC) (hnp : va_nd perm = true) (hpm : perm.map (fun i => (wr ++ w1c)[i]?) = ws'.map some)
    (k : gAt l G M w0 res w1 (pc + 3) lv (r.toList ++ rest) ws') : W p l e M.2.2.2.2 s m args below meth c H locs 0 0 (MQ below (g_Q G res w1 A) args s 0 0 A) (F0 m pc ls st0) := by
  intro T hT X
  obtain ⟨v, st₀, t, T', L, h0, X', hL, e1, e2, ⟨hv, hP1, hK1, hD1, hz, hk⟩, stp⟩ := hr T hT X
  have hv := (Outcome.returned.inj hv)
  subst hv
  rw [h0] at hz hk
  have hFc : ∀ q, va_A wc H.size q → A q := va_free hD hS hC.hA isC hCm
  obtain ⟨hP2, hD2⟩ := va_join (wr := wr) (w1 := w1c) (H1 := T'.heap) hP hD isC isR hCm hRm hn hdis (fun q h1 h2 => by rw [e1]; exact hk q h1 h2) hFc (by rw [e1]; exact hP1) hD1
  obtain ⟨t2, a1, b1⟩ := k p e s m args below meth c A T'.heap (locs ++ L) ls hC (g_subP hP2 perm hpm) (hD2.sub perm hnp hpm)
    ⟨Nat.le_trans hS.1 (by rw [e1]; exact hz), fun q h1 h2 => by rw [e1, hk q (Nat.lt_of_lt_of_le h1 hS.1) (fun z => h2 (hFc q z))]; exact hS.2.1 q h1 h2, fun q hq => by
      rcases List.mem_append.mp hq with h | h
      · exact hS.2.2 q h
      · exact hFc _ (hL q h)⟩ hl T' rfl X'
  exact ⟨t2, stp t2 a1, b1⟩
theorem a_callV {l : Launch} {G : gG} {M Mc : gM} {w0 : va_W} {res : Option Value} {w1 : va_W} {pc index : Nat} {lv : List (Nat × Value)} {st0 rest As : List Value} {ws wc wr w1c : va_W} {r : Option Value} (ws' : va_W) (isC isR perm : List Nat) {b ci q0 N : Nat} {C : String} {T : u_T} {fs : List Value} (hc : gCt l G Mc (.ref b :: As) wc r w1c) (hd : decode M.2.1 pc = .ok (.invokevirtual index, 3)) (hst : st0 = As.reverse ++ .ref b :: rest) (ok : gOk Mc As.length) (rm : gRm M Mc) (hlk : Cond.methodLink M.1.cls index Mc.1 ∈ g_tbl) (hin : Cond.instanceMethod Mc.1 ∈ g_tbl) (hse : Cond.selects C Mc.1 Mc.1 ∈ g_tbl) (hrv : ws[q0]? = some (b, .inr (ci, fs))) (hcl : vwCl[ci]? = some (C, T, N)) (hnC : va_nd isC = true) (hCm : isC.map (fun i => ws[i]?) = wc.map some) (hRm : isR.map (fun i => ws[i]?) = wr.map some) (hn : va_nd isR = true) (hdis : ∀ i ∈ isR, i ∉ isC) (hnp : va_nd perm = true) (hpm : perm.map (fun i => (wr ++ w1c)[i]?) = ws'.map some) (hcat : (rest.map fun v => v.category).sum ≤ 8) (k : gAt l G M w0 res w1 (pc + 3) lv (r.toList ++ rest) ws') : gAt l G M w0 res w1 pc lv st0 ws :=
  fun p e s m args below meth c A H locs ls hC hP hD hS hl => g_after (va_runV (As := As) (rest := rest) ⟨hC.1, hC.2.1, hC.ml, hC.own, hC.tb⟩ (hc H.size) ⟨g_callB hC ok rm hlk, hC.tb _ hin, hC.tb _ hse⟩ ⟨g_Pc.blind, va_recv hC.kk hP hcl hrv, g_pre hC hP hD hS isC hnC hCm⟩ rfl rfl hl.1 hst (lv_room hcat) hd ⟨Nat.zero_le _, Nat.zero_le _⟩) hC hP hD hS hl isC isR perm hCm hRm hn hdis hnp hpm k
theorem a_callVN {l : Launch} {G : gG} {M Mc : gM} {w0 : va_W} {res : Option Value} {w1 : va_W} {pc index : Nat} {lv : List (Nat × Value)} {st0 rest As : List Value} {ws wc wr w1c : va_W} {r : Option Value} (ws' : va_W) (isC isR perm : List Nat) {b ci q0 N : Nat} {C : String} {T : u_T} {fs : List Value} {host : String} (hc : gCt l G Mc (.ref b :: As) wc r w1c) (hd : decode M.2.1 pc = .ok (.invokevirtual index, 3)) (hst : st0 = As.reverse ++ .ref b :: rest) (ok : gOk Mc As.length) (rm : gRm M Mc) (hlk : (M.1.cls, index, Mc.1, host) ∈ g_nm) (hin : Cond.instanceMethod Mc.1 ∈ g_tbl) (hse : Cond.selects C Mc.1 Mc.1 ∈ g_tbl) (hrv : ws[q0]? = some (b, .inr (ci, fs))) (hcl : vwCl[ci]? = some (C, T, N)) (hnC : va_nd isC = true) (hCm : isC.map (fun i => ws[i]?) = wc.map some) (hRm : isR.map (fun i => ws[i]?) = wr.map some) (hn : va_nd isR = true) (hdis : ∀ i ∈ isR, i ∉ isC) (hnp : va_nd perm = true) (hpm : perm.map (fun i => (wr ++ w1c)[i]?) = ws'.map some) (hcat : (rest.map fun v => v.category).sum ≤ 8) (k : gAt l G M w0 res w1 (pc + 3) lv (r.toList ++ rest) ws') : gAt l G M w0 res w1 pc lv st0 ws :=
  fun p e s m args below meth c A H locs ls hC hP hD hS hl => g_after (va_runVN (As := As) (rest := rest) ⟨hC.1, hC.2.1, hC.ml, hC.own, hC.tb⟩ (hc H.size) ⟨g_callN hC ok rm hlk, hC.tb _ hin, hC.tb _ hse⟩ ⟨g_Pc.blind, va_recv hC.kk hP hcl hrv, g_pre hC hP hD hS isC hnC hCm⟩ rfl rfl hl.1 hst (lv_room hcat) hd ⟨Nat.zero_le _, Nat.zero_le _⟩) hC hP hD hS hl isC isR perm hCm hRm hn hdis hnp hpm k
theorem a_callS {l : Launch} {G : gG} {M Mc : gM} {w0 : va_W} {res : Option Value} {w1 : va_W} {pc index : Nat} {lv : List (Nat × Value)} {st0 rest As : List Value} {ws wc wr w1c : va_W} {r : Option Value} (ws' : va_W) (isC isR perm : List Nat) (hc : gCt l G Mc As wc r w1c) (hd : decode M.2.1 pc = .ok (.invokestatic index, 3)) (hst : st0 = As.reverse ++ rest) (ok : gOk Mc As.length) (rm : gRm M Mc) (hlk : Cond.methodLink M.1.cls index Mc.1 ∈ g_tbl) (hsc : Cond.static Mc.1 ∈ g_tbl) (hnC : va_nd isC = true) (hCm : isC.map (fun i => ws[i]?) = wc.map some) (hRm : isR.map (fun i => ws[i]?) = wr.map some) (hn : va_nd isR = true) (hdis : ∀ i ∈ isR, i ∉ isC) (hnp : va_nd perm = true) (hpm : perm.map (fun i => (wr ++ w1c)[i]?) = ws'.map some) (hcat : (rest.map fun v => v.category).sum ≤ 8) (k : gAt l G M w0 res w1 (pc + 3) lv (r.toList ++ rest) ws') : gAt l G M w0 res w1 pc lv st0 ws :=
  fun p e s m args below meth c A H locs ls hC hP hD hS hl => g_after (va_runS (As := As) (rest := rest) ⟨hC.1, hC.2.1, hC.ml, hC.own, hC.tb⟩ (hc H.size) ⟨g_callB hC ok rm hlk, hC.tb _ hsc⟩ ⟨g_Pc.blind, g_pre hC hP hD hS isC hnC hCm⟩ rfl rfl hl.1 hst (lv_room hcat) hd ⟨Nat.zero_le _, Nat.zero_le _⟩) hC hP hD hS hl isC isR perm hCm hRm hn hdis hnp hpm k
theorem a_callSN {l : Launch} {G : gG} {M Mc : gM} {w0 : va_W} {res : Option Value} {w1 : va_W} {pc index : Nat} {lv : List (Nat × Value)} {st0 rest As : List Value} {ws wc wr w1c : va_W} {r : Option Value} (ws' : va_W) (isC isR perm : List Nat) {host : String} (hc : gCt l G Mc As wc r w1c) (hd : decode M.2.1 pc = .ok (.invokestatic index, 3)) (hst : st0 = As.reverse ++ rest) (ok : gOk Mc As.length) (rm : gRm M Mc) (hlk : (M.1.cls, index, Mc.1, host) ∈ g_nm) (hsc : Cond.static Mc.1 ∈ g_tbl) (hnC : va_nd isC = true) (hCm : isC.map (fun i => ws[i]?) = wc.map some) (hRm : isR.map (fun i => ws[i]?) = wr.map some) (hn : va_nd isR = true) (hdis : ∀ i ∈ isR, i ∉ isC) (hnp : va_nd perm = true) (hpm : perm.map (fun i => (wr ++ w1c)[i]?) = ws'.map some) (hcat : (rest.map fun v => v.category).sum ≤ 8) (k : gAt l G M w0 res w1 (pc + 3) lv (r.toList ++ rest) ws') : gAt l G M w0 res w1 pc lv st0 ws :=
  fun p e s m args below meth c A H locs ls hC hP hD hS hl => g_after (va_runSN (As := As) (rest := rest) ⟨hC.1, hC.2.1, hC.ml, hC.own, hC.tb⟩ (hc H.size) ⟨g_callN hC ok rm hlk, hC.tb _ hsc, trivial⟩ ⟨g_Pc.blind, g_pre hC hP hD hS isC hnC hCm⟩ rfl rfl hl.1 hst (lv_room hcat) hd ⟨Nat.zero_le _, Nat.zero_le _⟩) hC hP hD hS hl isC isR perm hCm hRm hn hdis hnp hpm k
theorem a_callE {l : Launch} {G : gG} {M Mc : gM} {w0 : va_W} {res : Option Value} {w1 : va_W} {pc index : Nat} {lv : List (Nat × Value)} {st0 rest As : List Value} {ws wc wr w1c : va_W} {r : Option Value} (ws' : va_W) (isC isR perm : List Nat) {i : Nat} (hc : gCt l G Mc (.ref (g_adE G i) :: As) wc r w1c) (hd : decode M.2.1 pc = .ok (.invokevirtual index, 3)) (hst : st0 = As.reverse ++ .ref (g_adE G i) :: rest) (ok : gOk Mc As.length) (rm : gRm M Mc) (hlk : Cond.methodLink M.1.cls index Mc.1 ∈ g_tbl) (hin : Cond.instanceMethod Mc.1 ∈ g_tbl) (hse : Cond.selects "ExactReader$Format" Mc.1 Mc.1 ∈ g_tbl) (hi : i < 2) (hnC : va_nd isC = true) (hCm : isC.map (fun i => ws[i]?) = wc.map some) (hRm : isR.map (fun i => ws[i]?) = wr.map some) (hn : va_nd isR = true) (hdis : ∀ i ∈ isR, i ∉ isC) (hnp : va_nd perm = true) (hpm : perm.map (fun i => (wr ++ w1c)[i]?) = ws'.map some) (hcat : (rest.map fun v => v.category).sum ≤ 8) (k : gAt l G M w0 res w1 (pc + 3) lv (r.toList ++ rest) ws') : gAt l G M w0 res w1 pc lv st0 ws :=
  fun p e s m args below meth c A H locs ls hC hP hD hS hl => g_after (va_runV (As := As) (rest := rest) ⟨hC.1, hC.2.1, hC.ml, hC.own, hC.tb⟩ (hc H.size) ⟨g_callB hC ok rm hlk, hC.tb _ hin, hC.tb _ hse⟩ ⟨g_Pc.blind, va_recvE hC.zz.2.2.1 hi hS, g_pre hC hP hD hS isC hnC hCm⟩ rfl rfl hl.1 hst (lv_room hcat) hd ⟨Nat.zero_le _, Nat.zero_le _⟩) hC hP hD hS hl isC isR perm hCm hRm hn hdis hnp hpm k
theorem a_callEN {l : Launch} {G : gG} {M Mc : gM} {w0 : va_W} {res : Option Value} {w1 : va_W} {pc index : Nat} {lv : List (Nat × Value)} {st0 rest As : List Value} {ws wc wr w1c : va_W} {r : Option Value} (ws' : va_W) (isC isR perm : List Nat) {host : String} {i : Nat} (hc : gCt l G Mc (.ref (g_adE G i) :: As) wc r w1c) (hd : decode M.2.1 pc = .ok (.invokevirtual index, 3)) (hst : st0 = As.reverse ++ .ref (g_adE G i) :: rest) (ok : gOk Mc As.length) (rm : gRm M Mc) (hlk : (M.1.cls, index, Mc.1, host) ∈ g_nm) (hin : Cond.instanceMethod Mc.1 ∈ g_tbl) (hse : Cond.selects "ExactReader$Format" Mc.1 Mc.1 ∈ g_tbl) (hi : i < 2) (hnC : va_nd isC = true) (hCm : isC.map (fun i => ws[i]?) = wc.map some) (hRm : isR.map (fun i => ws[i]?) = wr.map some) (hn : va_nd isR = true) (hdis : ∀ i ∈ isR, i ∉ isC) (hnp : va_nd perm = true) (hpm : perm.map (fun i => (wr ++ w1c)[i]?) = ws'.map some) (hcat : (rest.map fun v => v.category).sum ≤ 8) (k : gAt l G M w0 res w1 (pc + 3) lv (r.toList ++ rest) ws') : gAt l G M w0 res w1 pc lv st0 ws :=
  fun p e s m args below meth c A H locs ls hC hP hD hS hl => g_after (va_runVN (As := As) (rest := rest) ⟨hC.1, hC.2.1, hC.ml, hC.own, hC.tb⟩ (hc H.size) ⟨g_callN hC ok rm hlk, hC.tb _ hin, hC.tb _ hse⟩ ⟨g_Pc.blind, va_recvE hC.zz.2.2.1 hi hS, g_pre hC hP hD hS isC hnC hCm⟩ rfl rfl hl.1 hst (lv_room hcat) hd ⟨Nat.zero_le _, Nat.zero_le _⟩) hC hP hD hS hl isC isR perm hCm hRm hn hdis hnp hpm k
theorem a_iadd {l : Launch} {G : gG} {M : gM} {w0 : va_W} {res : Option Value} {w1 : va_W} {pc : Nat} {lv : List (Nat × Value)} {st : List Value} {ws : va_W} {x y : Int32} (hd : decode M.2.1 pc = .ok (.iadd, 1)) (k : gAt l G M w0 res w1 (pc + 1) lv (.int (x + y) :: st) ws) : gAt l G M w0 res w1 pc lv (.int y :: .int x :: st) ws := fun p e s m args below meth c A H locs ls hC hP hD hS hl => lv_iadd hC.1 hC.2.1 hd (k p e s m args below meth c A H locs ls hC hP hD hS hl)
theorem a_isub {l : Launch} {G : gG} {M : gM} {w0 : va_W} {res : Option Value} {w1 : va_W} {pc : Nat} {lv : List (Nat × Value)} {st : List Value} {ws : va_W} {x y : Int32} (hd : decode M.2.1 pc = .ok (.isub, 1)) (k : gAt l G M w0 res w1 (pc + 1) lv (.int (x - y) :: st) ws) : gAt l G M w0 res w1 pc lv (.int y :: .int x :: st) ws := fun p e s m args below meth c A H locs ls hC hP hD hS hl => lv_isub hC.1 hC.2.1 hd (k p e s m args below meth c A H locs ls hC hP hD hS hl)
theorem a_imul {l : Launch} {G : gG} {M : gM} {w0 : va_W} {res : Option Value} {w1 : va_W} {pc : Nat} {lv : List (Nat × Value)} {st : List Value} {ws : va_W} {x y : Int32} (hd : decode M.2.1 pc = .ok (.imul, 1)) (k : gAt l G M w0 res w1 (pc + 1) lv (.int (x * y) :: st) ws) : gAt l G M w0 res w1 pc lv (.int y :: .int x :: st) ws := fun p e s m args below meth c A H locs ls hC hP hD hS hl => lv_imul hC.1 hC.2.1 hd (k p e s m args below meth c A H locs ls hC hP hD hS hl)
theorem a_iand {l : Launch} {G : gG} {M : gM} {w0 : va_W} {res : Option Value} {w1 : va_W} {pc : Nat} {lv : List (Nat × Value)} {st : List Value} {ws : va_W} {x y : Int32} (hd : decode M.2.1 pc = .ok (.iand, 1)) (k : gAt l G M w0 res w1 (pc + 1) lv (.int (x &&& y) :: st) ws) : gAt l G M w0 res w1 pc lv (.int y :: .int x :: st) ws := fun p e s m args below meth c A H locs ls hC hP hD hS hl => lv_iand hC.1 hC.2.1 hd (k p e s m args below meth c A H locs ls hC hP hD hS hl)
theorem a_ior {l : Launch} {G : gG} {M : gM} {w0 : va_W} {res : Option Value} {w1 : va_W} {pc : Nat} {lv : List (Nat × Value)} {st : List Value} {ws : va_W} {x y : Int32} (hd : decode M.2.1 pc = .ok (.ior, 1)) (k : gAt l G M w0 res w1 (pc + 1) lv (.int (x ||| y) :: st) ws) : gAt l G M w0 res w1 pc lv (.int y :: .int x :: st) ws := fun p e s m args below meth c A H locs ls hC hP hD hS hl => lv_ior hC.1 hC.2.1 hd (k p e s m args below meth c A H locs ls hC hP hD hS hl)
theorem a_ixor {l : Launch} {G : gG} {M : gM} {w0 : va_W} {res : Option Value} {w1 : va_W} {pc : Nat} {lv : List (Nat × Value)} {st : List Value} {ws : va_W} {x y : Int32} (hd : decode M.2.1 pc = .ok (.ixor, 1)) (k : gAt l G M w0 res w1 (pc + 1) lv (.int (x ^^^ y) :: st) ws) : gAt l G M w0 res w1 pc lv (.int y :: .int x :: st) ws := fun p e s m args below meth c A H locs ls hC hP hD hS hl => lv_ixor hC.1 hC.2.1 hd (k p e s m args below meth c A H locs ls hC hP hD hS hl)
theorem a_ladd {l : Launch} {G : gG} {M : gM} {w0 : va_W} {res : Option Value} {w1 : va_W} {pc : Nat} {lv : List (Nat × Value)} {st : List Value} {ws : va_W} {x y : Int64} (hd : decode M.2.1 pc = .ok (.ladd, 1)) (k : gAt l G M w0 res w1 (pc + 1) lv (.long (x + y) :: st) ws) : gAt l G M w0 res w1 pc lv (.long y :: .long x :: st) ws := fun p e s m args below meth c A H locs ls hC hP hD hS hl => lv_ladd hC.1 hC.2.1 hd (k p e s m args below meth c A H locs ls hC hP hD hS hl)
theorem a_lsub {l : Launch} {G : gG} {M : gM} {w0 : va_W} {res : Option Value} {w1 : va_W} {pc : Nat} {lv : List (Nat × Value)} {st : List Value} {ws : va_W} {x y : Int64} (hd : decode M.2.1 pc = .ok (.lsub, 1)) (k : gAt l G M w0 res w1 (pc + 1) lv (.long (x - y) :: st) ws) : gAt l G M w0 res w1 pc lv (.long y :: .long x :: st) ws := fun p e s m args below meth c A H locs ls hC hP hD hS hl => lv_lsub hC.1 hC.2.1 hd (k p e s m args below meth c A H locs ls hC hP hD hS hl)
theorem a_lmul {l : Launch} {G : gG} {M : gM} {w0 : va_W} {res : Option Value} {w1 : va_W} {pc : Nat} {lv : List (Nat × Value)} {st : List Value} {ws : va_W} {x y : Int64} (hd : decode M.2.1 pc = .ok (.lmul, 1)) (k : gAt l G M w0 res w1 (pc + 1) lv (.long (x * y) :: st) ws) : gAt l G M w0 res w1 pc lv (.long y :: .long x :: st) ws := fun p e s m args below meth c A H locs ls hC hP hD hS hl => lv_lmul hC.1 hC.2.1 hd (k p e s m args below meth c A H locs ls hC hP hD hS hl)
theorem a_land {l : Launch} {G : gG} {M : gM} {w0 : va_W} {res : Option Value} {w1 : va_W} {pc : Nat} {lv : List (Nat × Value)} {st : List Value} {ws : va_W} {x y : Int64} (hd : decode M.2.1 pc = .ok (.land, 1)) (k : gAt l G M w0 res w1 (pc + 1) lv (.long (x &&& y) :: st) ws) : gAt l G M w0 res w1 pc lv (.long y :: .long x :: st) ws := fun p e s m args below meth c A H locs ls hC hP hD hS hl => lv_land hC.1 hC.2.1 hd (k p e s m args below meth c A H locs ls hC hP hD hS hl)
theorem a_lor {l : Launch} {G : gG} {M : gM} {w0 : va_W} {res : Option Value} {w1 : va_W} {pc : Nat} {lv : List (Nat × Value)} {st : List Value} {ws : va_W} {x y : Int64} (hd : decode M.2.1 pc = .ok (.lor, 1)) (k : gAt l G M w0 res w1 (pc + 1) lv (.long (x ||| y) :: st) ws) : gAt l G M w0 res w1 pc lv (.long y :: .long x :: st) ws := fun p e s m args below meth c A H locs ls hC hP hD hS hl => lv_lor hC.1 hC.2.1 hd (k p e s m args below meth c A H locs ls hC hP hD hS hl)
theorem a_lxor {l : Launch} {G : gG} {M : gM} {w0 : va_W} {res : Option Value} {w1 : va_W} {pc : Nat} {lv : List (Nat × Value)} {st : List Value} {ws : va_W} {x y : Int64} (hd : decode M.2.1 pc = .ok (.lxor, 1)) (k : gAt l G M w0 res w1 (pc + 1) lv (.long (x ^^^ y) :: st) ws) : gAt l G M w0 res w1 pc lv (.long y :: .long x :: st) ws := fun p e s m args below meth c A H locs ls hC hP hD hS hl => lv_lxor hC.1 hC.2.1 hd (k p e s m args below meth c A H locs ls hC hP hD hS hl)
theorem a_idiv {l : Launch} {G : gG} {M : gM} {w0 : va_W} {res : Option Value} {w1 : va_W} {pc : Nat} {lv : List (Nat × Value)} {st : List Value} {ws : va_W} {x y : Int32} (hd : decode M.2.1 pc = .ok (.idiv, 1)) (hne : ¬ y = 0) (k : gAt l G M w0 res w1 (pc + 1) lv (.int (x / y) :: st) ws) : gAt l G M w0 res w1 pc lv (.int y :: .int x :: st) ws := fun p e s m args below meth c A H locs ls hC hP hD hS hl => lv_idiv hC.1 hC.2.1 hd hne (k p e s m args below meth c A H locs ls hC hP hD hS hl)
theorem a_irem {l : Launch} {G : gG} {M : gM} {w0 : va_W} {res : Option Value} {w1 : va_W} {pc : Nat} {lv : List (Nat × Value)} {st : List Value} {ws : va_W} {x y : Int32} (hd : decode M.2.1 pc = .ok (.irem, 1)) (hne : ¬ y = 0) (k : gAt l G M w0 res w1 (pc + 1) lv (.int (x - x / y * y) :: st) ws) : gAt l G M w0 res w1 pc lv (.int y :: .int x :: st) ws := fun p e s m args below meth c A H locs ls hC hP hD hS hl => lv_irem hC.1 hC.2.1 hd hne (k p e s m args below meth c A H locs ls hC hP hD hS hl)
theorem a_ldiv {l : Launch} {G : gG} {M : gM} {w0 : va_W} {res : Option Value} {w1 : va_W} {pc : Nat} {lv : List (Nat × Value)} {st : List Value} {ws : va_W} {x y : Int64} (hd : decode M.2.1 pc = .ok (.ldiv, 1)) (hne : ¬ y = 0) (k : gAt l G M w0 res w1 (pc + 1) lv (.long (x / y) :: st) ws) : gAt l G M w0 res w1 pc lv (.long y :: .long x :: st) ws := fun p e s m args below meth c A H locs ls hC hP hD hS hl => lv_ldiv hC.1 hC.2.1 hd hne (k p e s m args below meth c A H locs ls hC hP hD hS hl)
theorem a_lrem {l : Launch} {G : gG} {M : gM} {w0 : va_W} {res : Option Value} {w1 : va_W} {pc : Nat} {lv : List (Nat × Value)} {st : List Value} {ws : va_W} {x y : Int64} (hd : decode M.2.1 pc = .ok (.lrem, 1)) (hne : ¬ y = 0) (k : gAt l G M w0 res w1 (pc + 1) lv (.long (x - x / y * y) :: st) ws) : gAt l G M w0 res w1 pc lv (.long y :: .long x :: st) ws := fun p e s m args below meth c A H locs ls hC hP hD hS hl => lv_lrem hC.1 hC.2.1 hd hne (k p e s m args below meth c A H locs ls hC hP hD hS hl)
theorem a_ineg {l : Launch} {G : gG} {M : gM} {w0 : va_W} {res : Option Value} {w1 : va_W} {pc : Nat} {lv : List (Nat × Value)} {st : List Value} {ws : va_W} {x : Int32} (hd : decode M.2.1 pc = .ok (.ineg, 1)) (k : gAt l G M w0 res w1 (pc + 1) lv (.int (-x) :: st) ws) : gAt l G M w0 res w1 pc lv (.int x :: st) ws := fun p e s m args below meth c A H locs ls hC hP hD hS hl => lv_ineg hC.1 hC.2.1 hd (k p e s m args below meth c A H locs ls hC hP hD hS hl)
theorem a_lneg {l : Launch} {G : gG} {M : gM} {w0 : va_W} {res : Option Value} {w1 : va_W} {pc : Nat} {lv : List (Nat × Value)} {st : List Value} {ws : va_W} {x : Int64} (hd : decode M.2.1 pc = .ok (.lneg, 1)) (k : gAt l G M w0 res w1 (pc + 1) lv (.long (-x) :: st) ws) : gAt l G M w0 res w1 pc lv (.long x :: st) ws := fun p e s m args below meth c A H locs ls hC hP hD hS hl => lv_lneg hC.1 hC.2.1 hd (k p e s m args below meth c A H locs ls hC hP hD hS hl)
theorem a_ishl {l : Launch} {G : gG} {M : gM} {w0 : va_W} {res : Option Value} {w1 : va_W} {pc : Nat} {lv : List (Nat × Value)} {st : List Value} {ws : va_W} {x y : Int32} (hd : decode M.2.1 pc = .ok (.ishl, 1)) (k : gAt l G M w0 res w1 (pc + 1) lv (.int (x <<< (y &&& 31)) :: st) ws) : gAt l G M w0 res w1 pc lv (.int y :: .int x :: st) ws := fun p e s m args below meth c A H locs ls hC hP hD hS hl => lv_ishl hC.1 hC.2.1 hd (k p e s m args below meth c A H locs ls hC hP hD hS hl)
theorem a_ishr {l : Launch} {G : gG} {M : gM} {w0 : va_W} {res : Option Value} {w1 : va_W} {pc : Nat} {lv : List (Nat × Value)} {st : List Value} {ws : va_W} {x y : Int32} (hd : decode M.2.1 pc = .ok (.ishr, 1)) (k : gAt l G M w0 res w1 (pc + 1) lv (.int (x >>> (y &&& 31)) :: st) ws) : gAt l G M w0 res w1 pc lv (.int y :: .int x :: st) ws := fun p e s m args below meth c A H locs ls hC hP hD hS hl => lv_ishr hC.1 hC.2.1 hd (k p e s m args below meth c A H locs ls hC hP hD hS hl)
theorem a_iushr {l : Launch} {G : gG} {M : gM} {w0 : va_W} {res : Option Value} {w1 : va_W} {pc : Nat} {lv : List (Nat × Value)} {st : List Value} {ws : va_W} {x y : Int32} (hd : decode M.2.1 pc = .ok (.iushr, 1)) (k : gAt l G M w0 res w1 (pc + 1) lv (.int ((x.toUInt32 >>> (y.toUInt32 &&& Int32.toUInt32 31)).toInt32) :: st) ws) : gAt l G M w0 res w1 pc lv (.int y :: .int x :: st) ws := fun p e s m args below meth c A H locs ls hC hP hD hS hl => lv_iushr hC.1 hC.2.1 hd rfl (k p e s m args below meth c A H locs ls hC hP hD hS hl)
theorem a_lushr {l : Launch} {G : gG} {M : gM} {w0 : va_W} {res : Option Value} {w1 : va_W} {pc : Nat} {lv : List (Nat × Value)} {st : List Value} {ws : va_W} {x : Int64} {y : Int32} (hd : decode M.2.1 pc = .ok (.lushr, 1)) (k : gAt l G M w0 res w1 (pc + 1) lv (.long ((x.toUInt64 >>> (y.toInt64.toUInt64 &&& Int64.toUInt64 63)).toInt64) :: st) ws) : gAt l G M w0 res w1 pc lv (.int y :: .long x :: st) ws := fun p e s m args below meth c A H locs ls hC hP hD hS hl => lv_lushr hC.1 hC.2.1 hd rfl (k p e s m args below meth c A H locs ls hC hP hD hS hl)
theorem a_lshl {l : Launch} {G : gG} {M : gM} {w0 : va_W} {res : Option Value} {w1 : va_W} {pc : Nat} {lv : List (Nat × Value)} {st : List Value} {ws : va_W} {x : Int64} {y : Int32} (hd : decode M.2.1 pc = .ok (.lshl, 1)) (k : gAt l G M w0 res w1 (pc + 1) lv (.long (x <<< (y.toInt64 &&& 63)) :: st) ws) : gAt l G M w0 res w1 pc lv (.int y :: .long x :: st) ws := fun p e s m args below meth c A H locs ls hC hP hD hS hl => lv_lshl hC.1 hC.2.1 hd rfl (k p e s m args below meth c A H locs ls hC hP hD hS hl)
theorem a_lshr {l : Launch} {G : gG} {M : gM} {w0 : va_W} {res : Option Value} {w1 : va_W} {pc : Nat} {lv : List (Nat × Value)} {st : List Value} {ws : va_W} {x : Int64} {y : Int32} (hd : decode M.2.1 pc = .ok (.lshr, 1)) (k : gAt l G M w0 res w1 (pc + 1) lv (.long (x >>> (y.toInt64 &&& 63)) :: st) ws) : gAt l G M w0 res w1 pc lv (.int y :: .long x :: st) ws := fun p e s m args below meth c A H locs ls hC hP hD hS hl => lv_lshr hC.1 hC.2.1 hd rfl (k p e s m args below meth c A H locs ls hC hP hD hS hl)
theorem a_i2l {l : Launch} {G : gG} {M : gM} {w0 : va_W} {res : Option Value} {w1 : va_W} {pc : Nat} {lv : List (Nat × Value)} {st : List Value} {ws : va_W} {x : Int32} (hd : decode M.2.1 pc = .ok (.i2l, 1)) (k : gAt l G M w0 res w1 (pc + 1) lv (.long (x.toInt64) :: st) ws) : gAt l G M w0 res w1 pc lv (.int x :: st) ws := fun p e s m args below meth c A H locs ls hC hP hD hS hl => lv_i2l hC.1 hC.2.1 hd rfl (k p e s m args below meth c A H locs ls hC hP hD hS hl)
theorem a_l2i {l : Launch} {G : gG} {M : gM} {w0 : va_W} {res : Option Value} {w1 : va_W} {pc : Nat} {lv : List (Nat × Value)} {st : List Value} {ws : va_W} {x : Int64} (hd : decode M.2.1 pc = .ok (.l2i, 1)) (k : gAt l G M w0 res w1 (pc + 1) lv (.int (x.toInt32) :: st) ws) : gAt l G M w0 res w1 pc lv (.long x :: st) ws := fun p e s m args below meth c A H locs ls hC hP hD hS hl => lv_l2i hC.1 hC.2.1 hd rfl (k p e s m args below meth c A H locs ls hC hP hD hS hl)
theorem a_i2c {l : Launch} {G : gG} {M : gM} {w0 : va_W} {res : Option Value} {w1 : va_W} {pc : Nat} {lv : List (Nat × Value)} {st : List Value} {ws : va_W} {x : Int32} (hd : decode M.2.1 pc = .ok (.i2c, 1)) (k : gAt l G M w0 res w1 (pc + 1) lv (.int ((x.toUInt32 % 65536).toInt32) :: st) ws) : gAt l G M w0 res w1 pc lv (.int x :: st) ws := fun p e s m args below meth c A H locs ls hC hP hD hS hl => lv_i2c hC.1 hC.2.1 hd rfl (k p e s m args below meth c A H locs ls hC hP hD hS hl)
theorem a_lcmp {l : Launch} {G : gG} {M : gM} {w0 : va_W} {res : Option Value} {w1 : va_W} {pc : Nat} {lv : List (Nat × Value)} {st : List Value} {ws : va_W} {x y : Int64} (hd : decode M.2.1 pc = .ok (.lcmp, 1)) (k : gAt l G M w0 res w1 (pc + 1) lv (.int (lg_cmp x y) :: st) ws) : gAt l G M w0 res w1 pc lv (.long y :: .long x :: st) ws := fun p e s m args below meth c A H locs ls hC hP hD hS hl => W.lcmp hC.1 hC.2.1 hd (k p e s m args below meth c A H locs ls hC hP hD hS hl)
theorem a_iconst {l : Launch} {G : gG} {M : gM} {w0 : va_W} {res : Option Value} {w1 : va_W} {pc : Nat} {lv : List (Nat × Value)} {st : List Value} {ws : va_W} {n : Int} (v : Int32) (hd : decode M.2.1 pc = .ok (.iconst n, 1)) (hv : Int32.ofInt n = v) (k : gAt l G M w0 res w1 (pc + 1) lv (.int v :: st) ws) : gAt l G M w0 res w1 pc lv st ws := fun p e s m args below meth c A H locs ls hC hP hD hS hl => lv_iconst hC.1 hC.2.1 hd hv (k p e s m args below meth c A H locs ls hC hP hD hS hl)
theorem a_bipush {l : Launch} {G : gG} {M : gM} {w0 : va_W} {res : Option Value} {w1 : va_W} {pc : Nat} {lv : List (Nat × Value)} {st : List Value} {ws : va_W} {n : Int} (v : Int32) (hd : decode M.2.1 pc = .ok (.bipush n, 2)) (hv : (Int8.ofInt n).toInt32 = v) (k : gAt l G M w0 res w1 (pc + 2) lv (.int v :: st) ws) : gAt l G M w0 res w1 pc lv st ws := fun p e s m args below meth c A H locs ls hC hP hD hS hl => lv_bipush hC.1 hC.2.1 hd hv (k p e s m args below meth c A H locs ls hC hP hD hS hl)
theorem a_sipush {l : Launch} {G : gG} {M : gM} {w0 : va_W} {res : Option Value} {w1 : va_W} {pc : Nat} {lv : List (Nat × Value)} {st : List Value} {ws : va_W} {n : Int} (v : Int32) (hd : decode M.2.1 pc = .ok (.sipush n, 3)) (hv : (Int16.ofInt n).toInt32 = v) (k : gAt l G M w0 res w1 (pc + 3) lv (.int v :: st) ws) : gAt l G M w0 res w1 pc lv st ws := fun p e s m args below meth c A H locs ls hC hP hD hS hl => lv_sipush hC.1 hC.2.1 hd hv (k p e s m args below meth c A H locs ls hC hP hD hS hl)
theorem a_lconst {l : Launch} {G : gG} {M : gM} {w0 : va_W} {res : Option Value} {w1 : va_W} {pc : Nat} {lv : List (Nat × Value)} {st : List Value} {ws : va_W} {n : Fin 2} (v : Int64) (hd : decode M.2.1 pc = .ok (.lconst n, 1)) (hv : Int64.ofNat (n : Nat) = v) (k : gAt l G M w0 res w1 (pc + 1) lv (.long v :: st) ws) : gAt l G M w0 res w1 pc lv st ws := fun p e s m args below meth c A H locs ls hC hP hD hS hl => lv_lconst hC.1 hC.2.1 hd hv (k p e s m args below meth c A H locs ls hC hP hD hS hl)
theorem a_ldc {l : Launch} {G : gG} {M : gM} {w0 : va_W} {res : Option Value} {w1 : va_W} {pc : Nat} {lv : List (Nat × Value)} {st : List Value} {ws : va_W} {index : Nat} (v : Int32) (hd : decode M.2.1 pc = .ok (.ldc index, 2)) (hw : Cond.constant M.1.cls index v ∈ g_tbl) (k : gAt l G M w0 res w1 (pc + 2) lv (.int v :: st) ws) : gAt l G M w0 res w1 pc lv st ws := fun p e s m args below meth c A H locs ls hC hP hD hS hl => lv_ldc hC.1 hC.2.1 hC.own (hC.tb _ hw) hd (k p e s m args below meth c A H locs ls hC hP hD hS hl)
theorem a_ldcw {l : Launch} {G : gG} {M : gM} {w0 : va_W} {res : Option Value} {w1 : va_W} {pc : Nat} {lv : List (Nat × Value)} {st : List Value} {ws : va_W} {index : Nat} (v : Int32) (hd : decode M.2.1 pc = .ok (.ldc_w index, 3)) (hw : Cond.constant M.1.cls index v ∈ g_tbl) (k : gAt l G M w0 res w1 (pc + 3) lv (.int v :: st) ws) : gAt l G M w0 res w1 pc lv st ws := fun p e s m args below meth c A H locs ls hC hP hD hS hl => lv_ldcw hC.1 hC.2.1 hC.own (hC.tb _ hw) hd (k p e s m args below meth c A H locs ls hC hP hD hS hl)
theorem a_ldc2 {l : Launch} {G : gG} {M : gM} {w0 : va_W} {res : Option Value} {w1 : va_W} {pc : Nat} {lv : List (Nat × Value)} {st : List Value} {ws : va_W} {index : Nat} (v : Int64) (hd : decode M.2.1 pc = .ok (.ldc2_w index, 3)) (hw : Cond.constantLong M.1.cls index v ∈ g_tbl) (k : gAt l G M w0 res w1 (pc + 3) lv (.long v :: st) ws) : gAt l G M w0 res w1 pc lv st ws := fun p e s m args below meth c A H locs ls hC hP hD hS hl => lv_ldc2 hC.1 hC.2.1 hC.own (hC.tb _ hw) hd (k p e s m args below meth c A H locs ls hC hP hD hS hl)
theorem a_iload_n {l : Launch} {G : gG} {M : gM} {w0 : va_W} {res : Option Value} {w1 : va_W} {pc : Nat} {lv : List (Nat × Value)} {st : List Value} {ws : va_W} {kk : Fin 4} {x : Int32} (j : Nat) (hd : decode M.2.1 pc = .ok (.iload_n kk, 1)) (hj : lv[j]? = some ((kk : Nat), .int x)) (k : gAt l G M w0 res w1 (pc + 1) lv (.int x :: st) ws) : gAt l G M w0 res w1 pc lv st ws := fun p e s m args below meth c A H locs ls hC hP hD hS hl => lv_iload_n hC.1 hC.2.1 hd rfl (lv_at hl j hj) (k p e s m args below meth c A H locs ls hC hP hD hS hl)
theorem a_iload {l : Launch} {G : gG} {M : gM} {w0 : va_W} {res : Option Value} {w1 : va_W} {pc : Nat} {lv : List (Nat × Value)} {st : List Value} {ws : va_W} {i : Nat} {x : Int32} (j : Nat) (hd : decode M.2.1 pc = .ok (.iload i, 2)) (hj : lv[j]? = some (i, .int x)) (k : gAt l G M w0 res w1 (pc + 2) lv (.int x :: st) ws) : gAt l G M w0 res w1 pc lv st ws := fun p e s m args below meth c A H locs ls hC hP hD hS hl => lv_iload hC.1 hC.2.1 hd (lv_at hl j hj) (k p e s m args below meth c A H locs ls hC hP hD hS hl)
theorem a_lload_n {l : Launch} {G : gG} {M : gM} {w0 : va_W} {res : Option Value} {w1 : va_W} {pc : Nat} {lv : List (Nat × Value)} {st : List Value} {ws : va_W} {kk : Fin 4} {x : Int64} (j : Nat) (hd : decode M.2.1 pc = .ok (.lload_n kk, 1)) (hj : lv[j]? = some ((kk : Nat), .long x)) (k : gAt l G M w0 res w1 (pc + 1) lv (.long x :: st) ws) : gAt l G M w0 res w1 pc lv st ws := fun p e s m args below meth c A H locs ls hC hP hD hS hl => lv_lload_n hC.1 hC.2.1 hd rfl (lv_at hl j hj) (k p e s m args below meth c A H locs ls hC hP hD hS hl)
theorem a_lload {l : Launch} {G : gG} {M : gM} {w0 : va_W} {res : Option Value} {w1 : va_W} {pc : Nat} {lv : List (Nat × Value)} {st : List Value} {ws : va_W} {i : Nat} {x : Int64} (j : Nat) (hd : decode M.2.1 pc = .ok (.lload i, 2)) (hj : lv[j]? = some (i, .long x)) (k : gAt l G M w0 res w1 (pc + 2) lv (.long x :: st) ws) : gAt l G M w0 res w1 pc lv st ws := fun p e s m args below meth c A H locs ls hC hP hD hS hl => lv_lload hC.1 hC.2.1 hd (lv_at hl j hj) (k p e s m args below meth c A H locs ls hC hP hD hS hl)
theorem a_aload_n {l : Launch} {G : gG} {M : gM} {w0 : va_W} {res : Option Value} {w1 : va_W} {pc : Nat} {lv : List (Nat × Value)} {st : List Value} {ws : va_W} {kk : Fin 4} {x : Nat} (j : Nat) (hd : decode M.2.1 pc = .ok (.aload_n kk, 1)) (hj : lv[j]? = some ((kk : Nat), .ref x)) (k : gAt l G M w0 res w1 (pc + 1) lv (.ref x :: st) ws) : gAt l G M w0 res w1 pc lv st ws := fun p e s m args below meth c A H locs ls hC hP hD hS hl => lv_aload_n hC.1 hC.2.1 hd rfl (lv_at hl j hj) (k p e s m args below meth c A H locs ls hC hP hD hS hl)
theorem a_aload {l : Launch} {G : gG} {M : gM} {w0 : va_W} {res : Option Value} {w1 : va_W} {pc : Nat} {lv : List (Nat × Value)} {st : List Value} {ws : va_W} {i : Nat} {x : Nat} (j : Nat) (hd : decode M.2.1 pc = .ok (.aload i, 2)) (hj : lv[j]? = some (i, .ref x)) (k : gAt l G M w0 res w1 (pc + 2) lv (.ref x :: st) ws) : gAt l G M w0 res w1 pc lv st ws := fun p e s m args below meth c A H locs ls hC hP hD hS hl => lv_aload hC.1 hC.2.1 hd (lv_at hl j hj) (k p e s m args below meth c A H locs ls hC hP hD hS hl)
theorem a_istore_n {l : Launch} {G : gG} {M : gM} {w0 : va_W} {res : Option Value} {w1 : va_W} {pc : Nat} {lv : List (Nat × Value)} {st : List Value} {ws : va_W} {kk : Fin 4} {i : Nat} {x : Int32} (lv' : List (Nat × Value)) (hd : decode M.2.1 pc = .ok (.istore_n kk, 1)) (hi : (kk : Nat) = i) (hn : i < M.2.2.1) (hq : (i, Value.int x) :: lv.filter (fun q => !(q.1 == i) && !(q.1 + 1 == i && q.2.category == 2)) = lv') (k : gAt l G M w0 res w1 (pc + 1) lv' st ws) : gAt l G M w0 res w1 pc lv (Value.int x :: st) ws := fun p e s m args below meth c A H locs ls hC hP hD hS hl => lv_istore_n hC.1 hC.2.1 hd hi hl hn hq (fun ls hl => k p e s m args below meth c A H locs ls hC hP hD hS hl)
theorem a_istore {l : Launch} {G : gG} {M : gM} {w0 : va_W} {res : Option Value} {w1 : va_W} {pc : Nat} {lv : List (Nat × Value)} {st : List Value} {ws : va_W} {i : Nat} {x : Int32} (lv' : List (Nat × Value)) (hd : decode M.2.1 pc = .ok (.istore i, 2)) (hn : i < M.2.2.1) (hq : (i, Value.int x) :: lv.filter (fun q => !(q.1 == i) && !(q.1 + 1 == i && q.2.category == 2)) = lv') (k : gAt l G M w0 res w1 (pc + 2) lv' st ws) : gAt l G M w0 res w1 pc lv (Value.int x :: st) ws := fun p e s m args below meth c A H locs ls hC hP hD hS hl => lv_istore hC.1 hC.2.1 hd hl hn hq (fun ls hl => k p e s m args below meth c A H locs ls hC hP hD hS hl)
theorem a_lstore_n {l : Launch} {G : gG} {M : gM} {w0 : va_W} {res : Option Value} {w1 : va_W} {pc : Nat} {lv : List (Nat × Value)} {st : List Value} {ws : va_W} {kk : Fin 4} {i : Nat} {x : Int64} (lv' : List (Nat × Value)) (hd : decode M.2.1 pc = .ok (.lstore_n kk, 1)) (hi : (kk : Nat) = i) (hn : i + 1 < M.2.2.1) (hq : (i, Value.long x) :: lv.filter (fun q => !(q.1 == i) && (!(q.1 == i + 1) && !(q.1 + 1 == i && q.2.category == 2))) = lv') (k : gAt l G M w0 res w1 (pc + 1) lv' st ws) : gAt l G M w0 res w1 pc lv (Value.long x :: st) ws := fun p e s m args below meth c A H locs ls hC hP hD hS hl => lv_lstore_n hC.1 hC.2.1 hd hi hl hn hq (fun ls hl => k p e s m args below meth c A H locs ls hC hP hD hS hl)
theorem a_lstore {l : Launch} {G : gG} {M : gM} {w0 : va_W} {res : Option Value} {w1 : va_W} {pc : Nat} {lv : List (Nat × Value)} {st : List Value} {ws : va_W} {i : Nat} {x : Int64} (lv' : List (Nat × Value)) (hd : decode M.2.1 pc = .ok (.lstore i, 2)) (hn : i + 1 < M.2.2.1) (hq : (i, Value.long x) :: lv.filter (fun q => !(q.1 == i) && (!(q.1 == i + 1) && !(q.1 + 1 == i && q.2.category == 2))) = lv') (k : gAt l G M w0 res w1 (pc + 2) lv' st ws) : gAt l G M w0 res w1 pc lv (Value.long x :: st) ws := fun p e s m args below meth c A H locs ls hC hP hD hS hl => lv_lstore hC.1 hC.2.1 hd hl hn hq (fun ls hl => k p e s m args below meth c A H locs ls hC hP hD hS hl)
theorem a_astore_n {l : Launch} {G : gG} {M : gM} {w0 : va_W} {res : Option Value} {w1 : va_W} {pc : Nat} {lv : List (Nat × Value)} {st : List Value} {ws : va_W} {kk : Fin 4} {i : Nat} {x : Nat} (lv' : List (Nat × Value)) (hd : decode M.2.1 pc = .ok (.astore_n kk, 1)) (hi : (kk : Nat) = i) (hn : i < M.2.2.1) (hq : (i, Value.ref x) :: lv.filter (fun q => !(q.1 == i) && !(q.1 + 1 == i && q.2.category == 2)) = lv') (k : gAt l G M w0 res w1 (pc + 1) lv' st ws) : gAt l G M w0 res w1 pc lv (Value.ref x :: st) ws := fun p e s m args below meth c A H locs ls hC hP hD hS hl => lv_astore_n hC.1 hC.2.1 hd hi hl hn hq (fun ls hl => k p e s m args below meth c A H locs ls hC hP hD hS hl)
theorem a_astore {l : Launch} {G : gG} {M : gM} {w0 : va_W} {res : Option Value} {w1 : va_W} {pc : Nat} {lv : List (Nat × Value)} {st : List Value} {ws : va_W} {i : Nat} {x : Nat} (lv' : List (Nat × Value)) (hd : decode M.2.1 pc = .ok (.astore i, 2)) (hn : i < M.2.2.1) (hq : (i, Value.ref x) :: lv.filter (fun q => !(q.1 == i) && !(q.1 + 1 == i && q.2.category == 2)) = lv') (k : gAt l G M w0 res w1 (pc + 2) lv' st ws) : gAt l G M w0 res w1 pc lv (Value.ref x :: st) ws := fun p e s m args below meth c A H locs ls hC hP hD hS hl => lv_astore hC.1 hC.2.1 hd hl hn hq (fun ls hl => k p e s m args below meth c A H locs ls hC hP hD hS hl)
theorem a_iinc {l : Launch} {G : gG} {M : gM} {w0 : va_W} {res : Option Value} {w1 : va_W} {pc : Nat} {lv : List (Nat × Value)} {st : List Value} {ws : va_W} {i : Nat} {n : Int} {x : Int32} (j : Nat) (v : Int32) (lv' : List (Nat × Value)) (hd : decode M.2.1 pc = .ok (.iinc i n, 3)) (hj : lv[j]? = some (i, .int x)) (hv : x + Int32.ofInt n = v) (hn : i < M.2.2.1) (hq : (i, Value.int v) :: lv.filter (fun q => !(q.1 == i) && !(q.1 + 1 == i && q.2.category == 2)) = lv') (k : gAt l G M w0 res w1 (pc + 3) lv' st ws) : gAt l G M w0 res w1 pc lv st ws := fun p e s m args below meth c A H locs ls hC hP hD hS hl => lv_iinc hC.1 hC.2.1 hd hl hj hv hn hq (fun ls hl => k p e s m args below meth c A H locs ls hC hP hD hS hl)
theorem a_dup {l : Launch} {G : gG} {M : gM} {w0 : va_W} {res : Option Value} {w1 : va_W} {pc : Nat} {lv : List (Nat × Value)} {st : List Value} {ws : va_W} {va : Value} (hd : decode M.2.1 pc = .ok (.dup, 1)) (hva : va.category = 1) (k : gAt l G M w0 res w1 (pc + 1) lv (va :: va :: st) ws) : gAt l G M w0 res w1 pc lv (va :: st) ws := fun p e s m args below meth c A H locs ls hC hP hD hS hl => lv_dup hC.1 hC.2.1 hd hva (k p e s m args below meth c A H locs ls hC hP hD hS hl)
theorem a_pop {l : Launch} {G : gG} {M : gM} {w0 : va_W} {res : Option Value} {w1 : va_W} {pc : Nat} {lv : List (Nat × Value)} {st : List Value} {ws : va_W} {va : Value} (hd : decode M.2.1 pc = .ok (.pop, 1)) (hva : va.category = 1) (k : gAt l G M w0 res w1 (pc + 1) lv st ws) : gAt l G M w0 res w1 pc lv (va :: st) ws := fun p e s m args below meth c A H locs ls hC hP hD hS hl => lv_pop hC.1 hC.2.1 hd hva (k p e s m args below meth c A H locs ls hC hP hD hS hl)
theorem a_dup2 {l : Launch} {G : gG} {M : gM} {w0 : va_W} {res : Option Value} {w1 : va_W} {pc : Nat} {lv : List (Nat × Value)} {st : List Value} {ws : va_W} {va vb : Value} (hd : decode M.2.1 pc = .ok (.dup2, 1)) (hva : va.category = 1) (hvb : vb.category = 1) (k : gAt l G M w0 res w1 (pc + 1) lv (va :: vb :: va :: vb :: st) ws) : gAt l G M w0 res w1 pc lv (va :: vb :: st) ws := fun p e s m args below meth c A H locs ls hC hP hD hS hl => lv_dup2_11 hC.1 hC.2.1 hd hva hvb (k p e s m args below meth c A H locs ls hC hP hD hS hl)
theorem a_dup_x1 {l : Launch} {G : gG} {M : gM} {w0 : va_W} {res : Option Value} {w1 : va_W} {pc : Nat} {lv : List (Nat × Value)} {st : List Value} {ws : va_W} {va vb : Value} (hd : decode M.2.1 pc = .ok (.dup_x1, 1)) (hva : va.category = 1) (hvb : vb.category = 1) (k : gAt l G M w0 res w1 (pc + 1) lv (va :: vb :: va :: st) ws) : gAt l G M w0 res w1 pc lv (va :: vb :: st) ws := fun p e s m args below meth c A H locs ls hC hP hD hS hl => lv_dup_x1 hC.1 hC.2.1 hd hva hvb (k p e s m args below meth c A H locs ls hC hP hD hS hl)
theorem a_if_eq {l : Launch} {G : gG} {M : gM} {w0 : va_W} {res : Option Value} {w1 : va_W} {pc : Nat} {lv : List (Nat × Value)} {st : List Value} {ws : va_W} {x : Int32} {off : Int} (tgt : Nat) (hd : decode M.2.1 pc = .ok (.ifCond .eq off, 3)) (ht : (pc : Int) + off = (tgt : Int)) (kt : x = 0 → gAt l G M w0 res w1 tgt lv st ws) (kf : ¬ x = 0 → gAt l G M w0 res w1 (pc + 3) lv st ws) : gAt l G M w0 res w1 pc lv (.int x :: st) ws := fun p e s m args below meth c A H locs ls hC hP hD hS hl => lv_if_eq hC.1 hC.2.1 hd ht (fun hc => kt hc p e s m args below meth c A H locs ls hC hP hD hS hl) (fun hc => kf hc p e s m args below meth c A H locs ls hC hP hD hS hl)
theorem a_icmp_eq {l : Launch} {G : gG} {M : gM} {w0 : va_W} {res : Option Value} {w1 : va_W} {pc : Nat} {lv : List (Nat × Value)} {st : List Value} {ws : va_W} {x y : Int32} {off : Int} (tgt : Nat) (hd : decode M.2.1 pc = .ok (.if_icmp .eq off, 3)) (ht : (pc : Int) + off = (tgt : Int)) (kt : x = y → gAt l G M w0 res w1 tgt lv st ws) (kf : ¬ x = y → gAt l G M w0 res w1 (pc + 3) lv st ws) : gAt l G M w0 res w1 pc lv (.int y :: .int x :: st) ws := fun p e s m args below meth c A H locs ls hC hP hD hS hl => lv_icmp_eq hC.1 hC.2.1 hd ht (fun hc => kt hc p e s m args below meth c A H locs ls hC hP hD hS hl) (fun hc => kf hc p e s m args below meth c A H locs ls hC hP hD hS hl)
theorem a_if_ne {l : Launch} {G : gG} {M : gM} {w0 : va_W} {res : Option Value} {w1 : va_W} {pc : Nat} {lv : List (Nat × Value)} {st : List Value} {ws : va_W} {x : Int32} {off : Int} (tgt : Nat) (hd : decode M.2.1 pc = .ok (.ifCond .ne off, 3)) (ht : (pc : Int) + off = (tgt : Int)) (kt : ¬ x = 0 → gAt l G M w0 res w1 tgt lv st ws) (kf : x = 0 → gAt l G M w0 res w1 (pc + 3) lv st ws) : gAt l G M w0 res w1 pc lv (.int x :: st) ws := fun p e s m args below meth c A H locs ls hC hP hD hS hl => lv_if_ne hC.1 hC.2.1 hd ht (fun hc => kt hc p e s m args below meth c A H locs ls hC hP hD hS hl) (fun hc => kf hc p e s m args below meth c A H locs ls hC hP hD hS hl)
theorem a_icmp_ne {l : Launch} {G : gG} {M : gM} {w0 : va_W} {res : Option Value} {w1 : va_W} {pc : Nat} {lv : List (Nat × Value)} {st : List Value} {ws : va_W} {x y : Int32} {off : Int} (tgt : Nat) (hd : decode M.2.1 pc = .ok (.if_icmp .ne off, 3)) (ht : (pc : Int) + off = (tgt : Int)) (kt : ¬ x = y → gAt l G M w0 res w1 tgt lv st ws) (kf : x = y → gAt l G M w0 res w1 (pc + 3) lv st ws) : gAt l G M w0 res w1 pc lv (.int y :: .int x :: st) ws := fun p e s m args below meth c A H locs ls hC hP hD hS hl => lv_icmp_ne hC.1 hC.2.1 hd ht (fun hc => kt hc p e s m args below meth c A H locs ls hC hP hD hS hl) (fun hc => kf hc p e s m args below meth c A H locs ls hC hP hD hS hl)
theorem a_if_lt {l : Launch} {G : gG} {M : gM} {w0 : va_W} {res : Option Value} {w1 : va_W} {pc : Nat} {lv : List (Nat × Value)} {st : List Value} {ws : va_W} {x : Int32} {off : Int} (tgt : Nat) (hd : decode M.2.1 pc = .ok (.ifCond .lt off, 3)) (ht : (pc : Int) + off = (tgt : Int)) (kt : x < 0 → gAt l G M w0 res w1 tgt lv st ws) (kf : ¬ x < 0 → gAt l G M w0 res w1 (pc + 3) lv st ws) : gAt l G M w0 res w1 pc lv (.int x :: st) ws := fun p e s m args below meth c A H locs ls hC hP hD hS hl => lv_if_lt hC.1 hC.2.1 hd ht (fun hc => kt hc p e s m args below meth c A H locs ls hC hP hD hS hl) (fun hc => kf hc p e s m args below meth c A H locs ls hC hP hD hS hl)
theorem a_icmp_lt {l : Launch} {G : gG} {M : gM} {w0 : va_W} {res : Option Value} {w1 : va_W} {pc : Nat} {lv : List (Nat × Value)} {st : List Value} {ws : va_W} {x y : Int32} {off : Int} (tgt : Nat) (hd : decode M.2.1 pc = .ok (.if_icmp .lt off, 3)) (ht : (pc : Int) + off = (tgt : Int)) (kt : x < y → gAt l G M w0 res w1 tgt lv st ws) (kf : ¬ x < y → gAt l G M w0 res w1 (pc + 3) lv st ws) : gAt l G M w0 res w1 pc lv (.int y :: .int x :: st) ws := fun p e s m args below meth c A H locs ls hC hP hD hS hl => lv_icmp_lt hC.1 hC.2.1 hd ht (fun hc => kt hc p e s m args below meth c A H locs ls hC hP hD hS hl) (fun hc => kf hc p e s m args below meth c A H locs ls hC hP hD hS hl)
theorem a_if_ge {l : Launch} {G : gG} {M : gM} {w0 : va_W} {res : Option Value} {w1 : va_W} {pc : Nat} {lv : List (Nat × Value)} {st : List Value} {ws : va_W} {x : Int32} {off : Int} (tgt : Nat) (hd : decode M.2.1 pc = .ok (.ifCond .ge off, 3)) (ht : (pc : Int) + off = (tgt : Int)) (kt : 0 ≤ x → gAt l G M w0 res w1 tgt lv st ws) (kf : ¬ 0 ≤ x → gAt l G M w0 res w1 (pc + 3) lv st ws) : gAt l G M w0 res w1 pc lv (.int x :: st) ws := fun p e s m args below meth c A H locs ls hC hP hD hS hl => lv_if_ge hC.1 hC.2.1 hd ht (fun hc => kt hc p e s m args below meth c A H locs ls hC hP hD hS hl) (fun hc => kf hc p e s m args below meth c A H locs ls hC hP hD hS hl)
theorem a_icmp_ge {l : Launch} {G : gG} {M : gM} {w0 : va_W} {res : Option Value} {w1 : va_W} {pc : Nat} {lv : List (Nat × Value)} {st : List Value} {ws : va_W} {x y : Int32} {off : Int} (tgt : Nat) (hd : decode M.2.1 pc = .ok (.if_icmp .ge off, 3)) (ht : (pc : Int) + off = (tgt : Int)) (kt : y ≤ x → gAt l G M w0 res w1 tgt lv st ws) (kf : ¬ y ≤ x → gAt l G M w0 res w1 (pc + 3) lv st ws) : gAt l G M w0 res w1 pc lv (.int y :: .int x :: st) ws := fun p e s m args below meth c A H locs ls hC hP hD hS hl => lv_icmp_ge hC.1 hC.2.1 hd ht (fun hc => kt hc p e s m args below meth c A H locs ls hC hP hD hS hl) (fun hc => kf hc p e s m args below meth c A H locs ls hC hP hD hS hl)
theorem a_if_gt {l : Launch} {G : gG} {M : gM} {w0 : va_W} {res : Option Value} {w1 : va_W} {pc : Nat} {lv : List (Nat × Value)} {st : List Value} {ws : va_W} {x : Int32} {off : Int} (tgt : Nat) (hd : decode M.2.1 pc = .ok (.ifCond .gt off, 3)) (ht : (pc : Int) + off = (tgt : Int)) (kt : 0 < x → gAt l G M w0 res w1 tgt lv st ws) (kf : ¬ 0 < x → gAt l G M w0 res w1 (pc + 3) lv st ws) : gAt l G M w0 res w1 pc lv (.int x :: st) ws := fun p e s m args below meth c A H locs ls hC hP hD hS hl => lv_if_gt hC.1 hC.2.1 hd ht (fun hc => kt hc p e s m args below meth c A H locs ls hC hP hD hS hl) (fun hc => kf hc p e s m args below meth c A H locs ls hC hP hD hS hl)
theorem a_icmp_gt {l : Launch} {G : gG} {M : gM} {w0 : va_W} {res : Option Value} {w1 : va_W} {pc : Nat} {lv : List (Nat × Value)} {st : List Value} {ws : va_W} {x y : Int32} {off : Int} (tgt : Nat) (hd : decode M.2.1 pc = .ok (.if_icmp .gt off, 3)) (ht : (pc : Int) + off = (tgt : Int)) (kt : y < x → gAt l G M w0 res w1 tgt lv st ws) (kf : ¬ y < x → gAt l G M w0 res w1 (pc + 3) lv st ws) : gAt l G M w0 res w1 pc lv (.int y :: .int x :: st) ws := fun p e s m args below meth c A H locs ls hC hP hD hS hl => lv_icmp_gt hC.1 hC.2.1 hd ht (fun hc => kt hc p e s m args below meth c A H locs ls hC hP hD hS hl) (fun hc => kf hc p e s m args below meth c A H locs ls hC hP hD hS hl)
theorem a_if_le {l : Launch} {G : gG} {M : gM} {w0 : va_W} {res : Option Value} {w1 : va_W} {pc : Nat} {lv : List (Nat × Value)} {st : List Value} {ws : va_W} {x : Int32} {off : Int} (tgt : Nat) (hd : decode M.2.1 pc = .ok (.ifCond .le off, 3)) (ht : (pc : Int) + off = (tgt : Int)) (kt : x ≤ 0 → gAt l G M w0 res w1 tgt lv st ws) (kf : ¬ x ≤ 0 → gAt l G M w0 res w1 (pc + 3) lv st ws) : gAt l G M w0 res w1 pc lv (.int x :: st) ws := fun p e s m args below meth c A H locs ls hC hP hD hS hl => lv_if_le hC.1 hC.2.1 hd ht (fun hc => kt hc p e s m args below meth c A H locs ls hC hP hD hS hl) (fun hc => kf hc p e s m args below meth c A H locs ls hC hP hD hS hl)
theorem a_icmp_le {l : Launch} {G : gG} {M : gM} {w0 : va_W} {res : Option Value} {w1 : va_W} {pc : Nat} {lv : List (Nat × Value)} {st : List Value} {ws : va_W} {x y : Int32} {off : Int} (tgt : Nat) (hd : decode M.2.1 pc = .ok (.if_icmp .le off, 3)) (ht : (pc : Int) + off = (tgt : Int)) (kt : x ≤ y → gAt l G M w0 res w1 tgt lv st ws) (kf : ¬ x ≤ y → gAt l G M w0 res w1 (pc + 3) lv st ws) : gAt l G M w0 res w1 pc lv (.int y :: .int x :: st) ws := fun p e s m args below meth c A H locs ls hC hP hD hS hl => lv_icmp_le hC.1 hC.2.1 hd ht (fun hc => kt hc p e s m args below meth c A H locs ls hC hP hD hS hl) (fun hc => kf hc p e s m args below meth c A H locs ls hC hP hD hS hl)
theorem a_goto {l : Launch} {G : gG} {M : gM} {w0 : va_W} {res : Option Value} {w1 : va_W} {pc : Nat} {lv : List (Nat × Value)} {st : List Value} {ws : va_W} {off : Int} (tgt : Nat) (hd : decode M.2.1 pc = .ok (.goto off, 3)) (ht : (pc : Int) + off = (tgt : Int)) (k : gAt l G M w0 res w1 tgt lv st ws) : gAt l G M w0 res w1 pc lv st ws := fun p e s m args below meth c A H locs ls hC hP hD hS hl => lv_goto hC.1 hC.2.1 hd ht (k p e s m args below meth c A H locs ls hC hP hD hS hl)
theorem a_lv {l : Launch} {G : gG} {M : gM} {w0 : va_W} {res : Option Value} {w1 : va_W} {pc : Nat} {lv : List (Nat × Value)} {st : List Value} {ws : va_W} (lv' : List (Nat × Value)) (ks : List Nat) (hq : lv_pick lv ks = lv') (k : gAt l G M w0 res w1 pc lv' st ws) : gAt l G M w0 res w1 pc lv st ws := fun p e s m args below meth c A H locs ls hC hP hD hS hl => k p e s m args below meth c A H locs ls hC hP hD hS (lv_sub hl ks hq)
theorem a_eq {l : Launch} {G : gG} {M : gM} {w0 : va_W} {res : Option Value} {w1 : va_W} {pc : Nat} {lv : List (Nat × Value)} {st : List Value} {ws : va_W} {lv' : List (Nat × Value)} {st' : List Value} {ws' : va_W} (h1 : lv = lv') (h2 : st = st') (h3 : ws = ws') (k : gAt l G M w0 res w1 pc lv' st' ws') : gAt l G M w0 res w1 pc lv st ws := by subst h1; subst h2; subst h3; exact k
theorem a_get {l : Launch} {G : gG} {M : gM} {w0 : va_W} {res : Option Value} {w1 : va_W} {pc : Nat} {lv : List (Nat × Value)} {st : List Value} {ws : va_W} {T : u_T} {N ci index a kx : Nat} {C : String} {fs : List Value} {v : Value} (q0 : Nat) (hd : decode M.2.1 pc = .ok (.getfield index, 3)) (hc : vwCl[ci]? = some (C, T, N)) (hin : ∀ w ∈ u_ws C T N, w ∈ g_tbl) (hlk : Cond.fieldLink M.1.cls index (T kx).1 (T kx).2.1 (T kx).2.2.1 ∈ g_tbl) (he : ws[q0]? = some (a, .inr (ci, fs))) (hk : kx < N) (hv : fs[kx]? = some v) (k : gAt l G M w0 res w1 (pc + 3) lv (v :: st) ws) : gAt l G M w0 res w1 pc lv (.ref a :: st) ws := fun p e s m args below meth c A H locs ls hC hP hD hS hl => va_get (D := G.1) hC.1 hC.2.1 hC.tb hin hC.own hC.kk hP q0 he hc kx hk (hC.tb _ hlk) (fun _ h => h) hv hd (k p e s m args below meth c A H locs ls hC hP hD hS hl)
theorem a_getN {l : Launch} {G : gG} {M : gM} {w0 : va_W} {res : Option Value} {w1 : va_W} {pc : Nat} {lv : List (Nat × Value)} {st : List Value} {ws : va_W} {T : u_T} {N ci index a kx : Nat} {C host : String} {fs : List Value} {v : Value} (q0 : Nat) (hd : decode M.2.1 pc = .ok (.getfield index, 3)) (hc : vwCl[ci]? = some (C, T, N)) (hin : ∀ w ∈ u_ws C T N, w ∈ g_tbl) (hlk : (M.1.cls, index, (T kx).1, (T kx).2.1, (T kx).2.2.1, host) ∈ g_nf) (he : ws[q0]? = some (a, .inr (ci, fs))) (hk : kx < N) (hv : fs[kx]? = some v) (k : gAt l G M w0 res w1 (pc + 3) lv (v :: st) ws) : gAt l G M w0 res w1 pc lv (.ref a :: st) ws := fun p e s m args below meth c A H locs ls hC hP hD hS hl => va_getN (D := G.1) hC.1 hC.2.1 hC.tb hin hC.own hC.kk hP q0 he hc kx hk (va_Nw.use rfl (hC.zz.nf _ hlk)) (fun _ h => h) hv hd (k p e s m args below meth c A H locs ls hC hP hD hS hl)
theorem a_put {l : Launch} {G : gG} {M : gM} {w0 : va_W} {res : Option Value} {w1 : va_W} {pc : Nat} {lv : List (Nat × Value)} {st : List Value} {ws : va_W} {T : u_T} {N ci index a kx : Nat} {C : String} {fs : List Value} {v : Value} (ty0 : Nat → FieldType) (q0 : Nat) (ws' : va_W) (hd : decode M.2.1 pc = .ok (.putfield index, 3)) (hc : vwCl[ci]? = some (C, T, N)) (hin : ∀ w ∈ u_ws C T N, w ∈ g_tbl) (hty : ∀ k, k < N → parseFieldDescriptor (T k).2.2.1 = some (ty0 k)) (hnm : ∀ a, a < N → ∀ b, b < N → a ≠ b → (T a).2.1 ≠ (T b).2.1) (hlk : Cond.fieldLink M.1.cls index (T kx).1 (T kx).2.1 (T kx).2.2.1 ∈ g_tbl) (he : ws[q0]? = some (a, .inr (ci, fs))) (hk : kx < N) (hfin : (T kx).2.2.2 = false) (hn : narrow (ty0 kx) v = v) (hfit : fits (ty0 kx) v = true) (hlen : kx < fs.length) (hw : ws.set q0 (a, .inr (ci, fs.set kx v)) = ws') (k : gAt l G M w0 res w1 (pc + 3) lv st ws') : gAt l G M w0 res w1 pc lv (v :: .ref a :: st) ws := fun p e s m args below meth c A H locs ls hC hP hD hS hl => va_put (D := G.1) hC.1 hC.2.1 hC.tb hin ty0 hty hnm hC.own hC.kk hP hD hS q0 he hc kx hk (hC.tb _ hlk) (fun _ h => h) hfin (hty kx hk) hn hfit hlen hd (fun H locs hP hD hS => k p e s m args below meth c A H locs ls hC (hw ▸ hP) (hw ▸ hD) hS hl)
theorem a_putN {l : Launch} {G : gG} {M : gM} {w0 : va_W} {res : Option Value} {w1 : va_W} {pc : Nat} {lv : List (Nat × Value)} {st : List Value} {ws : va_W} {T : u_T} {N ci index a kx : Nat} {C host : String} {fs : List Value} {v : Value} (ty0 : Nat → FieldType) (q0 : Nat) (ws' : va_W) (hd : decode M.2.1 pc = .ok (.putfield index, 3)) (hc : vwCl[ci]? = some (C, T, N)) (hin : ∀ w ∈ u_ws C T N, w ∈ g_tbl) (hty : ∀ k, k < N → parseFieldDescriptor (T k).2.2.1 = some (ty0 k)) (hnm : ∀ a, a < N → ∀ b, b < N → a ≠ b → (T a).2.1 ≠ (T b).2.1) (hlk : (M.1.cls, index, (T kx).1, (T kx).2.1, (T kx).2.2.1, host) ∈ g_nf) (he : ws[q0]? = some (a, .inr (ci, fs))) (hk : kx < N) (hfin : (T kx).2.2.2 = false) (hn : narrow (ty0 kx) v = v) (hfit : fits (ty0 kx) v = true) (hlen : kx < fs.length) (hw : ws.set q0 (a, .inr (ci, fs.set kx v)) = ws') (k : gAt l G M w0 res w1 (pc + 3) lv st ws') : gAt l G M w0 res w1 pc lv (v :: .ref a :: st) ws := fun p e s m args below meth c A H locs ls hC hP hD hS hl => va_putN (D := G.1) hC.1 hC.2.1 hC.tb hin ty0 hty hnm hC.own hC.kk hP hD hS q0 he hc kx hk (va_Nw.use rfl (hC.zz.nf _ hlk)) (fun _ h => h) hfin (hty kx hk) hn hfit hlen hd (fun H locs hP hD hS => k p e s m args below meth c A H locs ls hC (hw ▸ hP) (hw ▸ hD) hS hl)
theorem a_cald {l : Launch} {G : gG} {M : gM} {w0 : va_W} {res : Option Value} {w1 : va_W} {pc : Nat} {lv : List (Nat × Value)} {st : List Value} {ws : va_W} {n a : Nat} {f : Nat → Int32} {i : Int32} (q0 : Nat) (hd : decode M.2.1 pc = .ok (.caload, 1)) (he : ws[q0]? = some (a, .inl (G.2.1, n, .inl f))) (hin : vp_in i n) (k : gAt l G M w0 res w1 (pc + 1) lv (.int (f i.toNatClampNeg) :: st) ws) : gAt l G M w0 res w1 pc lv (.int i :: .ref a :: st) ws := fun p e s m args below meth c A H locs ls hC hP hD hS hl => va_cald (D := G.1) hC.1 hC.2.1 hC.kk hP q0 0 he rfl hin hd (k p e s m args below meth c A H locs ls hC hP hD hS hl)
theorem a_iald {l : Launch} {G : gG} {M : gM} {w0 : va_W} {res : Option Value} {w1 : va_W} {pc : Nat} {lv : List (Nat × Value)} {st : List Value} {ws : va_W} {n a : Nat} {f : Nat → Int32} {i : Int32} (q0 : Nat) (hd : decode M.2.1 pc = .ok (.iaload, 1)) (he : ws[q0]? = some (a, .inl (G.2.2.1, n, .inl f))) (hin : vp_in i n) (k : gAt l G M w0 res w1 (pc + 1) lv (.int (f i.toNatClampNeg) :: st) ws) : gAt l G M w0 res w1 pc lv (.int i :: .ref a :: st) ws := fun p e s m args below meth c A H locs ls hC hP hD hS hl => va_iald (D := G.1) hC.1 hC.2.1 hC.kk hP q0 1 he rfl hin hd (k p e s m args below meth c A H locs ls hC hP hD hS hl)
theorem a_cast {l : Launch} {G : gG} {M : gM} {w0 : va_W} {res : Option Value} {w1 : va_W} {pc : Nat} {lv : List (Nat × Value)} {st : List Value} {ws : va_W} {n a : Nat} {f : Nat → Int32} {i x : Int32} (q0 : Nat) (ws' : va_W) (hd : decode M.2.1 pc = .ok (.castore, 1)) (he : ws[q0]? = some (a, .inl (G.2.1, n, .inl f))) (hin : vp_in i n) (hw : ws.set q0 (a, .inl (G.2.1, n, .inl (upd f i.toNatClampNeg (vp_nar .char x)))) = ws') (k : gAt l G M w0 res w1 (pc + 1) lv st ws') : gAt l G M w0 res w1 pc lv (.int x :: .int i :: .ref a :: st) ws := fun p e s m args below meth c A H locs ls hC hP hD hS hl => va_cast (D := G.1) hC.1 hC.2.1 hC.kk hP hD hS q0 0 he rfl hin hd (fun H locs hP hD hS => k p e s m args below meth c A H locs ls hC (hw ▸ hP) (hw ▸ hD) hS hl)
theorem a_iast {l : Launch} {G : gG} {M : gM} {w0 : va_W} {res : Option Value} {w1 : va_W} {pc : Nat} {lv : List (Nat × Value)} {st : List Value} {ws : va_W} {n a : Nat} {f : Nat → Int32} {i x : Int32} (q0 : Nat) (ws' : va_W) (hd : decode M.2.1 pc = .ok (.iastore, 1)) (he : ws[q0]? = some (a, .inl (G.2.2.1, n, .inl f))) (hin : vp_in i n) (hw : ws.set q0 (a, .inl (G.2.2.1, n, .inl (upd f i.toNatClampNeg x))) = ws') (k : gAt l G M w0 res w1 (pc + 1) lv st ws') : gAt l G M w0 res w1 pc lv (.int x :: .int i :: .ref a :: st) ws := fun p e s m args below meth c A H locs ls hC hP hD hS hl => va_iast (D := G.1) hC.1 hC.2.1 hC.kk hP hD hS q0 1 he rfl hin hd (fun H locs hP hD hS => k p e s m args below meth c A H locs ls hC (hw ▸ hP) (hw ▸ hD) hS hl)
theorem a_last {l : Launch} {G : gG} {M : gM} {w0 : va_W} {res : Option Value} {w1 : va_W} {pc : Nat} {lv : List (Nat × Value)} {st : List Value} {ws : va_W} {n a : Nat} {f : Nat → Int64} {i : Int32} {x : Int64} (q0 : Nat) (ws' : va_W) (hd : decode M.2.1 pc = .ok (.lastore, 1)) (he : ws[q0]? = some (a, .inl (G.2.2.2.1, n, .inr (.inl f)))) (hin : vp_in i n) (hw : ws.set q0 (a, .inl (G.2.2.2.1, n, .inr (.inl (vp_updL f i.toNatClampNeg x)))) = ws') (k : gAt l G M w0 res w1 (pc + 1) lv st ws') : gAt l G M w0 res w1 pc lv (.long x :: .int i :: .ref a :: st) ws := fun p e s m args below meth c A H locs ls hC hP hD hS hl => va_last (D := G.1) hC.1 hC.2.1 hC.kk hP hD hS q0 2 he rfl hin hd (fun H locs hP hD hS => k p e s m args below meth c A H locs ls hC (hw ▸ hP) (hw ▸ hD) hS hl)
theorem a_clen {l : Launch} {G : gG} {M : gM} {w0 : va_W} {res : Option Value} {w1 : va_W} {pc : Nat} {lv : List (Nat × Value)} {st : List Value} {ws : va_W} {n a : Nat} {f : Nat → Int32} (q0 : Nat) (v : Int32) (hd : decode M.2.1 pc = .ok (.arraylength, 1)) (he : ws[q0]? = some (a, .inl (G.2.1, n, .inl f))) (hv : Int32.ofNat n = v) (k : gAt l G M w0 res w1 (pc + 1) lv (.int v :: st) ws) : gAt l G M w0 res w1 pc lv (.ref a :: st) ws := fun p e s m args below meth c A H locs ls hC hP hD hS hl => va_alen (D := G.1) hC.1 hC.2.1 hC.kk hP q0 0 he rfl hv hd (k p e s m args below meth c A H locs ls hC hP hD hS hl)
theorem a_ilen {l : Launch} {G : gG} {M : gM} {w0 : va_W} {res : Option Value} {w1 : va_W} {pc : Nat} {lv : List (Nat × Value)} {st : List Value} {ws : va_W} {n a : Nat} {f : Nat → Int32} (q0 : Nat) (v : Int32) (hd : decode M.2.1 pc = .ok (.arraylength, 1)) (he : ws[q0]? = some (a, .inl (G.2.2.1, n, .inl f))) (hv : Int32.ofNat n = v) (k : gAt l G M w0 res w1 (pc + 1) lv (.int v :: st) ws) : gAt l G M w0 res w1 pc lv (.ref a :: st) ws := fun p e s m args below meth c A H locs ls hC hP hD hS hl => va_alen (D := G.1) hC.1 hC.2.1 hC.kk hP q0 1 he rfl hv hd (k p e s m args below meth c A H locs ls hC hP hD hS hl)
theorem a_iret {l : Launch} {G : gG} {M : gM} {w0 : va_W} {res : Option Value} {w1 : va_W} {pc : Nat} {lv : List (Nat × Value)} {st : List Value} {ws : va_W} {v : Int32} (hd : decode M.2.1 pc = .ok (.ireturn, 1)) (hr : M.2.2.2.1 = some .int) (hres : res = some (.int v)) (hw : ws = w1) : gAt l G M w0 res w1 pc lv [.int v] ws := fun p e s m args below meth c A H locs ls hC hP hD hS hl => W.iret hC.1 hC.2.1 (hC.ret.trans hr) (fun t ht hW => ⟨by rw [hres], by rw [ht, ← hw]; exact hP, va_K.moved hW.alike hC.kk, by rw [← hw]; exact hD, hS.F ht⟩) hS.2.2 hd hC.nl
theorem a_zret {l : Launch} {G : gG} {M : gM} {w0 : va_W} {res : Option Value} {w1 : va_W} {pc : Nat} {lv : List (Nat × Value)} {st : List Value} {ws : va_W} {v : Int32} {ty : FieldType} (hd : decode M.2.1 pc = .ok (.ireturn, 1)) (hr : M.2.2.2.1 = some ty) (hn : narrow ty (.int v) = .int v) (hres : res = some (.int v)) (hw : ws = w1) : gAt l G M w0 res w1 pc lv [.int v] ws := fun p e s m args below meth c A H locs ls hC hP hD hS hl => W.zret hC.1 hC.2.1 (hC.ret.trans hr) hn (fun t ht hW => ⟨by rw [hres], by rw [ht, ← hw]; exact hP, va_K.moved hW.alike hC.kk, by rw [← hw]; exact hD, hS.F ht⟩) hS.2.2 hd hC.nl
theorem a_lret {l : Launch} {G : gG} {M : gM} {w0 : va_W} {res : Option Value} {w1 : va_W} {pc : Nat} {lv : List (Nat × Value)} {st : List Value} {ws : va_W} {v : Int64} (hd : decode M.2.1 pc = .ok (.lreturn, 1)) (hr : M.2.2.2.1 = some .long) (hres : res = some (.long v)) (hw : ws = w1) : gAt l G M w0 res w1 pc lv [.long v] ws := fun p e s m args below meth c A H locs ls hC hP hD hS hl => W.lret hC.1 hC.2.1 (hC.ret.trans hr) (fun t ht hW => ⟨by rw [hres], by rw [ht, ← hw]; exact hP, va_K.moved hW.alike hC.kk, by rw [← hw]; exact hD, hS.F ht⟩) hS.2.2 hd hC.nl
theorem a_vret {l : Launch} {G : gG} {M : gM} {w0 : va_W} {res : Option Value} {w1 : va_W} {pc : Nat} {lv : List (Nat × Value)} {st : List Value} {ws : va_W}  (hd : decode M.2.1 pc = .ok (.return_, 1)) (hr : M.2.2.2.1 = none) (hres : res = none) (hw : ws = w1) : gAt l G M w0 res w1 pc lv [] ws := fun p e s m args below meth c A H locs ls hC hP hD hS hl => W.vret hC.1 hC.2.1 (hC.ret.trans hr) (fun t ht hW => ⟨by rw [hres], by rw [ht, ← hw]; exact hP, va_K.moved hW.alike hC.kk, by rw [← hw]; exact hD, hS.F ht⟩) hS.2.2 hd hC.nl
theorem a_mmin {l : Launch} {G : gG} {M : gM} {w0 : va_W} {res : Option Value} {w1 : va_W} {pc : Nat} {lv : List (Nat × Value)} {st : List Value} {ws : va_W} {index : Nat} {x y : Int32} (hd : decode M.2.1 pc = .ok (.invokestatic index, 3)) (h1 : Cond.methodLink M.1.cls index Lib.Math.min.name ∈ g_tbl) (h2 : Cond.static Lib.Math.min.name ∈ g_tbl) (h3 : Cond.initialized "java/lang/Math" ∈ g_tbl) (h4 : Cond.code Lib.Math.min.name Lib.Math.min.code 2 (some .int) ∈ g_tbl) (hf : 1 ≤ M.2.2.2.2.frames) (hlo : (st.map fun v => v.category).sum + 13 ≤ M.2.2.2.2.locals) (k : gAt l G M w0 res w1 (pc + 3) lv (.int (if y < x then y else x) :: st) ws) : gAt l G M w0 res w1 pc lv (.int y :: .int x :: st) ws := fun p e s m args below meth c A H locs ls hC hP hD hS hl => va_mmin hC.1 hC.2.1 (hC.ml.trans hl.1.symm) hC.own (hC.tb _ h1) (hC.tb _ h2) (hC.tb _ h3) (hC.tb _ h4) hf hlo (Nat.zero_le _) (Nat.zero_le _) hd (k p e s m args below meth c A H locs ls hC hP hD hS hl)
theorem a_mmax {l : Launch} {G : gG} {M : gM} {w0 : va_W} {res : Option Value} {w1 : va_W} {pc : Nat} {lv : List (Nat × Value)} {st : List Value} {ws : va_W} {index : Nat} {x y : Int32} (hd : decode M.2.1 pc = .ok (.invokestatic index, 3)) (h1 : Cond.methodLink M.1.cls index Lib.Math.max.name ∈ g_tbl) (h2 : Cond.static Lib.Math.max.name ∈ g_tbl) (h3 : Cond.initialized "java/lang/Math" ∈ g_tbl) (h4 : Cond.code Lib.Math.max.name Lib.Math.max.code 2 (some .int) ∈ g_tbl) (hf : 1 ≤ M.2.2.2.2.frames) (hlo : (st.map fun v => v.category).sum + 13 ≤ M.2.2.2.2.locals) (k : gAt l G M w0 res w1 (pc + 3) lv (.int (if x < y then y else x) :: st) ws) : gAt l G M w0 res w1 pc lv (.int y :: .int x :: st) ws := fun p e s m args below meth c A H locs ls hC hP hD hS hl => va_mmax hC.1 hC.2.1 (hC.ml.trans hl.1.symm) hC.own (hC.tb _ h1) (hC.tb _ h2) (hC.tb _ h3) (hC.tb _ h4) hf hlo (Nat.zero_le _) (Nat.zero_le _) hd (k p e s m args below meth c A H locs ls hC hP hD hS hl)
theorem a_getE {l : Launch} {G : gG} {M : gM} {w0 : va_W} {res : Option Value} {w1 : va_W} {pc : Nat} {lv : List (Nat × Value)} {st : List Value} {ws : va_W} {index i : Nat} {q : String × String × String × List Int32} (hd : decode M.2.1 pc = .ok (.getfield index, 3)) (hq : q ∈ g_F) (hi : i < 2) (hlk : Cond.fieldLink M.1.cls index q.1 q.2.1 q.2.2.1 ∈ g_tbl) (k : gAt l G M w0 res w1 (pc + 3) lv (.int (q.2.2.2.getD i 0) :: st) ws) : gAt l G M w0 res w1 pc lv (.ref (g_adE G i) :: st) ws := fun p e s m args below meth c A H locs ls hC hP hD hS hl => va_getE hC.1 hC.2.1 hC.zz.2.2.1 hi hS hC.own hq (hC.tb _ hlk) (fun _ h => h) hd (k p e s m args below meth c A H locs ls hC hP hD hS hl)
theorem a_getEN {l : Launch} {G : gG} {M : gM} {w0 : va_W} {res : Option Value} {w1 : va_W} {pc : Nat} {lv : List (Nat × Value)} {st : List Value} {ws : va_W} {index i : Nat} {host : String} {q : String × String × String × List Int32} (hd : decode M.2.1 pc = .ok (.getfield index, 3)) (hq : q ∈ g_F) (hi : i < 2) (hlk : (M.1.cls, index, q.1, q.2.1, q.2.2.1, host) ∈ g_nf) (k : gAt l G M w0 res w1 (pc + 3) lv (.int (q.2.2.2.getD i 0) :: st) ws) : gAt l G M w0 res w1 pc lv (.ref (g_adE G i) :: st) ws := by
  intro p e s m args below meth c A H locs ls hC hP hD hS hl
  obtain ⟨cf, kf, fi, f, cell, h1, h2, h3, h4, h5, h6⟩ := ((hC.zz.2.2.1.1 i hi).2.2 q hq).kept hS.2.1
  exact va_Wgetf hC.1 hC.2.1 hC.own (va_Nw.use rfl (hC.zz.nf _ hlk)) h1 h2 h3 h4 h5 (g := F0 m pc ls (.ref (g_adE G i) :: st)) rfl rfl hd (k p e s m args below meth c A H locs ls hC hP hD hS hl)
theorem a_getsE {l : Launch} {G : gG} {M : gM} {w0 : va_W} {res : Option Value} {w1 : va_W} {pc : Nat} {lv : List (Nat × Value)} {st : List Value} {ws : va_W} {index i : Nat} (hd : decode M.2.1 pc = .ok (.getstatic index, 3)) (hi : i < 2) (hlk : Cond.fieldLink M.1.cls index "ExactReader$Format" (g_nm2.getD i "") "LExactReader$Format;" ∈ g_tbl) (k : gAt l G M w0 res w1 (pc + 3) lv (.ref (g_adE G i) :: st) ws) : gAt l G M w0 res w1 pc lv st ws := fun p e s m args below meth c A H locs ls hC hP hD hS hl => va_gets hC.1 hC.2.1 (hC.zz.2.2.1.1 i hi).1 hS hC.own (hC.tb _ hlk) (fun _ h => h) hd (k p e s m args below meth c A H locs ls hC hP hD hS hl)
theorem a_gets5 {l : Launch} {G : gG} {M : gM} {w0 : va_W} {res : Option Value} {w1 : va_W} {pc : Nat} {lv : List (Nat × Value)} {st : List Value} {ws : va_W} {index : Nat} (hd : decode M.2.1 pc = .ok (.getstatic index, 3)) (hlk : Cond.fieldLink M.1.cls index "ExactReader$Natural" "FIVES" "[I" ∈ g_tbl) (k : gAt l G M w0 res w1 (pc + 3) lv (.ref (g_t5 G) :: st) ws) : gAt l G M w0 res w1 pc lv st ws := fun p e s m args below meth c A H locs ls hC hP hD hS hl => va_gets hC.1 hC.2.1 hC.zz.2.2.2.1 hS hC.own (hC.tb _ hlk) (fun _ h => h) hd (k p e s m args below meth c A H locs ls hC hP hD hS hl)
theorem a_t5 {l : Launch} {G : gG} {M : gM} {w0 : va_W} {res : Option Value} {w1 : va_W} {pc : Nat} {lv : List (Nat × Value)} {st : List Value} {ws : va_W} {i : Int32} (hd : decode M.2.1 pc = .ok (.iaload, 1)) (hin : vp_in i 14) (k : gAt l G M w0 res w1 (pc + 1) lv (.int (g_five i.toNatClampNeg) :: st) ws) : gAt l G M w0 res w1 pc lv (.int i :: .ref (g_t5 G) :: st) ws := fun p e s m args below meth c A H locs ls hC hP hD hS hl => va_ti hC.1 hC.2.1 hC.zz.2.2.2.2.1 hS hin rfl hd (k p e s m args below meth c A H locs ls hC hP hD hS hl)
theorem a_t5len {l : Launch} {G : gG} {M : gM} {w0 : va_W} {res : Option Value} {w1 : va_W} {pc : Nat} {lv : List (Nat × Value)} {st : List Value} {ws : va_W} (v : Int32) (hd : decode M.2.1 pc = .ok (.arraylength, 1)) (hv : Int32.ofNat 14 = v) (k : gAt l G M w0 res w1 (pc + 1) lv (.int v :: st) ws) : gAt l G M w0 res w1 pc lv (.ref (g_t5 G) :: st) ws := fun p e s m args below meth c A H locs ls hC hP hD hS hl => va_tlen hC.1 hC.2.1 hC.zz.2.2.2.2.1 hS hv hd (k p e s m args below meth c A H locs ls hC hP hD hS hl)
theorem a_ldcS {l : Launch} {G : gG} {M : gM} {w0 : va_W} {res : Option Value} {w1 : va_W} {pc : Nat} {lv : List (Nat × Value)} {st : List Value} {ws : va_W} {index i : Nat} {tx : String} (hd : decode M.2.1 pc = .ok (.ldc index, 2)) (hlk : (M.1.cls, index, tx, i) ∈ g_sr) (k : gAt l G M w0 res w1 (pc + 2) lv (.ref (g_adK G i) :: st) ws) : gAt l G M w0 res w1 pc lv st ws := fun p e s m args below meth c A H locs ls hC hP hD hS hl => va_ldcS hC.1 hC.2.1 hC.own (hC.zz.2.2.2.2.2.2.1 _ hlk) hd (k p e s m args below meth c A H locs ls hC hP hD hS hl)
abbrev oMs (a : Nat) (f0 : Nat) : Nat × va_E := (a, .inr (0, [.ref f0]))
abbrev oNa (a : Nat) (f0 : Nat) (f1 : Int32) (f2 : Int32) (f3 : Int32) : Nat × va_E := (a, .inr (1, [.ref f0, .int f1, .int f2, .int f3]))
abbrev oNt (a : Nat) (f0 : Nat) (f1 : Int32) (f2 : Int32) (f3 : Int32) (f4 : Int32) (f5 : Int32) (f6 : Int32) (f7 : Int32) (f8 : Int32) (f9 : Int32) (f10 : Int32) (f11 : Int32) (f12 : Int32) : Nat × va_E := (a, .inr (2, [.ref f0, .int f1, .int f2, .int f3, .int f4, .int f5, .int f6, .int f7, .int f8, .int f9, .int f10, .int f11, .int f12]))
abbrev oRo (a : Nat) (f0 : Int64) (f1 : Int32) (f2 : Int32) (f3 : Int32) : Nat × va_E := (a, .inr (3, [.long f0, .int f1, .int f2, .int f3]))
abbrev oSi (a : Nat) (f0 : Int64) (f1 : Int32) (f2 : Int32) : Nat × va_E := (a, .inr (4, [.long f0, .int f1, .int f2]))
abbrev oEr (a : Nat) (f0 : Nat) (f1 : Nat) (f2 : Nat) (f3 : Nat) (f4 : Nat) : Nat × va_E := (a, .inr (5, [.ref f0, .ref f1, .ref f2, .ref f3, .ref f4]))
abbrev oMo (a : Nat) (f0 : Int32) (f1 : Nat) (f2 : Int32) (f3 : Int32) (f4 : Int32) (f5 : Int32) (f6 : Nat) (f7 : Int32) (f8 : Int32) (f9 : Int64) (f10 : Nat) (f11 : Int32) (f12 : Int32) (f13 : Int64) (f14 : Int64) (f15 : Int32) (f16 : Int32) : Nat × va_E := (a, .inr (6, [.int f0, .ref f1, .int f2, .int f3, .int f4, .int f5, .ref f6, .int f7, .int f8, .long f9, .ref f10, .int f11, .int f12, .long f13, .long f14, .int f15, .int f16]))
abbrev aC (G : gG) (q n : Nat) (f : Nat → Int32) : Nat × va_E := (q, .inl (G.2.1, n, .inl f))
abbrev aI (G : gG) (q n : Nat) (f : Nat → Int32) : Nat × va_E := (q, .inl (G.2.2.1, n, .inl f))
abbrev aL (G : gG) (q n : Nat) (f : Nat → Int64) : Nat × va_E := (q, .inl (G.2.2.2.1, n, .inr (.inl f)))
end
