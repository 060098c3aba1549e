-- ===== PART A: goes FIRST, ahead of the names: the tables' words, and 'selects' of the private methods out of them =====
/-- a private method of a class that the tables say can be made, by its rows of tables_1 -/
def lw_okq (q : MethodName × Nat) : Prop := (q.1.cls ≠ "java/lang/invoke/MethodHandle" ∧ q.1.cls ≠ "java/lang/invoke/VarHandle") ∧ Cond.instantiable q.1.cls q.2 ∈ tables_1 ∧ Cond.privateMethod q.1 ∈ tables_1 ∧ Cond.instanceMethod q.1 ∈ tables_1
theorem lw_p0 : lw_okq (⟨"ExactReader$NumberText", "room", "()I"⟩, 13) := ⟨⟨by decide +kernel, by decide +kernel⟩, List.mem_of_getElem? (i := 31) (by decide +kernel), List.mem_of_getElem? (i := 182) (by decide +kernel), List.mem_of_getElem? (i := 183) (by decide +kernel)⟩
theorem lw_p1 : lw_okq (⟨"ExactReader$NumberText", "append", "(C)V"⟩, 13) := ⟨⟨by decide +kernel, by decide +kernel⟩, List.mem_of_getElem? (i := 31) (by decide +kernel), List.mem_of_getElem? (i := 186) (by decide +kernel), List.mem_of_getElem? (i := 187) (by decide +kernel)⟩
theorem lw_p2 : lw_okq (⟨"ExactReader$NumberText", "dropLast", "(I)V"⟩, 13) := ⟨⟨by decide +kernel, by decide +kernel⟩, List.mem_of_getElem? (i := 31) (by decide +kernel), List.mem_of_getElem? (i := 194) (by decide +kernel), List.mem_of_getElem? (i := 195) (by decide +kernel)⟩
theorem lw_p3 : lw_okq (⟨"ExactReader$NumberText", "scan", "()V"⟩, 13) := ⟨⟨by decide +kernel, by decide +kernel⟩, List.mem_of_getElem? (i := 31) (by decide +kernel), List.mem_of_getElem? (i := 205) (by decide +kernel), List.mem_of_getElem? (i := 206) (by decide +kernel)⟩
theorem lw_p4 : lw_okq (⟨"ExactReader$NumberText", "skipBlanks", "()V"⟩, 13) := ⟨⟨by decide +kernel, by decide +kernel⟩, List.mem_of_getElem? (i := 31) (by decide +kernel), List.mem_of_getElem? (i := 209) (by decide +kernel), List.mem_of_getElem? (i := 210) (by decide +kernel)⟩
theorem lw_p5 : lw_okq (⟨"ExactReader$NumberText", "here", "()C"⟩, 13) := ⟨⟨by decide +kernel, by decide +kernel⟩, List.mem_of_getElem? (i := 31) (by decide +kernel), List.mem_of_getElem? (i := 213) (by decide +kernel), List.mem_of_getElem? (i := 214) (by decide +kernel)⟩
theorem lw_p6 : lw_okq (⟨"ExactReader$NumberText", "skipOneOf", "(CC)Z"⟩, 13) := ⟨⟨by decide +kernel, by decide +kernel⟩, List.mem_of_getElem? (i := 31) (by decide +kernel), List.mem_of_getElem? (i := 217) (by decide +kernel), List.mem_of_getElem? (i := 218) (by decide +kernel)⟩
theorem lw_p7 : lw_okq (⟨"ExactReader$NumberText", "takeBody", "()I"⟩, 13) := ⟨⟨by decide +kernel, by decide +kernel⟩, List.mem_of_getElem? (i := 31) (by decide +kernel), List.mem_of_getElem? (i := 221) (by decide +kernel), List.mem_of_getElem? (i := 222) (by decide +kernel)⟩
theorem lw_p8 : lw_okq (⟨"ExactReader$NumberText", "takeWord", "(Ljava/lang/String;)Z"⟩, 13) := ⟨⟨by decide +kernel, by decide +kernel⟩, List.mem_of_getElem? (i := 31) (by decide +kernel), List.mem_of_getElem? (i := 226) (by decide +kernel), List.mem_of_getElem? (i := 227) (by decide +kernel)⟩
theorem lw_p9 : lw_okq (⟨"ExactReader$NumberText", "characterAt", "(I)C"⟩, 13) := ⟨⟨by decide +kernel, by decide +kernel⟩, List.mem_of_getElem? (i := 31) (by decide +kernel), List.mem_of_getElem? (i := 279) (by decide +kernel), List.mem_of_getElem? (i := 280) (by decide +kernel)⟩
theorem lw_p10 : lw_okq (⟨"ExactReader$NumberText", "takeHexadecimal", "()Z"⟩, 13) := ⟨⟨by decide +kernel, by decide +kernel⟩, List.mem_of_getElem? (i := 31) (by decide +kernel), List.mem_of_getElem? (i := 283) (by decide +kernel), List.mem_of_getElem? (i := 284) (by decide +kernel)⟩
theorem lw_p11 : lw_okq (⟨"ExactReader$NumberText", "takeDigits", "(I)Z"⟩, 13) := ⟨⟨by decide +kernel, by decide +kernel⟩, List.mem_of_getElem? (i := 31) (by decide +kernel), List.mem_of_getElem? (i := 287) (by decide +kernel), List.mem_of_getElem? (i := 288) (by decide +kernel)⟩
theorem lw_p12 : lw_okq (⟨"ExactReader$NumberText", "takeExponent", "()Z"⟩, 13) := ⟨⟨by decide +kernel, by decide +kernel⟩, List.mem_of_getElem? (i := 31) (by decide +kernel), List.mem_of_getElem? (i := 294) (by decide +kernel), List.mem_of_getElem? (i := 295) (by decide +kernel)⟩
theorem lw_p13 : lw_okq (⟨"ExactReader$NumberText", "skipSuffix", "()V"⟩, 13) := ⟨⟨by decide +kernel, by decide +kernel⟩, List.mem_of_getElem? (i := 31) (by decide +kernel), List.mem_of_getElem? (i := 299) (by decide +kernel), List.mem_of_getElem? (i := 300) (by decide +kernel)⟩
theorem lw_p14 : lw_okq (⟨"ExactReader$NumberText", "takeDecimal", "()Z"⟩, 13) := ⟨⟨by decide +kernel, by decide +kernel⟩, List.mem_of_getElem? (i := 31) (by decide +kernel), List.mem_of_getElem? (i := 303) (by decide +kernel), List.mem_of_getElem? (i := 304) (by decide +kernel)⟩
theorem lw_p15 : lw_okq (⟨"java/lang/Throwable", "fillInStackTrace", "(I)Ljava/lang/Throwable;"⟩, 6) := ⟨⟨by decide +kernel, by decide +kernel⟩, List.mem_of_getElem? (i := 357) (by decide +kernel), List.mem_of_getElem? (i := 355) (by decide +kernel), List.mem_of_getElem? (i := 356) (by decide +kernel)⟩
def lw_privs_1 : List (MethodName × Nat) := [(⟨"ExactReader$NumberText", "room", "()I"⟩, 13), (⟨"ExactReader$NumberText", "append", "(C)V"⟩, 13), (⟨"ExactReader$NumberText", "dropLast", "(I)V"⟩, 13), (⟨"ExactReader$NumberText", "scan", "()V"⟩, 13), (⟨"ExactReader$NumberText", "skipBlanks", "()V"⟩, 13), (⟨"ExactReader$NumberText", "here", "()C"⟩, 13), (⟨"ExactReader$NumberText", "skipOneOf", "(CC)Z"⟩, 13), (⟨"ExactReader$NumberText", "takeBody", "()I"⟩, 13), (⟨"ExactReader$NumberText", "takeWord", "(Ljava/lang/String;)Z"⟩, 13), (⟨"ExactReader$NumberText", "characterAt", "(I)C"⟩, 13), (⟨"ExactReader$NumberText", "takeHexadecimal", "()Z"⟩, 13), (⟨"ExactReader$NumberText", "takeDigits", "(I)Z"⟩, 13), (⟨"ExactReader$NumberText", "takeExponent", "()Z"⟩, 13), (⟨"ExactReader$NumberText", "skipSuffix", "()V"⟩, 13), (⟨"ExactReader$NumberText", "takeDecimal", "()Z"⟩, 13), (⟨"java/lang/Throwable", "fillInStackTrace", "(I)Ljava/lang/Throwable;"⟩, 6)]
theorem lw_r1 : ∀ q ∈ lw_privs_1, lw_okq q := List.forall_mem_cons.mpr ⟨lw_p0, List.forall_mem_cons.mpr ⟨lw_p1, List.forall_mem_cons.mpr ⟨lw_p2, List.forall_mem_cons.mpr ⟨lw_p3, List.forall_mem_cons.mpr ⟨lw_p4, List.forall_mem_cons.mpr ⟨lw_p5, List.forall_mem_cons.mpr ⟨lw_p6, List.forall_mem_cons.mpr ⟨lw_p7, List.forall_mem_cons.mpr ⟨lw_p8, List.forall_mem_cons.mpr ⟨lw_p9, List.forall_mem_cons.mpr ⟨lw_p10, List.forall_mem_cons.mpr ⟨lw_p11, List.forall_mem_cons.mpr ⟨lw_p12, List.forall_mem_cons.mpr ⟨lw_p13, List.forall_mem_cons.mpr ⟨lw_p14, List.forall_mem_cons.mpr ⟨lw_p15, fun _ h => absurd h List.not_mem_nil⟩⟩⟩⟩⟩⟩⟩⟩⟩⟩⟩⟩⟩⟩⟩⟩
theorem lw_p16 : lw_okq (⟨"ExactReader", "bitsRead", "(LExactReader$Format;)J"⟩, 5) := ⟨⟨by decide +kernel, by decide +kernel⟩, List.mem_of_getElem? (i := 23) (by decide +kernel), List.mem_of_getElem? (i := 420) (by decide +kernel), List.mem_of_getElem? (i := 421) (by decide +kernel)⟩
theorem lw_p17 : lw_okq (⟨"ExactReader$Format", "bitsOfNoNumber", "()J"⟩, 6) := ⟨⟨by decide +kernel, by decide +kernel⟩, List.mem_of_getElem? (i := 426) (by decide +kernel), List.mem_of_getElem? (i := 424) (by decide +kernel), List.mem_of_getElem? (i := 425) (by decide +kernel)⟩
theorem lw_p18 : lw_okq (⟨"ExactReader$Format", "infiniteField", "()I"⟩, 6) := ⟨⟨by decide +kernel, by decide +kernel⟩, List.mem_of_getElem? (i := 426) (by decide +kernel), List.mem_of_getElem? (i := 429) (by decide +kernel), List.mem_of_getElem? (i := 430) (by decide +kernel)⟩
theorem lw_p19 : lw_okq (⟨"ExactReader$Format", "hiddenBit", "()J"⟩, 6) := ⟨⟨by decide +kernel, by decide +kernel⟩, List.mem_of_getElem? (i := 426) (by decide +kernel), List.mem_of_getElem? (i := 433) (by decide +kernel), List.mem_of_getElem? (i := 434) (by decide +kernel)⟩
theorem lw_p20 : lw_okq (⟨"ExactReader$Format", "bitsOf", "(IJ)J"⟩, 6) := ⟨⟨by decide +kernel, by decide +kernel⟩, List.mem_of_getElem? (i := 426) (by decide +kernel), List.mem_of_getElem? (i := 437) (by decide +kernel), List.mem_of_getElem? (i := 438) (by decide +kernel)⟩
theorem lw_p21 : lw_okq (⟨"ExactReader$Format", "lowField", "(J)J"⟩, 6) := ⟨⟨by decide +kernel, by decide +kernel⟩, List.mem_of_getElem? (i := 426) (by decide +kernel), List.mem_of_getElem? (i := 441) (by decide +kernel), List.mem_of_getElem? (i := 442) (by decide +kernel)⟩
theorem lw_p22 : lw_okq (⟨"ExactReader", "measureText", "()V"⟩, 5) := ⟨⟨by decide +kernel, by decide +kernel⟩, List.mem_of_getElem? (i := 23) (by decide +kernel), List.mem_of_getElem? (i := 445) (by decide +kernel), List.mem_of_getElem? (i := 446) (by decide +kernel)⟩
theorem lw_p23 : lw_okq (⟨"ExactReader$Measure", "hexadecimal", "(LExactReader$NumberText;LExactReader$Size;)V"⟩, 1) := ⟨⟨by decide +kernel, by decide +kernel⟩, List.mem_of_getElem? (i := 88) (by decide +kernel), List.mem_of_getElem? (i := 449) (by decide +kernel), List.mem_of_getElem? (i := 450) (by decide +kernel)⟩
theorem lw_p24 : lw_okq (⟨"ExactReader$Size", "begin", "()V"⟩, 3) := ⟨⟨by decide +kernel, by decide +kernel⟩, List.mem_of_getElem? (i := 119) (by decide +kernel), List.mem_of_getElem? (i := 453) (by decide +kernel), List.mem_of_getElem? (i := 454) (by decide +kernel)⟩
theorem lw_p25 : lw_okq (⟨"ExactReader$NumberText", "digitAt", "(II)I"⟩, 13) := ⟨⟨by decide +kernel, by decide +kernel⟩, List.mem_of_getElem? (i := 31) (by decide +kernel), List.mem_of_getElem? (i := 457) (by decide +kernel), List.mem_of_getElem? (i := 458) (by decide +kernel)⟩
theorem lw_p26 : lw_okq (⟨"ExactReader$Size", "push", "(II)V"⟩, 3) := ⟨⟨by decide +kernel, by decide +kernel⟩, List.mem_of_getElem? (i := 119) (by decide +kernel), List.mem_of_getElem? (i := 461) (by decide +kernel), List.mem_of_getElem? (i := 462) (by decide +kernel)⟩
theorem lw_p27 : lw_okq (⟨"ExactReader$Size", "pushBit", "(I)V"⟩, 3) := ⟨⟨by decide +kernel, by decide +kernel⟩, List.mem_of_getElem? (i := 119) (by decide +kernel), List.mem_of_getElem? (i := 466) (by decide +kernel), List.mem_of_getElem? (i := 467) (by decide +kernel)⟩
theorem lw_p28 : lw_okq (⟨"ExactReader$Size", "end", "(IZ)V"⟩, 3) := ⟨⟨by decide +kernel, by decide +kernel⟩, List.mem_of_getElem? (i := 119) (by decide +kernel), List.mem_of_getElem? (i := 470) (by decide +kernel), List.mem_of_getElem? (i := 471) (by decide +kernel)⟩
theorem lw_p29 : lw_okq (⟨"ExactReader$Size", "set", "(JI)V"⟩, 3) := ⟨⟨by decide +kernel, by decide +kernel⟩, List.mem_of_getElem? (i := 119) (by decide +kernel), List.mem_of_getElem? (i := 474) (by decide +kernel), List.mem_of_getElem? (i := 475) (by decide +kernel)⟩
theorem lw_p30 : lw_okq (⟨"ExactReader$Measure", "decimal", "(LExactReader$NumberText;LExactReader$Size;)V"⟩, 1) := ⟨⟨by decide +kernel, by decide +kernel⟩, List.mem_of_getElem? (i := 88) (by decide +kernel), List.mem_of_getElem? (i := 485) (by decide +kernel), List.mem_of_getElem? (i := 486) (by decide +kernel)⟩
theorem lw_p31 : lw_okq (⟨"ExactReader$Measure", "loadDigits", "(LExactReader$NumberText;I)Z"⟩, 1) := ⟨⟨by decide +kernel, by decide +kernel⟩, List.mem_of_getElem? (i := 88) (by decide +kernel), List.mem_of_getElem? (i := 491) (by decide +kernel), List.mem_of_getElem? (i := 492) (by decide +kernel)⟩
def lw_privs_2 : List (MethodName × Nat) := [(⟨"ExactReader", "bitsRead", "(LExactReader$Format;)J"⟩, 5), (⟨"ExactReader$Format", "bitsOfNoNumber", "()J"⟩, 6), (⟨"ExactReader$Format", "infiniteField", "()I"⟩, 6), (⟨"ExactReader$Format", "hiddenBit", "()J"⟩, 6), (⟨"ExactReader$Format", "bitsOf", "(IJ)J"⟩, 6), (⟨"ExactReader$Format", "lowField", "(J)J"⟩, 6), (⟨"ExactReader", "measureText", "()V"⟩, 5), (⟨"ExactReader$Measure", "hexadecimal", "(LExactReader$NumberText;LExactReader$Size;)V"⟩, 1), (⟨"ExactReader$Size", "begin", "()V"⟩, 3), (⟨"ExactReader$NumberText", "digitAt", "(II)I"⟩, 13), (⟨"ExactReader$Size", "push", "(II)V"⟩, 3), (⟨"ExactReader$Size", "pushBit", "(I)V"⟩, 3), (⟨"ExactReader$Size", "end", "(IZ)V"⟩, 3), (⟨"ExactReader$Size", "set", "(JI)V"⟩, 3), (⟨"ExactReader$Measure", "decimal", "(LExactReader$NumberText;LExactReader$Size;)V"⟩, 1), (⟨"ExactReader$Measure", "loadDigits", "(LExactReader$NumberText;I)Z"⟩, 1)]
theorem lw_r2 : ∀ q ∈ lw_privs_2, lw_okq q := List.forall_mem_cons.mpr ⟨lw_p16, List.forall_mem_cons.mpr ⟨lw_p17, List.forall_mem_cons.mpr ⟨lw_p18, List.forall_mem_cons.mpr ⟨lw_p19, List.forall_mem_cons.mpr ⟨lw_p20, List.forall_mem_cons.mpr ⟨lw_p21, List.forall_mem_cons.mpr ⟨lw_p22, List.forall_mem_cons.mpr ⟨lw_p23, List.forall_mem_cons.mpr ⟨lw_p24, List.forall_mem_cons.mpr ⟨lw_p25, List.forall_mem_cons.mpr ⟨lw_p26, List.forall_mem_cons.mpr ⟨lw_p27, List.forall_mem_cons.mpr ⟨lw_p28, List.forall_mem_cons.mpr ⟨lw_p29, List.forall_mem_cons.mpr ⟨lw_p30, List.forall_mem_cons.mpr ⟨lw_p31, fun _ h => absurd h List.not_mem_nil⟩⟩⟩⟩⟩⟩⟩⟩⟩⟩⟩⟩⟩⟩⟩⟩
theorem lw_p32 : lw_okq (⟨"ExactReader$Natural", "begin", "()V"⟩, 4) := ⟨⟨by decide +kernel, by decide +kernel⟩, List.mem_of_getElem? (i := 94) (by decide +kernel), List.mem_of_getElem? (i := 495) (by decide +kernel), List.mem_of_getElem? (i := 496) (by decide +kernel)⟩
theorem lw_p33 : lw_okq (⟨"ExactReader$Natural", "pushDigit", "(I)V"⟩, 4) := ⟨⟨by decide +kernel, by decide +kernel⟩, List.mem_of_getElem? (i := 94) (by decide +kernel), List.mem_of_getElem? (i := 499) (by decide +kernel), List.mem_of_getElem? (i := 500) (by decide +kernel)⟩
theorem lw_p34 : lw_okq (⟨"ExactReader$Natural", "end", "()V"⟩, 4) := ⟨⟨by decide +kernel, by decide +kernel⟩, List.mem_of_getElem? (i := 94) (by decide +kernel), List.mem_of_getElem? (i := 504) (by decide +kernel), List.mem_of_getElem? (i := 505) (by decide +kernel)⟩
theorem lw_p35 : lw_okq (⟨"ExactReader$Natural", "multiplyAdd", "(II)V"⟩, 4) := ⟨⟨by decide +kernel, by decide +kernel⟩, List.mem_of_getElem? (i := 94) (by decide +kernel), List.mem_of_getElem? (i := 508) (by decide +kernel), List.mem_of_getElem? (i := 509) (by decide +kernel)⟩
theorem lw_p36 : lw_okq (⟨"ExactReader$Measure", "takeTimesTen", "(IZLExactReader$Size;)V"⟩, 1) := ⟨⟨by decide +kernel, by decide +kernel⟩, List.mem_of_getElem? (i := 88) (by decide +kernel), List.mem_of_getElem? (i := 514) (by decide +kernel), List.mem_of_getElem? (i := 515) (by decide +kernel)⟩
theorem lw_p37 : lw_okq (⟨"ExactReader$Natural", "multiplyByFives", "(I)V"⟩, 4) := ⟨⟨by decide +kernel, by decide +kernel⟩, List.mem_of_getElem? (i := 94) (by decide +kernel), List.mem_of_getElem? (i := 518) (by decide +kernel), List.mem_of_getElem? (i := 519) (by decide +kernel)⟩
theorem lw_p38 : lw_okq (⟨"ExactReader$Natural", "raiseAboveFives", "(I)I"⟩, 4) := ⟨⟨by decide +kernel, by decide +kernel⟩, List.mem_of_getElem? (i := 94) (by decide +kernel), List.mem_of_getElem? (i := 528) (by decide +kernel), List.mem_of_getElem? (i := 529) (by decide +kernel)⟩
theorem lw_p39 : lw_okq (⟨"ExactReader$Natural", "wordAt", "(I)I"⟩, 4) := ⟨⟨by decide +kernel, by decide +kernel⟩, List.mem_of_getElem? (i := 94) (by decide +kernel), List.mem_of_getElem? (i := 532) (by decide +kernel), List.mem_of_getElem? (i := 533) (by decide +kernel)⟩
theorem lw_p40 : lw_okq (⟨"ExactReader$Natural", "divideByFives", "(I)Z"⟩, 4) := ⟨⟨by decide +kernel, by decide +kernel⟩, List.mem_of_getElem? (i := 94) (by decide +kernel), List.mem_of_getElem? (i := 536) (by decide +kernel), List.mem_of_getElem? (i := 537) (by decide +kernel)⟩
theorem lw_p41 : lw_okq (⟨"ExactReader$Natural", "divide", "(I)Z"⟩, 4) := ⟨⟨by decide +kernel, by decide +kernel⟩, List.mem_of_getElem? (i := 94) (by decide +kernel), List.mem_of_getElem? (i := 540) (by decide +kernel), List.mem_of_getElem? (i := 541) (by decide +kernel)⟩
theorem lw_p42 : lw_okq (⟨"ExactReader$Size", "setInfinite", "()V"⟩, 3) := ⟨⟨by decide +kernel, by decide +kernel⟩, List.mem_of_getElem? (i := 119) (by decide +kernel), List.mem_of_getElem? (i := 545) (by decide +kernel), List.mem_of_getElem? (i := 546) (by decide +kernel)⟩
theorem lw_p43 : lw_okq (⟨"ExactReader$Rounding", "round", "(LExactReader$Size;LExactReader$Format;)V"⟩, 4) := ⟨⟨by decide +kernel, by decide +kernel⟩, List.mem_of_getElem? (i := 138) (by decide +kernel), List.mem_of_getElem? (i := 550) (by decide +kernel), List.mem_of_getElem? (i := 551) (by decide +kernel)⟩
theorem lw_p44 : lw_okq (⟨"ExactReader$Rounding", "setWhole", "(JI)V"⟩, 4) := ⟨⟨by decide +kernel, by decide +kernel⟩, List.mem_of_getElem? (i := 138) (by decide +kernel), List.mem_of_getElem? (i := 557) (by decide +kernel), List.mem_of_getElem? (i := 558) (by decide +kernel)⟩
theorem lw_p45 : lw_okq (⟨"ExactReader$Rounding", "roundLead", "(LExactReader$Size;I)V"⟩, 4) := ⟨⟨by decide +kernel, by decide +kernel⟩, List.mem_of_getElem? (i := 138) (by decide +kernel), List.mem_of_getElem? (i := 561) (by decide +kernel), List.mem_of_getElem? (i := 562) (by decide +kernel)⟩
theorem lw_p46 : lw_okq (⟨"ExactReader$Rounding", "carry", "(LExactReader$Format;)V"⟩, 4) := ⟨⟨by decide +kernel, by decide +kernel⟩, List.mem_of_getElem? (i := 138) (by decide +kernel), List.mem_of_getElem? (i := 565) (by decide +kernel), List.mem_of_getElem? (i := 566) (by decide +kernel)⟩
theorem lw_p47 : lw_okq (⟨"ExactReader$Format", "exponentOf", "(I)I"⟩, 6) := ⟨⟨by decide +kernel, by decide +kernel⟩, List.mem_of_getElem? (i := 426) (by decide +kernel), List.mem_of_getElem? (i := 572) (by decide +kernel), List.mem_of_getElem? (i := 573) (by decide +kernel)⟩
def lw_privs_3 : List (MethodName × Nat) := [(⟨"ExactReader$Natural", "begin", "()V"⟩, 4), (⟨"ExactReader$Natural", "pushDigit", "(I)V"⟩, 4), (⟨"ExactReader$Natural", "end", "()V"⟩, 4), (⟨"ExactReader$Natural", "multiplyAdd", "(II)V"⟩, 4), (⟨"ExactReader$Measure", "takeTimesTen", "(IZLExactReader$Size;)V"⟩, 1), (⟨"ExactReader$Natural", "multiplyByFives", "(I)V"⟩, 4), (⟨"ExactReader$Natural", "raiseAboveFives", "(I)I"⟩, 4), (⟨"ExactReader$Natural", "wordAt", "(I)I"⟩, 4), (⟨"ExactReader$Natural", "divideByFives", "(I)Z"⟩, 4), (⟨"ExactReader$Natural", "divide", "(I)Z"⟩, 4), (⟨"ExactReader$Size", "setInfinite", "()V"⟩, 3), (⟨"ExactReader$Rounding", "round", "(LExactReader$Size;LExactReader$Format;)V"⟩, 4), (⟨"ExactReader$Rounding", "setWhole", "(JI)V"⟩, 4), (⟨"ExactReader$Rounding", "roundLead", "(LExactReader$Size;I)V"⟩, 4), (⟨"ExactReader$Rounding", "carry", "(LExactReader$Format;)V"⟩, 4), (⟨"ExactReader$Format", "exponentOf", "(I)I"⟩, 6)]
theorem lw_r3 : ∀ q ∈ lw_privs_3, lw_okq q := List.forall_mem_cons.mpr ⟨lw_p32, List.forall_mem_cons.mpr ⟨lw_p33, List.forall_mem_cons.mpr ⟨lw_p34, List.forall_mem_cons.mpr ⟨lw_p35, List.forall_mem_cons.mpr ⟨lw_p36, List.forall_mem_cons.mpr ⟨lw_p37, List.forall_mem_cons.mpr ⟨lw_p38, List.forall_mem_cons.mpr ⟨lw_p39, List.forall_mem_cons.mpr ⟨lw_p40, List.forall_mem_cons.mpr ⟨lw_p41, List.forall_mem_cons.mpr ⟨lw_p42, List.forall_mem_cons.mpr ⟨lw_p43, List.forall_mem_cons.mpr ⟨lw_p44, List.forall_mem_cons.mpr ⟨lw_p45, List.forall_mem_cons.mpr ⟨lw_p46, List.forall_mem_cons.mpr ⟨lw_p47, fun _ h => absurd h List.not_mem_nil⟩⟩⟩⟩⟩⟩⟩⟩⟩⟩⟩⟩⟩⟩⟩⟩
theorem lw_p48 : lw_okq (⟨"ExactReader$Rounding", "bitsOfSize", "(LExactReader$Format;)J"⟩, 4) := ⟨⟨by decide +kernel, by decide +kernel⟩, List.mem_of_getElem? (i := 138) (by decide +kernel), List.mem_of_getElem? (i := 576) (by decide +kernel), List.mem_of_getElem? (i := 577) (by decide +kernel)⟩
theorem lw_p49 : lw_okq (⟨"ExactReader$Format", "signBit", "()J"⟩, 6) := ⟨⟨by decide +kernel, by decide +kernel⟩, List.mem_of_getElem? (i := 426) (by decide +kernel), List.mem_of_getElem? (i := 581) (by decide +kernel), List.mem_of_getElem? (i := 582) (by decide +kernel)⟩
theorem lw_p50 : lw_okq (⟨"ExactReader$Format", "exponentField", "(J)I"⟩, 6) := ⟨⟨by decide +kernel, by decide +kernel⟩, List.mem_of_getElem? (i := 426) (by decide +kernel), List.mem_of_getElem? (i := 612) (by decide +kernel), List.mem_of_getElem? (i := 613) (by decide +kernel)⟩
theorem lw_p51 : lw_okq (⟨"ExactReader$Size", "setDouble", "(J)V"⟩, 3) := ⟨⟨by decide +kernel, by decide +kernel⟩, List.mem_of_getElem? (i := 119) (by decide +kernel), List.mem_of_getElem? (i := 617) (by decide +kernel), List.mem_of_getElem? (i := 618) (by decide +kernel)⟩
theorem lw_p52 : lw_okq (⟨"ExactReader$Size", "signWith", "(Z)I"⟩, 3) := ⟨⟨by decide +kernel, by decide +kernel⟩, List.mem_of_getElem? (i := 119) (by decide +kernel), List.mem_of_getElem? (i := 628) (by decide +kernel), List.mem_of_getElem? (i := 629) (by decide +kernel)⟩
theorem lw_p53 : lw_okq (⟨"ExactReader$Size", "order", "(LExactReader$Size;)I"⟩, 3) := ⟨⟨by decide +kernel, by decide +kernel⟩, List.mem_of_getElem? (i := 119) (by decide +kernel), List.mem_of_getElem? (i := 635) (by decide +kernel), List.mem_of_getElem? (i := 636) (by decide +kernel)⟩
theorem lw_p54 : lw_okq (⟨"ExactReaderModel", "scan", "()Z"⟩, 17) := ⟨⟨by decide +kernel, by decide +kernel⟩, List.mem_of_getElem? (i := 643) (by decide +kernel), List.mem_of_getElem? (i := 726) (by decide +kernel), List.mem_of_getElem? (i := 727) (by decide +kernel)⟩
theorem lw_p55 : lw_okq (⟨"ExactReaderModel", "blanks", "()V"⟩, 17) := ⟨⟨by decide +kernel, by decide +kernel⟩, List.mem_of_getElem? (i := 643) (by decide +kernel), List.mem_of_getElem? (i := 730) (by decide +kernel), List.mem_of_getElem? (i := 731) (by decide +kernel)⟩
theorem lw_p56 : lw_okq (⟨"ExactReaderModel", "here", "()I"⟩, 17) := ⟨⟨by decide +kernel, by decide +kernel⟩, List.mem_of_getElem? (i := 643) (by decide +kernel), List.mem_of_getElem? (i := 734) (by decide +kernel), List.mem_of_getElem? (i := 735) (by decide +kernel)⟩
theorem lw_p57 : lw_okq (⟨"ExactReaderModel", "spells", "(J)Z"⟩, 17) := ⟨⟨by decide +kernel, by decide +kernel⟩, List.mem_of_getElem? (i := 643) (by decide +kernel), List.mem_of_getElem? (i := 739) (by decide +kernel), List.mem_of_getElem? (i := 740) (by decide +kernel)⟩
theorem lw_p58 : lw_okq (⟨"ExactReaderModel", "number", "()Z"⟩, 17) := ⟨⟨by decide +kernel, by decide +kernel⟩, List.mem_of_getElem? (i := 643) (by decide +kernel), List.mem_of_getElem? (i := 744) (by decide +kernel), List.mem_of_getElem? (i := 745) (by decide +kernel)⟩
theorem lw_p59 : lw_okq (⟨"ExactReaderModel", "digits", "(Z)Z"⟩, 17) := ⟨⟨by decide +kernel, by decide +kernel⟩, List.mem_of_getElem? (i := 643) (by decide +kernel), List.mem_of_getElem? (i := 748) (by decide +kernel), List.mem_of_getElem? (i := 749) (by decide +kernel)⟩
theorem lw_p60 : lw_okq (⟨"ExactReaderModel", "isAt", "(II)Z"⟩, 17) := ⟨⟨by decide +kernel, by decide +kernel⟩, List.mem_of_getElem? (i := 643) (by decide +kernel), List.mem_of_getElem? (i := 758) (by decide +kernel), List.mem_of_getElem? (i := 759) (by decide +kernel)⟩
theorem lw_p61 : lw_okq (⟨"ExactReaderModel", "power", "()Z"⟩, 17) := ⟨⟨by decide +kernel, by decide +kernel⟩, List.mem_of_getElem? (i := 643) (by decide +kernel), List.mem_of_getElem? (i := 762) (by decide +kernel), List.mem_of_getElem? (i := 763) (by decide +kernel)⟩
theorem lw_p62 : lw_okq (⟨"ExactReaderModel", "sizeRead", "(II)J"⟩, 17) := ⟨⟨by decide +kernel, by decide +kernel⟩, List.mem_of_getElem? (i := 643) (by decide +kernel), List.mem_of_getElem? (i := 777) (by decide +kernel), List.mem_of_getElem? (i := 778) (by decide +kernel)⟩
theorem lw_p63 : lw_okq (⟨"ExactReaderModel", "find", "(II)V"⟩, 17) := ⟨⟨by decide +kernel, by decide +kernel⟩, List.mem_of_getElem? (i := 643) (by decide +kernel), List.mem_of_getElem? (i := 782) (by decide +kernel), List.mem_of_getElem? (i := 783) (by decide +kernel)⟩
def lw_privs_4 : List (MethodName × Nat) := [(⟨"ExactReader$Rounding", "bitsOfSize", "(LExactReader$Format;)J"⟩, 4), (⟨"ExactReader$Format", "signBit", "()J"⟩, 6), (⟨"ExactReader$Format", "exponentField", "(J)I"⟩, 6), (⟨"ExactReader$Size", "setDouble", "(J)V"⟩, 3), (⟨"ExactReader$Size", "signWith", "(Z)I"⟩, 3), (⟨"ExactReader$Size", "order", "(LExactReader$Size;)I"⟩, 3), (⟨"ExactReaderModel", "scan", "()Z"⟩, 17), (⟨"ExactReaderModel", "blanks", "()V"⟩, 17), (⟨"ExactReaderModel", "here", "()I"⟩, 17), (⟨"ExactReaderModel", "spells", "(J)Z"⟩, 17), (⟨"ExactReaderModel", "number", "()Z"⟩, 17), (⟨"ExactReaderModel", "digits", "(Z)Z"⟩, 17), (⟨"ExactReaderModel", "isAt", "(II)Z"⟩, 17), (⟨"ExactReaderModel", "power", "()Z"⟩, 17), (⟨"ExactReaderModel", "sizeRead", "(II)J"⟩, 17), (⟨"ExactReaderModel", "find", "(II)V"⟩, 17)]
theorem lw_r4 : ∀ q ∈ lw_privs_4, lw_okq q := List.forall_mem_cons.mpr ⟨lw_p48, List.forall_mem_cons.mpr ⟨lw_p49, List.forall_mem_cons.mpr ⟨lw_p50, List.forall_mem_cons.mpr ⟨lw_p51, List.forall_mem_cons.mpr ⟨lw_p52, List.forall_mem_cons.mpr ⟨lw_p53, List.forall_mem_cons.mpr ⟨lw_p54, List.forall_mem_cons.mpr ⟨lw_p55, List.forall_mem_cons.mpr ⟨lw_p56, List.forall_mem_cons.mpr ⟨lw_p57, List.forall_mem_cons.mpr ⟨lw_p58, List.forall_mem_cons.mpr ⟨lw_p59, List.forall_mem_cons.mpr ⟨lw_p60, List.forall_mem_cons.mpr ⟨lw_p61, List.forall_mem_cons.mpr ⟨lw_p62, List.forall_mem_cons.mpr ⟨lw_p63, fun _ h => absurd h List.not_mem_nil⟩⟩⟩⟩⟩⟩⟩⟩⟩⟩⟩⟩⟩⟩⟩⟩
theorem lw_p64 : lw_okq (⟨"ExactReaderModel", "findDecimal", "(III)V"⟩, 17) := ⟨⟨by decide +kernel, by decide +kernel⟩, List.mem_of_getElem? (i := 643) (by decide +kernel), List.mem_of_getElem? (i := 786) (by decide +kernel), List.mem_of_getElem? (i := 787) (by decide +kernel)⟩
theorem lw_p65 : lw_okq (⟨"ExactReaderModel", "writeOut", "(II)V"⟩, 17) := ⟨⟨by decide +kernel, by decide +kernel⟩, List.mem_of_getElem? (i := 643) (by decide +kernel), List.mem_of_getElem? (i := 792) (by decide +kernel), List.mem_of_getElem? (i := 793) (by decide +kernel)⟩
theorem lw_p66 : lw_okq (⟨"ExactReaderModel", "wholePart", "()J"⟩, 17) := ⟨⟨by decide +kernel, by decide +kernel⟩, List.mem_of_getElem? (i := 643) (by decide +kernel), List.mem_of_getElem? (i := 796) (by decide +kernel), List.mem_of_getElem? (i := 797) (by decide +kernel)⟩
theorem lw_p67 : lw_okq (⟨"ExactReaderModel", "half", "()V"⟩, 17) := ⟨⟨by decide +kernel, by decide +kernel⟩, List.mem_of_getElem? (i := 643) (by decide +kernel), List.mem_of_getElem? (i := 802) (by decide +kernel), List.mem_of_getElem? (i := 803) (by decide +kernel)⟩
theorem lw_p68 : lw_okq (⟨"ExactReaderModel", "twice", "()V"⟩, 17) := ⟨⟨by decide +kernel, by decide +kernel⟩, List.mem_of_getElem? (i := 643) (by decide +kernel), List.mem_of_getElem? (i := 808) (by decide +kernel), List.mem_of_getElem? (i := 809) (by decide +kernel)⟩
theorem lw_p69 : lw_okq (⟨"ExactReaderModel", "findHexadecimal", "(III)V"⟩, 17) := ⟨⟨by decide +kernel, by decide +kernel⟩, List.mem_of_getElem? (i := 643) (by decide +kernel), List.mem_of_getElem? (i := 812) (by decide +kernel), List.mem_of_getElem? (i := 813) (by decide +kernel)⟩
theorem lw_p70 : lw_okq (⟨"ExactReaderModel", "bitAt", "(J)I"⟩, 17) := ⟨⟨by decide +kernel, by decide +kernel⟩, List.mem_of_getElem? (i := 643) (by decide +kernel), List.mem_of_getElem? (i := 821) (by decide +kernel), List.mem_of_getElem? (i := 822) (by decide +kernel)⟩
theorem lw_p71 : lw_okq (⟨"ExactReaderModel", "goesUp", "()Z"⟩, 17) := ⟨⟨by decide +kernel, by decide +kernel⟩, List.mem_of_getElem? (i := 643) (by decide +kernel), List.mem_of_getElem? (i := 826) (by decide +kernel), List.mem_of_getElem? (i := 827) (by decide +kernel)⟩
theorem lw_p72 : lw_okq (⟨"ExactReaderModel", "pack", "(JII)J"⟩, 17) := ⟨⟨by decide +kernel, by decide +kernel⟩, List.mem_of_getElem? (i := 643) (by decide +kernel), List.mem_of_getElem? (i := 830) (by decide +kernel), List.mem_of_getElem? (i := 831) (by decide +kernel)⟩
theorem lw_p73 : lw_okq (⟨"ExactReaderModel", "compareSize", "(J)I"⟩, 17) := ⟨⟨by decide +kernel, by decide +kernel⟩, List.mem_of_getElem? (i := 643) (by decide +kernel), List.mem_of_getElem? (i := 850) (by decide +kernel), List.mem_of_getElem? (i := 851) (by decide +kernel)⟩
def lw_privs_5 : List (MethodName × Nat) := [(⟨"ExactReaderModel", "findDecimal", "(III)V"⟩, 17), (⟨"ExactReaderModel", "writeOut", "(II)V"⟩, 17), (⟨"ExactReaderModel", "wholePart", "()J"⟩, 17), (⟨"ExactReaderModel", "half", "()V"⟩, 17), (⟨"ExactReaderModel", "twice", "()V"⟩, 17), (⟨"ExactReaderModel", "findHexadecimal", "(III)V"⟩, 17), (⟨"ExactReaderModel", "bitAt", "(J)I"⟩, 17), (⟨"ExactReaderModel", "goesUp", "()Z"⟩, 17), (⟨"ExactReaderModel", "pack", "(JII)J"⟩, 17), (⟨"ExactReaderModel", "compareSize", "(J)I"⟩, 17)]
theorem lw_r5 : ∀ q ∈ lw_privs_5, lw_okq q := List.forall_mem_cons.mpr ⟨lw_p64, List.forall_mem_cons.mpr ⟨lw_p65, List.forall_mem_cons.mpr ⟨lw_p66, List.forall_mem_cons.mpr ⟨lw_p67, List.forall_mem_cons.mpr ⟨lw_p68, List.forall_mem_cons.mpr ⟨lw_p69, List.forall_mem_cons.mpr ⟨lw_p70, List.forall_mem_cons.mpr ⟨lw_p71, List.forall_mem_cons.mpr ⟨lw_p72, List.forall_mem_cons.mpr ⟨lw_p73, fun _ h => absurd h List.not_mem_nil⟩⟩⟩⟩⟩⟩⟩⟩⟩⟩
def lw_privs : List (MethodName × Nat) := lw_privs_1 ++ (lw_privs_2 ++ (lw_privs_3 ++ (lw_privs_4 ++ (lw_privs_5))))
def lw_tbl : List Cond := k2_sels lw_privs ++ tables_1
theorem lw_privs_ok : ∀ q ∈ lw_privs, lw_okq q := by
  show ∀ q ∈ lw_privs_1 ++ (lw_privs_2 ++ (lw_privs_3 ++ (lw_privs_4 ++ (lw_privs_5)))), lw_okq q
  exact List.forall_mem_append.mpr ⟨lw_r1, List.forall_mem_append.mpr ⟨lw_r2, List.forall_mem_append.mpr ⟨lw_r3, List.forall_mem_append.mpr ⟨lw_r4, lw_r5⟩⟩⟩⟩
/-! names: classes, fields, methods, decode rows; words of the tables by their places (by program, out of the Statement) -/
abbrev R_Ms : String := "ExactReader$Measure"
def T_Ms : u_T := fun k => match k with
  | _ => ("ExactReader$Measure", "natural", "LExactReader$Natural;", true)
def ty_Ms : Nat → FieldType := fun k => match k with
  | _ => .object "ExactReader$Natural"
theorem nmo_Ms : ∀ a, a < 1 → ∀ b, b < 1 → a ≠ b → (T_Ms a).2.1 ≠ (T_Ms b).2.1 := by decide +kernel
theorem tyo_Ms : ∀ k, k < 1 → parseFieldDescriptor (T_Ms k).2.2.1 = some (ty_Ms k) := by decide +kernel
abbrev R_Na : String := "ExactReader$Natural"
def T_Na : u_T := fun k => match k with
  | 0 => ("ExactReader$Natural", "words", "[I", true)
  | 1 => ("ExactReader$Natural", "size", "I", false)
  | 2 => ("ExactReader$Natural", "gathered", "I", false)
  | _ => ("ExactReader$Natural", "weight", "I", false)
def ty_Na : Nat → FieldType := fun k => match k with
  | 0 => .array .int
  | 1 => .int
  | 2 => .int
  | _ => .int
theorem nmo_Na : ∀ a, a < 4 → ∀ b, b < 4 → a ≠ b → (T_Na a).2.1 ≠ (T_Na b).2.1 := by decide +kernel
theorem tyo_Na : ∀ k, k < 4 → parseFieldDescriptor (T_Na k).2.2.1 = some (ty_Na k) := by decide +kernel
abbrev R_Nt : String := "ExactReader$NumberText"
def T_Nt : u_T := fun k => match k with
  | 0 => ("ExactReader$NumberText", "row", "[C", true)
  | 1 => ("ExactReader$NumberText", "length", "I", false)
  | 2 => ("ExactReader$NumberText", "scanned", "Z", false)
  | 3 => ("ExactReader$NumberText", "measured", "Z", false)
  | 4 => ("ExactReader$NumberText", "at", "I", false)
  | 5 => ("ExactReader$NumberText", "found", "I", false)
  | 6 => ("ExactReader$NumberText", "wrongAt", "I", false)
  | 7 => ("ExactReader$NumberText", "negative", "Z", false)
  | 8 => ("ExactReader$NumberText", "digitsFrom", "I", false)
  | 9 => ("ExactReader$NumberText", "digitsTo", "I", false)
  | 10 => ("ExactReader$NumberText", "significant", "I", false)
  | 11 => ("ExactReader$NumberText", "fraction", "I", false)
  | _ => ("ExactReader$NumberText", "exponent", "I", false)
def ty_Nt : Nat → FieldType := fun k => match k with
  | 0 => .array .char
  | 1 => .int
  | 2 => .boolean
  | 3 => .boolean
  | 4 => .int
  | 5 => .int
  | 6 => .int
  | 7 => .boolean
  | 8 => .int
  | 9 => .int
  | 10 => .int
  | 11 => .int
  | _ => .int
theorem nmo_Nt : ∀ a, a < 13 → ∀ b, b < 13 → a ≠ b → (T_Nt a).2.1 ≠ (T_Nt b).2.1 := by decide +kernel
theorem tyo_Nt : ∀ k, k < 13 → parseFieldDescriptor (T_Nt k).2.2.1 = some (ty_Nt k) := by decide +kernel
abbrev R_Ro : String := "ExactReader$Rounding"
def T_Ro : u_T := fun k => match k with
  | 0 => ("ExactReader$Rounding", "m", "J", false)
  | 1 => ("ExactReader$Rounding", "k", "I", false)
  | 2 => ("ExactReader$Rounding", "infinite", "Z", false)
  | _ => ("ExactReader$Rounding", "lies", "I", false)
def ty_Ro : Nat → FieldType := fun k => match k with
  | 0 => .long
  | 1 => .int
  | 2 => .boolean
  | _ => .int
theorem nmo_Ro : ∀ a, a < 4 → ∀ b, b < 4 → a ≠ b → (T_Ro a).2.1 ≠ (T_Ro b).2.1 := by decide +kernel
theorem tyo_Ro : ∀ k, k < 4 → parseFieldDescriptor (T_Ro k).2.2.1 = some (ty_Ro k) := by decide +kernel
abbrev R_Si : String := "ExactReader$Size"
def T_Si : u_T := fun k => match k with
  | 0 => ("ExactReader$Size", "lead", "J", false)
  | 1 => ("ExactReader$Size", "place", "I", false)
  | _ => ("ExactReader$Size", "rest", "Z", false)
def ty_Si : Nat → FieldType := fun k => match k with
  | 0 => .long
  | 1 => .int
  | _ => .boolean
theorem nmo_Si : ∀ a, a < 3 → ∀ b, b < 3 → a ≠ b → (T_Si a).2.1 ≠ (T_Si b).2.1 := by decide +kernel
theorem tyo_Si : ∀ k, k < 3 → parseFieldDescriptor (T_Si k).2.2.1 = some (ty_Si k) := by decide +kernel
abbrev R_Er : String := "ExactReader"
def T_Er : u_T := fun k => match k with
  | 0 => ("ExactReader", "text", "LExactReader$NumberText;", true)
  | 1 => ("ExactReader", "measure", "LExactReader$Measure;", true)
  | 2 => ("ExactReader", "said", "LExactReader$Size;", true)
  | 3 => ("ExactReader", "other", "LExactReader$Size;", true)
  | _ => ("ExactReader", "rounding", "LExactReader$Rounding;", true)
def ty_Er : Nat → FieldType := fun k => match k with
  | 0 => .object "ExactReader$NumberText"
  | 1 => .object "ExactReader$Measure"
  | 2 => .object "ExactReader$Size"
  | 3 => .object "ExactReader$Size"
  | _ => .object "ExactReader$Rounding"
theorem nmo_Er : ∀ a, a < 5 → ∀ b, b < 5 → a ≠ b → (T_Er a).2.1 ≠ (T_Er b).2.1 := by decide +kernel
theorem tyo_Er : ∀ k, k < 5 → parseFieldDescriptor (T_Er k).2.2.1 = some (ty_Er k) := by decide +kernel
abbrev R_Mo : String := "ExactReaderModel"
def T_Mo : u_T := fun k => match k with
  | 0 => ("ExactReaderModel", "thrown", "I", false)
  | 1 => ("ExactReaderModel", "text", "[I", true)
  | 2 => ("ExactReaderModel", "length", "I", false)
  | 3 => ("ExactReaderModel", "kind", "I", false)
  | 4 => ("ExactReaderModel", "place", "I", false)
  | 5 => ("ExactReaderModel", "below", "Z", false)
  | 6 => ("ExactReaderModel", "figures", "[I", true)
  | 7 => ("ExactReaderModel", "many", "I", false)
  | 8 => ("ExactReaderModel", "point", "I", false)
  | 9 => ("ExactReaderModel", "exponent", "J", false)
  | 10 => ("ExactReaderModel", "words", "[I", true)
  | 11 => ("ExactReaderModel", "from", "I", false)
  | 12 => ("ExactReaderModel", "to", "I", false)
  | 13 => ("ExactReaderModel", "whole", "J", false)
  | 14 => ("ExactReaderModel", "scale", "J", false)
  | 15 => ("ExactReaderModel", "rest", "I", false)
  | _ => ("ExactReaderModel", "huge", "Z", false)
def ty_Mo : Nat → FieldType := fun k => match k with
  | 0 => .int
  | 1 => .array .int
  | 2 => .int
  | 3 => .int
  | 4 => .int
  | 5 => .boolean
  | 6 => .array .int
  | 7 => .int
  | 8 => .int
  | 9 => .long
  | 10 => .array .int
  | 11 => .int
  | 12 => .int
  | 13 => .long
  | 14 => .long
  | 15 => .int
  | _ => .boolean
theorem nmo_Mo : ∀ a, a < 17 → ∀ b, b < 17 → a ≠ b → (T_Mo a).2.1 ≠ (T_Mo b).2.1 := by decide +kernel
theorem tyo_Mo : ∀ k, k < 17 → parseFieldDescriptor (T_Mo k).2.2.1 = some (ty_Mo k) := by decide +kernel
abbrev vwCl : List vw_C := [(R_Ms, T_Ms, 1), (R_Na, T_Na, 4), (R_Nt, T_Nt, 13), (R_Ro, T_Ro, 4), (R_Si, T_Si, 3), (R_Er, T_Er, 5), (R_Mo, T_Mo, 17)]
def yEr_init : MethodName := ⟨"ExactReader", "<init>", "()V"⟩
abbrev cEr_init : ByteArray := prog_1_method_1_code
def yNt_init : MethodName := ⟨"ExactReader$NumberText", "<init>", "()V"⟩
abbrev cNt_init : ByteArray := prog_5_method_1_code
def yMs_init : MethodName := ⟨"ExactReader$Measure", "<init>", "()V"⟩
abbrev cMs_init : ByteArray := prog_3_method_1_code
def yNa_init : MethodName := ⟨"ExactReader$Natural", "<init>", "()V"⟩
abbrev cNa_init : ByteArray := prog_4_method_1_code
def ySi_init : MethodName := ⟨"ExactReader$Size", "<init>", "()V"⟩
abbrev cSi_init : ByteArray := prog_7_method_1_code
def yRo_init : MethodName := ⟨"ExactReader$Rounding", "<init>", "()V"⟩
abbrev cRo_init : ByteArray := prog_6_method_1_code
def yEr_write : MethodName := ⟨"ExactReader", "write", "(J)I"⟩
abbrev cEr_write : ByteArray := prog_1_method_2_code
def yEr_byteOf : MethodName := ⟨"ExactReader", "byteOf", "(JI)C"⟩
abbrev cEr_byteOf : ByteArray := prog_1_method_12_code
def yNt_room : MethodName := ⟨"ExactReader$NumberText", "room", "()I"⟩
abbrev cNt_room : ByteArray := prog_5_method_2_code
def yNt_append : MethodName := ⟨"ExactReader$NumberText", "append", "(C)V"⟩
abbrev cNt_append : ByteArray := prog_5_method_3_code
def yEr_wipe : MethodName := ⟨"ExactReader", "wipe", "()I"⟩
abbrev cEr_wipe : ByteArray := prog_1_method_5_code
def yNt_dropLast : MethodName := ⟨"ExactReader$NumberText", "dropLast", "(I)V"⟩
abbrev cNt_dropLast : ByteArray := prog_5_method_4_code
def yJM_min : MethodName := ⟨"java/lang/Math", "min", "(II)I"⟩
abbrev cJM_min : ByteArray := prog_16_method_69_code
def yEr_kind : MethodName := ⟨"ExactReader", "kind", "()I"⟩
abbrev cEr_kind : ByteArray := prog_1_method_6_code
def yNt_scan : MethodName := ⟨"ExactReader$NumberText", "scan", "()V"⟩
abbrev cNt_scan : ByteArray := prog_5_method_5_code
def yNt_skipBlanks : MethodName := ⟨"ExactReader$NumberText", "skipBlanks", "()V"⟩
abbrev cNt_skipBlanks : ByteArray := prog_5_method_8_code
def yNt_here : MethodName := ⟨"ExactReader$NumberText", "here", "()C"⟩
abbrev cNt_here : ByteArray := prog_5_method_6_code
def yNt_skipOneOf : MethodName := ⟨"ExactReader$NumberText", "skipOneOf", "(CC)Z"⟩
abbrev cNt_skipOneOf : ByteArray := prog_5_method_9_code
def yNt_takeBody : MethodName := ⟨"ExactReader$NumberText", "takeBody", "()I"⟩
abbrev cNt_takeBody : ByteArray := prog_5_method_10_code
def yNt_takeWord : MethodName := ⟨"ExactReader$NumberText", "takeWord", "(Ljava/lang/String;)Z"⟩
abbrev cNt_takeWord : ByteArray := prog_5_method_11_code
def yJS_length : MethodName := ⟨"java/lang/String", "length", "()I"⟩
abbrev cJS_length : ByteArray := prog_18_method_54_code
def yJS_coder : MethodName := ⟨"java/lang/String", "coder", "()B"⟩
abbrev cJS_coder : ByteArray := prog_18_method_152_code
def yJS_charAt : MethodName := ⟨"java/lang/String", "charAt", "(I)C"⟩
abbrev cJS_charAt : ByteArray := prog_18_method_56_code
def yJS_isLatin1 : MethodName := ⟨"java/lang/String", "isLatin1", "()Z"⟩
abbrev cJS_isLatin1 : ByteArray := prog_18_method_154_code
def yJT_charAt : MethodName := ⟨"java/lang/StringLatin1", "charAt", "([BI)C"⟩
abbrev cJT_charAt : ByteArray := prog_19_method_2_code
def yJS_checkIndex : MethodName := ⟨"java/lang/String", "checkIndex", "(II)V"⟩
abbrev cJS_checkIndex : ByteArray := prog_18_method_155_code
def yNt_characterAt : MethodName := ⟨"ExactReader$NumberText", "characterAt", "(I)C"⟩
abbrev cNt_characterAt : ByteArray := prog_5_method_7_code
def yNt_takeHexadecimal : MethodName := ⟨"ExactReader$NumberText", "takeHexadecimal", "()Z"⟩
abbrev cNt_takeHexadecimal : ByteArray := prog_5_method_13_code
def yNt_takeDigits : MethodName := ⟨"ExactReader$NumberText", "takeDigits", "(I)Z"⟩
abbrev cNt_takeDigits : ByteArray := prog_5_method_14_code
def yNt_digitOf : MethodName := ⟨"ExactReader$NumberText", "digitOf", "(CI)I"⟩
abbrev cNt_digitOf : ByteArray := prog_5_method_18_code
def yNt_takeExponent : MethodName := ⟨"ExactReader$NumberText", "takeExponent", "()Z"⟩
abbrev cNt_takeExponent : ByteArray := prog_5_method_15_code
def yNt_skipSuffix : MethodName := ⟨"ExactReader$NumberText", "skipSuffix", "()V"⟩
abbrev cNt_skipSuffix : ByteArray := prog_5_method_16_code
def yNt_takeDecimal : MethodName := ⟨"ExactReader$NumberText", "takeDecimal", "()Z"⟩
abbrev cNt_takeDecimal : ByteArray := prog_5_method_12_code
def yEr_fault : MethodName := ⟨"ExactReader", "fault", "()I"⟩
abbrev cEr_fault : ByteArray := prog_1_method_7_code
def yEr_repeat : MethodName := ⟨"ExactReader", "repeat", "(II)I"⟩
abbrev cEr_repeat : ByteArray := prog_1_method_3_code
def yEr_cut : MethodName := ⟨"ExactReader", "cut", "(I)I"⟩
abbrev cEr_cut : ByteArray := prog_1_method_4_code
def yEr_bits : MethodName := ⟨"ExactReader", "bits", "()J"⟩
abbrev cEr_bits : ByteArray := prog_1_method_8_code
def yEr_bitsRead : MethodName := ⟨"ExactReader", "bitsRead", "(LExactReader$Format;)J"⟩
abbrev cEr_bitsRead : ByteArray := prog_1_method_13_code
def yFm_bitsOfNoNumber : MethodName := ⟨"ExactReader$Format", "bitsOfNoNumber", "()J"⟩
abbrev cFm_bitsOfNoNumber : ByteArray := prog_2_method_12_code
def yFm_infiniteField : MethodName := ⟨"ExactReader$Format", "infiniteField", "()I"⟩
abbrev cFm_infiniteField : ByteArray := prog_2_method_5_code
def yFm_hiddenBit : MethodName := ⟨"ExactReader$Format", "hiddenBit", "()J"⟩
abbrev cFm_hiddenBit : ByteArray := prog_2_method_9_code
def yFm_bitsOf : MethodName := ⟨"ExactReader$Format", "bitsOf", "(IJ)J"⟩
abbrev cFm_bitsOf : ByteArray := prog_2_method_11_code
def yFm_lowField : MethodName := ⟨"ExactReader$Format", "lowField", "(J)J"⟩
abbrev cFm_lowField : ByteArray := prog_2_method_8_code
def yEr_measureText : MethodName := ⟨"ExactReader", "measureText", "()V"⟩
abbrev cEr_measureText : ByteArray := prog_1_method_14_code
def yMs_hexadecimal : MethodName := ⟨"ExactReader$Measure", "hexadecimal", "(LExactReader$NumberText;LExactReader$Size;)V"⟩
abbrev cMs_hexadecimal : ByteArray := prog_3_method_2_code
def ySi_begin : MethodName := ⟨"ExactReader$Size", "begin", "()V"⟩
abbrev cSi_begin : ByteArray := prog_7_method_2_code
def yNt_digitAt : MethodName := ⟨"ExactReader$NumberText", "digitAt", "(II)I"⟩
abbrev cNt_digitAt : ByteArray := prog_5_method_17_code
def ySi_push : MethodName := ⟨"ExactReader$Size", "push", "(II)V"⟩
abbrev cSi_push : ByteArray := prog_7_method_3_code
def ySi_pushBit : MethodName := ⟨"ExactReader$Size", "pushBit", "(I)V"⟩
abbrev cSi_pushBit : ByteArray := prog_7_method_4_code
def ySi_end : MethodName := ⟨"ExactReader$Size", "end", "(IZ)V"⟩
abbrev cSi_end : ByteArray := prog_7_method_5_code
def ySi_set : MethodName := ⟨"ExactReader$Size", "set", "(JI)V"⟩
abbrev cSi_set : ByteArray := prog_7_method_6_code
def yJL_numberOfLeadingZeros : MethodName := ⟨"java/lang/Long", "numberOfLeadingZeros", "(J)I"⟩
abbrev cJL_numberOfLeadingZeros : ByteArray := prog_15_method_48_code
def yJI_numberOfLeadingZeros : MethodName := ⟨"java/lang/Integer", "numberOfLeadingZeros", "(I)I"⟩
abbrev cJI_numberOfLeadingZeros : ByteArray := prog_14_method_47_code
def yMs_decimal : MethodName := ⟨"ExactReader$Measure", "decimal", "(LExactReader$NumberText;LExactReader$Size;)V"⟩
abbrev cMs_decimal : ByteArray := prog_3_method_3_code
def yMs_loadDigits : MethodName := ⟨"ExactReader$Measure", "loadDigits", "(LExactReader$NumberText;I)Z"⟩
abbrev cMs_loadDigits : ByteArray := prog_3_method_4_code
def yNa_begin : MethodName := ⟨"ExactReader$Natural", "begin", "()V"⟩
abbrev cNa_begin : ByteArray := prog_4_method_3_code
def yNa_pushDigit : MethodName := ⟨"ExactReader$Natural", "pushDigit", "(I)V"⟩
abbrev cNa_pushDigit : ByteArray := prog_4_method_4_code
def yNa_end : MethodName := ⟨"ExactReader$Natural", "end", "()V"⟩
abbrev cNa_end : ByteArray := prog_4_method_5_code
def yNa_multiplyAdd : MethodName := ⟨"ExactReader$Natural", "multiplyAdd", "(II)V"⟩
abbrev cNa_multiplyAdd : ByteArray := prog_4_method_6_code
def yMs_takeTimesTen : MethodName := ⟨"ExactReader$Measure", "takeTimesTen", "(IZLExactReader$Size;)V"⟩
abbrev cMs_takeTimesTen : ByteArray := prog_3_method_5_code
def yNa_multiplyByFives : MethodName := ⟨"ExactReader$Natural", "multiplyByFives", "(I)V"⟩
abbrev cNa_multiplyByFives : ByteArray := prog_4_method_8_code
def yNa_powerOfFive : MethodName := ⟨"ExactReader$Natural", "powerOfFive", "(I)I"⟩
abbrev cNa_powerOfFive : ByteArray := prog_4_method_7_code
def yNa_raiseAboveFives : MethodName := ⟨"ExactReader$Natural", "raiseAboveFives", "(I)I"⟩
abbrev cNa_raiseAboveFives : ByteArray := prog_4_method_11_code
def yNa_wordAt : MethodName := ⟨"ExactReader$Natural", "wordAt", "(I)I"⟩
abbrev cNa_wordAt : ByteArray := prog_4_method_2_code
def yNa_divideByFives : MethodName := ⟨"ExactReader$Natural", "divideByFives", "(I)Z"⟩
abbrev cNa_divideByFives : ByteArray := prog_4_method_9_code
def yNa_divide : MethodName := ⟨"ExactReader$Natural", "divide", "(I)Z"⟩
abbrev cNa_divide : ByteArray := prog_4_method_10_code
def ySi_setInfinite : MethodName := ⟨"ExactReader$Size", "setInfinite", "()V"⟩
abbrev cSi_setInfinite : ByteArray := prog_7_method_7_code
def yRo_round : MethodName := ⟨"ExactReader$Rounding", "round", "(LExactReader$Size;LExactReader$Format;)V"⟩
abbrev cRo_round : ByteArray := prog_6_method_2_code
def yJM_max : MethodName := ⟨"java/lang/Math", "max", "(II)I"⟩
abbrev cJM_max : ByteArray := prog_16_method_65_code
def yRo_setWhole : MethodName := ⟨"ExactReader$Rounding", "setWhole", "(JI)V"⟩
abbrev cRo_setWhole : ByteArray := prog_6_method_3_code
def yRo_roundLead : MethodName := ⟨"ExactReader$Rounding", "roundLead", "(LExactReader$Size;I)V"⟩
abbrev cRo_roundLead : ByteArray := prog_6_method_4_code
def yRo_carry : MethodName := ⟨"ExactReader$Rounding", "carry", "(LExactReader$Format;)V"⟩
abbrev cRo_carry : ByteArray := prog_6_method_5_code
def yFm_exponentOf : MethodName := ⟨"ExactReader$Format", "exponentOf", "(I)I"⟩
abbrev cFm_exponentOf : ByteArray := prog_2_method_6_code
def yRo_bitsOfSize : MethodName := ⟨"ExactReader$Rounding", "bitsOfSize", "(LExactReader$Format;)J"⟩
abbrev cRo_bitsOfSize : ByteArray := prog_6_method_6_code
def yFm_signBit : MethodName := ⟨"ExactReader$Format", "signBit", "()J"⟩
abbrev cFm_signBit : ByteArray := prog_2_method_10_code
def yEr_floatBits : MethodName := ⟨"ExactReader", "floatBits", "()I"⟩
abbrev cEr_floatBits : ByteArray := prog_1_method_9_code
def yEr_side : MethodName := ⟨"ExactReader", "side", "(Z)I"⟩
abbrev cEr_side : ByteArray := prog_1_method_10_code
def yEr_compare : MethodName := ⟨"ExactReader", "compare", "(J)I"⟩
abbrev cEr_compare : ByteArray := prog_1_method_11_code
def yFm_areNoNumber : MethodName := ⟨"ExactReader$Format", "areNoNumber", "(J)Z"⟩
abbrev cFm_areNoNumber : ByteArray := prog_2_method_4_code
def yFm_exponentField : MethodName := ⟨"ExactReader$Format", "exponentField", "(J)I"⟩
abbrev cFm_exponentField : ByteArray := prog_2_method_7_code
def ySi_setDouble : MethodName := ⟨"ExactReader$Size", "setDouble", "(J)V"⟩
abbrev cSi_setDouble : ByteArray := prog_7_method_8_code
def ySi_signWith : MethodName := ⟨"ExactReader$Size", "signWith", "(Z)I"⟩
abbrev cSi_signWith : ByteArray := prog_7_method_9_code
def yJI_compare : MethodName := ⟨"java/lang/Integer", "compare", "(II)I"⟩
abbrev cJI_compare : ByteArray := prog_14_method_40_code
def ySi_order : MethodName := ⟨"ExactReader$Size", "order", "(LExactReader$Size;)I"⟩
abbrev cSi_order : ByteArray := prog_7_method_10_code
def yJL_compare : MethodName := ⟨"java/lang/Long", "compare", "(JJ)I"⟩
abbrev cJL_compare : ByteArray := prog_15_method_42_code
def yMo_init : MethodName := ⟨"ExactReaderModel", "<init>", "()V"⟩
abbrev cMo_init : ByteArray := prog_9_method_1_code
def yMo_thrown : MethodName := ⟨"ExactReaderModel", "thrown", "()I"⟩
abbrev cMo_thrown : ByteArray := prog_9_method_2_code
def yMo_write : MethodName := ⟨"ExactReaderModel", "write", "(J)I"⟩
abbrev cMo_write : ByteArray := prog_9_method_3_code
def yMo_repeat : MethodName := ⟨"ExactReaderModel", "repeat", "(II)I"⟩
abbrev cMo_repeat : ByteArray := prog_9_method_4_code
def yMo_cut : MethodName := ⟨"ExactReaderModel", "cut", "(I)I"⟩
abbrev cMo_cut : ByteArray := prog_9_method_5_code
def yMo_wipe : MethodName := ⟨"ExactReaderModel", "wipe", "()I"⟩
abbrev cMo_wipe : ByteArray := prog_9_method_6_code
def yMo_kind : MethodName := ⟨"ExactReaderModel", "kind", "()I"⟩
abbrev cMo_kind : ByteArray := prog_9_method_17_code
def yMo_scan : MethodName := ⟨"ExactReaderModel", "scan", "()Z"⟩
abbrev cMo_scan : ByteArray := prog_9_method_16_code
def yMo_blanks : MethodName := ⟨"ExactReaderModel", "blanks", "()V"⟩
abbrev cMo_blanks : ByteArray := prog_9_method_15_code
def yMo_here : MethodName := ⟨"ExactReaderModel", "here", "()I"⟩
abbrev cMo_here : ByteArray := prog_9_method_7_code
def yMo_spells : MethodName := ⟨"ExactReaderModel", "spells", "(J)Z"⟩
abbrev cMo_spells : ByteArray := prog_9_method_11_code
def yMo_number : MethodName := ⟨"ExactReaderModel", "number", "()Z"⟩
abbrev cMo_number : ByteArray := prog_9_method_14_code
def yMo_digits : MethodName := ⟨"ExactReaderModel", "digits", "(Z)Z"⟩
abbrev cMo_digits : ByteArray := prog_9_method_12_code
def yMo_hex : MethodName := ⟨"ExactReaderModel", "hex", "(I)I"⟩
abbrev cMo_hex : ByteArray := prog_9_method_9_code
def yMo_isDigit : MethodName := ⟨"ExactReaderModel", "isDigit", "(I)Z"⟩
abbrev cMo_isDigit : ByteArray := prog_9_method_8_code
def yMo_isAt : MethodName := ⟨"ExactReaderModel", "isAt", "(II)Z"⟩
abbrev cMo_isAt : ByteArray := prog_9_method_10_code
def yMo_power : MethodName := ⟨"ExactReaderModel", "power", "()Z"⟩
abbrev cMo_power : ByteArray := prog_9_method_13_code
def yMo_fault : MethodName := ⟨"ExactReaderModel", "fault", "()I"⟩
abbrev cMo_fault : ByteArray := prog_9_method_18_code
def yMo_bits : MethodName := ⟨"ExactReaderModel", "bits", "()J"⟩
abbrev cMo_bits : ByteArray := prog_9_method_30_code
def yMo_sizeRead : MethodName := ⟨"ExactReaderModel", "sizeRead", "(II)J"⟩
abbrev cMo_sizeRead : ByteArray := prog_9_method_29_code
def yMo_find : MethodName := ⟨"ExactReaderModel", "find", "(II)V"⟩
abbrev cMo_find : ByteArray := prog_9_method_26_code
def yMo_findDecimal : MethodName := ⟨"ExactReaderModel", "findDecimal", "(III)V"⟩
abbrev cMo_findDecimal : ByteArray := prog_9_method_23_code
def yMo_writeOut : MethodName := ⟨"ExactReaderModel", "writeOut", "(II)V"⟩
abbrev cMo_writeOut : ByteArray := prog_9_method_22_code
def yMo_wholePart : MethodName := ⟨"ExactReaderModel", "wholePart", "()J"⟩
abbrev cMo_wholePart : ByteArray := prog_9_method_21_code
def yMo_half : MethodName := ⟨"ExactReaderModel", "half", "()V"⟩
abbrev cMo_half : ByteArray := prog_9_method_20_code
def yMo_twice : MethodName := ⟨"ExactReaderModel", "twice", "()V"⟩
abbrev cMo_twice : ByteArray := prog_9_method_19_code
def yMo_findHexadecimal : MethodName := ⟨"ExactReaderModel", "findHexadecimal", "(III)V"⟩
abbrev cMo_findHexadecimal : ByteArray := prog_9_method_25_code
def yMo_bitAt : MethodName := ⟨"ExactReaderModel", "bitAt", "(J)I"⟩
abbrev cMo_bitAt : ByteArray := prog_9_method_24_code
def yMo_goesUp : MethodName := ⟨"ExactReaderModel", "goesUp", "()Z"⟩
abbrev cMo_goesUp : ByteArray := prog_9_method_27_code
def yMo_pack : MethodName := ⟨"ExactReaderModel", "pack", "(JII)J"⟩
abbrev cMo_pack : ByteArray := prog_9_method_28_code
def yMo_floatBits : MethodName := ⟨"ExactReaderModel", "floatBits", "()I"⟩
abbrev cMo_floatBits : ByteArray := prog_9_method_31_code
def yMo_side : MethodName := ⟨"ExactReaderModel", "side", "(Z)I"⟩
abbrev cMo_side : ByteArray := prog_9_method_32_code
def yMo_compare : MethodName := ⟨"ExactReaderModel", "compare", "(J)I"⟩
abbrev cMo_compare : ByteArray := prog_9_method_34_code
def yMo_compareSize : MethodName := ⟨"ExactReaderModel", "compareSize", "(J)I"⟩
abbrev cMo_compareSize : ByteArray := prog_9_method_33_code
def yLa_repeat : MethodName := ⟨"ExactReaderLaw", "repeat", "(LExactReader;II[J)I"⟩
abbrev cLa_repeat : ByteArray := method_3_code
def yLa_cut : MethodName := ⟨"ExactReaderLaw", "cut", "(LExactReader;I[J)I"⟩
abbrev cLa_cut : ByteArray := method_4_code
def yLa_bits : MethodName := ⟨"ExactReaderLaw", "bits", "(LExactReader;[J)I"⟩
abbrev cLa_bits : ByteArray := method_5_code
def yLa_floatBits : MethodName := ⟨"ExactReaderLaw", "floatBits", "(LExactReader;[J)I"⟩
abbrev cLa_floatBits : ByteArray := method_6_code
def yLa_side : MethodName := ⟨"ExactReaderLaw", "side", "(LExactReader;Z[J)I"⟩
abbrev cLa_side : ByteArray := method_7_code
def yLa_compare : MethodName := ⟨"ExactReaderLaw", "compare", "(LExactReader;J[J)I"⟩
abbrev cLa_compare : ByteArray := method_8_code
def yLa_law : MethodName := ⟨"ExactReaderLaw", "law", "([I)Z"⟩
abbrev cLa_law : ByteArray := code
