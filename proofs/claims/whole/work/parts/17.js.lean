theorem dJS_length_0 : decode cJS_length 0 = .ok (.aload_n 0, 1) := by decide +kernel
theorem dJS_length_1 : decode cJS_length 1 = .ok (.getfield 9, 3) := by decide +kernel
theorem dJS_length_4 : decode cJS_length 4 = .ok (.arraylength, 1) := by decide +kernel
theorem dJS_length_5 : decode cJS_length 5 = .ok (.aload_n 0, 1) := by decide +kernel
theorem dJS_length_6 : decode cJS_length 6 = .ok (.invokevirtual 335, 3) := by decide +kernel
theorem dJS_length_9 : decode cJS_length 9 = .ok (.ishr, 1) := by decide +kernel
theorem dJS_length_10 : decode cJS_length 10 = .ok (.ireturn, 1) := by decide +kernel
theorem dJS_coder_0 : decode cJS_coder 0 = .ok (.getstatic 38, 3) := by decide +kernel
theorem dJS_coder_3 : decode cJS_coder 3 = .ok (.ifCond .eq 10, 3) := by decide +kernel
theorem dJS_coder_6 : decode cJS_coder 6 = .ok (.aload_n 0, 1) := by decide +kernel
theorem dJS_coder_7 : decode cJS_coder 7 = .ok (.getfield 15, 3) := by decide +kernel
theorem dJS_coder_10 : decode cJS_coder 10 = .ok (.goto 4, 3) := by decide +kernel
theorem dJS_coder_13 : decode cJS_coder 13 = .ok (.iconst 1, 1) := by decide +kernel
theorem dJS_coder_14 : decode cJS_coder 14 = .ok (.ireturn, 1) := by decide +kernel
theorem dJS_charAt_0 : decode cJS_charAt 0 = .ok (.aload_n 0, 1) := by decide +kernel
theorem dJS_charAt_1 : decode cJS_charAt 1 = .ok (.invokevirtual 492, 3) := by decide +kernel
theorem dJS_charAt_4 : decode cJS_charAt 4 = .ok (.ifCond .eq 12, 3) := by decide +kernel
theorem dJS_charAt_7 : decode cJS_charAt 7 = .ok (.aload_n 0, 1) := by decide +kernel
theorem dJS_charAt_8 : decode cJS_charAt 8 = .ok (.getfield 9, 3) := by decide +kernel
theorem dJS_charAt_11 : decode cJS_charAt 11 = .ok (.iload_n 1, 1) := by decide +kernel
theorem dJS_charAt_12 : decode cJS_charAt 12 = .ok (.invokestatic 495, 3) := by decide +kernel
theorem dJS_charAt_15 : decode cJS_charAt 15 = .ok (.ireturn, 1) := by decide +kernel
theorem dJS_charAt_16 : decode cJS_charAt 16 = .ok (.aload_n 0, 1) := by decide +kernel
theorem dJS_charAt_17 : decode cJS_charAt 17 = .ok (.getfield 9, 3) := by decide +kernel
theorem dJS_charAt_20 : decode cJS_charAt 20 = .ok (.iload_n 1, 1) := by decide +kernel
theorem dJS_charAt_21 : decode cJS_charAt 21 = .ok (.invokestatic 498, 3) := by decide +kernel
theorem dJS_charAt_24 : decode cJS_charAt 24 = .ok (.ireturn, 1) := by decide +kernel
theorem dJS_isLatin1_0 : decode cJS_isLatin1 0 = .ok (.getstatic 38, 3) := by decide +kernel
theorem dJS_isLatin1_3 : decode cJS_isLatin1 3 = .ok (.ifCond .eq 14, 3) := by decide +kernel
theorem dJS_isLatin1_6 : decode cJS_isLatin1 6 = .ok (.aload_n 0, 1) := by decide +kernel
theorem dJS_isLatin1_7 : decode cJS_isLatin1 7 = .ok (.getfield 15, 3) := by decide +kernel
theorem dJS_isLatin1_10 : decode cJS_isLatin1 10 = .ok (.ifCond .ne 7, 3) := by decide +kernel
theorem dJS_isLatin1_13 : decode cJS_isLatin1 13 = .ok (.iconst 1, 1) := by decide +kernel
theorem dJS_isLatin1_14 : decode cJS_isLatin1 14 = .ok (.goto 4, 3) := by decide +kernel
theorem dJS_isLatin1_17 : decode cJS_isLatin1 17 = .ok (.iconst 0, 1) := by decide +kernel
theorem dJS_isLatin1_18 : decode cJS_isLatin1 18 = .ok (.ireturn, 1) := by decide +kernel
theorem dJS_checkIndex_0 : decode cJS_checkIndex 0 = .ok (.iload_n 0, 1) := by decide +kernel
theorem dJS_checkIndex_1 : decode cJS_checkIndex 1 = .ok (.iload_n 1, 1) := by decide +kernel
theorem dJS_checkIndex_2 : decode cJS_checkIndex 2 = .ok (.getstatic 1053, 3) := by decide +kernel
theorem dJS_checkIndex_5 : decode cJS_checkIndex 5 = .ok (.invokestatic 1059, 3) := by decide +kernel
theorem dJS_checkIndex_8 : decode cJS_checkIndex 8 = .ok (.pop, 1) := by decide +kernel
theorem dJS_checkIndex_9 : decode cJS_checkIndex 9 = .ok (.return_, 1) := by decide +kernel
theorem dJT_charAt_0 : decode cJT_charAt 0 = .ok (.iload_n 1, 1) := by decide +kernel
theorem dJT_charAt_1 : decode cJT_charAt 1 = .ok (.aload_n 0, 1) := by decide +kernel
theorem dJT_charAt_2 : decode cJT_charAt 2 = .ok (.arraylength, 1) := by decide +kernel
theorem dJT_charAt_3 : decode cJT_charAt 3 = .ok (.invokestatic 9, 3) := by decide +kernel
theorem dJT_charAt_6 : decode cJT_charAt 6 = .ok (.aload_n 0, 1) := by decide +kernel
theorem dJT_charAt_7 : decode cJT_charAt 7 = .ok (.iload_n 1, 1) := by decide +kernel
theorem dJT_charAt_8 : decode cJT_charAt 8 = .ok (.baload, 1) := by decide +kernel
theorem dJT_charAt_9 : decode cJT_charAt 9 = .ok (.sipush 255, 3) := by decide +kernel
theorem dJT_charAt_12 : decode cJT_charAt 12 = .ok (.iand, 1) := by decide +kernel
theorem dJT_charAt_13 : decode cJT_charAt 13 = .ok (.i2c, 1) := by decide +kernel
theorem dJT_charAt_14 : decode cJT_charAt 14 = .ok (.ireturn, 1) := by decide +kernel
def yJP_checkIndex : MethodName := ⟨"jdk/internal/util/Preconditions", "checkIndex", "(IILjava/util/function/BiFunction;)I"⟩
abbrev cJP_checkIndex : ByteArray := prog_22_method_11_code
abbrev m_JP_checkIndex : gM := (yJP_checkIndex, cJP_checkIndex, 3, (some .int), { frames := 0, cells := 0, slots := 0, locals := 0 })
theorem dJP_checkIndex_0 : decode cJP_checkIndex 0 = .ok (.iload_n 0, 1) := by decide +kernel
theorem dJP_checkIndex_1 : decode cJP_checkIndex 1 = .ok (.ifCond .lt 8, 3) := by decide +kernel
theorem dJP_checkIndex_4 : decode cJP_checkIndex 4 = .ok (.iload_n 0, 1) := by decide +kernel
theorem dJP_checkIndex_5 : decode cJP_checkIndex 5 = .ok (.iload_n 1, 1) := by decide +kernel
theorem dJP_checkIndex_6 : decode cJP_checkIndex 6 = .ok (.if_icmp .lt 10, 3) := by decide +kernel
theorem dJP_checkIndex_16 : decode cJP_checkIndex 16 = .ok (.iload_n 0, 1) := by decide +kernel
theorem dJP_checkIndex_17 : decode cJP_checkIndex 17 = .ok (.ireturn, 1) := by decide +kernel
theorem w_15 : (Jvm.Cond.initialized "jdk/internal/util/Preconditions") ∈ g_tbl := List.mem_filter.mpr ⟨List.mem_append_right _ (List.mem_of_getElem? (i := 15) (by decide +kernel)), by decide +kernel⟩
theorem w_230 : (Jvm.Cond.instanceMethod ({ cls := "java/lang/String", name := "length", desc := "()I" } : Jvm.MethodName)) ∈ g_tbl := List.mem_filter.mpr ⟨List.mem_append_right _ (List.mem_of_getElem? (i := 230) (by decide +kernel)), by decide +kernel⟩
theorem w_231 : (Jvm.Cond.selects "java/lang/String" ({ cls := "java/lang/String", name := "length", desc := "()I" } : Jvm.MethodName) ({ cls := "java/lang/String", name := "length", desc := "()I" } : Jvm.MethodName)) ∈ g_tbl := List.mem_filter.mpr ⟨List.mem_append_right _ (List.mem_of_getElem? (i := 231) (by decide +kernel)), by decide +kernel⟩
theorem w_233 : (Jvm.Cond.methodLink "java/lang/String" (335 : Nat) ({ cls := "java/lang/String", name := "coder", desc := "()B" } : Jvm.MethodName)) ∈ g_tbl := List.mem_filter.mpr ⟨List.mem_append_right _ (List.mem_of_getElem? (i := 233) (by decide +kernel)), by decide +kernel⟩
theorem w_234 : (Jvm.Cond.instanceMethod ({ cls := "java/lang/String", name := "coder", desc := "()B" } : Jvm.MethodName)) ∈ g_tbl := List.mem_filter.mpr ⟨List.mem_append_right _ (List.mem_of_getElem? (i := 234) (by decide +kernel)), by decide +kernel⟩
theorem w_235 : (Jvm.Cond.selects "java/lang/String" ({ cls := "java/lang/String", name := "coder", desc := "()B" } : Jvm.MethodName) ({ cls := "java/lang/String", name := "coder", desc := "()B" } : Jvm.MethodName)) ∈ g_tbl := List.mem_filter.mpr ⟨List.mem_append_right _ (List.mem_of_getElem? (i := 235) (by decide +kernel)), by decide +kernel⟩
theorem w_237 : (Jvm.Cond.fieldLink "java/lang/String" (38 : Nat) "java/lang/String" "COMPACT_STRINGS" "Z") ∈ g_tbl := List.mem_filter.mpr ⟨List.mem_append_right _ (List.mem_of_getElem? (i := 237) (by decide +kernel)), by decide +kernel⟩
theorem w_239 : (Jvm.Cond.methodLink "ExactReader$NumberText" (82 : Nat) ({ cls := "java/lang/String", name := "charAt", desc := "(I)C" } : Jvm.MethodName)) ∈ g_tbl := List.mem_filter.mpr ⟨List.mem_append_right _ (List.mem_of_getElem? (i := 239) (by decide +kernel)), by decide +kernel⟩
theorem w_240 : (Jvm.Cond.instanceMethod ({ cls := "java/lang/String", name := "charAt", desc := "(I)C" } : Jvm.MethodName)) ∈ g_tbl := List.mem_filter.mpr ⟨List.mem_append_right _ (List.mem_of_getElem? (i := 240) (by decide +kernel)), by decide +kernel⟩
theorem w_241 : (Jvm.Cond.selects "java/lang/String" ({ cls := "java/lang/String", name := "charAt", desc := "(I)C" } : Jvm.MethodName) ({ cls := "java/lang/String", name := "charAt", desc := "(I)C" } : Jvm.MethodName)) ∈ g_tbl := List.mem_filter.mpr ⟨List.mem_append_right _ (List.mem_of_getElem? (i := 241) (by decide +kernel)), by decide +kernel⟩
theorem w_243 : (Jvm.Cond.methodLink "java/lang/String" (492 : Nat) ({ cls := "java/lang/String", name := "isLatin1", desc := "()Z" } : Jvm.MethodName)) ∈ g_tbl := List.mem_filter.mpr ⟨List.mem_append_right _ (List.mem_of_getElem? (i := 243) (by decide +kernel)), by decide +kernel⟩
theorem w_244 : (Jvm.Cond.instanceMethod ({ cls := "java/lang/String", name := "isLatin1", desc := "()Z" } : Jvm.MethodName)) ∈ g_tbl := List.mem_filter.mpr ⟨List.mem_append_right _ (List.mem_of_getElem? (i := 244) (by decide +kernel)), by decide +kernel⟩
theorem w_245 : (Jvm.Cond.selects "java/lang/String" ({ cls := "java/lang/String", name := "isLatin1", desc := "()Z" } : Jvm.MethodName) ({ cls := "java/lang/String", name := "isLatin1", desc := "()Z" } : Jvm.MethodName)) ∈ g_tbl := List.mem_filter.mpr ⟨List.mem_append_right _ (List.mem_of_getElem? (i := 245) (by decide +kernel)), by decide +kernel⟩
theorem w_247 : (Jvm.Cond.methodLink "java/lang/String" (495 : Nat) ({ cls := "java/lang/StringLatin1", name := "charAt", desc := "([BI)C" } : Jvm.MethodName)) ∈ g_tbl := List.mem_filter.mpr ⟨List.mem_append_right _ (List.mem_of_getElem? (i := 247) (by decide +kernel)), by decide +kernel⟩
theorem w_248 : (Jvm.Cond.static ({ cls := "java/lang/StringLatin1", name := "charAt", desc := "([BI)C" } : Jvm.MethodName)) ∈ g_tbl := List.mem_filter.mpr ⟨List.mem_append_right _ (List.mem_of_getElem? (i := 248) (by decide +kernel)), by decide +kernel⟩
theorem w_250 : (Jvm.Cond.methodLink "java/lang/StringLatin1" (9 : Nat) ({ cls := "java/lang/String", name := "checkIndex", desc := "(II)V" } : Jvm.MethodName)) ∈ g_tbl := List.mem_filter.mpr ⟨List.mem_append_right _ (List.mem_of_getElem? (i := 250) (by decide +kernel)), by decide +kernel⟩
theorem w_251 : (Jvm.Cond.static ({ cls := "java/lang/String", name := "checkIndex", desc := "(II)V" } : Jvm.MethodName)) ∈ g_tbl := List.mem_filter.mpr ⟨List.mem_append_right _ (List.mem_of_getElem? (i := 251) (by decide +kernel)), by decide +kernel⟩
theorem w_253 : (Jvm.Cond.fieldLink "java/lang/String" (1053 : Nat) "jdk/internal/util/Preconditions" "SIOOBE_FORMATTER" "Ljava/util/function/BiFunction;") ∈ g_tbl := List.mem_filter.mpr ⟨List.mem_append_right _ (List.mem_of_getElem? (i := 253) (by decide +kernel)), by decide +kernel⟩
theorem w_255 : (Jvm.Cond.methodLink "java/lang/String" (1059 : Nat) ({ cls := "jdk/internal/util/Preconditions", name := "checkIndex", desc := "(IILjava/util/function/BiFunction;)I" } : Jvm.MethodName)) ∈ g_tbl := List.mem_filter.mpr ⟨List.mem_append_right _ (List.mem_of_getElem? (i := 255) (by decide +kernel)), by decide +kernel⟩
theorem w_256 : (Jvm.Cond.static ({ cls := "jdk/internal/util/Preconditions", name := "checkIndex", desc := "(IILjava/util/function/BiFunction;)I" } : Jvm.MethodName)) ∈ g_tbl := List.mem_filter.mpr ⟨List.mem_append_right _ (List.mem_of_getElem? (i := 256) (by decide +kernel)), by decide +kernel⟩
theorem w_257 : (Jvm.Cond.code ({ cls := "jdk/internal/util/Preconditions", name := "checkIndex", desc := "(IILjava/util/function/BiFunction;)I" } : Jvm.MethodName) prog_22_method_11_code (3 : Nat) (Option.some Jvm.ClassFile.FieldType.int)) ∈ g_tbl := List.mem_filter.mpr ⟨List.mem_append_right _ (List.mem_of_getElem? (i := 257) (by decide +kernel)), by decide +kernel⟩
theorem w_856 : (Jvm.Cond.fieldLink "java/lang/String" (9 : Nat) "java/lang/String" "value" "[B") ∈ g_tbl := List.mem_filter.mpr ⟨List.mem_append_right _ (List.mem_of_getElem? (i := 856) (by decide +kernel)), by decide +kernel⟩
theorem w_857 : (Jvm.Cond.fieldLink "java/lang/String" (15 : Nat) "java/lang/String" "coder" "B") ∈ g_tbl := List.mem_filter.mpr ⟨List.mem_append_right _ (List.mem_of_getElem? (i := 857) (by decide +kernel)), by decide +kernel⟩
theorem ok_JP_checkIndex : gOk m_JP_checkIndex 3 := ⟨w_15, w_257, ⟨by decide +kernel, by decide +kernel⟩, by decide +kernel, rfl, rfl⟩
theorem a_getV {l : Launch} {G : gG} {M : gM} {w0 : va_W} {res : Option Value} {w1 : va_W} {pc : Nat} {lv : List (Nat × Value)} {st : List Value} {ws : va_W} {index i : Nat} (hd : decode M.2.1 pc = .ok (.getfield index, 3)) (hi : i < 2) (hlk : Cond.fieldLink M.1.cls index "java/lang/String" "value" "[B" ∈ g_tbl) (k : gAt l G M w0 res w1 (pc + 3) lv (.ref (g_adV G i) :: st) ws) : gAt l G M w0 res w1 pc lv (.ref (g_adK G i) :: st) ws := fun p e s m args below meth c A H locs ls hC hP hD hS hl => vk_getf hC.1 hC.2.1 (hC.zz.2.2.2.2.2.1.1 i hi).2.2.1 hS hC.own (hC.tb _ hlk) (fun _ h => h) hd (k p e s m args below meth c A H locs ls hC hP hD hS hl)
theorem a_getCo {l : Launch} {G : gG} {M : gM} {w0 : va_W} {res : Option Value} {w1 : va_W} {pc : Nat} {lv : List (Nat × Value)} {st : List Value} {ws : va_W} {index i : Nat} (hd : decode M.2.1 pc = .ok (.getfield index, 3)) (hi : i < 2) (hlk : Cond.fieldLink M.1.cls index "java/lang/String" "coder" "B" ∈ g_tbl) (k : gAt l G M w0 res w1 (pc + 3) lv (.int 0 :: st) ws) : gAt l G M w0 res w1 pc lv (.ref (g_adK G i) :: st) ws := fun p e s m args below meth c A H locs ls hC hP hD hS hl => vk_getf hC.1 hC.2.1 (hC.zz.2.2.2.2.2.1.1 i hi).2.1 hS hC.own (hC.tb _ hlk) (fun _ h => h) hd (k p e s m args below meth c A H locs ls hC hP hD hS hl)
theorem a_lenV {l : Launch} {G : gG} {M : gM} {w0 : va_W} {res : Option Value} {w1 : va_W} {pc : Nat} {lv : List (Nat × Value)} {st : List Value} {ws : va_W} {i : Nat} (v : Int32) (hd : decode M.2.1 pc = .ok (.arraylength, 1)) (hi : i < 2) (hv : Int32.ofNat (g_len.getD i 0) = v) (k : gAt l G M w0 res w1 (pc + 1) lv (.int v :: st) ws) : gAt l G M w0 res w1 pc lv (.ref (g_adV G i) :: st) ws := fun p e s m args below meth c A H locs ls hC hP hD hS hl => va_tlen hC.1 hC.2.1 (hC.zz.2.2.2.2.2.1.1 i hi).2.2.2 hS hv hd (k p e s m args below meth c A H locs ls hC hP hD hS hl)
theorem a_baV {l : Launch} {G : gG} {M : gM} {w0 : va_W} {res : Option Value} {w1 : va_W} {pc : Nat} {lv : List (Nat × Value)} {st : List Value} {ws : va_W} {i : Nat} {x : Int32} (hd : decode M.2.1 pc = .ok (.baload, 1)) (hi : i < 2) (hin : vp_in x (g_len.getD i 0)) (k : gAt l G M w0 res w1 (pc + 1) lv (.int ((g_byt.getD i []).getD x.toNatClampNeg 0) :: st) ws) : gAt l G M w0 res w1 pc lv (.int x :: .ref (g_adV G i) :: st) ws := fun p e s m args below meth c A H locs ls hC hP hD hS hl => va_tb hC.1 hC.2.1 (hC.zz.2.2.2.2.2.1.1 i hi).2.2.2 hS hin rfl hd (k p e s m args below meth c A H locs ls hC hP hD hS hl)
theorem a_getsC {l : Launch} {G : gG} {M : gM} {w0 : va_W} {res : Option Value} {w1 : va_W} {pc : Nat} {lv : List (Nat × Value)} {st : List Value} {ws : va_W} {index : Nat} (hd : decode M.2.1 pc = .ok (.getstatic index, 3)) (hlk : Cond.fieldLink M.1.cls index "java/lang/String" "COMPACT_STRINGS" "Z" ∈ g_tbl) (k : gAt l G M w0 res w1 (pc + 3) lv (.int 1 :: st) ws) : gAt l G M w0 res w1 pc lv st ws := fun p e s m args below meth c A H locs ls hC hP hD hS hl => va_gets hC.1 hC.2.1 hC.zz.2.2.2.2.2.2.2.1 hS hC.own (hC.tb _ hlk) (fun _ h => h) hd (k p e s m args below meth c A H locs ls hC hP hD hS hl)
theorem a_getsF {l : Launch} {G : gG} {M : gM} {w0 : va_W} {res : Option Value} {w1 : va_W} {pc : Nat} {lv : List (Nat × Value)} {st : List Value} {ws : va_W} {index : Nat} (hd : decode M.2.1 pc = .ok (.getstatic index, 3)) (hlk : Cond.fieldLink M.1.cls index "jdk/internal/util/Preconditions" "SIOOBE_FORMATTER" "Ljava/util/function/BiFunction;" ∈ g_tbl) (k : ∀ v : Value, (v = .null ∨ ∃ t, v = .ref t) → gAt l G M w0 res w1 (pc + 3) lv (v :: st) ws) : gAt l G M w0 res w1 pc lv st ws := by
  intro p e s m args below meth c A H locs ls hC hP hD hS hl
  rcases hC.zz.2.2.2.2.2.2.2.2.1 with h | ⟨t, h⟩
  · exact va_gets hC.1 hC.2.1 h hS hC.own (hC.tb _ hlk) (fun _ h => h) hd (k _ (Or.inl rfl) p e s m args below meth c A H locs ls hC hP hD hS hl)
  · exact va_gets hC.1 hC.2.1 h hS hC.own (hC.tb _ hlk) (fun _ h => h) hd (k _ (Or.inr ⟨t, rfl⟩) p e s m args below meth c A H locs ls hC hP hD hS hl)
theorem a_callK {l : Launch} {G : gG} {M Mc : gM} {w0 : va_W} {res : Option Value} {w1 : va_W} {pc index : Nat} {lv : List (Nat × Value)} {st0 rest As : List Value} {ws wc wr w1c : va_W} {r : Option Value} (ws' : va_W) (isC isR perm : List Nat) {i : Nat} (hc : gCt l G Mc (.ref (g_adK G i) :: As) wc r w1c) (hd : decode M.2.1 pc = .ok (.invokevirtual index, 3)) (hst : st0 = As.reverse ++ .ref (g_adK G i) :: rest) (ok : gOk Mc As.length) (rm : gRm M Mc) (hlk : Cond.methodLink M.1.cls index Mc.1 ∈ g_tbl) (hin : Cond.instanceMethod Mc.1 ∈ g_tbl) (hse : Cond.selects "java/lang/String" Mc.1 Mc.1 ∈ g_tbl) (hi : i < 2) (hnC : va_nd isC = true) (hCm : isC.map (fun i => ws[i]?) = wc.map some) (hRm : isR.map (fun i => ws[i]?) = wr.map some) (hn : va_nd isR = true) (hdis : ∀ i ∈ isR, i ∉ isC) (hnp : va_nd perm = true) (hpm : perm.map (fun i => (wr ++ w1c)[i]?) = ws'.map some) (hcat : (rest.map fun v => v.category).sum ≤ 8) (k : gAt l G M w0 res w1 (pc + 3) lv (r.toList ++ rest) ws') : gAt l G M w0 res w1 pc lv st0 ws :=
  fun p e s m args below meth c A H locs ls hC hP hD hS hl => g_after (va_runV (As := As) (rest := rest) ⟨hC.1, hC.2.1, hC.ml, hC.own, hC.tb⟩ (hc H.size) ⟨g_callB hC ok rm hlk, hC.tb _ hin, hC.tb _ hse⟩ ⟨g_Pc.blind, vk_recv hC.zz.2.2.2.2.2.1 hi hS, g_pre hC hP hD hS isC hnC hCm⟩ rfl rfl hl.1 hst (lv_room hcat) hd ⟨Nat.zero_le _, Nat.zero_le _⟩) hC hP hD hS hl isC isR perm hCm hRm hn hdis hnp hpm k
theorem c_JP_checkIndex {l : Launch} {G : gG} {x n : Nat} {v : Value} (hv : v = .null ∨ ∃ t, v = .ref t) (h : x < n) (hn : n < 2 ^ 31) : gCt l G m_JP_checkIndex [.int (nI x), .int (nI n), v] [] (some (.int (nI x))) [] := by
  have hl : lv_args 0 [.int (nI x), .int (nI n), v] = [(0, .int (nI x)), (1, .int (nI n)), (2, v)] := by rcases hv with rfl | ⟨t, rfl⟩ <;> rfl
  have hn2 : (lg_sl [.int (nI x), .int (nI n), v]).length ≤ 3 := by rcases hv with rfl | ⟨t, rfl⟩ <;> exact Nat.le_of_ble_eq_true rfl
  refine gCt.mk (by decide +kernel) hn2 hl ?_
  refine a_iload_n 0 dJP_checkIndex_0 rfl ?_
  refine a_if_lt 9 dJP_checkIndex_1 (by decide) (fun z => absurd z (nI_pos (by omega))) (fun _ => ?_)
  refine a_iload_n 0 dJP_checkIndex_4 rfl ?_
  refine a_iload_n 1 dJP_checkIndex_5 rfl ?_
  refine a_icmp_lt 16 dJP_checkIndex_6 (by decide) (fun _ => ?_) (fun z => absurd (nI_lt h hn) z)
  refine a_iload_n 0 dJP_checkIndex_16 rfl ?_
  exact a_iret (st := []) dJP_checkIndex_17 rfl rfl rfl
theorem c_JS_checkIndex {l : Launch} {G : gG} {x n : Nat} (h : x < n) (hn : n < 2 ^ 31) : gCt l G m_JS_checkIndex [.int (nI x), .int (nI n)] [] none [] := by
  refine gCt.mk (by decide +kernel) (Nat.le_of_ble_eq_true rfl) rfl ?_
  refine a_iload_n 0 dJS_checkIndex_0 rfl ?_
  refine a_iload_n 1 dJS_checkIndex_1 rfl ?_
  refine a_getsF dJS_checkIndex_2 w_253 (fun v hv => ?_)
  have hc : (([] : List Value).map fun v => v.category).sum ≤ 8 := Nat.le_of_ble_eq_true rfl
  refine a_callS (As := [.int (nI x), .int (nI n), v]) (rest := []) (wc := []) (wr := []) (w1c := []) (r := some (.int (nI x))) [] [] [] [] (c_JP_checkIndex hv h hn) dJS_checkIndex_5 rfl ok_JP_checkIndex ⟨Nat.le_of_ble_eq_true rfl, Nat.le_of_ble_eq_true rfl⟩ w_255 w_256 rfl rfl rfl rfl (by decide) rfl rfl hc ?_
  refine a_pop dJS_checkIndex_8 rfl ?_
  exact a_vret (st := []) dJS_checkIndex_9 rfl rfl rfl
theorem c_JS_coder {l : Launch} {G : gG} {i : Nat} (hi : i < 2) : gCt l G m_JS_coder [.ref (g_adK G i)] [] (some (.int 0)) [] := by
  refine gCt.mk (by decide +kernel) (Nat.le_of_ble_eq_true rfl) rfl ?_
  refine a_getsC dJS_coder_0 w_237 ?_
  refine a_if_eq 13 dJS_coder_3 (by decide) (fun z => absurd z (by decide)) (fun _ => ?_)
  refine a_aload_n 0 dJS_coder_6 rfl ?_
  refine a_getCo dJS_coder_7 hi w_857 ?_
  refine a_goto 14 dJS_coder_10 (by decide) ?_
  exact a_zret (st := []) dJS_coder_14 rfl (by decide) rfl rfl
theorem c_JS_isLatin1 {l : Launch} {G : gG} {i : Nat} (hi : i < 2) : gCt l G m_JS_isLatin1 [.ref (g_adK G i)] [] (some (.int 1)) [] := by
  refine gCt.mk (by decide +kernel) (Nat.le_of_ble_eq_true rfl) rfl ?_
  refine a_getsC dJS_isLatin1_0 w_237 ?_
  refine a_if_eq 17 dJS_isLatin1_3 (by decide) (fun z => absurd z (by decide)) (fun _ => ?_)
  refine a_aload_n 0 dJS_isLatin1_6 rfl ?_
  refine a_getCo dJS_isLatin1_7 hi w_857 ?_
  refine a_if_ne 17 dJS_isLatin1_10 (by decide) (fun z => absurd rfl z) (fun _ => ?_)
  refine a_iconst (1 : Int32) dJS_isLatin1_13 (by decide) ?_
  refine a_goto 18 dJS_isLatin1_14 (by decide) ?_
  exact a_zret (st := []) dJS_isLatin1_18 rfl (by decide) rfl rfl
theorem c_JS_length {l : Launch} {G : gG} {i : Nat} (hi : i < 2) : gCt l G m_JS_length [.ref (g_adK G i)] [] (some (.int (nI (g_len.getD i 0)))) [] := by
  refine gCt.mk (by decide +kernel) (Nat.le_of_ble_eq_true rfl) rfl ?_
  refine a_aload_n 0 dJS_length_0 rfl ?_
  refine a_getV dJS_length_1 hi w_856 ?_
  refine a_lenV (nI (g_len.getD i 0)) dJS_length_4 hi rfl ?_
  refine a_aload_n 0 dJS_length_5 rfl ?_
  refine a_callK (As := []) (rest := [.int (nI (g_len.getD i 0))]) (wc := []) (wr := []) (w1c := []) (r := some (.int 0)) [] [] [] [] (i := i) (c_JS_coder hi) dJS_length_6 rfl ok_JS_coder ⟨Nat.le_of_ble_eq_true rfl, Nat.le_of_ble_eq_true rfl⟩ w_233 w_234 w_235 hi rfl rfl rfl rfl (by decide) rfl rfl (Nat.le_of_ble_eq_true rfl) ?_
  refine a_ishr dJS_length_9 ?_
  exact a_iret (st := []) dJS_length_10 rfl (vi (by rcases (show i = 0 ∨ i = 1 by omega) with rfl | rfl <;> decide +kernel)) rfl
/-- the k-th character of a literal -/
def wdC (i k : Nat) : Nat := (([[78, 97, 78], [73, 110, 102, 105, 110, 105, 116, 121]] : List (List Nat)).getD i []).getD k 0
theorem wdC_ok : ∀ i, i < 2 → ∀ k, k < g_len.getD i 0 → ((((g_byt.getD i []).getD k 0) &&& 255).toUInt32 % 65536).toInt32 = nI (wdC i k) ∧ wdC i k < 256 := by decide +kernel
theorem g_len_ok : ∀ i, i < 2 → g_len.getD i 0 ≤ 8 := by decide +kernel
theorem c_JT_charAt {l : Launch} {G : gG} {i k : Nat} (hi : i < 2) (hk : k < g_len.getD i 0) : gCt l G m_JT_charAt [.ref (g_adV G i), .int (nI k)] [] (some (.int (nI (wdC i k)))) [] := by
  have h8 := g_len_ok i hi
  refine gCt.mk (by decide +kernel) (Nat.le_of_ble_eq_true rfl) rfl ?_
  refine a_iload_n 1 dJT_charAt_0 rfl ?_
  refine a_aload_n 0 dJT_charAt_1 rfl ?_
  refine a_lenV (nI (g_len.getD i 0)) dJT_charAt_2 hi rfl ?_
  refine a_callS (As := [.int (nI k), .int (nI (g_len.getD i 0))]) (rest := []) (wc := []) (wr := []) (w1c := []) (r := none) [] [] [] [] (c_JS_checkIndex hk (by omega)) dJT_charAt_3 rfl ok_JS_checkIndex ⟨Nat.le_of_ble_eq_true rfl, Nat.le_of_ble_eq_true rfl⟩ w_250 w_251 rfl rfl rfl rfl (by decide) rfl rfl (Nat.le_of_ble_eq_true rfl) ?_
  refine a_aload_n 0 dJT_charAt_6 rfl ?_
  refine a_iload_n 1 dJT_charAt_7 rfl ?_
  refine a_baV dJT_charAt_8 hi (vp_in_nI hk (by omega)) ?_
  refine a_sipush (255 : Int32) dJT_charAt_9 (by decide) ?_
  refine a_iand dJT_charAt_12 ?_
  refine a_i2c dJT_charAt_13 ?_
  rw [nI_clamp (by omega), (wdC_ok i hi k hk).1]
  exact a_zret (st := []) dJT_charAt_14 rfl (n_char (wdC_ok i hi k hk).2) rfl rfl
theorem c_JS_charAt {l : Launch} {G : gG} {i k : Nat} (hi : i < 2) (hk : k < g_len.getD i 0) : gCt l G m_JS_charAt [.ref (g_adK G i), .int (nI k)] [] (some (.int (nI (wdC i k)))) [] := by
  refine gCt.mk (by decide +kernel) (Nat.le_of_ble_eq_true rfl) rfl ?_
  refine a_aload_n 0 dJS_charAt_0 rfl ?_
  refine a_callK (As := []) (rest := []) (wc := []) (wr := []) (w1c := []) (r := some (.int 1)) [] [] [] [] (i := i) (c_JS_isLatin1 hi) dJS_charAt_1 rfl ok_JS_isLatin1 ⟨Nat.le_of_ble_eq_true rfl, Nat.le_of_ble_eq_true rfl⟩ w_243 w_244 w_245 hi rfl rfl rfl rfl (by decide) rfl rfl (Nat.le_of_ble_eq_true rfl) ?_
  refine a_if_eq 16 dJS_charAt_4 (by decide) (fun z => absurd z (by decide)) (fun _ => ?_)
  refine a_aload_n 0 dJS_charAt_7 rfl ?_
  refine a_getV dJS_charAt_8 hi w_856 ?_
  refine a_iload_n 1 dJS_charAt_11 rfl ?_
  refine a_callS (As := [.ref (g_adV G i), .int (nI k)]) (rest := []) (wc := []) (wr := []) (w1c := []) (r := some (.int (nI (wdC i k)))) [] [] [] [] (c_JT_charAt hi hk) dJS_charAt_12 rfl ok_JT_charAt ⟨Nat.le_of_ble_eq_true rfl, Nat.le_of_ble_eq_true rfl⟩ w_247 w_248 rfl rfl rfl rfl (by decide) rfl rfl (Nat.le_of_ble_eq_true rfl) ?_
  exact a_zret (st := []) dJS_charAt_15 rfl (n_char (wdC_ok i hi k hk).2) rfl rfl
