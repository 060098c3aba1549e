abbrev m_Er_write : gM := (yEr_write, cEr_write, 5, (some .int), { frames := 1, cells := 0, slots := 0, locals := 22 })
abbrev m_Er_byteOf : gM := (yEr_byteOf, cEr_byteOf, 3, (some .char), { frames := 0, cells := 0, slots := 0, locals := 0 })
abbrev m_Nt_room : gM := (yNt_room, cNt_room, 1, (some .int), { frames := 0, cells := 0, slots := 0, locals := 0 })
abbrev m_Nt_append : gM := (yNt_append, cNt_append, 2, none, { frames := 0, cells := 0, slots := 0, locals := 0 })
abbrev m_Er_wipe : gM := (yEr_wipe, cEr_wipe, 2, (some .int), { frames := 2, cells := 0, slots := 0, locals := 42 })
abbrev m_Nt_dropLast : gM := (yNt_dropLast, cNt_dropLast, 2, none, { frames := 1, cells := 0, slots := 0, locals := 21 })
abbrev m_JM_min : gM := (yJM_min, cJM_min, 2, (some .int), { frames := 0, cells := 0, slots := 0, locals := 0 })
abbrev m_Er_kind : gM := (yEr_kind, cEr_kind, 1, (some .int), { frames := 7, cells := 0, slots := 0, locals := 150 })
abbrev m_Nt_scan : gM := (yNt_scan, cNt_scan, 1, none, { frames := 6, cells := 0, slots := 0, locals := 130 })
abbrev m_Nt_skipBlanks : gM := (yNt_skipBlanks, cNt_skipBlanks, 1, none, { frames := 1, cells := 0, slots := 0, locals := 20 })
abbrev m_Nt_here : gM := (yNt_here, cNt_here, 1, (some .char), { frames := 0, cells := 0, slots := 0, locals := 0 })
abbrev m_Nt_skipOneOf : gM := (yNt_skipOneOf, cNt_skipOneOf, 4, (some .boolean), { frames := 1, cells := 0, slots := 0, locals := 20 })
abbrev m_Nt_takeBody : gM := (yNt_takeBody, cNt_takeBody, 2, (some .int), { frames := 5, cells := 0, slots := 0, locals := 109 })
abbrev m_Nt_takeWord : gM := (yNt_takeWord, cNt_takeWord, 3, (some .boolean), { frames := 4, cells := 0, slots := 0, locals := 87 })
abbrev m_JS_length : gM := (yJS_length, cJS_length, 1, (some .int), { frames := 1, cells := 0, slots := 0, locals := 20 })
abbrev m_JS_coder : gM := (yJS_coder, cJS_coder, 1, (some .byte), { frames := 0, cells := 0, slots := 0, locals := 0 })
abbrev m_JS_charAt : gM := (yJS_charAt, cJS_charAt, 2, (some .char), { frames := 3, cells := 0, slots := 0, locals := 66 })
abbrev m_JS_isLatin1 : gM := (yJS_isLatin1, cJS_isLatin1, 1, (some .boolean), { frames := 0, cells := 0, slots := 0, locals := 0 })
abbrev m_JT_charAt : gM := (yJT_charAt, cJT_charAt, 2, (some .char), { frames := 2, cells := 0, slots := 0, locals := 45 })
abbrev m_JS_checkIndex : gM := (yJS_checkIndex, cJS_checkIndex, 2, none, { frames := 1, cells := 0, slots := 0, locals := 24 })
abbrev m_Nt_characterAt : gM := (yNt_characterAt, cNt_characterAt, 2, (some .char), { frames := 0, cells := 0, slots := 0, locals := 0 })
abbrev m_Nt_takeHexadecimal : gM := (yNt_takeHexadecimal, cNt_takeHexadecimal, 1, (some .boolean), { frames := 3, cells := 0, slots := 0, locals := 67 })
abbrev m_Nt_takeDigits : gM := (yNt_takeDigits, cNt_takeDigits, 6, (some .boolean), { frames := 1, cells := 0, slots := 0, locals := 21 })
abbrev m_Nt_digitOf : gM := (yNt_digitOf, cNt_digitOf, 2, (some .int), { frames := 0, cells := 0, slots := 0, locals := 0 })
abbrev m_Nt_takeExponent : gM := (yNt_takeExponent, cNt_takeExponent, 5, (some .boolean), { frames := 2, cells := 0, slots := 0, locals := 43 })
abbrev m_Nt_skipSuffix : gM := (yNt_skipSuffix, cNt_skipSuffix, 1, none, { frames := 2, cells := 0, slots := 0, locals := 43 })
abbrev m_Nt_takeDecimal : gM := (yNt_takeDecimal, cNt_takeDecimal, 1, (some .boolean), { frames := 3, cells := 0, slots := 0, locals := 67 })
abbrev m_Er_fault : gM := (yEr_fault, cEr_fault, 1, (some .int), { frames := 7, cells := 0, slots := 0, locals := 150 })
abbrev m_Er_repeat : gM := (yEr_repeat, cEr_repeat, 4, (some .int), { frames := 1, cells := 0, slots := 0, locals := 24 })
abbrev m_Er_cut : gM := (yEr_cut, cEr_cut, 2, (some .int), { frames := 2, cells := 0, slots := 0, locals := 42 })
abbrev m_Er_bits : gM := (yEr_bits, cEr_bits, 1, (some .long), { frames := 8, cells := 0, slots := 0, locals := 185 })
abbrev m_Er_bitsRead : gM := (yEr_bitsRead, cEr_bitsRead, 4, (some .long), { frames := 7, cells := 0, slots := 0, locals := 162 })
abbrev m_Fm_bitsOfNoNumber : gM := (yFm_bitsOfNoNumber, cFm_bitsOfNoNumber, 1, (some .long), { frames := 3, cells := 0, slots := 0, locals := 65 })
abbrev m_Fm_infiniteField : gM := (yFm_infiniteField, cFm_infiniteField, 1, (some .int), { frames := 0, cells := 0, slots := 0, locals := 0 })
abbrev m_Fm_hiddenBit : gM := (yFm_hiddenBit, cFm_hiddenBit, 1, (some .long), { frames := 0, cells := 0, slots := 0, locals := 0 })
abbrev m_Fm_bitsOf : gM := (yFm_bitsOf, cFm_bitsOf, 4, (some .long), { frames := 2, cells := 0, slots := 0, locals := 42 })
abbrev m_Fm_lowField : gM := (yFm_lowField, cFm_lowField, 3, (some .long), { frames := 1, cells := 0, slots := 0, locals := 20 })
abbrev m_Er_measureText : gM := (yEr_measureText, cEr_measureText, 1, none, { frames := 6, cells := 0, slots := 0, locals := 142 })
abbrev m_Ms_hexadecimal : gM := (yMs_hexadecimal, cMs_hexadecimal, 5, none, { frames := 4, cells := 0, slots := 0, locals := 90 })
abbrev m_Si_begin : gM := (ySi_begin, cSi_begin, 1, none, { frames := 0, cells := 0, slots := 0, locals := 0 })
abbrev m_Nt_digitAt : gM := (yNt_digitAt, cNt_digitAt, 3, (some .int), { frames := 1, cells := 0, slots := 0, locals := 21 })
abbrev m_Si_push : gM := (ySi_push, cSi_push, 4, none, { frames := 1, cells := 0, slots := 0, locals := 21 })
abbrev m_Si_pushBit : gM := (ySi_pushBit, cSi_pushBit, 2, none, { frames := 0, cells := 0, slots := 0, locals := 0 })
abbrev m_Si_end : gM := (ySi_end, cSi_end, 4, none, { frames := 3, cells := 0, slots := 0, locals := 67 })
abbrev m_Si_set : gM := (ySi_set, cSi_set, 5, none, { frames := 2, cells := 0, slots := 0, locals := 43 })
abbrev m_JL_numberOfLeadingZeros : gM := (yJL_numberOfLeadingZeros, cJL_numberOfLeadingZeros, 3, (some .int), { frames := 1, cells := 0, slots := 0, locals := 21 })
abbrev m_JI_numberOfLeadingZeros : gM := (yJI_numberOfLeadingZeros, cJI_numberOfLeadingZeros, 2, (some .int), { frames := 0, cells := 0, slots := 0, locals := 0 })
abbrev m_Ms_decimal : gM := (yMs_decimal, cMs_decimal, 7, none, { frames := 5, cells := 0, slots := 0, locals := 116 })
abbrev m_Ms_loadDigits : gM := (yMs_loadDigits, cMs_loadDigits, 7, (some .boolean), { frames := 3, cells := 0, slots := 0, locals := 68 })
abbrev m_Na_begin : gM := (yNa_begin, cNa_begin, 1, none, { frames := 0, cells := 0, slots := 0, locals := 0 })
abbrev m_Na_pushDigit : gM := (yNa_pushDigit, cNa_pushDigit, 2, none, { frames := 2, cells := 0, slots := 0, locals := 47 })
abbrev m_Na_end : gM := (yNa_end, cNa_end, 1, none, { frames := 1, cells := 0, slots := 0, locals := 27 })
abbrev m_Na_multiplyAdd : gM := (yNa_multiplyAdd, cNa_multiplyAdd, 8, none, { frames := 0, cells := 0, slots := 0, locals := 0 })
abbrev m_Ms_takeTimesTen : gM := (yMs_takeTimesTen, cMs_takeTimesTen, 7, none, { frames := 4, cells := 0, slots := 0, locals := 90 })
abbrev m_Na_multiplyByFives : gM := (yNa_multiplyByFives, cNa_multiplyByFives, 3, none, { frames := 1, cells := 0, slots := 0, locals := 27 })
abbrev m_Na_powerOfFive : gM := (yNa_powerOfFive, cNa_powerOfFive, 1, (some .int), { frames := 0, cells := 0, slots := 0, locals := 0 })
abbrev m_Na_raiseAboveFives : gM := (yNa_raiseAboveFives, cNa_raiseAboveFives, 5, (some .int), { frames := 1, cells := 0, slots := 0, locals := 21 })
abbrev m_Na_wordAt : gM := (yNa_wordAt, cNa_wordAt, 2, (some .int), { frames := 0, cells := 0, slots := 0, locals := 0 })
abbrev m_Na_divideByFives : gM := (yNa_divideByFives, cNa_divideByFives, 4, (some .boolean), { frames := 2, cells := 0, slots := 0, locals := 49 })
abbrev m_Na_divide : gM := (yNa_divide, cNa_divide, 9, (some .boolean), { frames := 1, cells := 0, slots := 0, locals := 21 })
abbrev m_Si_setInfinite : gM := (ySi_setInfinite, cSi_setInfinite, 1, none, { frames := 3, cells := 0, slots := 0, locals := 67 })
abbrev m_Ro_round : gM := (yRo_round, cRo_round, 4, none, { frames := 2, cells := 0, slots := 0, locals := 53 })
abbrev m_JM_max : gM := (yJM_max, cJM_max, 2, (some .int), { frames := 0, cells := 0, slots := 0, locals := 0 })
abbrev m_Ro_setWhole : gM := (yRo_setWhole, cRo_setWhole, 4, none, { frames := 0, cells := 0, slots := 0, locals := 0 })
abbrev m_Ro_roundLead : gM := (yRo_roundLead, cRo_roundLead, 11, none, { frames := 1, cells := 0, slots := 0, locals := 23 })
abbrev m_Ro_carry : gM := (yRo_carry, cRo_carry, 2, none, { frames := 1, cells := 0, slots := 0, locals := 21 })
abbrev m_Fm_exponentOf : gM := (yFm_exponentOf, cFm_exponentOf, 2, (some .int), { frames := 0, cells := 0, slots := 0, locals := 0 })
abbrev m_Ro_bitsOfSize : gM := (yRo_bitsOfSize, cRo_bitsOfSize, 3, (some .long), { frames := 3, cells := 0, slots := 0, locals := 65 })
abbrev m_Fm_signBit : gM := (yFm_signBit, cFm_signBit, 1, (some .long), { frames := 0, cells := 0, slots := 0, locals := 0 })
abbrev m_Er_floatBits : gM := (yEr_floatBits, cEr_floatBits, 1, (some .int), { frames := 8, cells := 0, slots := 0, locals := 185 })
abbrev m_Er_side : gM := (yEr_side, cEr_side, 2, (some .int), { frames := 7, cells := 0, slots := 0, locals := 162 })
abbrev m_Er_compare : gM := (yEr_compare, cEr_compare, 5, (some .int), { frames := 7, cells := 0, slots := 0, locals := 162 })
abbrev m_Fm_areNoNumber : gM := (yFm_areNoNumber, cFm_areNoNumber, 2, (some .boolean), { frames := 2, cells := 0, slots := 0, locals := 42 })
abbrev m_Fm_exponentField : gM := (yFm_exponentField, cFm_exponentField, 3, (some .int), { frames := 1, cells := 0, slots := 0, locals := 20 })
abbrev m_Si_setDouble : gM := (ySi_setDouble, cSi_setDouble, 6, none, { frames := 4, cells := 0, slots := 0, locals := 87 })
abbrev m_Si_signWith : gM := (ySi_signWith, cSi_signWith, 2, (some .int), { frames := 0, cells := 0, slots := 0, locals := 0 })
abbrev m_JI_compare : gM := (yJI_compare, cJI_compare, 2, (some .int), { frames := 0, cells := 0, slots := 0, locals := 0 })
abbrev m_Si_order : gM := (ySi_order, cSi_order, 2, (some .int), { frames := 1, cells := 0, slots := 0, locals := 23 })
abbrev m_JL_compare : gM := (yJL_compare, cJL_compare, 4, (some .int), { frames := 0, cells := 0, slots := 0, locals := 0 })
abbrev m_Mo_thrown : gM := (yMo_thrown, cMo_thrown, 1, (some .int), { frames := 0, cells := 0, slots := 0, locals := 0 })
abbrev m_Mo_write : gM := (yMo_write, cMo_write, 6, (some .int), { frames := 0, cells := 0, slots := 0, locals := 0 })
abbrev m_Mo_repeat : gM := (yMo_repeat, cMo_repeat, 4, (some .int), { frames := 0, cells := 0, slots := 0, locals := 0 })
abbrev m_Mo_cut : gM := (yMo_cut, cMo_cut, 2, (some .int), { frames := 0, cells := 0, slots := 0, locals := 0 })
abbrev m_Mo_wipe : gM := (yMo_wipe, cMo_wipe, 2, (some .int), { frames := 0, cells := 0, slots := 0, locals := 0 })
abbrev m_Mo_kind : gM := (yMo_kind, cMo_kind, 1, (some .int), { frames := 5, cells := 0, slots := 0, locals := 103 })
abbrev m_Mo_scan : gM := (yMo_scan, cMo_scan, 2, (some .boolean), { frames := 4, cells := 0, slots := 0, locals := 82 })
abbrev m_Mo_blanks : gM := (yMo_blanks, cMo_blanks, 1, none, { frames := 0, cells := 0, slots := 0, locals := 0 })
abbrev m_Mo_here : gM := (yMo_here, cMo_here, 1, (some .int), { frames := 0, cells := 0, slots := 0, locals := 0 })
abbrev m_Mo_spells : gM := (yMo_spells, cMo_spells, 5, (some .boolean), { frames := 1, cells := 0, slots := 0, locals := 20 })
abbrev m_Mo_number : gM := (yMo_number, cMo_number, 1, (some .boolean), { frames := 3, cells := 0, slots := 0, locals := 62 })
abbrev m_Mo_digits : gM := (yMo_digits, cMo_digits, 3, (some .boolean), { frames := 2, cells := 0, slots := 0, locals := 40 })
abbrev m_Mo_hex : gM := (yMo_hex, cMo_hex, 1, (some .int), { frames := 1, cells := 0, slots := 0, locals := 20 })
abbrev m_Mo_isDigit : gM := (yMo_isDigit, cMo_isDigit, 1, (some .boolean), { frames := 0, cells := 0, slots := 0, locals := 0 })
abbrev m_Mo_isAt : gM := (yMo_isAt, cMo_isAt, 3, (some .boolean), { frames := 1, cells := 0, slots := 0, locals := 20 })
abbrev m_Mo_power : gM := (yMo_power, cMo_power, 2, (some .boolean), { frames := 1, cells := 0, slots := 0, locals := 20 })
abbrev m_Mo_fault : gM := (yMo_fault, cMo_fault, 1, (some .int), { frames := 5, cells := 0, slots := 0, locals := 103 })
abbrev m_Mo_bits : gM := (yMo_bits, cMo_bits, 3, (some .long), { frames := 5, cells := 0, slots := 0, locals := 104 })
abbrev m_Mo_sizeRead : gM := (yMo_sizeRead, cMo_sizeRead, 3, (some .long), { frames := 3, cells := 0, slots := 0, locals := 82 })
abbrev m_Mo_find : gM := (yMo_find, cMo_find, 4, none, { frames := 2, cells := 0, slots := 0, locals := 59 })
abbrev m_Mo_findDecimal : gM := (yMo_findDecimal, cMo_findDecimal, 8, none, { frames := 1, cells := 0, slots := 0, locals := 28 })
abbrev m_Mo_writeOut : gM := (yMo_writeOut, cMo_writeOut, 9, none, { frames := 0, cells := 0, slots := 0, locals := 0 })
abbrev m_Mo_wholePart : gM := (yMo_wholePart, cMo_wholePart, 3, (some .long), { frames := 0, cells := 0, slots := 0, locals := 0 })
abbrev m_Mo_half : gM := (yMo_half, cMo_half, 4, none, { frames := 0, cells := 0, slots := 0, locals := 0 })
abbrev m_Mo_twice : gM := (yMo_twice, cMo_twice, 4, none, { frames := 0, cells := 0, slots := 0, locals := 0 })
abbrev m_Mo_findHexadecimal : gM := (yMo_findHexadecimal, cMo_findHexadecimal, 12, none, { frames := 1, cells := 0, slots := 0, locals := 28 })
abbrev m_Mo_bitAt : gM := (yMo_bitAt, cMo_bitAt, 9, (some .int), { frames := 0, cells := 0, slots := 0, locals := 0 })
abbrev m_Mo_goesUp : gM := (yMo_goesUp, cMo_goesUp, 1, (some .boolean), { frames := 0, cells := 0, slots := 0, locals := 0 })
abbrev m_Mo_pack : gM := (yMo_pack, cMo_pack, 11, (some .long), { frames := 0, cells := 0, slots := 0, locals := 0 })
abbrev m_Mo_floatBits : gM := (yMo_floatBits, cMo_floatBits, 2, (some .int), { frames := 5, cells := 0, slots := 0, locals := 104 })
abbrev m_Mo_side : gM := (yMo_side, cMo_side, 8, (some .int), { frames := 5, cells := 0, slots := 0, locals := 104 })
abbrev m_Mo_compare : gM := (yMo_compare, cMo_compare, 10, (some .int), { frames := 5, cells := 0, slots := 0, locals := 108 })
abbrev m_Mo_compareSize : gM := (yMo_compareSize, cMo_compareSize, 7, (some .int), { frames := 3, cells := 0, slots := 0, locals := 82 })
theorem I_Ms : ∀ w ∈ u_ws R_Ms T_Ms 1, w ∈ g_tbl := by
  intro w hw
  obtain ⟨k, hk, rfl⟩ := List.mem_map.mp hw
  have hk := List.mem_range.mp hk
  have h : ∀ k, k < 1 → u_lay R_Ms T_Ms k = (tables_1.getD ([115].getD k 0) .tt) ∧ ([115].getD k 0) < tables_1.length ∧ goodWord (u_lay R_Ms T_Ms k) = true := by decide +kernel
  obtain ⟨h1, h2, h3⟩ := h k hk
  refine List.mem_filter.mpr ⟨List.mem_append_right _ ?_, h3⟩
  rw [h1, List.getD_eq_getElem?_getD, List.getElem?_eq_getElem h2]
  exact List.getElem_mem h2
theorem I_Na : ∀ w ∈ u_ws R_Na T_Na 4, w ∈ g_tbl := by
  intro w hw
  obtain ⟨k, hk, rfl⟩ := List.mem_map.mp hw
  have hk := List.mem_range.mp hk
  have h : ∀ k, k < 4 → u_lay R_Na T_Na k = (tables_1.getD ([104, 106, 108, 110].getD k 0) .tt) ∧ ([104, 106, 108, 110].getD k 0) < tables_1.length ∧ goodWord (u_lay R_Na T_Na k) = true := by decide +kernel
  obtain ⟨h1, h2, h3⟩ := h k hk
  refine List.mem_filter.mpr ⟨List.mem_append_right _ ?_, h3⟩
  rw [h1, List.getD_eq_getElem?_getD, List.getElem?_eq_getElem h2]
  exact List.getElem_mem h2
theorem I_Nt : ∀ w ∈ u_ws R_Nt T_Nt 13, w ∈ g_tbl := by
  intro w hw
  obtain ⟨k, hk, rfl⟩ := List.mem_map.mp hw
  have hk := List.mem_range.mp hk
  have h : ∀ k, k < 13 → u_lay R_Nt T_Nt k = (tables_1.getD ([59, 61, 63, 65, 67, 69, 71, 73, 75, 77, 79, 81, 83].getD k 0) .tt) ∧ ([59, 61, 63, 65, 67, 69, 71, 73, 75, 77, 79, 81, 83].getD k 0) < tables_1.length ∧ goodWord (u_lay R_Nt T_Nt k) = true := by decide +kernel
  obtain ⟨h1, h2, h3⟩ := h k hk
  refine List.mem_filter.mpr ⟨List.mem_append_right _ ?_, h3⟩
  rw [h1, List.getD_eq_getElem?_getD, List.getElem?_eq_getElem h2]
  exact List.getElem_mem h2
theorem I_Ro : ∀ w ∈ u_ws R_Ro T_Ro 4, w ∈ g_tbl := by
  intro w hw
  obtain ⟨k, hk, rfl⟩ := List.mem_map.mp hw
  have hk := List.mem_range.mp hk
  have h : ∀ k, k < 4 → u_lay R_Ro T_Ro k = (tables_1.getD ([148, 150, 152, 154].getD k 0) .tt) ∧ ([148, 150, 152, 154].getD k 0) < tables_1.length ∧ goodWord (u_lay R_Ro T_Ro k) = true := by decide +kernel
  obtain ⟨h1, h2, h3⟩ := h k hk
  refine List.mem_filter.mpr ⟨List.mem_append_right _ ?_, h3⟩
  rw [h1, List.getD_eq_getElem?_getD, List.getElem?_eq_getElem h2]
  exact List.getElem_mem h2
theorem I_Si : ∀ w ∈ u_ws R_Si T_Si 3, w ∈ g_tbl := by
  intro w hw
  obtain ⟨k, hk, rfl⟩ := List.mem_map.mp hw
  have hk := List.mem_range.mp hk
  have h : ∀ k, k < 3 → u_lay R_Si T_Si k = (tables_1.getD ([130, 132, 134].getD k 0) .tt) ∧ ([130, 132, 134].getD k 0) < tables_1.length ∧ goodWord (u_lay R_Si T_Si k) = true := by decide +kernel
  obtain ⟨h1, h2, h3⟩ := h k hk
  refine List.mem_filter.mpr ⟨List.mem_append_right _ ?_, h3⟩
  rw [h1, List.getD_eq_getElem?_getD, List.getElem?_eq_getElem h2]
  exact List.getElem_mem h2
theorem I_Er : ∀ w ∈ u_ws R_Er T_Er 5, w ∈ g_tbl := by
  intro w hw
  obtain ⟨k, hk, rfl⟩ := List.mem_map.mp hw
  have hk := List.mem_range.mp hk
  have h : ∀ k, k < 5 → u_lay R_Er T_Er k = (tables_1.getD ([162, 164, 166, 168, 170].getD k 0) .tt) ∧ ([162, 164, 166, 168, 170].getD k 0) < tables_1.length ∧ goodWord (u_lay R_Er T_Er k) = true := by decide +kernel
  obtain ⟨h1, h2, h3⟩ := h k hk
  refine List.mem_filter.mpr ⟨List.mem_append_right _ ?_, h3⟩
  rw [h1, List.getD_eq_getElem?_getD, List.getElem?_eq_getElem h2]
  exact List.getElem_mem h2
theorem I_Mo : ∀ w ∈ u_ws R_Mo T_Mo 17, w ∈ g_tbl := by
  intro w hw
  obtain ⟨k, hk, rfl⟩ := List.mem_map.mp hw
  have hk := List.mem_range.mp hk
  have h : ∀ k, k < 17 → u_lay R_Mo T_Mo k = (tables_1.getD ([665, 667, 669, 671, 673, 675, 677, 679, 681, 683, 685, 687, 689, 691, 693, 695, 697].getD k 0) .tt) ∧ ([665, 667, 669, 671, 673, 675, 677, 679, 681, 683, 685, 687, 689, 691, 693, 695, 697].getD k 0) < tables_1.length ∧ goodWord (u_lay R_Mo T_Mo k) = true := by decide +kernel
  obtain ⟨h1, h2, h3⟩ := h k hk
  refine List.mem_filter.mpr ⟨List.mem_append_right _ ?_, h3⟩
  rw [h1, List.getD_eq_getElem?_getD, List.getElem?_eq_getElem h2]
  exact List.getElem_mem h2
theorem ok_Er_write : gOk m_Er_write 1 := ⟨w_1, w_176, ⟨by decide +kernel, by decide +kernel⟩, by decide +kernel, rfl, rfl⟩
theorem ok_Er_byteOf : gOk m_Er_byteOf 2 := ⟨w_1, w_179, ⟨by decide +kernel, by decide +kernel⟩, by decide +kernel, rfl, rfl⟩
theorem ok_Nt_room : gOk m_Nt_room 0 := ⟨w_2, w_184, ⟨by decide +kernel, by decide +kernel⟩, by decide +kernel, rfl, rfl⟩
theorem ok_Nt_append : gOk m_Nt_append 1 := ⟨w_2, w_188, ⟨by decide +kernel, by decide +kernel⟩, by decide +kernel, rfl, rfl⟩
theorem ok_Er_wipe : gOk m_Er_wipe 0 := ⟨w_1, w_192, ⟨by decide +kernel, by decide +kernel⟩, by decide +kernel, rfl, rfl⟩
theorem ok_Nt_dropLast : gOk m_Nt_dropLast 1 := ⟨w_2, w_196, ⟨by decide +kernel, by decide +kernel⟩, by decide +kernel, rfl, rfl⟩
theorem ok_JM_min : gOk m_JM_min 2 := ⟨w_12, w_199, ⟨by decide +kernel, by decide +kernel⟩, by decide +kernel, rfl, rfl⟩
theorem ok_Er_kind : gOk m_Er_kind 0 := ⟨w_1, w_203, ⟨by decide +kernel, by decide +kernel⟩, by decide +kernel, rfl, rfl⟩
theorem ok_Nt_scan : gOk m_Nt_scan 0 := ⟨w_2, w_207, ⟨by decide +kernel, by decide +kernel⟩, by decide +kernel, rfl, rfl⟩
theorem ok_Nt_skipBlanks : gOk m_Nt_skipBlanks 0 := ⟨w_2, w_211, ⟨by decide +kernel, by decide +kernel⟩, by decide +kernel, rfl, rfl⟩
theorem ok_Nt_here : gOk m_Nt_here 0 := ⟨w_2, w_215, ⟨by decide +kernel, by decide +kernel⟩, by decide +kernel, rfl, rfl⟩
theorem ok_Nt_skipOneOf : gOk m_Nt_skipOneOf 2 := ⟨w_2, w_219, ⟨by decide +kernel, by decide +kernel⟩, by decide +kernel, rfl, rfl⟩
theorem ok_Nt_takeBody : gOk m_Nt_takeBody 0 := ⟨w_2, w_223, ⟨by decide +kernel, by decide +kernel⟩, by decide +kernel, rfl, rfl⟩
theorem ok_Nt_takeWord : gOk m_Nt_takeWord 1 := ⟨w_2, w_228, ⟨by decide +kernel, by decide +kernel⟩, by decide +kernel, rfl, rfl⟩
theorem ok_JS_length : gOk m_JS_length 0 := ⟨w_13, w_232, ⟨by decide +kernel, by decide +kernel⟩, by decide +kernel, rfl, rfl⟩
theorem ok_JS_coder : gOk m_JS_coder 0 := ⟨w_13, w_236, ⟨by decide +kernel, by decide +kernel⟩, by decide +kernel, rfl, rfl⟩
theorem ok_JS_charAt : gOk m_JS_charAt 1 := ⟨w_13, w_242, ⟨by decide +kernel, by decide +kernel⟩, by decide +kernel, rfl, rfl⟩
theorem ok_JS_isLatin1 : gOk m_JS_isLatin1 0 := ⟨w_13, w_246, ⟨by decide +kernel, by decide +kernel⟩, by decide +kernel, rfl, rfl⟩
theorem ok_JT_charAt : gOk m_JT_charAt 2 := ⟨w_14, w_249, ⟨by decide +kernel, by decide +kernel⟩, by decide +kernel, rfl, rfl⟩
theorem ok_JS_checkIndex : gOk m_JS_checkIndex 2 := ⟨w_13, w_252, ⟨by decide +kernel, by decide +kernel⟩, by decide +kernel, rfl, rfl⟩
theorem ok_Nt_characterAt : gOk m_Nt_characterAt 1 := ⟨w_2, w_281, ⟨by decide +kernel, by decide +kernel⟩, by decide +kernel, rfl, rfl⟩
theorem ok_Nt_takeHexadecimal : gOk m_Nt_takeHexadecimal 0 := ⟨w_2, w_285, ⟨by decide +kernel, by decide +kernel⟩, by decide +kernel, rfl, rfl⟩
theorem ok_Nt_takeDigits : gOk m_Nt_takeDigits 1 := ⟨w_2, w_289, ⟨by decide +kernel, by decide +kernel⟩, by decide +kernel, rfl, rfl⟩
theorem ok_Nt_digitOf : gOk m_Nt_digitOf 2 := ⟨w_2, w_292, ⟨by decide +kernel, by decide +kernel⟩, by decide +kernel, rfl, rfl⟩
theorem ok_Nt_takeExponent : gOk m_Nt_takeExponent 0 := ⟨w_2, w_296, ⟨by decide +kernel, by decide +kernel⟩, by decide +kernel, rfl, rfl⟩
theorem ok_Nt_skipSuffix : gOk m_Nt_skipSuffix 0 := ⟨w_2, w_301, ⟨by decide +kernel, by decide +kernel⟩, by decide +kernel, rfl, rfl⟩
theorem ok_Nt_takeDecimal : gOk m_Nt_takeDecimal 0 := ⟨w_2, w_305, ⟨by decide +kernel, by decide +kernel⟩, by decide +kernel, rfl, rfl⟩
theorem ok_Er_fault : gOk m_Er_fault 0 := ⟨w_1, w_310, ⟨by decide +kernel, by decide +kernel⟩, by decide +kernel, rfl, rfl⟩
theorem ok_Er_repeat : gOk m_Er_repeat 2 := ⟨w_1, w_318, ⟨by decide +kernel, by decide +kernel⟩, by decide +kernel, rfl, rfl⟩
theorem ok_Er_cut : gOk m_Er_cut 1 := ⟨w_1, w_391, ⟨by decide +kernel, by decide +kernel⟩, by decide +kernel, rfl, rfl⟩
theorem ok_Er_bits : gOk m_Er_bits 0 := ⟨w_1, w_400, ⟨by decide +kernel, by decide +kernel⟩, by decide +kernel, rfl, rfl⟩
theorem ok_Er_bitsRead : gOk m_Er_bitsRead 1 := ⟨w_1, w_422, ⟨by decide +kernel, by decide +kernel⟩, by decide +kernel, rfl, rfl⟩
theorem ok_Fm_bitsOfNoNumber : gOk m_Fm_bitsOfNoNumber 0 := ⟨w_19, w_427, ⟨by decide +kernel, by decide +kernel⟩, by decide +kernel, rfl, rfl⟩
theorem ok_Fm_infiniteField : gOk m_Fm_infiniteField 0 := ⟨w_19, w_431, ⟨by decide +kernel, by decide +kernel⟩, by decide +kernel, rfl, rfl⟩
theorem ok_Fm_hiddenBit : gOk m_Fm_hiddenBit 0 := ⟨w_19, w_435, ⟨by decide +kernel, by decide +kernel⟩, by decide +kernel, rfl, rfl⟩
theorem ok_Fm_bitsOf : gOk m_Fm_bitsOf 2 := ⟨w_19, w_439, ⟨by decide +kernel, by decide +kernel⟩, by decide +kernel, rfl, rfl⟩
theorem ok_Fm_lowField : gOk m_Fm_lowField 1 := ⟨w_19, w_443, ⟨by decide +kernel, by decide +kernel⟩, by decide +kernel, rfl, rfl⟩
theorem ok_Er_measureText : gOk m_Er_measureText 0 := ⟨w_1, w_447, ⟨by decide +kernel, by decide +kernel⟩, by decide +kernel, rfl, rfl⟩
theorem ok_Ms_hexadecimal : gOk m_Ms_hexadecimal 2 := ⟨w_3, w_451, ⟨by decide +kernel, by decide +kernel⟩, by decide +kernel, rfl, rfl⟩
theorem ok_Si_begin : gOk m_Si_begin 0 := ⟨w_5, w_455, ⟨by decide +kernel, by decide +kernel⟩, by decide +kernel, rfl, rfl⟩
theorem ok_Nt_digitAt : gOk m_Nt_digitAt 2 := ⟨w_2, w_459, ⟨by decide +kernel, by decide +kernel⟩, by decide +kernel, rfl, rfl⟩
theorem ok_Si_push : gOk m_Si_push 2 := ⟨w_5, w_463, ⟨by decide +kernel, by decide +kernel⟩, by decide +kernel, rfl, rfl⟩
theorem ok_Si_pushBit : gOk m_Si_pushBit 1 := ⟨w_5, w_468, ⟨by decide +kernel, by decide +kernel⟩, by decide +kernel, rfl, rfl⟩
theorem ok_Si_end : gOk m_Si_end 2 := ⟨w_5, w_472, ⟨by decide +kernel, by decide +kernel⟩, by decide +kernel, rfl, rfl⟩
theorem ok_Si_set : gOk m_Si_set 2 := ⟨w_5, w_476, ⟨by decide +kernel, by decide +kernel⟩, by decide +kernel, rfl, rfl⟩
theorem ok_JL_numberOfLeadingZeros : gOk m_JL_numberOfLeadingZeros 1 := ⟨w_20, w_479, ⟨by decide +kernel, by decide +kernel⟩, by decide +kernel, rfl, rfl⟩
theorem ok_JI_numberOfLeadingZeros : gOk m_JI_numberOfLeadingZeros 1 := ⟨w_21, w_482, ⟨by decide +kernel, by decide +kernel⟩, by decide +kernel, rfl, rfl⟩
theorem ok_Ms_decimal : gOk m_Ms_decimal 2 := ⟨w_3, w_487, ⟨by decide +kernel, by decide +kernel⟩, by decide +kernel, rfl, rfl⟩
theorem ok_Ms_loadDigits : gOk m_Ms_loadDigits 2 := ⟨w_3, w_493, ⟨by decide +kernel, by decide +kernel⟩, by decide +kernel, rfl, rfl⟩
theorem ok_Na_begin : gOk m_Na_begin 0 := ⟨w_4, w_497, ⟨by decide +kernel, by decide +kernel⟩, by decide +kernel, rfl, rfl⟩
theorem ok_Na_pushDigit : gOk m_Na_pushDigit 1 := ⟨w_4, w_501, ⟨by decide +kernel, by decide +kernel⟩, by decide +kernel, rfl, rfl⟩
theorem ok_Na_end : gOk m_Na_end 0 := ⟨w_4, w_506, ⟨by decide +kernel, by decide +kernel⟩, by decide +kernel, rfl, rfl⟩
theorem ok_Na_multiplyAdd : gOk m_Na_multiplyAdd 2 := ⟨w_4, w_510, ⟨by decide +kernel, by decide +kernel⟩, by decide +kernel, rfl, rfl⟩
theorem ok_Ms_takeTimesTen : gOk m_Ms_takeTimesTen 3 := ⟨w_3, w_516, ⟨by decide +kernel, by decide +kernel⟩, by decide +kernel, rfl, rfl⟩
theorem ok_Na_multiplyByFives : gOk m_Na_multiplyByFives 1 := ⟨w_4, w_520, ⟨by decide +kernel, by decide +kernel⟩, by decide +kernel, rfl, rfl⟩
theorem ok_Na_powerOfFive : gOk m_Na_powerOfFive 1 := ⟨w_4, w_524, ⟨by decide +kernel, by decide +kernel⟩, by decide +kernel, rfl, rfl⟩
theorem ok_Na_raiseAboveFives : gOk m_Na_raiseAboveFives 1 := ⟨w_4, w_530, ⟨by decide +kernel, by decide +kernel⟩, by decide +kernel, rfl, rfl⟩
theorem ok_Na_wordAt : gOk m_Na_wordAt 1 := ⟨w_4, w_534, ⟨by decide +kernel, by decide +kernel⟩, by decide +kernel, rfl, rfl⟩
theorem ok_Na_divideByFives : gOk m_Na_divideByFives 1 := ⟨w_4, w_538, ⟨by decide +kernel, by decide +kernel⟩, by decide +kernel, rfl, rfl⟩
theorem ok_Na_divide : gOk m_Na_divide 1 := ⟨w_4, w_542, ⟨by decide +kernel, by decide +kernel⟩, by decide +kernel, rfl, rfl⟩
theorem ok_Si_setInfinite : gOk m_Si_setInfinite 0 := ⟨w_5, w_547, ⟨by decide +kernel, by decide +kernel⟩, by decide +kernel, rfl, rfl⟩
theorem ok_Ro_round : gOk m_Ro_round 2 := ⟨w_6, w_552, ⟨by decide +kernel, by decide +kernel⟩, by decide +kernel, rfl, rfl⟩
theorem ok_JM_max : gOk m_JM_max 2 := ⟨w_12, w_555, ⟨by decide +kernel, by decide +kernel⟩, by decide +kernel, rfl, rfl⟩
theorem ok_Ro_setWhole : gOk m_Ro_setWhole 2 := ⟨w_6, w_559, ⟨by decide +kernel, by decide +kernel⟩, by decide +kernel, rfl, rfl⟩
theorem ok_Ro_roundLead : gOk m_Ro_roundLead 2 := ⟨w_6, w_563, ⟨by decide +kernel, by decide +kernel⟩, by decide +kernel, rfl, rfl⟩
theorem ok_Ro_carry : gOk m_Ro_carry 1 := ⟨w_6, w_567, ⟨by decide +kernel, by decide +kernel⟩, by decide +kernel, rfl, rfl⟩
theorem ok_Fm_exponentOf : gOk m_Fm_exponentOf 1 := ⟨w_19, w_574, ⟨by decide +kernel, by decide +kernel⟩, by decide +kernel, rfl, rfl⟩
theorem ok_Ro_bitsOfSize : gOk m_Ro_bitsOfSize 1 := ⟨w_6, w_578, ⟨by decide +kernel, by decide +kernel⟩, by decide +kernel, rfl, rfl⟩
theorem ok_Fm_signBit : gOk m_Fm_signBit 0 := ⟨w_19, w_583, ⟨by decide +kernel, by decide +kernel⟩, by decide +kernel, rfl, rfl⟩
theorem ok_Er_floatBits : gOk m_Er_floatBits 0 := ⟨w_1, w_590, ⟨by decide +kernel, by decide +kernel⟩, by decide +kernel, rfl, rfl⟩
theorem ok_Er_side : gOk m_Er_side 1 := ⟨w_1, w_599, ⟨by decide +kernel, by decide +kernel⟩, by decide +kernel, rfl, rfl⟩
theorem ok_Er_compare : gOk m_Er_compare 1 := ⟨w_1, w_606, ⟨by decide +kernel, by decide +kernel⟩, by decide +kernel, rfl, rfl⟩
theorem ok_Fm_areNoNumber : gOk m_Fm_areNoNumber 1 := ⟨w_19, w_609, ⟨by decide +kernel, by decide +kernel⟩, by decide +kernel, rfl, rfl⟩
theorem ok_Fm_exponentField : gOk m_Fm_exponentField 1 := ⟨w_19, w_614, ⟨by decide +kernel, by decide +kernel⟩, by decide +kernel, rfl, rfl⟩
theorem ok_Si_setDouble : gOk m_Si_setDouble 1 := ⟨w_5, w_619, ⟨by decide +kernel, by decide +kernel⟩, by decide +kernel, rfl, rfl⟩
theorem ok_Si_signWith : gOk m_Si_signWith 1 := ⟨w_5, w_630, ⟨by decide +kernel, by decide +kernel⟩, by decide +kernel, rfl, rfl⟩
theorem ok_JI_compare : gOk m_JI_compare 2 := ⟨w_21, w_633, ⟨by decide +kernel, by decide +kernel⟩, by decide +kernel, rfl, rfl⟩
theorem ok_Si_order : gOk m_Si_order 1 := ⟨w_5, w_637, ⟨by decide +kernel, by decide +kernel⟩, by decide +kernel, rfl, rfl⟩
theorem ok_JL_compare : gOk m_JL_compare 2 := ⟨w_20, w_641, ⟨by decide +kernel, by decide +kernel⟩, by decide +kernel, rfl, rfl⟩
theorem ok_Mo_thrown : gOk m_Mo_thrown 0 := ⟨w_7, w_703, ⟨by decide +kernel, by decide +kernel⟩, by decide +kernel, rfl, rfl⟩
theorem ok_Mo_write : gOk m_Mo_write 1 := ⟨w_7, w_707, ⟨by decide +kernel, by decide +kernel⟩, by decide +kernel, rfl, rfl⟩
theorem ok_Mo_repeat : gOk m_Mo_repeat 2 := ⟨w_7, w_712, ⟨by decide +kernel, by decide +kernel⟩, by decide +kernel, rfl, rfl⟩
theorem ok_Mo_cut : gOk m_Mo_cut 1 := ⟨w_7, w_716, ⟨by decide +kernel, by decide +kernel⟩, by decide +kernel, rfl, rfl⟩
theorem ok_Mo_wipe : gOk m_Mo_wipe 0 := ⟨w_7, w_720, ⟨by decide +kernel, by decide +kernel⟩, by decide +kernel, rfl, rfl⟩
theorem ok_Mo_kind : gOk m_Mo_kind 0 := ⟨w_7, w_724, ⟨by decide +kernel, by decide +kernel⟩, by decide +kernel, rfl, rfl⟩
theorem ok_Mo_scan : gOk m_Mo_scan 0 := ⟨w_7, w_728, ⟨by decide +kernel, by decide +kernel⟩, by decide +kernel, rfl, rfl⟩
theorem ok_Mo_blanks : gOk m_Mo_blanks 0 := ⟨w_7, w_732, ⟨by decide +kernel, by decide +kernel⟩, by decide +kernel, rfl, rfl⟩
theorem ok_Mo_here : gOk m_Mo_here 0 := ⟨w_7, w_736, ⟨by decide +kernel, by decide +kernel⟩, by decide +kernel, rfl, rfl⟩
theorem ok_Mo_spells : gOk m_Mo_spells 1 := ⟨w_7, w_741, ⟨by decide +kernel, by decide +kernel⟩, by decide +kernel, rfl, rfl⟩
theorem ok_Mo_number : gOk m_Mo_number 0 := ⟨w_7, w_746, ⟨by decide +kernel, by decide +kernel⟩, by decide +kernel, rfl, rfl⟩
theorem ok_Mo_digits : gOk m_Mo_digits 1 := ⟨w_7, w_750, ⟨by decide +kernel, by decide +kernel⟩, by decide +kernel, rfl, rfl⟩
theorem ok_Mo_hex : gOk m_Mo_hex 1 := ⟨w_7, w_753, ⟨by decide +kernel, by decide +kernel⟩, by decide +kernel, rfl, rfl⟩
theorem ok_Mo_isDigit : gOk m_Mo_isDigit 1 := ⟨w_7, w_756, ⟨by decide +kernel, by decide +kernel⟩, by decide +kernel, rfl, rfl⟩
theorem ok_Mo_isAt : gOk m_Mo_isAt 2 := ⟨w_7, w_760, ⟨by decide +kernel, by decide +kernel⟩, by decide +kernel, rfl, rfl⟩
theorem ok_Mo_power : gOk m_Mo_power 0 := ⟨w_7, w_764, ⟨by decide +kernel, by decide +kernel⟩, by decide +kernel, rfl, rfl⟩
theorem ok_Mo_fault : gOk m_Mo_fault 0 := ⟨w_7, w_771, ⟨by decide +kernel, by decide +kernel⟩, by decide +kernel, rfl, rfl⟩
theorem ok_Mo_bits : gOk m_Mo_bits 0 := ⟨w_7, w_775, ⟨by decide +kernel, by decide +kernel⟩, by decide +kernel, rfl, rfl⟩
theorem ok_Mo_sizeRead : gOk m_Mo_sizeRead 2 := ⟨w_7, w_779, ⟨by decide +kernel, by decide +kernel⟩, by decide +kernel, rfl, rfl⟩
theorem ok_Mo_find : gOk m_Mo_find 2 := ⟨w_7, w_784, ⟨by decide +kernel, by decide +kernel⟩, by decide +kernel, rfl, rfl⟩
theorem ok_Mo_findDecimal : gOk m_Mo_findDecimal 3 := ⟨w_7, w_788, ⟨by decide +kernel, by decide +kernel⟩, by decide +kernel, rfl, rfl⟩
theorem ok_Mo_writeOut : gOk m_Mo_writeOut 2 := ⟨w_7, w_794, ⟨by decide +kernel, by decide +kernel⟩, by decide +kernel, rfl, rfl⟩
theorem ok_Mo_wholePart : gOk m_Mo_wholePart 0 := ⟨w_7, w_798, ⟨by decide +kernel, by decide +kernel⟩, by decide +kernel, rfl, rfl⟩
theorem ok_Mo_half : gOk m_Mo_half 0 := ⟨w_7, w_804, ⟨by decide +kernel, by decide +kernel⟩, by decide +kernel, rfl, rfl⟩
theorem ok_Mo_twice : gOk m_Mo_twice 0 := ⟨w_7, w_810, ⟨by decide +kernel, by decide +kernel⟩, by decide +kernel, rfl, rfl⟩
theorem ok_Mo_findHexadecimal : gOk m_Mo_findHexadecimal 3 := ⟨w_7, w_814, ⟨by decide +kernel, by decide +kernel⟩, by decide +kernel, rfl, rfl⟩
theorem ok_Mo_bitAt : gOk m_Mo_bitAt 1 := ⟨w_7, w_823, ⟨by decide +kernel, by decide +kernel⟩, by decide +kernel, rfl, rfl⟩
theorem ok_Mo_goesUp : gOk m_Mo_goesUp 0 := ⟨w_7, w_828, ⟨by decide +kernel, by decide +kernel⟩, by decide +kernel, rfl, rfl⟩
theorem ok_Mo_pack : gOk m_Mo_pack 3 := ⟨w_7, w_832, ⟨by decide +kernel, by decide +kernel⟩, by decide +kernel, rfl, rfl⟩
theorem ok_Mo_floatBits : gOk m_Mo_floatBits 0 := ⟨w_7, w_837, ⟨by decide +kernel, by decide +kernel⟩, by decide +kernel, rfl, rfl⟩
theorem ok_Mo_side : gOk m_Mo_side 1 := ⟨w_7, w_842, ⟨by decide +kernel, by decide +kernel⟩, by decide +kernel, rfl, rfl⟩
theorem ok_Mo_compare : gOk m_Mo_compare 1 := ⟨w_7, w_846, ⟨by decide +kernel, by decide +kernel⟩, by decide +kernel, rfl, rfl⟩
theorem ok_Mo_compareSize : gOk m_Mo_compareSize 1 := ⟨w_7, w_852, ⟨by decide +kernel, by decide +kernel⟩, by decide +kernel, rfl, rfl⟩
