set_option maxRecDepth 20000 in
theorem b_Fm_bitsOfNoNumber_0 {l : Launch} {G : gG} {w0 w1 : va_W} {res : Option Value} {i0 : Nat} (k0 : gAt l G m_Fm_bitsOfNoNumber w0 res w1 2 [(0, .ref (g_adE G i0))] [.ref (g_adE G i0), .ref (g_adE G i0)] []) : gAt l G m_Fm_bitsOfNoNumber w0 res w1 0 [(0, .ref (g_adE G i0))] [] [] := by
  refine a_aload_n 0 dFm_bitsOfNoNumber_0 rfl ?_
  refine a_aload_n 0 dFm_bitsOfNoNumber_1 rfl ?_
  exact k0

set_option maxRecDepth 20000 in
theorem k_Fm_bitsOfNoNumber_2 {l : Launch} {G : gG} {w0 w1 : va_W} {res : Option Value} {i0 : Nat} {r : Int32} (hi : i0 < 2) (hc : gCt l G m_Fm_infiniteField [.ref (g_adE G i0)] [] (some (.int r)) []) (k : gAt l G m_Fm_bitsOfNoNumber w0 res w1 5 [(0, .ref (g_adE G i0))] [.int r, .ref (g_adE G i0)] []) : gAt l G m_Fm_bitsOfNoNumber w0 res w1 2 [(0, .ref (g_adE G i0))] [.ref (g_adE G i0), .ref (g_adE G i0)] [] :=
  a_callE (As := []) (rest := [.ref (g_adE G i0)]) (wc := []) (wr := []) (w1c := []) (r := (some (.int r))) [] [] [] [] (i := i0) hc dFm_bitsOfNoNumber_2 rfl ok_Fm_infiniteField ⟨Nat.le_of_ble_eq_true rfl, Nat.le_of_ble_eq_true rfl⟩ w_428 w_430 sl_18 hi rfl rfl rfl rfl (by decide) rfl rfl (Nat.le_of_ble_eq_true rfl) k

set_option maxRecDepth 20000 in
theorem b_Fm_bitsOfNoNumber_5 {l : Launch} {G : gG} {w0 w1 : va_W} {res : Option Value} {i0 : Nat} {v0 : Int32} (k0 : gAt l G m_Fm_bitsOfNoNumber w0 res w1 6 [(0, .ref (g_adE G i0))] [.ref (g_adE G i0), .int v0, .ref (g_adE G i0)] []) : gAt l G m_Fm_bitsOfNoNumber w0 res w1 5 [(0, .ref (g_adE G i0))] [.int v0, .ref (g_adE G i0)] [] := by
  refine a_aload_n 0 dFm_bitsOfNoNumber_5 rfl ?_
  exact k0

set_option maxRecDepth 20000 in
theorem k_Fm_bitsOfNoNumber_6 {l : Launch} {G : gG} {w0 w1 : va_W} {res : Option Value} {i0 : Nat} {v1 : Int32} {r : Int64} (hi : i0 < 2) (hc : gCt l G m_Fm_hiddenBit [.ref (g_adE G i0)] [] (some (.long r)) []) (k : gAt l G m_Fm_bitsOfNoNumber w0 res w1 9 [(0, .ref (g_adE G i0))] [.long r, .int v1, .ref (g_adE G i0)] []) : gAt l G m_Fm_bitsOfNoNumber w0 res w1 6 [(0, .ref (g_adE G i0))] [.ref (g_adE G i0), .int v1, .ref (g_adE G i0)] [] :=
  a_callE (As := []) (rest := [.int v1, .ref (g_adE G i0)]) (wc := []) (wr := []) (w1c := []) (r := (some (.long r))) [] [] [] [] (i := i0) hc dFm_bitsOfNoNumber_6 rfl ok_Fm_hiddenBit ⟨Nat.le_of_ble_eq_true rfl, Nat.le_of_ble_eq_true rfl⟩ w_432 w_434 sl_19 hi rfl rfl rfl rfl (by decide) rfl rfl (Nat.le_of_ble_eq_true rfl) k

set_option maxRecDepth 20000 in
theorem b_Fm_bitsOfNoNumber_9 {l : Launch} {G : gG} {w0 w1 : va_W} {res : Option Value} {i0 : Nat} {v0 : Int64} {v1 : Int32} (k0 : gAt l G m_Fm_bitsOfNoNumber w0 res w1 11 [(0, .ref (g_adE G i0))] [.long ((Int64.toUInt64 v0 >>> ((Int32.toInt64 (1 : Int32)).toUInt64 &&& Int64.toUInt64 63)).toInt64), .int v1, .ref (g_adE G i0)] []) : gAt l G m_Fm_bitsOfNoNumber w0 res w1 9 [(0, .ref (g_adE G i0))] [.long v0, .int v1, .ref (g_adE G i0)] [] := by
  refine a_iconst (1 : Int32) dFm_bitsOfNoNumber_9 (by decide) ?_
  refine a_lushr dFm_bitsOfNoNumber_10 ?_
  exact k0

set_option maxRecDepth 20000 in
theorem k_Fm_bitsOfNoNumber_11 {l : Launch} {G : gG} {w0 w1 : va_W} {res : Option Value} {i0 : Nat} {v0 : Int64} {v1 : Int32} {r : Int64} (hi : i0 < 2) (hc : gCt l G m_Fm_bitsOf [.ref (g_adE G i0), .int v1, .long v0] [] (some (.long r)) []) (k : gAt l G m_Fm_bitsOfNoNumber w0 res w1 14 [(0, .ref (g_adE G i0))] [.long r] []) : gAt l G m_Fm_bitsOfNoNumber w0 res w1 11 [(0, .ref (g_adE G i0))] [.long v0, .int v1, .ref (g_adE G i0)] [] :=
  a_callE (As := [.int v1, .long v0]) (rest := []) (wc := []) (wr := []) (w1c := []) (r := (some (.long r))) [] [] [] [] (i := i0) hc dFm_bitsOfNoNumber_11 rfl ok_Fm_bitsOf ⟨Nat.le_of_ble_eq_true rfl, Nat.le_of_ble_eq_true rfl⟩ w_436 w_438 sl_20 hi rfl rfl rfl rfl (by decide) rfl rfl (Nat.le_of_ble_eq_true rfl) k

set_option maxRecDepth 20000 in
theorem b_Fm_bitsOfNoNumber_14 {l : Launch} {G : gG} {w0 w1 : va_W} {res : Option Value} {i0 : Nat} {v0 : Int64} (k0 : res = some (.long v0) ∧ [] = w1) : gAt l G m_Fm_bitsOfNoNumber w0 res w1 14 [(0, .ref (g_adE G i0))] [.long v0] [] := by
  exact a_lret (st := []) dFm_bitsOfNoNumber_14 rfl k0.1 k0.2

set_option maxRecDepth 20000 in
theorem b_Fm_infiniteField_0 {l : Launch} {G : gG} {w0 w1 : va_W} {res : Option Value} {i0 : Nat} (s0 : i0 < 2) (k1 : res = some (.int (((1 : Int32) <<< ((g_eF2.2.2.2.getD i0 0) &&& 31)) - (1 : Int32))) ∧ [] = w1) : gAt l G m_Fm_infiniteField w0 res w1 0 [(0, .ref (g_adE G i0))] [] [] := by
  refine a_iconst (1 : Int32) dFm_infiniteField_0 (by decide) ?_
  refine a_aload_n 0 dFm_infiniteField_1 rfl ?_
  refine a_getE (q := g_eF2) dFm_infiniteField_2 g_in2 s0 w_858 ?_
  refine a_ishl dFm_infiniteField_5 ?_
  refine a_iconst (1 : Int32) dFm_infiniteField_6 (by decide) ?_
  refine a_isub dFm_infiniteField_7 ?_
  exact a_iret (st := []) dFm_infiniteField_8 rfl k1.1 k1.2

set_option maxRecDepth 20000 in
theorem b_Fm_hiddenBit_0 {l : Launch} {G : gG} {w0 w1 : va_W} {res : Option Value} {i0 : Nat} (s0 : i0 < 2) (k1 : res = some (.long ((1 : Int64) <<< ((Int32.toInt64 ((g_eF0.2.2.2.getD i0 0) - (1 : Int32))) &&& 63))) ∧ [] = w1) : gAt l G m_Fm_hiddenBit w0 res w1 0 [(0, .ref (g_adE G i0))] [] [] := by
  refine a_lconst (1 : Int64) dFm_hiddenBit_0 (by decide) ?_
  refine a_aload_n 0 dFm_hiddenBit_1 rfl ?_
  refine a_getE (q := g_eF0) dFm_hiddenBit_2 g_in0 s0 w_859 ?_
  refine a_iconst (1 : Int32) dFm_hiddenBit_5 (by decide) ?_
  refine a_isub dFm_hiddenBit_6 ?_
  refine a_lshl dFm_hiddenBit_7 ?_
  exact a_lret (st := []) dFm_hiddenBit_8 rfl k1.1 k1.2

set_option maxRecDepth 20000 in
theorem b_Fm_bitsOf_0 {l : Launch} {G : gG} {w0 w1 : va_W} {res : Option Value} {i0 : Nat} {x1 : Int32} {x2 : Int64} (s0 : i0 < 2) (k1 : gAt l G m_Fm_bitsOf w0 res w1 11 [(0, .ref (g_adE G i0)), (1, .int x1), (2, .long x2)] [.long x2, .ref (g_adE G i0), .long ((Int32.toInt64 x1) <<< ((Int32.toInt64 ((g_eF0.2.2.2.getD i0 0) - (1 : Int32))) &&& 63))] []) : gAt l G m_Fm_bitsOf w0 res w1 0 [(0, .ref (g_adE G i0)), (1, .int x1), (2, .long x2)] [] [] := by
  refine a_iload_n 1 dFm_bitsOf_0 rfl ?_
  refine a_i2l dFm_bitsOf_1 ?_
  refine a_aload_n 0 dFm_bitsOf_2 rfl ?_
  refine a_getE (q := g_eF0) dFm_bitsOf_3 g_in0 s0 w_859 ?_
  refine a_iconst (1 : Int32) dFm_bitsOf_6 (by decide) ?_
  refine a_isub dFm_bitsOf_7 ?_
  refine a_lshl dFm_bitsOf_8 ?_
  refine a_aload_n 0 dFm_bitsOf_9 rfl ?_
  refine a_lload_n 2 dFm_bitsOf_10 rfl ?_
  exact k1

set_option maxRecDepth 20000 in
theorem k_Fm_bitsOf_11 {l : Launch} {G : gG} {w0 w1 : va_W} {res : Option Value} {i0 : Nat} {x1 : Int32} {x2 : Int64} {v0 : Int64} {v2 : Int64} {r : Int64} (hi : i0 < 2) (hc : gCt l G m_Fm_lowField [.ref (g_adE G i0), .long v0] [] (some (.long r)) []) (k : gAt l G m_Fm_bitsOf w0 res w1 14 [(0, .ref (g_adE G i0)), (1, .int x1), (2, .long x2)] [.long r, .long v2] []) : gAt l G m_Fm_bitsOf w0 res w1 11 [(0, .ref (g_adE G i0)), (1, .int x1), (2, .long x2)] [.long v0, .ref (g_adE G i0), .long v2] [] :=
  a_callE (As := [.long v0]) (rest := [.long v2]) (wc := []) (wr := []) (w1c := []) (r := (some (.long r))) [] [] [] [] (i := i0) hc dFm_bitsOf_11 rfl ok_Fm_lowField ⟨Nat.le_of_ble_eq_true rfl, Nat.le_of_ble_eq_true rfl⟩ w_440 w_442 sl_21 hi rfl rfl rfl rfl (by decide) rfl rfl (Nat.le_of_ble_eq_true rfl) k

set_option maxRecDepth 20000 in
theorem b_Fm_bitsOf_14 {l : Launch} {G : gG} {w0 w1 : va_W} {res : Option Value} {i0 : Nat} {x1 : Int32} {x2 : Int64} {v0 : Int64} {v1 : Int64} (k0 : res = some (.long (v1 ||| v0)) ∧ [] = w1) : gAt l G m_Fm_bitsOf w0 res w1 14 [(0, .ref (g_adE G i0)), (1, .int x1), (2, .long x2)] [.long v0, .long v1] [] := by
  refine a_lor dFm_bitsOf_14 ?_
  exact a_lret (st := []) dFm_bitsOf_15 rfl k0.1 k0.2

set_option maxRecDepth 20000 in
theorem b_Fm_lowField_0 {l : Launch} {G : gG} {w0 w1 : va_W} {res : Option Value} {i0 : Nat} {x1 : Int64} (k0 : gAt l G m_Fm_lowField w0 res w1 2 [(0, .ref (g_adE G i0)), (1, .long x1)] [.ref (g_adE G i0), .long x1] []) : gAt l G m_Fm_lowField w0 res w1 0 [(0, .ref (g_adE G i0)), (1, .long x1)] [] [] := by
  refine a_lload_n 1 dFm_lowField_0 rfl ?_
  refine a_aload_n 0 dFm_lowField_1 rfl ?_
  exact k0

set_option maxRecDepth 20000 in
theorem k_Fm_lowField_2 {l : Launch} {G : gG} {w0 w1 : va_W} {res : Option Value} {i0 : Nat} {x1 : Int64} {v1 : Int64} {r : Int64} (hi : i0 < 2) (hc : gCt l G m_Fm_hiddenBit [.ref (g_adE G i0)] [] (some (.long r)) []) (k : gAt l G m_Fm_lowField w0 res w1 5 [(0, .ref (g_adE G i0)), (1, .long x1)] [.long r, .long v1] []) : gAt l G m_Fm_lowField w0 res w1 2 [(0, .ref (g_adE G i0)), (1, .long x1)] [.ref (g_adE G i0), .long v1] [] :=
  a_callE (As := []) (rest := [.long v1]) (wc := []) (wr := []) (w1c := []) (r := (some (.long r))) [] [] [] [] (i := i0) hc dFm_lowField_2 rfl ok_Fm_hiddenBit ⟨Nat.le_of_ble_eq_true rfl, Nat.le_of_ble_eq_true rfl⟩ w_432 w_434 sl_19 hi rfl rfl rfl rfl (by decide) rfl rfl (Nat.le_of_ble_eq_true rfl) k

set_option maxRecDepth 20000 in
theorem b_Fm_lowField_5 {l : Launch} {G : gG} {w0 w1 : va_W} {res : Option Value} {i0 : Nat} {x1 : Int64} {v0 : Int64} {v1 : Int64} (k0 : res = some (.long (v1 &&& (v0 - (1 : Int64)))) ∧ [] = w1) : gAt l G m_Fm_lowField w0 res w1 5 [(0, .ref (g_adE G i0)), (1, .long x1)] [.long v0, .long v1] [] := by
  refine a_lconst (1 : Int64) dFm_lowField_5 (by decide) ?_
  refine a_lsub dFm_lowField_6 ?_
  refine a_land dFm_lowField_7 ?_
  exact a_lret (st := []) dFm_lowField_8 rfl k0.1 k0.2

set_option maxRecDepth 20000 in
theorem b_Fm_exponentOf_0 {l : Launch} {G : gG} {w0 w1 : va_W} {res : Option Value} {i0 : Nat} {x1 : Int32} (s0 : i0 < 2) (k1 : res = some (.int ((x1 - (1 : Int32)) + (g_eF1.2.2.2.getD i0 0))) ∧ [] = w1) : gAt l G m_Fm_exponentOf w0 res w1 0 [(0, .ref (g_adE G i0)), (1, .int x1)] [] [] := by
  refine a_iload_n 1 dFm_exponentOf_0 rfl ?_
  refine a_iconst (1 : Int32) dFm_exponentOf_1 (by decide) ?_
  refine a_isub dFm_exponentOf_2 ?_
  refine a_aload_n 0 dFm_exponentOf_3 rfl ?_
  refine a_getE (q := g_eF1) dFm_exponentOf_4 g_in1 s0 w_862 ?_
  refine a_iadd dFm_exponentOf_7 ?_
  exact a_iret (st := []) dFm_exponentOf_8 rfl k1.1 k1.2

set_option maxRecDepth 20000 in
theorem b_Fm_signBit_0 {l : Launch} {G : gG} {w0 w1 : va_W} {res : Option Value} {i0 : Nat} (s0 : i0 < 2) (s1 : i0 < 2) (k2 : res = some (.long ((1 : Int64) <<< ((Int32.toInt64 (((g_eF0.2.2.2.getD i0 0) - (1 : Int32)) + (g_eF2.2.2.2.getD i0 0))) &&& 63))) ∧ [] = w1) : gAt l G m_Fm_signBit w0 res w1 0 [(0, .ref (g_adE G i0))] [] [] := by
  refine a_lconst (1 : Int64) dFm_signBit_0 (by decide) ?_
  refine a_aload_n 0 dFm_signBit_1 rfl ?_
  refine a_getE (q := g_eF0) dFm_signBit_2 g_in0 s0 w_859 ?_
  refine a_iconst (1 : Int32) dFm_signBit_5 (by decide) ?_
  refine a_isub dFm_signBit_6 ?_
  refine a_aload_n 0 dFm_signBit_7 rfl ?_
  refine a_getE (q := g_eF2) dFm_signBit_8 g_in2 s1 w_858 ?_
  refine a_iadd dFm_signBit_11 ?_
  refine a_lshl dFm_signBit_12 ?_
  exact a_lret (st := []) dFm_signBit_13 rfl k2.1 k2.2

set_option maxRecDepth 20000 in
theorem b_Fm_areNoNumber_0 {l : Launch} {G : gG} {w0 w1 : va_W} {res : Option Value} {x0 : Int64} (k0 : gAt l G m_Fm_areNoNumber w0 res w1 4 [(0, .long x0)] [.long x0, .ref (g_adE G 0)] []) : gAt l G m_Fm_areNoNumber w0 res w1 0 [(0, .long x0)] [] [] := by
  refine a_getsE (i := 0) dFm_areNoNumber_0 (by decide) w_610 ?_
  refine a_lload_n 0 dFm_areNoNumber_3 rfl ?_
  exact k0

set_option maxRecDepth 20000 in
theorem k_Fm_areNoNumber_4 {l : Launch} {G : gG} {w0 w1 : va_W} {res : Option Value} {x0 : Int64} {v0 : Int64} {r : Int32} (hc : gCt l G m_Fm_exponentField [.ref (g_adE G 0), .long v0] [] (some (.int r)) []) (k : gAt l G m_Fm_areNoNumber w0 res w1 7 [(0, .long x0)] [.int r] []) : gAt l G m_Fm_areNoNumber w0 res w1 4 [(0, .long x0)] [.long v0, .ref (g_adE G 0)] [] :=
  a_callE (As := [.long v0]) (rest := []) (wc := []) (wr := []) (w1c := []) (r := (some (.int r))) [] [] [] [] (i := 0) hc dFm_areNoNumber_4 rfl ok_Fm_exponentField ⟨Nat.le_of_ble_eq_true rfl, Nat.le_of_ble_eq_true rfl⟩ w_611 w_613 sl_50 (by decide) rfl rfl rfl rfl (by decide) rfl rfl (Nat.le_of_ble_eq_true rfl) k

set_option maxRecDepth 20000 in
theorem b_Fm_areNoNumber_7 {l : Launch} {G : gG} {w0 w1 : va_W} {res : Option Value} {x0 : Int64} {v0 : Int32} (k0 : gAt l G m_Fm_areNoNumber w0 res w1 10 [(0, .long x0)] [.ref (g_adE G 0), .int v0] []) : gAt l G m_Fm_areNoNumber w0 res w1 7 [(0, .long x0)] [.int v0] [] := by
  refine a_getsE (i := 0) dFm_areNoNumber_7 (by decide) w_610 ?_
  exact k0

set_option maxRecDepth 20000 in
theorem k_Fm_areNoNumber_10 {l : Launch} {G : gG} {w0 w1 : va_W} {res : Option Value} {x0 : Int64} {v1 : Int32} {r : Int32} (hc : gCt l G m_Fm_infiniteField [.ref (g_adE G 0)] [] (some (.int r)) []) (k : gAt l G m_Fm_areNoNumber w0 res w1 13 [(0, .long x0)] [.int r, .int v1] []) : gAt l G m_Fm_areNoNumber w0 res w1 10 [(0, .long x0)] [.ref (g_adE G 0), .int v1] [] :=
  a_callE (As := []) (rest := [.int v1]) (wc := []) (wr := []) (w1c := []) (r := (some (.int r))) [] [] [] [] (i := 0) hc dFm_areNoNumber_10 rfl ok_Fm_infiniteField ⟨Nat.le_of_ble_eq_true rfl, Nat.le_of_ble_eq_true rfl⟩ w_428 w_430 sl_18 (by decide) rfl rfl rfl rfl (by decide) rfl rfl (Nat.le_of_ble_eq_true rfl) k

set_option maxRecDepth 20000 in
theorem b_Fm_areNoNumber_13 {l : Launch} {G : gG} {w0 w1 : va_W} {res : Option Value} {x0 : Int64} {v0 : Int32} {v1 : Int32} (k0 : (¬ v1 = v0) → gAt l G m_Fm_areNoNumber w0 res w1 32 [(0, .long x0)] [] []) (k1 : (v1 = v0) → gAt l G m_Fm_areNoNumber w0 res w1 20 [(0, .long x0)] [.long x0, .ref (g_adE G 0)] []) : gAt l G m_Fm_areNoNumber w0 res w1 13 [(0, .long x0)] [.int v0, .int v1] [] := by
  refine a_icmp_ne 32 dFm_areNoNumber_13 (by decide) (fun c1 => ?_) (fun c1 => ?_)
  · exact (k0 c1)
  · refine a_getsE (i := 0) dFm_areNoNumber_16 (by decide) w_610 ?_
    refine a_lload_n 0 dFm_areNoNumber_19 rfl ?_
    exact (k1 c1)

set_option maxRecDepth 20000 in
theorem k_Fm_areNoNumber_20 {l : Launch} {G : gG} {w0 w1 : va_W} {res : Option Value} {x0 : Int64} {v0 : Int64} {r : Int64} (hc : gCt l G m_Fm_lowField [.ref (g_adE G 0), .long v0] [] (some (.long r)) []) (k : gAt l G m_Fm_areNoNumber w0 res w1 23 [(0, .long x0)] [.long r] []) : gAt l G m_Fm_areNoNumber w0 res w1 20 [(0, .long x0)] [.long v0, .ref (g_adE G 0)] [] :=
  a_callE (As := [.long v0]) (rest := []) (wc := []) (wr := []) (w1c := []) (r := (some (.long r))) [] [] [] [] (i := 0) hc dFm_areNoNumber_20 rfl ok_Fm_lowField ⟨Nat.le_of_ble_eq_true rfl, Nat.le_of_ble_eq_true rfl⟩ w_440 w_442 sl_21 (by decide) rfl rfl rfl rfl (by decide) rfl rfl (Nat.le_of_ble_eq_true rfl) k

set_option maxRecDepth 20000 in
theorem b_Fm_areNoNumber_23 {l : Launch} {G : gG} {w0 w1 : va_W} {res : Option Value} {x0 : Int64} {v0 : Int64} (k0 : ((lg_cmp v0 (0 : Int64)) = 0) → gAt l G m_Fm_areNoNumber w0 res w1 32 [(0, .long x0)] [] []) (k1 : (¬ (lg_cmp v0 (0 : Int64)) = 0) → gAt l G m_Fm_areNoNumber w0 res w1 33 [(0, .long x0)] [.int (1 : Int32)] []) : gAt l G m_Fm_areNoNumber w0 res w1 23 [(0, .long x0)] [.long v0] [] := by
  refine a_lconst (0 : Int64) dFm_areNoNumber_23 (by decide) ?_
  refine a_lcmp dFm_areNoNumber_24 ?_
  refine a_if_eq 32 dFm_areNoNumber_25 (by decide) (fun c1 => ?_) (fun c1 => ?_)
  · exact (k0 c1)
  · refine a_iconst (1 : Int32) dFm_areNoNumber_28 (by decide) ?_
    refine a_goto 33 dFm_areNoNumber_29 (by decide) ?_
    exact (k1 c1)

set_option maxRecDepth 20000 in
theorem b_Fm_areNoNumber_32 {l : Launch} {G : gG} {w0 w1 : va_W} {res : Option Value} {x0 : Int64} (k0 : gAt l G m_Fm_areNoNumber w0 res w1 33 [(0, .long x0)] [.int (0 : Int32)] []) : gAt l G m_Fm_areNoNumber w0 res w1 32 [(0, .long x0)] [] [] := by
  refine a_iconst (0 : Int32) dFm_areNoNumber_32 (by decide) ?_
  exact k0

set_option maxRecDepth 20000 in
theorem b_Fm_areNoNumber_33 {l : Launch} {G : gG} {w0 w1 : va_W} {res : Option Value} {x0 : Int64} {v0 : Int32} (k0 : narrow .boolean (.int v0) = .int v0 ∧ res = some (.int v0) ∧ [] = w1) : gAt l G m_Fm_areNoNumber w0 res w1 33 [(0, .long x0)] [.int v0] [] := by
  exact a_zret (st := []) dFm_areNoNumber_33 rfl k0.1 k0.2.1 k0.2.2

set_option maxRecDepth 20000 in
theorem b_Fm_exponentField_0 {l : Launch} {G : gG} {w0 w1 : va_W} {res : Option Value} {i0 : Nat} {x1 : Int64} (s0 : i0 < 2) (k1 : gAt l G m_Fm_exponentField w0 res w1 10 [(0, .ref (g_adE G i0)), (1, .long x1)] [.ref (g_adE G i0), .int (Int64.toInt32 ((Int64.toUInt64 x1 >>> ((Int32.toInt64 ((g_eF0.2.2.2.getD i0 0) - (1 : Int32))).toUInt64 &&& Int64.toUInt64 63)).toInt64))] []) : gAt l G m_Fm_exponentField w0 res w1 0 [(0, .ref (g_adE G i0)), (1, .long x1)] [] [] := by
  refine a_lload_n 1 dFm_exponentField_0 rfl ?_
  refine a_aload_n 0 dFm_exponentField_1 rfl ?_
  refine a_getE (q := g_eF0) dFm_exponentField_2 g_in0 s0 w_859 ?_
  refine a_iconst (1 : Int32) dFm_exponentField_5 (by decide) ?_
  refine a_isub dFm_exponentField_6 ?_
  refine a_lushr dFm_exponentField_7 ?_
  refine a_l2i dFm_exponentField_8 ?_
  refine a_aload_n 0 dFm_exponentField_9 rfl ?_
  exact k1

set_option maxRecDepth 20000 in
theorem k_Fm_exponentField_10 {l : Launch} {G : gG} {w0 w1 : va_W} {res : Option Value} {i0 : Nat} {x1 : Int64} {v1 : Int32} {r : Int32} (hi : i0 < 2) (hc : gCt l G m_Fm_infiniteField [.ref (g_adE G i0)] [] (some (.int r)) []) (k : gAt l G m_Fm_exponentField w0 res w1 13 [(0, .ref (g_adE G i0)), (1, .long x1)] [.int r, .int v1] []) : gAt l G m_Fm_exponentField w0 res w1 10 [(0, .ref (g_adE G i0)), (1, .long x1)] [.ref (g_adE G i0), .int v1] [] :=
  a_callE (As := []) (rest := [.int v1]) (wc := []) (wr := []) (w1c := []) (r := (some (.int r))) [] [] [] [] (i := i0) hc dFm_exponentField_10 rfl ok_Fm_infiniteField ⟨Nat.le_of_ble_eq_true rfl, Nat.le_of_ble_eq_true rfl⟩ w_428 w_430 sl_18 hi rfl rfl rfl rfl (by decide) rfl rfl (Nat.le_of_ble_eq_true rfl) k

set_option maxRecDepth 20000 in
theorem b_Fm_exponentField_13 {l : Launch} {G : gG} {w0 w1 : va_W} {res : Option Value} {i0 : Nat} {x1 : Int64} {v0 : Int32} {v1 : Int32} (k0 : res = some (.int (v1 &&& v0)) ∧ [] = w1) : gAt l G m_Fm_exponentField w0 res w1 13 [(0, .ref (g_adE G i0)), (1, .long x1)] [.int v0, .int v1] [] := by
  refine a_iand dFm_exponentField_13 ?_
  exact a_iret (st := []) dFm_exponentField_14 rfl k0.1 k0.2
