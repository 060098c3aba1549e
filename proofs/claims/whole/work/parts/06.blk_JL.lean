set_option maxRecDepth 20000 in
theorem b_JL_numberOfLeadingZeros_0 {l : Launch} {G : gG} {w0 w1 : va_W} {res : Option Value} {x0 : Int64} (k0 : (¬ (Int64.toInt32 ((Int64.toUInt64 x0 >>> ((Int32.toInt64 (32 : Int32)).toUInt64 &&& Int64.toUInt64 63)).toInt64)) = 0) → gAt l G m_JL_numberOfLeadingZeros w0 res w1 22 [(0, .long x0), (2, .int (Int64.toInt32 ((Int64.toUInt64 x0 >>> ((Int32.toInt64 (32 : Int32)).toUInt64 &&& Int64.toUInt64 63)).toInt64)))] [.int (Int64.toInt32 ((Int64.toUInt64 x0 >>> ((Int32.toInt64 (32 : Int32)).toUInt64 &&& Int64.toUInt64 63)).toInt64))] []) (k1 : ((Int64.toInt32 ((Int64.toUInt64 x0 >>> ((Int32.toInt64 (32 : Int32)).toUInt64 &&& Int64.toUInt64 63)).toInt64)) = 0) → gAt l G m_JL_numberOfLeadingZeros w0 res w1 14 [(0, .long x0), (2, .int (Int64.toInt32 ((Int64.toUInt64 x0 >>> ((Int32.toInt64 (32 : Int32)).toUInt64 &&& Int64.toUInt64 63)).toInt64)))] [.int (Int64.toInt32 x0), .int (32 : Int32)] []) : gAt l G m_JL_numberOfLeadingZeros w0 res w1 0 [(0, .long x0)] [] [] := by
  refine a_lload_n 0 dJL_numberOfLeadingZeros_0 rfl ?_
  refine a_bipush (32 : Int32) dJL_numberOfLeadingZeros_1 (by decide) ?_
  refine a_lushr dJL_numberOfLeadingZeros_3 ?_
  refine a_l2i dJL_numberOfLeadingZeros_4 ?_
  refine a_istore_n [(2, .int (Int64.toInt32 ((Int64.toUInt64 x0 >>> ((Int32.toInt64 (32 : Int32)).toUInt64 &&& Int64.toUInt64 63)).toInt64))), (0, .long x0)] dJL_numberOfLeadingZeros_5 rfl (by decide) rfl ?_
  refine a_iload_n 0 dJL_numberOfLeadingZeros_6 rfl ?_
  refine a_if_ne 21 dJL_numberOfLeadingZeros_7 (by decide) (fun c1 => ?_) (fun c1 => ?_)
  · refine a_iload_n 0 dJL_numberOfLeadingZeros_21 rfl ?_
    refine a_lv [(0, .long x0), (2, .int (Int64.toInt32 ((Int64.toUInt64 x0 >>> ((Int32.toInt64 (32 : Int32)).toUInt64 &&& Int64.toUInt64 63)).toInt64)))] [1, 0] rfl ?_
    exact (k0 c1)
  · refine a_bipush (32 : Int32) dJL_numberOfLeadingZeros_10 (by decide) ?_
    refine a_lload_n 1 dJL_numberOfLeadingZeros_12 rfl ?_
    refine a_l2i dJL_numberOfLeadingZeros_13 ?_
    refine a_lv [(0, .long x0), (2, .int (Int64.toInt32 ((Int64.toUInt64 x0 >>> ((Int32.toInt64 (32 : Int32)).toUInt64 &&& Int64.toUInt64 63)).toInt64)))] [1, 0] rfl ?_
    exact (k1 c1)

set_option maxRecDepth 20000 in
theorem k_JL_numberOfLeadingZeros_14 {l : Launch} {G : gG} {w0 w1 : va_W} {res : Option Value} {x0 : Int64} {x2 : Int32} {v0 : Int32} {v1 : Int32} {r : Int32} (hc : gCt l G m_JI_numberOfLeadingZeros [.int v0] [] (some (.int r)) []) (k : gAt l G m_JL_numberOfLeadingZeros w0 res w1 17 [(0, .long x0), (2, .int x2)] [.int r, .int v1] []) : gAt l G m_JL_numberOfLeadingZeros w0 res w1 14 [(0, .long x0), (2, .int x2)] [.int v0, .int v1] [] :=
  a_callS (As := [.int v0]) (rest := [.int v1]) (wc := []) (wr := []) (w1c := []) (r := (some (.int r))) [] [] [] [] hc dJL_numberOfLeadingZeros_14 rfl ok_JI_numberOfLeadingZeros ⟨Nat.le_of_ble_eq_true rfl, Nat.le_of_ble_eq_true rfl⟩ w_480 w_481 rfl rfl rfl rfl (by decide) rfl rfl (Nat.le_of_ble_eq_true rfl) k

set_option maxRecDepth 20000 in
theorem b_JL_numberOfLeadingZeros_17 {l : Launch} {G : gG} {w0 w1 : va_W} {res : Option Value} {x0 : Int64} {x2 : Int32} {v0 : Int32} {v1 : Int32} (k0 : gAt l G m_JL_numberOfLeadingZeros w0 res w1 25 [(0, .long x0), (2, .int x2)] [.int (v1 + v0)] []) : gAt l G m_JL_numberOfLeadingZeros w0 res w1 17 [(0, .long x0), (2, .int x2)] [.int v0, .int v1] [] := by
  refine a_iadd dJL_numberOfLeadingZeros_17 ?_
  refine a_goto 25 dJL_numberOfLeadingZeros_18 (by decide) ?_
  exact k0

set_option maxRecDepth 20000 in
theorem k_JL_numberOfLeadingZeros_22 {l : Launch} {G : gG} {w0 w1 : va_W} {res : Option Value} {x0 : Int64} {x2 : Int32} {v0 : Int32} {r : Int32} (hc : gCt l G m_JI_numberOfLeadingZeros [.int v0] [] (some (.int r)) []) (k : gAt l G m_JL_numberOfLeadingZeros w0 res w1 25 [(0, .long x0), (2, .int x2)] [.int r] []) : gAt l G m_JL_numberOfLeadingZeros w0 res w1 22 [(0, .long x0), (2, .int x2)] [.int v0] [] :=
  a_callS (As := [.int v0]) (rest := []) (wc := []) (wr := []) (w1c := []) (r := (some (.int r))) [] [] [] [] hc dJL_numberOfLeadingZeros_22 rfl ok_JI_numberOfLeadingZeros ⟨Nat.le_of_ble_eq_true rfl, Nat.le_of_ble_eq_true rfl⟩ w_480 w_481 rfl rfl rfl rfl (by decide) rfl rfl (Nat.le_of_ble_eq_true rfl) k

set_option maxRecDepth 20000 in
theorem b_JL_numberOfLeadingZeros_25 {l : Launch} {G : gG} {w0 w1 : va_W} {res : Option Value} {x0 : Int64} {x2 : Int32} {v0 : Int32} (k0 : res = some (.int v0) ∧ [] = w1) : gAt l G m_JL_numberOfLeadingZeros w0 res w1 25 [(0, .long x0), (2, .int x2)] [.int v0] [] := by
  exact a_iret (st := []) dJL_numberOfLeadingZeros_25 rfl k0.1 k0.2

set_option maxRecDepth 20000 in
theorem b_JL_compare_0 {l : Launch} {G : gG} {w0 w1 : va_W} {res : Option Value} {x0 : Int64} {x2 : Int64} (k0 : (0 ≤ (lg_cmp x0 x2)) → (¬ (lg_cmp x0 x2) = 0) → gAt l G m_JL_compare w0 res w1 21 [(0, .long x0), (2, .long x2)] [.int (1 : Int32)] []) (k1 : (0 ≤ (lg_cmp x0 x2)) → ((lg_cmp x0 x2) = 0) → gAt l G m_JL_compare w0 res w1 21 [(0, .long x0), (2, .long x2)] [.int (0 : Int32)] []) (k2 : (¬ 0 ≤ (lg_cmp x0 x2)) → gAt l G m_JL_compare w0 res w1 21 [(0, .long x0), (2, .long x2)] [.int (-1 : Int32)] []) : gAt l G m_JL_compare w0 res w1 0 [(0, .long x0), (2, .long x2)] [] [] := by
  refine a_lload_n 0 dJL_compare_0 rfl ?_
  refine a_lload_n 1 dJL_compare_1 rfl ?_
  refine a_lcmp dJL_compare_2 ?_
  refine a_if_ge 10 dJL_compare_3 (by decide) (fun c1 => ?_) (fun c1 => ?_)
  · refine a_lload_n 0 dJL_compare_10 rfl ?_
    refine a_lload_n 1 dJL_compare_11 rfl ?_
    refine a_lcmp dJL_compare_12 ?_
    refine a_if_ne 20 dJL_compare_13 (by decide) (fun c2 => ?_) (fun c2 => ?_)
    · refine a_iconst (1 : Int32) dJL_compare_20 (by decide) ?_
      exact (k0 c1 c2)
    · refine a_iconst (0 : Int32) dJL_compare_16 (by decide) ?_
      refine a_goto 21 dJL_compare_17 (by decide) ?_
      exact (k1 c1 c2)
  · refine a_iconst (-1 : Int32) dJL_compare_6 (by decide) ?_
    refine a_goto 21 dJL_compare_7 (by decide) ?_
    exact (k2 c1)

set_option maxRecDepth 20000 in
theorem b_JL_compare_21 {l : Launch} {G : gG} {w0 w1 : va_W} {res : Option Value} {x0 : Int64} {x2 : Int64} {v0 : Int32} (k0 : res = some (.int v0) ∧ [] = w1) : gAt l G m_JL_compare w0 res w1 21 [(0, .long x0), (2, .long x2)] [.int v0] [] := by
  exact a_iret (st := []) dJL_compare_21 rfl k0.1 k0.2
