set_option maxRecDepth 20000 in
theorem b_JI_numberOfLeadingZeros_0 {l : Launch} {G : gG} {w0 w1 : va_W} {res : Option Value} {x0 : Int32} (k0 : (0 < x0) → (x0 < (65536 : Int32)) → gAt l G m_JI_numberOfLeadingZeros w0 res w1 33 [(0, .int x0), (1, .int (31 : Int32))] [] []) (k1 : (0 < x0) → (¬ x0 < (65536 : Int32)) → gAt l G m_JI_numberOfLeadingZeros w0 res w1 33 [(0, .int ((Int32.toUInt32 x0 >>> (Int32.toUInt32 (16 : Int32) &&& Int32.toUInt32 31)).toInt32)), (1, .int ((31 : Int32) + (-16 : Int32)))] [] []) (k2 : (¬ 0 < x0) → (¬ x0 = 0) → gAt l G m_JI_numberOfLeadingZeros w0 res w1 14 [(0, .int x0)] [.int (0 : Int32)] []) (k3 : (¬ 0 < x0) → (x0 = 0) → gAt l G m_JI_numberOfLeadingZeros w0 res w1 14 [(0, .int x0)] [.int (32 : Int32)] []) : gAt l G m_JI_numberOfLeadingZeros w0 res w1 0 [(0, .int x0)] [] [] := by
  refine a_iload_n 0 dJI_numberOfLeadingZeros_0 rfl ?_
  refine a_if_gt 15 dJI_numberOfLeadingZeros_1 (by decide) (fun c1 => ?_) (fun c1 => ?_)
  · refine a_bipush (31 : Int32) dJI_numberOfLeadingZeros_15 (by decide) ?_
    refine a_istore_n [(1, .int (31 : Int32)), (0, .int x0)] dJI_numberOfLeadingZeros_17 rfl (by decide) rfl ?_
    refine a_iload_n 1 dJI_numberOfLeadingZeros_18 rfl ?_
    refine a_ldcw (65536 : Int32) dJI_numberOfLeadingZeros_19 w_483 ?_
    refine a_icmp_lt 33 dJI_numberOfLeadingZeros_22 (by decide) (fun c2 => ?_) (fun c2 => ?_)
    · refine a_lv [(0, .int x0), (1, .int (31 : Int32))] [1, 0] rfl ?_
      exact (k0 c1 c2)
    · refine a_iinc 0 ((31 : Int32) + (-16 : Int32)) [(1, .int ((31 : Int32) + (-16 : Int32))), (0, .int x0)] dJI_numberOfLeadingZeros_25 rfl rfl (by decide) rfl ?_
      refine a_iload_n 1 dJI_numberOfLeadingZeros_28 rfl ?_
      refine a_bipush (16 : Int32) dJI_numberOfLeadingZeros_29 (by decide) ?_
      refine a_iushr dJI_numberOfLeadingZeros_31 ?_
      refine a_istore_n [(0, .int ((Int32.toUInt32 x0 >>> (Int32.toUInt32 (16 : Int32) &&& Int32.toUInt32 31)).toInt32)), (1, .int ((31 : Int32) + (-16 : Int32)))] dJI_numberOfLeadingZeros_32 rfl (by decide) rfl ?_
      exact (k1 c1 c2)
  · refine a_iload_n 0 dJI_numberOfLeadingZeros_4 rfl ?_
    refine a_if_ne 13 dJI_numberOfLeadingZeros_5 (by decide) (fun c3 => ?_) (fun c3 => ?_)
    · refine a_iconst (0 : Int32) dJI_numberOfLeadingZeros_13 (by decide) ?_
      exact (k2 c1 c3)
    · refine a_bipush (32 : Int32) dJI_numberOfLeadingZeros_8 (by decide) ?_
      refine a_goto 14 dJI_numberOfLeadingZeros_10 (by decide) ?_
      exact (k3 c1 c3)

set_option maxRecDepth 20000 in
theorem b_JI_numberOfLeadingZeros_14 {l : Launch} {G : gG} {w0 w1 : va_W} {res : Option Value} {x0 : Int32} {v0 : Int32} (k0 : res = some (.int v0) ∧ [] = w1) : gAt l G m_JI_numberOfLeadingZeros w0 res w1 14 [(0, .int x0)] [.int v0] [] := by
  exact a_iret (st := []) dJI_numberOfLeadingZeros_14 rfl k0.1 k0.2

set_option maxRecDepth 20000 in
theorem b_JI_numberOfLeadingZeros_33 {l : Launch} {G : gG} {w0 w1 : va_W} {res : Option Value} {x0 : Int32} {x1 : Int32} (k0 : (x0 < (256 : Int32)) → gAt l G m_JI_numberOfLeadingZeros w0 res w1 48 [(0, .int x0), (1, .int x1)] [] []) (k1 : (¬ x0 < (256 : Int32)) → gAt l G m_JI_numberOfLeadingZeros w0 res w1 48 [(0, .int ((Int32.toUInt32 x0 >>> (Int32.toUInt32 (8 : Int32) &&& Int32.toUInt32 31)).toInt32)), (1, .int (x1 + (-8 : Int32)))] [] []) : gAt l G m_JI_numberOfLeadingZeros w0 res w1 33 [(0, .int x0), (1, .int x1)] [] [] := by
  refine a_iload_n 0 dJI_numberOfLeadingZeros_33 rfl ?_
  refine a_sipush (256 : Int32) dJI_numberOfLeadingZeros_34 (by decide) ?_
  refine a_icmp_lt 48 dJI_numberOfLeadingZeros_37 (by decide) (fun c1 => ?_) (fun c1 => ?_)
  · exact (k0 c1)
  · refine a_iinc 1 (x1 + (-8 : Int32)) [(1, .int (x1 + (-8 : Int32))), (0, .int x0)] dJI_numberOfLeadingZeros_40 rfl rfl (by decide) rfl ?_
    refine a_iload_n 1 dJI_numberOfLeadingZeros_43 rfl ?_
    refine a_bipush (8 : Int32) dJI_numberOfLeadingZeros_44 (by decide) ?_
    refine a_iushr dJI_numberOfLeadingZeros_46 ?_
    refine a_istore_n [(0, .int ((Int32.toUInt32 x0 >>> (Int32.toUInt32 (8 : Int32) &&& Int32.toUInt32 31)).toInt32)), (1, .int (x1 + (-8 : Int32)))] dJI_numberOfLeadingZeros_47 rfl (by decide) rfl ?_
    exact (k1 c1)

set_option maxRecDepth 20000 in
theorem b_JI_numberOfLeadingZeros_48 {l : Launch} {G : gG} {w0 w1 : va_W} {res : Option Value} {x0 : Int32} {x1 : Int32} (k0 : (x0 < (16 : Int32)) → gAt l G m_JI_numberOfLeadingZeros w0 res w1 61 [(0, .int x0), (1, .int x1)] [] []) (k1 : (¬ x0 < (16 : Int32)) → gAt l G m_JI_numberOfLeadingZeros w0 res w1 61 [(0, .int ((Int32.toUInt32 x0 >>> (Int32.toUInt32 (4 : Int32) &&& Int32.toUInt32 31)).toInt32)), (1, .int (x1 + (-4 : Int32)))] [] []) : gAt l G m_JI_numberOfLeadingZeros w0 res w1 48 [(0, .int x0), (1, .int x1)] [] [] := by
  refine a_iload_n 0 dJI_numberOfLeadingZeros_48 rfl ?_
  refine a_bipush (16 : Int32) dJI_numberOfLeadingZeros_49 (by decide) ?_
  refine a_icmp_lt 61 dJI_numberOfLeadingZeros_51 (by decide) (fun c1 => ?_) (fun c1 => ?_)
  · exact (k0 c1)
  · refine a_iinc 1 (x1 + (-4 : Int32)) [(1, .int (x1 + (-4 : Int32))), (0, .int x0)] dJI_numberOfLeadingZeros_54 rfl rfl (by decide) rfl ?_
    refine a_iload_n 1 dJI_numberOfLeadingZeros_57 rfl ?_
    refine a_iconst (4 : Int32) dJI_numberOfLeadingZeros_58 (by decide) ?_
    refine a_iushr dJI_numberOfLeadingZeros_59 ?_
    refine a_istore_n [(0, .int ((Int32.toUInt32 x0 >>> (Int32.toUInt32 (4 : Int32) &&& Int32.toUInt32 31)).toInt32)), (1, .int (x1 + (-4 : Int32)))] dJI_numberOfLeadingZeros_60 rfl (by decide) rfl ?_
    exact (k1 c1)

set_option maxRecDepth 20000 in
theorem b_JI_numberOfLeadingZeros_61 {l : Launch} {G : gG} {w0 w1 : va_W} {res : Option Value} {x0 : Int32} {x1 : Int32} (k0 : (x0 < (4 : Int32)) → gAt l G m_JI_numberOfLeadingZeros w0 res w1 73 [(0, .int x0), (1, .int x1)] [] []) (k1 : (¬ x0 < (4 : Int32)) → gAt l G m_JI_numberOfLeadingZeros w0 res w1 73 [(0, .int ((Int32.toUInt32 x0 >>> (Int32.toUInt32 (2 : Int32) &&& Int32.toUInt32 31)).toInt32)), (1, .int (x1 + (-2 : Int32)))] [] []) : gAt l G m_JI_numberOfLeadingZeros w0 res w1 61 [(0, .int x0), (1, .int x1)] [] [] := by
  refine a_iload_n 0 dJI_numberOfLeadingZeros_61 rfl ?_
  refine a_iconst (4 : Int32) dJI_numberOfLeadingZeros_62 (by decide) ?_
  refine a_icmp_lt 73 dJI_numberOfLeadingZeros_63 (by decide) (fun c1 => ?_) (fun c1 => ?_)
  · exact (k0 c1)
  · refine a_iinc 1 (x1 + (-2 : Int32)) [(1, .int (x1 + (-2 : Int32))), (0, .int x0)] dJI_numberOfLeadingZeros_66 rfl rfl (by decide) rfl ?_
    refine a_iload_n 1 dJI_numberOfLeadingZeros_69 rfl ?_
    refine a_iconst (2 : Int32) dJI_numberOfLeadingZeros_70 (by decide) ?_
    refine a_iushr dJI_numberOfLeadingZeros_71 ?_
    refine a_istore_n [(0, .int ((Int32.toUInt32 x0 >>> (Int32.toUInt32 (2 : Int32) &&& Int32.toUInt32 31)).toInt32)), (1, .int (x1 + (-2 : Int32)))] dJI_numberOfLeadingZeros_72 rfl (by decide) rfl ?_
    exact (k1 c1)

set_option maxRecDepth 20000 in
theorem b_JI_numberOfLeadingZeros_73 {l : Launch} {G : gG} {w0 w1 : va_W} {res : Option Value} {x0 : Int32} {x1 : Int32} (k0 : res = some (.int (x1 - ((Int32.toUInt32 x0 >>> (Int32.toUInt32 (1 : Int32) &&& Int32.toUInt32 31)).toInt32))) ∧ [] = w1) : gAt l G m_JI_numberOfLeadingZeros w0 res w1 73 [(0, .int x0), (1, .int x1)] [] [] := by
  refine a_iload_n 1 dJI_numberOfLeadingZeros_73 rfl ?_
  refine a_iload_n 0 dJI_numberOfLeadingZeros_74 rfl ?_
  refine a_iconst (1 : Int32) dJI_numberOfLeadingZeros_75 (by decide) ?_
  refine a_iushr dJI_numberOfLeadingZeros_76 ?_
  refine a_isub dJI_numberOfLeadingZeros_77 ?_
  exact a_iret (st := []) dJI_numberOfLeadingZeros_78 rfl k0.1 k0.2

set_option maxRecDepth 20000 in
theorem b_JI_compare_0 {l : Launch} {G : gG} {w0 w1 : va_W} {res : Option Value} {x0 : Int32} {x1 : Int32} (k0 : (x1 ≤ x0) → (¬ x0 = x1) → gAt l G m_JI_compare w0 res w1 19 [(0, .int x0), (1, .int x1)] [.int (1 : Int32)] []) (k1 : (x1 ≤ x0) → (x0 = x1) → gAt l G m_JI_compare w0 res w1 19 [(0, .int x0), (1, .int x1)] [.int (0 : Int32)] []) (k2 : (¬ x1 ≤ x0) → gAt l G m_JI_compare w0 res w1 19 [(0, .int x0), (1, .int x1)] [.int (-1 : Int32)] []) : gAt l G m_JI_compare w0 res w1 0 [(0, .int x0), (1, .int x1)] [] [] := by
  refine a_iload_n 0 dJI_compare_0 rfl ?_
  refine a_iload_n 1 dJI_compare_1 rfl ?_
  refine a_icmp_ge 9 dJI_compare_2 (by decide) (fun c1 => ?_) (fun c1 => ?_)
  · refine a_iload_n 0 dJI_compare_9 rfl ?_
    refine a_iload_n 1 dJI_compare_10 rfl ?_
    refine a_icmp_ne 18 dJI_compare_11 (by decide) (fun c2 => ?_) (fun c2 => ?_)
    · refine a_iconst (1 : Int32) dJI_compare_18 (by decide) ?_
      exact (k0 c1 c2)
    · refine a_iconst (0 : Int32) dJI_compare_14 (by decide) ?_
      refine a_goto 19 dJI_compare_15 (by decide) ?_
      exact (k1 c1 c2)
  · refine a_iconst (-1 : Int32) dJI_compare_5 (by decide) ?_
    refine a_goto 19 dJI_compare_6 (by decide) ?_
    exact (k2 c1)

set_option maxRecDepth 20000 in
theorem b_JI_compare_19 {l : Launch} {G : gG} {w0 w1 : va_W} {res : Option Value} {x0 : Int32} {x1 : Int32} {v0 : Int32} (k0 : res = some (.int v0) ∧ [] = w1) : gAt l G m_JI_compare w0 res w1 19 [(0, .int x0), (1, .int x1)] [.int v0] [] := by
  exact a_iret (st := []) dJI_compare_19 rfl k0.1 k0.2
