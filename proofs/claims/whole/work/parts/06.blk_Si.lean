set_option maxRecDepth 20000 in
theorem b_Si_begin_0 {l : Launch} {G : gG} {w0 w1 : va_W} {res : Option Value} {ad_z : Nat} {z_place z_rest : Int32} {z_lead : Int64}  (k0 : res = none ∧ [oSi ad_z (0 : Int64) (0 : Int32) (0 : Int32)] = w1) : gAt l G m_Si_begin w0 res w1 0 [(0, .ref ad_z)] [] [oSi ad_z z_lead z_place z_rest] := by
  refine a_aload_n 0 dSi_begin_0 rfl ?_
  refine a_lconst (0 : Int64) dSi_begin_1 (by decide) ?_
  refine a_put (ci := 4) (kx := 0) ty_Si 0 [oSi ad_z (0 : Int64) z_place z_rest] dSi_begin_2 rfl I_Si tyo_Si nmo_Si w_124 rfl (by decide) rfl rfl rfl (Nat.le_of_ble_eq_true rfl) rfl ?_
  refine a_aload_n 0 dSi_begin_5 rfl ?_
  refine a_iconst (0 : Int32) dSi_begin_6 (by decide) ?_
  refine a_put (ci := 4) (kx := 1) ty_Si 0 [oSi ad_z (0 : Int64) (0 : Int32) z_rest] dSi_begin_7 rfl I_Si tyo_Si nmo_Si w_127 rfl (by decide) rfl rfl rfl (Nat.le_of_ble_eq_true rfl) rfl ?_
  refine a_aload_n 0 dSi_begin_10 rfl ?_
  refine a_iconst (0 : Int32) dSi_begin_11 (by decide) ?_
  refine a_put (ci := 4) (kx := 2) ty_Si 0 [oSi ad_z (0 : Int64) (0 : Int32) (0 : Int32)] dSi_begin_12 rfl I_Si tyo_Si nmo_Si w_128 rfl (by decide) rfl (by decide) (by decide) (Nat.le_of_ble_eq_true rfl) rfl ?_
  exact a_vret (st := []) dSi_begin_15 rfl k0.1 k0.2

set_option maxRecDepth 20000 in
theorem b_Si_push_0 {l : Launch} {G : gG} {w0 w1 : va_W} {res : Option Value} {ad_z : Nat} {z_place z_rest : Int32} {z_lead : Int64} {x1 : Int32} {x2 : Int32} (k0 : ((lg_cmp z_lead (4611686018427387904 : Int64)) < 0) → gAt l G m_Si_push w0 res w1 44 [(0, .ref ad_z), (1, .int x1), (2, .int x2), (3, .int (x2 - (1 : Int32)))] [] [oSi ad_z z_lead z_place z_rest]) (k1 : (¬ (lg_cmp z_lead (4611686018427387904 : Int64)) < 0) → (x1 = 0) → gAt l G m_Si_push w0 res w1 35 [(0, .ref ad_z), (1, .int x1), (2, .int x2)] [.int (0 : Int32), .int z_rest, .ref ad_z] [oSi ad_z z_lead (z_place + x2) z_rest]) (k2 : (¬ (lg_cmp z_lead (4611686018427387904 : Int64)) < 0) → (¬ x1 = 0) → gAt l G m_Si_push w0 res w1 35 [(0, .ref ad_z), (1, .int x1), (2, .int x2)] [.int (1 : Int32), .int z_rest, .ref ad_z] [oSi ad_z z_lead (z_place + x2) z_rest]) : gAt l G m_Si_push w0 res w1 0 [(0, .ref ad_z), (1, .int x1), (2, .int x2)] [] [oSi ad_z z_lead z_place z_rest] := by
  refine a_aload_n 0 dSi_push_0 rfl ?_
  refine a_get (ci := 4) (kx := 0) 0 dSi_push_1 rfl I_Si w_124 rfl (by decide) rfl ?_
  refine a_ldc2 (4611686018427387904 : Int64) dSi_push_4 w_464 ?_
  refine a_lcmp dSi_push_7 ?_
  refine a_if_lt 40 dSi_push_8 (by decide) (fun c1 => ?_) (fun c1 => ?_)
  · refine a_iload_n 2 dSi_push_40 rfl ?_
    refine a_iconst (1 : Int32) dSi_push_41 (by decide) ?_
    refine a_isub dSi_push_42 ?_
    refine a_istore_n [(3, .int (x2 - (1 : Int32))), (0, .ref ad_z), (1, .int x1), (2, .int x2)] dSi_push_43 rfl (by decide) rfl ?_
    refine a_lv [(0, .ref ad_z), (1, .int x1), (2, .int x2), (3, .int (x2 - (1 : Int32)))] [1, 2, 3, 0] rfl ?_
    exact (k0 c1)
  · refine a_aload_n 0 dSi_push_11 rfl ?_
    refine a_dup dSi_push_12 rfl ?_
    refine a_get (ci := 4) (kx := 1) 0 dSi_push_13 rfl I_Si w_127 rfl (by decide) rfl ?_
    refine a_iload_n 2 dSi_push_16 rfl ?_
    refine a_iadd dSi_push_17 ?_
    refine a_put (ci := 4) (kx := 1) ty_Si 0 [oSi ad_z z_lead (z_place + x2) z_rest] dSi_push_18 rfl I_Si tyo_Si nmo_Si w_127 rfl (by decide) rfl rfl rfl (Nat.le_of_ble_eq_true rfl) rfl ?_
    refine a_aload_n 0 dSi_push_21 rfl ?_
    refine a_dup dSi_push_22 rfl ?_
    refine a_get (ci := 4) (kx := 2) 0 dSi_push_23 rfl I_Si w_128 rfl (by decide) rfl ?_
    refine a_iload_n 1 dSi_push_26 rfl ?_
    refine a_if_eq 34 dSi_push_27 (by decide) (fun c2 => ?_) (fun c2 => ?_)
    · refine a_iconst (0 : Int32) dSi_push_34 (by decide) ?_
      exact (k1 c1 c2)
    · refine a_iconst (1 : Int32) dSi_push_30 (by decide) ?_
      refine a_goto 35 dSi_push_31 (by decide) ?_
      exact (k2 c1 c2)

set_option maxRecDepth 20000 in
theorem b_Si_push_35 {l : Launch} {G : gG} {w0 w1 : va_W} {res : Option Value} {ad_z : Nat} {z_place z_rest : Int32} {z_lead : Int64} {x1 : Int32} {x2 : Int32} {v0 : Int32} {v1 : Int32} (s0 : narrow .boolean (.int (v1 ||| v0)) = .int (v1 ||| v0) ∧ fits .boolean (.int (v1 ||| v0)) = true) (k1 : res = none ∧ [oSi ad_z z_lead z_place (v1 ||| v0)] = w1) : gAt l G m_Si_push w0 res w1 35 [(0, .ref ad_z), (1, .int x1), (2, .int x2)] [.int v0, .int v1, .ref ad_z] [oSi ad_z z_lead z_place z_rest] := by
  refine a_ior dSi_push_35 ?_
  refine a_put (ci := 4) (kx := 2) ty_Si 0 [oSi ad_z z_lead z_place (v1 ||| v0)] dSi_push_36 rfl I_Si tyo_Si nmo_Si w_128 rfl (by decide) rfl s0.1 s0.2 (Nat.le_of_ble_eq_true rfl) rfl ?_
  exact a_vret (st := []) dSi_push_39 rfl k1.1 k1.2

set_option maxRecDepth 20000 in
theorem b_Si_push_44 {l : Launch} {G : gG} {w0 w1 : va_W} {res : Option Value} {ad_z : Nat} {z_place z_rest : Int32} {z_lead : Int64} {x1 : Int32} {x2 : Int32} {x3 : Int32} (k0 : (x3 < 0) → res = none ∧ [oSi ad_z z_lead z_place z_rest] = w1) (k1 : (¬ x3 < 0) → gAt l G m_Si_push w0 res w1 54 [(0, .ref ad_z), (1, .int x1), (2, .int x2), (3, .int x3)] [.int (((Int32.toUInt32 x1 >>> (Int32.toUInt32 x3 &&& Int32.toUInt32 31)).toInt32) &&& (1 : Int32)), .ref ad_z] [oSi ad_z z_lead z_place z_rest]) : gAt l G m_Si_push w0 res w1 44 [(0, .ref ad_z), (1, .int x1), (2, .int x2), (3, .int x3)] [] [oSi ad_z z_lead z_place z_rest] := by
  refine a_iload_n 3 dSi_push_44 rfl ?_
  refine a_if_lt 63 dSi_push_45 (by decide) (fun c1 => ?_) (fun c1 => ?_)
  · exact a_vret (st := []) dSi_push_63 rfl (k0 c1).1 (k0 c1).2
  · refine a_aload_n 0 dSi_push_48 rfl ?_
    refine a_iload_n 1 dSi_push_49 rfl ?_
    refine a_iload_n 3 dSi_push_50 rfl ?_
    refine a_iushr dSi_push_51 ?_
    refine a_iconst (1 : Int32) dSi_push_52 (by decide) ?_
    refine a_iand dSi_push_53 ?_
    exact (k1 c1)

set_option maxRecDepth 20000 in
theorem k_Si_push_54 {l : Launch} {G : gG} {w0 w1 : va_W} {res : Option Value} {ad_z : Nat} {z_place z_rest : Int32} {z_lead : Int64} {x1 : Int32} {x2 : Int32} {x3 : Int32} {v0 : Int32} {z_place' z_rest' : Int32} {z_lead' : Int64} (hc : gCt l G m_Si_pushBit [.ref ad_z, .int v0] [oSi ad_z z_lead z_place z_rest] none [oSi ad_z z_lead' z_place' z_rest']) (k : gAt l G m_Si_push w0 res w1 57 [(0, .ref ad_z), (1, .int x1), (2, .int x2), (3, .int x3)] [] [oSi ad_z z_lead' z_place' z_rest']) : gAt l G m_Si_push w0 res w1 54 [(0, .ref ad_z), (1, .int x1), (2, .int x2), (3, .int x3)] [.int v0, .ref ad_z] [oSi ad_z z_lead z_place z_rest] :=
  a_callV (As := [.int v0]) (rest := []) (wc := [oSi ad_z z_lead z_place z_rest]) (wr := []) (w1c := [oSi ad_z z_lead' z_place' z_rest']) (r := none) [oSi ad_z z_lead' z_place' z_rest'] [0] [] [0] (ci := 4) (q0 := 0) hc dSi_push_54 rfl ok_Si_pushBit ⟨Nat.le_of_ble_eq_true rfl, Nat.le_of_ble_eq_true rfl⟩ w_465 w_467 sl_27 rfl rfl rfl rfl rfl rfl (by decide) rfl rfl (Nat.le_of_ble_eq_true rfl) k

set_option maxRecDepth 20000 in
theorem b_Si_push_57 {l : Launch} {G : gG} {w0 w1 : va_W} {res : Option Value} {ad_z : Nat} {z_place z_rest : Int32} {z_lead : Int64} {x1 : Int32} {x2 : Int32} {x3 : Int32} (k0 : gAt l G m_Si_push w0 res w1 44 [(0, .ref ad_z), (1, .int x1), (2, .int x2), (3, .int (x3 + (-1 : Int32)))] [] [oSi ad_z z_lead z_place z_rest]) : gAt l G m_Si_push w0 res w1 57 [(0, .ref ad_z), (1, .int x1), (2, .int x2), (3, .int x3)] [] [oSi ad_z z_lead z_place z_rest] := by
  refine a_iinc 3 (x3 + (-1 : Int32)) [(3, .int (x3 + (-1 : Int32))), (0, .ref ad_z), (1, .int x1), (2, .int x2)] dSi_push_57 rfl rfl (by decide) rfl ?_
  refine a_goto 44 dSi_push_60 (by decide) ?_
  refine a_lv [(0, .ref ad_z), (1, .int x1), (2, .int x2), (3, .int (x3 + (-1 : Int32)))] [1, 2, 3, 0] rfl ?_
  exact k0

set_option maxRecDepth 20000 in
theorem b_Si_pushBit_0 {l : Launch} {G : gG} {w0 w1 : va_W} {res : Option Value} {ad_z : Nat} {z_place z_rest : Int32} {z_lead : Int64} {x1 : Int32} (k0 : ((lg_cmp z_lead (4611686018427387904 : Int64)) < 0) → gAt l G m_Si_pushBit w0 res w1 55 [(0, .ref ad_z), (1, .int x1)] [] [oSi ad_z ((z_lead <<< ((Int32.toInt64 (1 : Int32)) &&& 63)) ||| (Int32.toInt64 x1)) z_place z_rest]) (k1 : (¬ (lg_cmp z_lead (4611686018427387904 : Int64)) < 0) → (x1 = 0) → gAt l G m_Si_pushBit w0 res w1 35 [(0, .ref ad_z), (1, .int x1)] [.int (0 : Int32), .int z_rest, .ref ad_z] [oSi ad_z z_lead (z_place + (1 : Int32)) z_rest]) (k2 : (¬ (lg_cmp z_lead (4611686018427387904 : Int64)) < 0) → (¬ x1 = 0) → gAt l G m_Si_pushBit w0 res w1 35 [(0, .ref ad_z), (1, .int x1)] [.int (1 : Int32), .int z_rest, .ref ad_z] [oSi ad_z z_lead (z_place + (1 : Int32)) z_rest]) : gAt l G m_Si_pushBit w0 res w1 0 [(0, .ref ad_z), (1, .int x1)] [] [oSi ad_z z_lead z_place z_rest] := by
  refine a_aload_n 0 dSi_pushBit_0 rfl ?_
  refine a_get (ci := 4) (kx := 0) 0 dSi_pushBit_1 rfl I_Si w_124 rfl (by decide) rfl ?_
  refine a_ldc2 (4611686018427387904 : Int64) dSi_pushBit_4 w_464 ?_
  refine a_lcmp dSi_pushBit_7 ?_
  refine a_if_lt 42 dSi_pushBit_8 (by decide) (fun c1 => ?_) (fun c1 => ?_)
  · refine a_aload_n 0 dSi_pushBit_42 rfl ?_
    refine a_aload_n 0 dSi_pushBit_43 rfl ?_
    refine a_get (ci := 4) (kx := 0) 0 dSi_pushBit_44 rfl I_Si w_124 rfl (by decide) rfl ?_
    refine a_iconst (1 : Int32) dSi_pushBit_47 (by decide) ?_
    refine a_lshl dSi_pushBit_48 ?_
    refine a_iload_n 1 dSi_pushBit_49 rfl ?_
    refine a_i2l dSi_pushBit_50 ?_
    refine a_lor dSi_pushBit_51 ?_
    refine a_put (ci := 4) (kx := 0) ty_Si 0 [oSi ad_z ((z_lead <<< ((Int32.toInt64 (1 : Int32)) &&& 63)) ||| (Int32.toInt64 x1)) z_place z_rest] dSi_pushBit_52 rfl I_Si tyo_Si nmo_Si w_124 rfl (by decide) rfl rfl rfl (Nat.le_of_ble_eq_true rfl) rfl ?_
    exact (k0 c1)
  · refine a_aload_n 0 dSi_pushBit_11 rfl ?_
    refine a_dup dSi_pushBit_12 rfl ?_
    refine a_get (ci := 4) (kx := 1) 0 dSi_pushBit_13 rfl I_Si w_127 rfl (by decide) rfl ?_
    refine a_iconst (1 : Int32) dSi_pushBit_16 (by decide) ?_
    refine a_iadd dSi_pushBit_17 ?_
    refine a_put (ci := 4) (kx := 1) ty_Si 0 [oSi ad_z z_lead (z_place + (1 : Int32)) z_rest] dSi_pushBit_18 rfl I_Si tyo_Si nmo_Si w_127 rfl (by decide) rfl rfl rfl (Nat.le_of_ble_eq_true rfl) rfl ?_
    refine a_aload_n 0 dSi_pushBit_21 rfl ?_
    refine a_dup dSi_pushBit_22 rfl ?_
    refine a_get (ci := 4) (kx := 2) 0 dSi_pushBit_23 rfl I_Si w_128 rfl (by decide) rfl ?_
    refine a_iload_n 1 dSi_pushBit_26 rfl ?_
    refine a_if_eq 34 dSi_pushBit_27 (by decide) (fun c2 => ?_) (fun c2 => ?_)
    · refine a_iconst (0 : Int32) dSi_pushBit_34 (by decide) ?_
      exact (k1 c1 c2)
    · refine a_iconst (1 : Int32) dSi_pushBit_30 (by decide) ?_
      refine a_goto 35 dSi_pushBit_31 (by decide) ?_
      exact (k2 c1 c2)

set_option maxRecDepth 20000 in
theorem b_Si_pushBit_35 {l : Launch} {G : gG} {w0 w1 : va_W} {res : Option Value} {ad_z : Nat} {z_place z_rest : Int32} {z_lead : Int64} {x1 : Int32} {v0 : Int32} {v1 : Int32} (s0 : narrow .boolean (.int (v1 ||| v0)) = .int (v1 ||| v0) ∧ fits .boolean (.int (v1 ||| v0)) = true) (k1 : gAt l G m_Si_pushBit w0 res w1 55 [(0, .ref ad_z), (1, .int x1)] [] [oSi ad_z z_lead z_place (v1 ||| v0)]) : gAt l G m_Si_pushBit w0 res w1 35 [(0, .ref ad_z), (1, .int x1)] [.int v0, .int v1, .ref ad_z] [oSi ad_z z_lead z_place z_rest] := by
  refine a_ior dSi_pushBit_35 ?_
  refine a_put (ci := 4) (kx := 2) ty_Si 0 [oSi ad_z z_lead z_place (v1 ||| v0)] dSi_pushBit_36 rfl I_Si tyo_Si nmo_Si w_128 rfl (by decide) rfl s0.1 s0.2 (Nat.le_of_ble_eq_true rfl) rfl ?_
  refine a_goto 55 dSi_pushBit_39 (by decide) ?_
  exact k1

set_option maxRecDepth 20000 in
theorem b_Si_pushBit_55 {l : Launch} {G : gG} {w0 w1 : va_W} {res : Option Value} {ad_z : Nat} {z_place z_rest : Int32} {z_lead : Int64} {x1 : Int32} (k0 : res = none ∧ [oSi ad_z z_lead z_place z_rest] = w1) : gAt l G m_Si_pushBit w0 res w1 55 [(0, .ref ad_z), (1, .int x1)] [] [oSi ad_z z_lead z_place z_rest] := by
  exact a_vret (st := []) dSi_pushBit_55 rfl k0.1 k0.2

set_option maxRecDepth 20000 in
theorem b_Si_end_0 {l : Launch} {G : gG} {w0 w1 : va_W} {res : Option Value} {ad_z : Nat} {z_place z_rest : Int32} {z_lead : Int64} {x1 : Int32} {x2 : Int32} (k0 : gAt l G m_Si_end w0 res w1 16 [(0, .ref ad_z), (1, .int x1), (2, .int x2), (3, .int z_rest)] [.int (x1 + z_place), .long z_lead, .ref ad_z] [oSi ad_z z_lead z_place z_rest]) : gAt l G m_Si_end w0 res w1 0 [(0, .ref ad_z), (1, .int x1), (2, .int x2)] [] [oSi ad_z z_lead z_place z_rest] := by
  refine a_aload_n 0 dSi_end_0 rfl ?_
  refine a_get (ci := 4) (kx := 2) 0 dSi_end_1 rfl I_Si w_128 rfl (by decide) rfl ?_
  refine a_istore_n [(3, .int z_rest), (0, .ref ad_z), (1, .int x1), (2, .int x2)] dSi_end_4 rfl (by decide) rfl ?_
  refine a_aload_n 1 dSi_end_5 rfl ?_
  refine a_aload_n 1 dSi_end_6 rfl ?_
  refine a_get (ci := 4) (kx := 0) 0 dSi_end_7 rfl I_Si w_124 rfl (by decide) rfl ?_
  refine a_iload_n 2 dSi_end_10 rfl ?_
  refine a_aload_n 1 dSi_end_11 rfl ?_
  refine a_get (ci := 4) (kx := 1) 0 dSi_end_12 rfl I_Si w_127 rfl (by decide) rfl ?_
  refine a_iadd dSi_end_15 ?_
  refine a_lv [(0, .ref ad_z), (1, .int x1), (2, .int x2), (3, .int z_rest)] [1, 2, 3, 0] rfl ?_
  exact k0

set_option maxRecDepth 20000 in
theorem k_Si_end_16 {l : Launch} {G : gG} {w0 w1 : va_W} {res : Option Value} {ad_z : Nat} {z_place z_rest : Int32} {z_lead : Int64} {x1 : Int32} {x2 : Int32} {x3 : Int32} {v0 : Int32} {v1 : Int64} {z_place' z_rest' : Int32} {z_lead' : Int64} (hc : gCt l G m_Si_set [.ref ad_z, .long v1, .int v0] [oSi ad_z z_lead z_place z_rest] none [oSi ad_z z_lead' z_place' z_rest']) (k : gAt l G m_Si_end w0 res w1 19 [(0, .ref ad_z), (1, .int x1), (2, .int x2), (3, .int x3)] [] [oSi ad_z z_lead' z_place' z_rest']) : gAt l G m_Si_end w0 res w1 16 [(0, .ref ad_z), (1, .int x1), (2, .int x2), (3, .int x3)] [.int v0, .long v1, .ref ad_z] [oSi ad_z z_lead z_place z_rest] :=
  a_callV (As := [.long v1, .int v0]) (rest := []) (wc := [oSi ad_z z_lead z_place z_rest]) (wr := []) (w1c := [oSi ad_z z_lead' z_place' z_rest']) (r := none) [oSi ad_z z_lead' z_place' z_rest'] [0] [] [0] (ci := 4) (q0 := 0) hc dSi_end_16 rfl ok_Si_set ⟨Nat.le_of_ble_eq_true rfl, Nat.le_of_ble_eq_true rfl⟩ w_473 w_475 sl_29 rfl rfl rfl rfl rfl rfl (by decide) rfl rfl (Nat.le_of_ble_eq_true rfl) k

set_option maxRecDepth 20000 in
theorem b_Si_end_19 {l : Launch} {G : gG} {w0 w1 : va_W} {res : Option Value} {ad_z : Nat} {z_place z_rest : Int32} {z_lead : Int64} {x1 : Int32} {x2 : Int32} {x3 : Int32} (k0 : (¬ x3 = 0) → gAt l G m_Si_end w0 res w1 28 [(0, .ref ad_z), (1, .int x1), (2, .int x2), (3, .int x3)] [.ref ad_z] [oSi ad_z z_lead z_place z_rest]) (k1 : (x3 = 0) → (x2 = 0) → gAt l G m_Si_end w0 res w1 33 [(0, .ref ad_z), (1, .int x1), (2, .int x2), (3, .int x3)] [.int (0 : Int32), .ref ad_z] [oSi ad_z z_lead z_place z_rest]) (k2 : (x3 = 0) → (¬ x2 = 0) → gAt l G m_Si_end w0 res w1 28 [(0, .ref ad_z), (1, .int x1), (2, .int x2), (3, .int x3)] [.ref ad_z] [oSi ad_z z_lead z_place z_rest]) : gAt l G m_Si_end w0 res w1 19 [(0, .ref ad_z), (1, .int x1), (2, .int x2), (3, .int x3)] [] [oSi ad_z z_lead z_place z_rest] := by
  refine a_aload_n 0 dSi_end_19 rfl ?_
  refine a_iload_n 3 dSi_end_20 rfl ?_
  refine a_if_ne 28 dSi_end_21 (by decide) (fun c1 => ?_) (fun c1 => ?_)
  · exact (k0 c1)
  · refine a_iload_n 2 dSi_end_24 rfl ?_
    refine a_if_eq 32 dSi_end_25 (by decide) (fun c2 => ?_) (fun c2 => ?_)
    · refine a_iconst (0 : Int32) dSi_end_32 (by decide) ?_
      exact (k1 c1 c2)
    · exact (k2 c1 c2)

set_option maxRecDepth 20000 in
theorem b_Si_end_28 {l : Launch} {G : gG} {w0 w1 : va_W} {res : Option Value} {ad_z : Nat} {z_place z_rest : Int32} {z_lead : Int64} {x1 : Int32} {x2 : Int32} {x3 : Int32} (k0 : gAt l G m_Si_end w0 res w1 33 [(0, .ref ad_z), (1, .int x1), (2, .int x2), (3, .int x3)] [.int (1 : Int32), .ref ad_z] [oSi ad_z z_lead z_place z_rest]) : gAt l G m_Si_end w0 res w1 28 [(0, .ref ad_z), (1, .int x1), (2, .int x2), (3, .int x3)] [.ref ad_z] [oSi ad_z z_lead z_place z_rest] := by
  refine a_iconst (1 : Int32) dSi_end_28 (by decide) ?_
  refine a_goto 33 dSi_end_29 (by decide) ?_
  exact k0

set_option maxRecDepth 20000 in
theorem b_Si_end_33 {l : Launch} {G : gG} {w0 w1 : va_W} {res : Option Value} {ad_z : Nat} {z_place z_rest : Int32} {z_lead : Int64} {x1 : Int32} {x2 : Int32} {x3 : Int32} {v0 : Int32} (s0 : narrow .boolean (.int v0) = .int v0 ∧ fits .boolean (.int v0) = true) (k1 : res = none ∧ [oSi ad_z z_lead z_place v0] = w1) : gAt l G m_Si_end w0 res w1 33 [(0, .ref ad_z), (1, .int x1), (2, .int x2), (3, .int x3)] [.int v0, .ref ad_z] [oSi ad_z z_lead z_place z_rest] := by
  refine a_put (ci := 4) (kx := 2) ty_Si 0 [oSi ad_z z_lead z_place v0] dSi_end_33 rfl I_Si tyo_Si nmo_Si w_128 rfl (by decide) rfl s0.1 s0.2 (Nat.le_of_ble_eq_true rfl) rfl ?_
  exact a_vret (st := []) dSi_end_36 rfl k1.1 k1.2

set_option maxRecDepth 20000 in
theorem b_Si_set_0 {l : Launch} {G : gG} {w0 w1 : va_W} {res : Option Value} {ad_z : Nat} {z_place z_rest : Int32} {z_lead : Int64} {x1 : Int64} {x3 : Int32} (k0 : (¬ (lg_cmp x1 (0 : Int64)) = 0) → gAt l G m_Si_set w0 res w1 11 [(0, .ref ad_z), (1, .long x1), (3, .int x3)] [.long x1] [oSi ad_z z_lead z_place z_rest]) (k1 : ((lg_cmp x1 (0 : Int64)) = 0) → gAt l G m_Si_set w0 res w1 16 [(0, .ref ad_z), (1, .long x1), (3, .int x3)] [.int (0 : Int32)] [oSi ad_z z_lead z_place z_rest]) : gAt l G m_Si_set w0 res w1 0 [(0, .ref ad_z), (1, .long x1), (3, .int x3)] [] [oSi ad_z z_lead z_place z_rest] := by
  refine a_lload_n 1 dSi_set_0 rfl ?_
  refine a_lconst (0 : Int64) dSi_set_1 (by decide) ?_
  refine a_lcmp dSi_set_2 ?_
  refine a_if_ne 10 dSi_set_3 (by decide) (fun c1 => ?_) (fun c1 => ?_)
  · refine a_lload_n 1 dSi_set_10 rfl ?_
    exact (k0 c1)
  · refine a_iconst (0 : Int32) dSi_set_6 (by decide) ?_
    refine a_goto 16 dSi_set_7 (by decide) ?_
    exact (k1 c1)

set_option maxRecDepth 20000 in
theorem k_Si_set_11 {l : Launch} {G : gG} {w0 w1 : va_W} {res : Option Value} {ad_z : Nat} {z_place z_rest : Int32} {z_lead : Int64} {x1 : Int64} {x3 : Int32} {v0 : Int64} {r : Int32} (hc : gCt l G m_JL_numberOfLeadingZeros [.long v0] [] (some (.int r)) []) (k : gAt l G m_Si_set w0 res w1 14 [(0, .ref ad_z), (1, .long x1), (3, .int x3)] [.int r] [oSi ad_z z_lead z_place z_rest]) : gAt l G m_Si_set w0 res w1 11 [(0, .ref ad_z), (1, .long x1), (3, .int x3)] [.long v0] [oSi ad_z z_lead z_place z_rest] :=
  a_callS (As := [.long v0]) (rest := []) (wc := []) (wr := [oSi ad_z z_lead z_place z_rest]) (w1c := []) (r := (some (.int r))) [oSi ad_z z_lead z_place z_rest] [] [0] [0] hc dSi_set_11 rfl ok_JL_numberOfLeadingZeros ⟨Nat.le_of_ble_eq_true rfl, Nat.le_of_ble_eq_true rfl⟩ w_477 w_478 rfl rfl rfl rfl (by decide) rfl rfl (Nat.le_of_ble_eq_true rfl) k

set_option maxRecDepth 20000 in
theorem b_Si_set_14 {l : Launch} {G : gG} {w0 w1 : va_W} {res : Option Value} {ad_z : Nat} {z_place z_rest : Int32} {z_lead : Int64} {x1 : Int64} {x3 : Int32} {v0 : Int32} (k0 : gAt l G m_Si_set w0 res w1 16 [(0, .ref ad_z), (1, .long x1), (3, .int x3)] [.int (v0 - (1 : Int32))] [oSi ad_z z_lead z_place z_rest]) : gAt l G m_Si_set w0 res w1 14 [(0, .ref ad_z), (1, .long x1), (3, .int x3)] [.int v0] [oSi ad_z z_lead z_place z_rest] := by
  refine a_iconst (1 : Int32) dSi_set_14 (by decide) ?_
  refine a_isub dSi_set_15 ?_
  exact k0

set_option maxRecDepth 20000 in
theorem b_Si_set_16 {l : Launch} {G : gG} {w0 w1 : va_W} {res : Option Value} {ad_z : Nat} {z_place z_rest : Int32} {z_lead : Int64} {x1 : Int64} {x3 : Int32} {v0 : Int32} (k0 : res = none ∧ [oSi ad_z (x1 <<< ((Int32.toInt64 v0) &&& 63)) (x3 - v0) (0 : Int32)] = w1) : gAt l G m_Si_set w0 res w1 16 [(0, .ref ad_z), (1, .long x1), (3, .int x3)] [.int v0] [oSi ad_z z_lead z_place z_rest] := by
  refine a_istore [(4, .int v0), (0, .ref ad_z), (1, .long x1), (3, .int x3)] dSi_set_16 (by decide) rfl ?_
  refine a_aload_n 1 dSi_set_18 rfl ?_
  refine a_lload_n 2 dSi_set_19 rfl ?_
  refine a_iload 0 dSi_set_20 rfl ?_
  refine a_lshl dSi_set_22 ?_
  refine a_put (ci := 4) (kx := 0) ty_Si 0 [oSi ad_z (x1 <<< ((Int32.toInt64 v0) &&& 63)) z_place z_rest] dSi_set_23 rfl I_Si tyo_Si nmo_Si w_124 rfl (by decide) rfl rfl rfl (Nat.le_of_ble_eq_true rfl) rfl ?_
  refine a_aload_n 1 dSi_set_26 rfl ?_
  refine a_iload_n 3 dSi_set_27 rfl ?_
  refine a_iload 0 dSi_set_28 rfl ?_
  refine a_isub dSi_set_30 ?_
  refine a_put (ci := 4) (kx := 1) ty_Si 0 [oSi ad_z (x1 <<< ((Int32.toInt64 v0) &&& 63)) (x3 - v0) z_rest] dSi_set_31 rfl I_Si tyo_Si nmo_Si w_127 rfl (by decide) rfl rfl rfl (Nat.le_of_ble_eq_true rfl) rfl ?_
  refine a_aload_n 1 dSi_set_34 rfl ?_
  refine a_iconst (0 : Int32) dSi_set_35 (by decide) ?_
  refine a_put (ci := 4) (kx := 2) ty_Si 0 [oSi ad_z (x1 <<< ((Int32.toInt64 v0) &&& 63)) (x3 - v0) (0 : Int32)] dSi_set_36 rfl I_Si tyo_Si nmo_Si w_128 rfl (by decide) rfl (by decide) (by decide) (Nat.le_of_ble_eq_true rfl) rfl ?_
  exact a_vret (st := []) dSi_set_39 rfl k0.1 k0.2

set_option maxRecDepth 20000 in
theorem b_Si_setInfinite_0 {l : Launch} {G : gG} {w0 w1 : va_W} {res : Option Value} {ad_z : Nat} {z_place z_rest : Int32} {z_lead : Int64}  (k0 : gAt l G m_Si_setInfinite w0 res w1 6 [(0, .ref ad_z)] [.int (1073741824 : Int32), .long (4611686018427387904 : Int64), .ref ad_z] [oSi ad_z z_lead z_place z_rest]) : gAt l G m_Si_setInfinite w0 res w1 0 [(0, .ref ad_z)] [] [oSi ad_z z_lead z_place z_rest] := by
  refine a_aload_n 0 dSi_setInfinite_0 rfl ?_
  refine a_ldc2 (4611686018427387904 : Int64) dSi_setInfinite_1 w_464 ?_
  refine a_ldc (1073741824 : Int32) dSi_setInfinite_4 w_548 ?_
  exact k0

set_option maxRecDepth 20000 in
theorem k_Si_setInfinite_6 {l : Launch} {G : gG} {w0 w1 : va_W} {res : Option Value} {ad_z : Nat} {z_place z_rest : Int32} {z_lead : Int64} {v0 : Int32} {v1 : Int64} {z_place' z_rest' : Int32} {z_lead' : Int64} (hc : gCt l G m_Si_set [.ref ad_z, .long v1, .int v0] [oSi ad_z z_lead z_place z_rest] none [oSi ad_z z_lead' z_place' z_rest']) (k : gAt l G m_Si_setInfinite w0 res w1 9 [(0, .ref ad_z)] [] [oSi ad_z z_lead' z_place' z_rest']) : gAt l G m_Si_setInfinite w0 res w1 6 [(0, .ref ad_z)] [.int v0, .long v1, .ref ad_z] [oSi ad_z z_lead z_place z_rest] :=
  a_callV (As := [.long v1, .int v0]) (rest := []) (wc := [oSi ad_z z_lead z_place z_rest]) (wr := []) (w1c := [oSi ad_z z_lead' z_place' z_rest']) (r := none) [oSi ad_z z_lead' z_place' z_rest'] [0] [] [0] (ci := 4) (q0 := 0) hc dSi_setInfinite_6 rfl ok_Si_set ⟨Nat.le_of_ble_eq_true rfl, Nat.le_of_ble_eq_true rfl⟩ w_473 w_475 sl_29 rfl rfl rfl rfl rfl rfl (by decide) rfl rfl (Nat.le_of_ble_eq_true rfl) k

set_option maxRecDepth 20000 in
theorem b_Si_setInfinite_9 {l : Launch} {G : gG} {w0 w1 : va_W} {res : Option Value} {ad_z : Nat} {z_place z_rest : Int32} {z_lead : Int64}  (k0 : res = none ∧ [oSi ad_z z_lead z_place z_rest] = w1) : gAt l G m_Si_setInfinite w0 res w1 9 [(0, .ref ad_z)] [] [oSi ad_z z_lead z_place z_rest] := by
  exact a_vret (st := []) dSi_setInfinite_9 rfl k0.1 k0.2

set_option maxRecDepth 20000 in
theorem b_Si_setDouble_0 {l : Launch} {G : gG} {w0 w1 : va_W} {res : Option Value} {ad_z : Nat} {z_place z_rest : Int32} {z_lead : Int64} {x1 : Int64} (k0 : gAt l G m_Si_setDouble w0 res w1 4 [(0, .ref ad_z), (1, .long x1)] [.long x1, .ref (g_adE G 0)] [oSi ad_z z_lead z_place z_rest]) : gAt l G m_Si_setDouble w0 res w1 0 [(0, .ref ad_z), (1, .long x1)] [] [oSi ad_z z_lead z_place z_rest] := by
  refine a_getsE (i := 0) dSi_setDouble_0 (by decide) w_620 ?_
  refine a_lload_n 1 dSi_setDouble_3 rfl ?_
  exact k0

set_option maxRecDepth 20000 in
theorem k_Si_setDouble_4 {l : Launch} {G : gG} {w0 w1 : va_W} {res : Option Value} {ad_z : Nat} {z_place z_rest : Int32} {z_lead : Int64} {x1 : Int64} {v0 : Int64} {r : Int32} (hc : gCt l G m_Fm_exponentField [.ref (g_adE G 0), .long v0] [] (some (.int r)) []) (k : gAt l G m_Si_setDouble w0 res w1 7 [(0, .ref ad_z), (1, .long x1)] [.int r] [oSi ad_z z_lead z_place z_rest]) : gAt l G m_Si_setDouble w0 res w1 4 [(0, .ref ad_z), (1, .long x1)] [.long v0, .ref (g_adE G 0)] [oSi ad_z z_lead z_place z_rest] :=
  a_callEN (As := [.long v0]) (rest := []) (wc := []) (wr := [oSi ad_z z_lead z_place z_rest]) (w1c := []) (r := (some (.int r))) [oSi ad_z z_lead z_place z_rest] [] [0] [0] (i := 0) hc dSi_setDouble_4 rfl ok_Fm_exponentField ⟨Nat.le_of_ble_eq_true rfl, Nat.le_of_ble_eq_true rfl⟩ nm_mem_621 w_613 sl_50 (by decide) rfl rfl rfl rfl (by decide) rfl rfl (Nat.le_of_ble_eq_true rfl) k

set_option maxRecDepth 20000 in
theorem b_Si_setDouble_7 {l : Launch} {G : gG} {w0 w1 : va_W} {res : Option Value} {ad_z : Nat} {z_place z_rest : Int32} {z_lead : Int64} {x1 : Int64} {v0 : Int32} (k0 : gAt l G m_Si_setDouble w0 res w1 12 [(0, .ref ad_z), (1, .long x1), (3, .int v0)] [.long x1, .ref (g_adE G 0)] [oSi ad_z z_lead z_place z_rest]) : gAt l G m_Si_setDouble w0 res w1 7 [(0, .ref ad_z), (1, .long x1)] [.int v0] [oSi ad_z z_lead z_place z_rest] := by
  refine a_istore_n [(3, .int v0), (0, .ref ad_z), (1, .long x1)] dSi_setDouble_7 rfl (by decide) rfl ?_
  refine a_getsE (i := 0) dSi_setDouble_8 (by decide) w_620 ?_
  refine a_lload_n 2 dSi_setDouble_11 rfl ?_
  refine a_lv [(0, .ref ad_z), (1, .long x1), (3, .int v0)] [1, 2, 0] rfl ?_
  exact k0

set_option maxRecDepth 20000 in
theorem k_Si_setDouble_12 {l : Launch} {G : gG} {w0 w1 : va_W} {res : Option Value} {ad_z : Nat} {z_place z_rest : Int32} {z_lead : Int64} {x1 : Int64} {x3 : Int32} {v0 : Int64} {r : Int64} (hc : gCt l G m_Fm_lowField [.ref (g_adE G 0), .long v0] [] (some (.long r)) []) (k : gAt l G m_Si_setDouble w0 res w1 15 [(0, .ref ad_z), (1, .long x1), (3, .int x3)] [.long r] [oSi ad_z z_lead z_place z_rest]) : gAt l G m_Si_setDouble w0 res w1 12 [(0, .ref ad_z), (1, .long x1), (3, .int x3)] [.long v0, .ref (g_adE G 0)] [oSi ad_z z_lead z_place z_rest] :=
  a_callEN (As := [.long v0]) (rest := []) (wc := []) (wr := [oSi ad_z z_lead z_place z_rest]) (w1c := []) (r := (some (.long r))) [oSi ad_z z_lead z_place z_rest] [] [0] [0] (i := 0) hc dSi_setDouble_12 rfl ok_Fm_lowField ⟨Nat.le_of_ble_eq_true rfl, Nat.le_of_ble_eq_true rfl⟩ nm_mem_622 w_442 sl_21 (by decide) rfl rfl rfl rfl (by decide) rfl rfl (Nat.le_of_ble_eq_true rfl) k

set_option maxRecDepth 20000 in
theorem b_Si_setDouble_15 {l : Launch} {G : gG} {w0 w1 : va_W} {res : Option Value} {ad_z : Nat} {z_place z_rest : Int32} {z_lead : Int64} {x1 : Int64} {x3 : Int32} {v0 : Int64} (k0 : gAt l G m_Si_setDouble w0 res w1 21 [(0, .ref ad_z), (1, .long x1), (3, .int x3), (4, .long v0)] [.ref (g_adE G 0), .int x3] [oSi ad_z z_lead z_place z_rest]) : gAt l G m_Si_setDouble w0 res w1 15 [(0, .ref ad_z), (1, .long x1), (3, .int x3)] [.long v0] [oSi ad_z z_lead z_place z_rest] := by
  refine a_lstore [(4, .long v0), (0, .ref ad_z), (1, .long x1), (3, .int x3)] dSi_setDouble_15 (by decide) rfl ?_
  refine a_iload_n 3 dSi_setDouble_17 rfl ?_
  refine a_getsE (i := 0) dSi_setDouble_18 (by decide) w_620 ?_
  refine a_lv [(0, .ref ad_z), (1, .long x1), (3, .int x3), (4, .long v0)] [1, 2, 3, 0] rfl ?_
  exact k0

set_option maxRecDepth 20000 in
theorem k_Si_setDouble_21 {l : Launch} {G : gG} {w0 w1 : va_W} {res : Option Value} {ad_z : Nat} {z_place z_rest : Int32} {z_lead : Int64} {x1 : Int64} {x3 : Int32} {x4 : Int64} {v1 : Int32} {r : Int32} (hc : gCt l G m_Fm_infiniteField [.ref (g_adE G 0)] [] (some (.int r)) []) (k : gAt l G m_Si_setDouble w0 res w1 24 [(0, .ref ad_z), (1, .long x1), (3, .int x3), (4, .long x4)] [.int r, .int v1] [oSi ad_z z_lead z_place z_rest]) : gAt l G m_Si_setDouble w0 res w1 21 [(0, .ref ad_z), (1, .long x1), (3, .int x3), (4, .long x4)] [.ref (g_adE G 0), .int v1] [oSi ad_z z_lead z_place z_rest] :=
  a_callEN (As := []) (rest := [.int v1]) (wc := []) (wr := [oSi ad_z z_lead z_place z_rest]) (w1c := []) (r := (some (.int r))) [oSi ad_z z_lead z_place z_rest] [] [0] [0] (i := 0) hc dSi_setDouble_21 rfl ok_Fm_infiniteField ⟨Nat.le_of_ble_eq_true rfl, Nat.le_of_ble_eq_true rfl⟩ nm_mem_623 w_430 sl_18 (by decide) rfl rfl rfl rfl (by decide) rfl rfl (Nat.le_of_ble_eq_true rfl) k

set_option maxRecDepth 20000 in
theorem b_Si_setDouble_24 {l : Launch} {G : gG} {w0 w1 : va_W} {res : Option Value} {ad_z : Nat} {z_place z_rest : Int32} {z_lead : Int64} {x1 : Int64} {x3 : Int32} {x4 : Int64} {v0 : Int32} {v1 : Int32} (k0 : (¬ v1 = v0) → (¬ x3 = 0) → gAt l G m_Si_setDouble w0 res w1 59 [(0, .ref ad_z), (1, .long x1), (3, .int x3), (4, .long x4)] [.ref (g_adE G 0), .long x4, .ref ad_z] [oSi ad_z z_lead z_place z_rest]) (k1 : (¬ v1 = v0) → (x3 = 0) → gAt l G m_Si_setDouble w0 res w1 47 [(0, .ref ad_z), (1, .long x1), (3, .int x3), (4, .long x4)] [.int (g_eF1.2.2.2.getD 0 0), .long x4, .ref ad_z] [oSi ad_z z_lead z_place z_rest]) (k2 : (v1 = v0) → gAt l G m_Si_setDouble w0 res w1 28 [(0, .ref ad_z), (1, .long x1), (3, .int x3), (4, .long x4)] [.ref ad_z] [oSi ad_z z_lead z_place z_rest]) : gAt l G m_Si_setDouble w0 res w1 24 [(0, .ref ad_z), (1, .long x1), (3, .int x3), (4, .long x4)] [.int v0, .int v1] [oSi ad_z z_lead z_place z_rest] := by
  refine a_icmp_ne 34 dSi_setDouble_24 (by decide) (fun c1 => ?_) (fun c1 => ?_)
  · refine a_iload_n 2 dSi_setDouble_34 rfl ?_
    refine a_if_ne 53 dSi_setDouble_35 (by decide) (fun c2 => ?_) (fun c2 => ?_)
    · refine a_aload_n 0 dSi_setDouble_53 rfl ?_
      refine a_lload 3 dSi_setDouble_54 rfl ?_
      refine a_getsE (i := 0) dSi_setDouble_56 (by decide) w_620 ?_
      exact (k0 c1 c2)
    · refine a_aload_n 0 dSi_setDouble_38 rfl ?_
      refine a_lload 3 dSi_setDouble_39 rfl ?_
      refine a_getsE (i := 0) dSi_setDouble_41 (by decide) w_620 ?_
      refine a_getEN (q := g_eF1) dSi_setDouble_44 g_in1 (by decide) nf_mem_863 ?_
      exact (k1 c1 c2)
  · refine a_aload_n 0 dSi_setDouble_27 rfl ?_
    exact (k2 c1)

set_option maxRecDepth 20000 in
theorem k_Si_setDouble_28 {l : Launch} {G : gG} {w0 w1 : va_W} {res : Option Value} {ad_z : Nat} {z_place z_rest : Int32} {z_lead : Int64} {x1 : Int64} {x3 : Int32} {x4 : Int64} {z_place' z_rest' : Int32} {z_lead' : Int64} (hc : gCt l G m_Si_setInfinite [.ref ad_z] [oSi ad_z z_lead z_place z_rest] none [oSi ad_z z_lead' z_place' z_rest']) (k : gAt l G m_Si_setDouble w0 res w1 31 [(0, .ref ad_z), (1, .long x1), (3, .int x3), (4, .long x4)] [] [oSi ad_z z_lead' z_place' z_rest']) : gAt l G m_Si_setDouble w0 res w1 28 [(0, .ref ad_z), (1, .long x1), (3, .int x3), (4, .long x4)] [.ref ad_z] [oSi ad_z z_lead z_place z_rest] :=
  a_callV (As := []) (rest := []) (wc := [oSi ad_z z_lead z_place z_rest]) (wr := []) (w1c := [oSi ad_z z_lead' z_place' z_rest']) (r := none) [oSi ad_z z_lead' z_place' z_rest'] [0] [] [0] (ci := 4) (q0 := 0) hc dSi_setDouble_28 rfl ok_Si_setInfinite ⟨Nat.le_of_ble_eq_true rfl, Nat.le_of_ble_eq_true rfl⟩ w_624 w_546 sl_42 rfl rfl rfl rfl rfl rfl (by decide) rfl rfl (Nat.le_of_ble_eq_true rfl) k

set_option maxRecDepth 20000 in
theorem b_Si_setDouble_31 {l : Launch} {G : gG} {w0 w1 : va_W} {res : Option Value} {ad_z : Nat} {z_place z_rest : Int32} {z_lead : Int64} {x1 : Int64} {x3 : Int32} {x4 : Int64} (k0 : gAt l G m_Si_setDouble w0 res w1 73 [(0, .ref ad_z), (1, .long x1), (3, .int x3), (4, .long x4)] [] [oSi ad_z z_lead z_place z_rest]) : gAt l G m_Si_setDouble w0 res w1 31 [(0, .ref ad_z), (1, .long x1), (3, .int x3), (4, .long x4)] [] [oSi ad_z z_lead z_place z_rest] := by
  refine a_goto 73 dSi_setDouble_31 (by decide) ?_
  exact k0

set_option maxRecDepth 20000 in
theorem k_Si_setDouble_47 {l : Launch} {G : gG} {w0 w1 : va_W} {res : Option Value} {ad_z : Nat} {z_place z_rest : Int32} {z_lead : Int64} {x1 : Int64} {x3 : Int32} {x4 : Int64} {v0 : Int32} {v1 : Int64} {z_place' z_rest' : Int32} {z_lead' : Int64} (hc : gCt l G m_Si_set [.ref ad_z, .long v1, .int v0] [oSi ad_z z_lead z_place z_rest] none [oSi ad_z z_lead' z_place' z_rest']) (k : gAt l G m_Si_setDouble w0 res w1 50 [(0, .ref ad_z), (1, .long x1), (3, .int x3), (4, .long x4)] [] [oSi ad_z z_lead' z_place' z_rest']) : gAt l G m_Si_setDouble w0 res w1 47 [(0, .ref ad_z), (1, .long x1), (3, .int x3), (4, .long x4)] [.int v0, .long v1, .ref ad_z] [oSi ad_z z_lead z_place z_rest] :=
  a_callV (As := [.long v1, .int v0]) (rest := []) (wc := [oSi ad_z z_lead z_place z_rest]) (wr := []) (w1c := [oSi ad_z z_lead' z_place' z_rest']) (r := none) [oSi ad_z z_lead' z_place' z_rest'] [0] [] [0] (ci := 4) (q0 := 0) hc dSi_setDouble_47 rfl ok_Si_set ⟨Nat.le_of_ble_eq_true rfl, Nat.le_of_ble_eq_true rfl⟩ w_473 w_475 sl_29 rfl rfl rfl rfl rfl rfl (by decide) rfl rfl (Nat.le_of_ble_eq_true rfl) k

set_option maxRecDepth 20000 in
theorem b_Si_setDouble_50 {l : Launch} {G : gG} {w0 w1 : va_W} {res : Option Value} {ad_z : Nat} {z_place z_rest : Int32} {z_lead : Int64} {x1 : Int64} {x3 : Int32} {x4 : Int64} (k0 : gAt l G m_Si_setDouble w0 res w1 73 [(0, .ref ad_z), (1, .long x1), (3, .int x3), (4, .long x4)] [] [oSi ad_z z_lead z_place z_rest]) : gAt l G m_Si_setDouble w0 res w1 50 [(0, .ref ad_z), (1, .long x1), (3, .int x3), (4, .long x4)] [] [oSi ad_z z_lead z_place z_rest] := by
  refine a_goto 73 dSi_setDouble_50 (by decide) ?_
  exact k0

set_option maxRecDepth 20000 in
theorem k_Si_setDouble_59 {l : Launch} {G : gG} {w0 w1 : va_W} {res : Option Value} {ad_z : Nat} {z_place z_rest : Int32} {z_lead : Int64} {x1 : Int64} {x3 : Int32} {x4 : Int64} {v1 : Int64} {r : Int64} (hc : gCt l G m_Fm_hiddenBit [.ref (g_adE G 0)] [] (some (.long r)) []) (k : gAt l G m_Si_setDouble w0 res w1 62 [(0, .ref ad_z), (1, .long x1), (3, .int x3), (4, .long x4)] [.long r, .long v1, .ref ad_z] [oSi ad_z z_lead z_place z_rest]) : gAt l G m_Si_setDouble w0 res w1 59 [(0, .ref ad_z), (1, .long x1), (3, .int x3), (4, .long x4)] [.ref (g_adE G 0), .long v1, .ref ad_z] [oSi ad_z z_lead z_place z_rest] :=
  a_callEN (As := []) (rest := [.long v1, .ref ad_z]) (wc := []) (wr := [oSi ad_z z_lead z_place z_rest]) (w1c := []) (r := (some (.long r))) [oSi ad_z z_lead z_place z_rest] [] [0] [0] (i := 0) hc dSi_setDouble_59 rfl ok_Fm_hiddenBit ⟨Nat.le_of_ble_eq_true rfl, Nat.le_of_ble_eq_true rfl⟩ nm_mem_625 w_434 sl_19 (by decide) rfl rfl rfl rfl (by decide) rfl rfl (Nat.le_of_ble_eq_true rfl) k

set_option maxRecDepth 20000 in
theorem b_Si_setDouble_62 {l : Launch} {G : gG} {w0 w1 : va_W} {res : Option Value} {ad_z : Nat} {z_place z_rest : Int32} {z_lead : Int64} {x1 : Int64} {x3 : Int32} {x4 : Int64} {v0 : Int64} {v1 : Int64} (k0 : gAt l G m_Si_setDouble w0 res w1 67 [(0, .ref ad_z), (1, .long x1), (3, .int x3), (4, .long x4)] [.int x3, .ref (g_adE G 0), .long (v1 ||| v0), .ref ad_z] [oSi ad_z z_lead z_place z_rest]) : gAt l G m_Si_setDouble w0 res w1 62 [(0, .ref ad_z), (1, .long x1), (3, .int x3), (4, .long x4)] [.long v0, .long v1, .ref ad_z] [oSi ad_z z_lead z_place z_rest] := by
  refine a_lor dSi_setDouble_62 ?_
  refine a_getsE (i := 0) dSi_setDouble_63 (by decide) w_620 ?_
  refine a_iload_n 2 dSi_setDouble_66 rfl ?_
  exact k0

set_option maxRecDepth 20000 in
theorem k_Si_setDouble_67 {l : Launch} {G : gG} {w0 w1 : va_W} {res : Option Value} {ad_z : Nat} {z_place z_rest : Int32} {z_lead : Int64} {x1 : Int64} {x3 : Int32} {x4 : Int64} {v0 : Int32} {v2 : Int64} {r : Int32} (hc : gCt l G m_Fm_exponentOf [.ref (g_adE G 0), .int v0] [] (some (.int r)) []) (k : gAt l G m_Si_setDouble w0 res w1 70 [(0, .ref ad_z), (1, .long x1), (3, .int x3), (4, .long x4)] [.int r, .long v2, .ref ad_z] [oSi ad_z z_lead z_place z_rest]) : gAt l G m_Si_setDouble w0 res w1 67 [(0, .ref ad_z), (1, .long x1), (3, .int x3), (4, .long x4)] [.int v0, .ref (g_adE G 0), .long v2, .ref ad_z] [oSi ad_z z_lead z_place z_rest] :=
  a_callEN (As := [.int v0]) (rest := [.long v2, .ref ad_z]) (wc := []) (wr := [oSi ad_z z_lead z_place z_rest]) (w1c := []) (r := (some (.int r))) [oSi ad_z z_lead z_place z_rest] [] [0] [0] (i := 0) hc dSi_setDouble_67 rfl ok_Fm_exponentOf ⟨Nat.le_of_ble_eq_true rfl, Nat.le_of_ble_eq_true rfl⟩ nm_mem_626 w_573 sl_47 (by decide) rfl rfl rfl rfl (by decide) rfl rfl (Nat.le_of_ble_eq_true rfl) k

set_option maxRecDepth 20000 in
theorem k_Si_setDouble_70 {l : Launch} {G : gG} {w0 w1 : va_W} {res : Option Value} {ad_z : Nat} {z_place z_rest : Int32} {z_lead : Int64} {x1 : Int64} {x3 : Int32} {x4 : Int64} {v0 : Int32} {v1 : Int64} {z_place' z_rest' : Int32} {z_lead' : Int64} (hc : gCt l G m_Si_set [.ref ad_z, .long v1, .int v0] [oSi ad_z z_lead z_place z_rest] none [oSi ad_z z_lead' z_place' z_rest']) (k : gAt l G m_Si_setDouble w0 res w1 73 [(0, .ref ad_z), (1, .long x1), (3, .int x3), (4, .long x4)] [] [oSi ad_z z_lead' z_place' z_rest']) : gAt l G m_Si_setDouble w0 res w1 70 [(0, .ref ad_z), (1, .long x1), (3, .int x3), (4, .long x4)] [.int v0, .long v1, .ref ad_z] [oSi ad_z z_lead z_place z_rest] :=
  a_callV (As := [.long v1, .int v0]) (rest := []) (wc := [oSi ad_z z_lead z_place z_rest]) (wr := []) (w1c := [oSi ad_z z_lead' z_place' z_rest']) (r := none) [oSi ad_z z_lead' z_place' z_rest'] [0] [] [0] (ci := 4) (q0 := 0) hc dSi_setDouble_70 rfl ok_Si_set ⟨Nat.le_of_ble_eq_true rfl, Nat.le_of_ble_eq_true rfl⟩ w_473 w_475 sl_29 rfl rfl rfl rfl rfl rfl (by decide) rfl rfl (Nat.le_of_ble_eq_true rfl) k

set_option maxRecDepth 20000 in
theorem b_Si_setDouble_73 {l : Launch} {G : gG} {w0 w1 : va_W} {res : Option Value} {ad_z : Nat} {z_place z_rest : Int32} {z_lead : Int64} {x1 : Int64} {x3 : Int32} {x4 : Int64} (k0 : res = none ∧ [oSi ad_z z_lead z_place z_rest] = w1) : gAt l G m_Si_setDouble w0 res w1 73 [(0, .ref ad_z), (1, .long x1), (3, .int x3), (4, .long x4)] [] [oSi ad_z z_lead z_place z_rest] := by
  exact a_vret (st := []) dSi_setDouble_73 rfl k0.1 k0.2

set_option maxRecDepth 20000 in
theorem b_Si_signWith_0 {l : Launch} {G : gG} {w0 w1 : va_W} {res : Option Value} {ad_z : Nat} {z_place z_rest : Int32} {z_lead : Int64} {x1 : Int32} (k0 : (¬ (lg_cmp z_lead (0 : Int64)) = 0) → (x1 = 0) → gAt l G m_Si_signWith w0 res w1 20 [(0, .ref ad_z), (1, .int x1)] [.int (1 : Int32)] [oSi ad_z z_lead z_place z_rest]) (k1 : (¬ (lg_cmp z_lead (0 : Int64)) = 0) → (¬ x1 = 0) → gAt l G m_Si_signWith w0 res w1 20 [(0, .ref ad_z), (1, .int x1)] [.int (-1 : Int32)] [oSi ad_z z_lead z_place z_rest]) (k2 : ((lg_cmp z_lead (0 : Int64)) = 0) → res = some (.int (0 : Int32)) ∧ [oSi ad_z z_lead z_place z_rest] = w1) : gAt l G m_Si_signWith w0 res w1 0 [(0, .ref ad_z), (1, .int x1)] [] [oSi ad_z z_lead z_place z_rest] := by
  refine a_aload_n 0 dSi_signWith_0 rfl ?_
  refine a_get (ci := 4) (kx := 0) 0 dSi_signWith_1 rfl I_Si w_124 rfl (by decide) rfl ?_
  refine a_lconst (0 : Int64) dSi_signWith_4 (by decide) ?_
  refine a_lcmp dSi_signWith_5 ?_
  refine a_if_ne 11 dSi_signWith_6 (by decide) (fun c1 => ?_) (fun c1 => ?_)
  · refine a_iload_n 1 dSi_signWith_11 rfl ?_
    refine a_if_eq 19 dSi_signWith_12 (by decide) (fun c2 => ?_) (fun c2 => ?_)
    · refine a_iconst (1 : Int32) dSi_signWith_19 (by decide) ?_
      exact (k0 c1 c2)
    · refine a_iconst (-1 : Int32) dSi_signWith_15 (by decide) ?_
      refine a_goto 20 dSi_signWith_16 (by decide) ?_
      exact (k1 c1 c2)
  · refine a_iconst (0 : Int32) dSi_signWith_9 (by decide) ?_
    exact a_iret (st := []) dSi_signWith_10 rfl (k2 c1).1 (k2 c1).2

set_option maxRecDepth 20000 in
theorem b_Si_signWith_20 {l : Launch} {G : gG} {w0 w1 : va_W} {res : Option Value} {ad_z : Nat} {z_place z_rest : Int32} {z_lead : Int64} {x1 : Int32} {v0 : Int32} (k0 : res = some (.int v0) ∧ [oSi ad_z z_lead z_place z_rest] = w1) : gAt l G m_Si_signWith w0 res w1 20 [(0, .ref ad_z), (1, .int x1)] [.int v0] [oSi ad_z z_lead z_place z_rest] := by
  exact a_iret (st := []) dSi_signWith_20 rfl k0.1 k0.2

set_option maxRecDepth 20000 in
theorem b_Si_order_0 {l : Launch} {G : gG} {w0 w1 : va_W} {res : Option Value} {ad_z ad_s : Nat} {z_place z_rest s_place s_rest : Int32} {z_lead s_lead : Int64}  (k0 : (z_place = s_place) → ((lg_cmp z_lead s_lead) = 0) → (z_rest = 0) → gAt l G m_Si_order w0 res w1 59 [(0, .ref ad_z), (1, .ref ad_s)] [.int (0 : Int32)] [oSi ad_z z_lead z_place z_rest, oSi ad_s s_lead s_place s_rest]) (k1 : (z_place = s_place) → ((lg_cmp z_lead s_lead) = 0) → (¬ z_rest = 0) → gAt l G m_Si_order w0 res w1 59 [(0, .ref ad_z), (1, .ref ad_s)] [.int (1 : Int32)] [oSi ad_z z_lead z_place z_rest, oSi ad_s s_lead s_place s_rest]) (k2 : (z_place = s_place) → (¬ (lg_cmp z_lead s_lead) = 0) → gAt l G m_Si_order w0 res w1 43 [(0, .ref ad_z), (1, .ref ad_s)] [.long s_lead, .long z_lead] [oSi ad_z z_lead z_place z_rest, oSi ad_s s_lead s_place s_rest]) (k3 : (¬ z_place = s_place) → gAt l G m_Si_order w0 res w1 19 [(0, .ref ad_z), (1, .ref ad_s)] [.int s_place, .int z_place] [oSi ad_z z_lead z_place z_rest, oSi ad_s s_lead s_place s_rest]) : gAt l G m_Si_order w0 res w1 0 [(0, .ref ad_z), (1, .ref ad_s)] [] [oSi ad_z z_lead z_place z_rest, oSi ad_s s_lead s_place s_rest] := by
  refine a_aload_n 0 dSi_order_0 rfl ?_
  refine a_get (ci := 4) (kx := 1) 0 dSi_order_1 rfl I_Si w_127 rfl (by decide) rfl ?_
  refine a_aload_n 1 dSi_order_4 rfl ?_
  refine a_get (ci := 4) (kx := 1) 1 dSi_order_5 rfl I_Si w_127 rfl (by decide) rfl ?_
  refine a_icmp_eq 23 dSi_order_8 (by decide) (fun c1 => ?_) (fun c1 => ?_)
  · refine a_aload_n 0 dSi_order_23 rfl ?_
    refine a_get (ci := 4) (kx := 0) 0 dSi_order_24 rfl I_Si w_124 rfl (by decide) rfl ?_
    refine a_aload_n 1 dSi_order_27 rfl ?_
    refine a_get (ci := 4) (kx := 0) 1 dSi_order_28 rfl I_Si w_124 rfl (by decide) rfl ?_
    refine a_lcmp dSi_order_31 ?_
    refine a_if_eq 47 dSi_order_32 (by decide) (fun c2 => ?_) (fun c2 => ?_)
    · refine a_aload_n 0 dSi_order_47 rfl ?_
      refine a_get (ci := 4) (kx := 2) 0 dSi_order_48 rfl I_Si w_128 rfl (by decide) rfl ?_
      refine a_if_eq 58 dSi_order_51 (by decide) (fun c3 => ?_) (fun c3 => ?_)
      · refine a_iconst (0 : Int32) dSi_order_58 (by decide) ?_
        exact (k0 c1 c2 c3)
      · refine a_iconst (1 : Int32) dSi_order_54 (by decide) ?_
        refine a_goto 59 dSi_order_55 (by decide) ?_
        exact (k1 c1 c2 c3)
    · refine a_aload_n 0 dSi_order_35 rfl ?_
      refine a_get (ci := 4) (kx := 0) 0 dSi_order_36 rfl I_Si w_124 rfl (by decide) rfl ?_
      refine a_aload_n 1 dSi_order_39 rfl ?_
      refine a_get (ci := 4) (kx := 0) 1 dSi_order_40 rfl I_Si w_124 rfl (by decide) rfl ?_
      exact (k2 c1 c2)
  · refine a_aload_n 0 dSi_order_11 rfl ?_
    refine a_get (ci := 4) (kx := 1) 0 dSi_order_12 rfl I_Si w_127 rfl (by decide) rfl ?_
    refine a_aload_n 1 dSi_order_15 rfl ?_
    refine a_get (ci := 4) (kx := 1) 1 dSi_order_16 rfl I_Si w_127 rfl (by decide) rfl ?_
    exact (k3 c1)

set_option maxRecDepth 20000 in
theorem k_Si_order_19 {l : Launch} {G : gG} {w0 w1 : va_W} {res : Option Value} {ad_z ad_s : Nat} {z_place z_rest s_place s_rest : Int32} {z_lead s_lead : Int64} {v0 : Int32} {v1 : Int32} {r : Int32} (hc : gCt l G m_JI_compare [.int v1, .int v0] [] (some (.int r)) []) (k : gAt l G m_Si_order w0 res w1 22 [(0, .ref ad_z), (1, .ref ad_s)] [.int r] [oSi ad_z z_lead z_place z_rest, oSi ad_s s_lead s_place s_rest]) : gAt l G m_Si_order w0 res w1 19 [(0, .ref ad_z), (1, .ref ad_s)] [.int v0, .int v1] [oSi ad_z z_lead z_place z_rest, oSi ad_s s_lead s_place s_rest] :=
  a_callS (As := [.int v1, .int v0]) (rest := []) (wc := []) (wr := [oSi ad_z z_lead z_place z_rest, oSi ad_s s_lead s_place s_rest]) (w1c := []) (r := (some (.int r))) [oSi ad_z z_lead z_place z_rest, oSi ad_s s_lead s_place s_rest] [] [0, 1] [0, 1] hc dSi_order_19 rfl ok_JI_compare ⟨Nat.le_of_ble_eq_true rfl, Nat.le_of_ble_eq_true rfl⟩ w_638 w_632 rfl rfl rfl rfl (by decide) rfl rfl (Nat.le_of_ble_eq_true rfl) k

set_option maxRecDepth 20000 in
theorem b_Si_order_22 {l : Launch} {G : gG} {w0 w1 : va_W} {res : Option Value} {ad_z ad_s : Nat} {z_place z_rest s_place s_rest : Int32} {z_lead s_lead : Int64} {v0 : Int32} (k0 : res = some (.int v0) ∧ [oSi ad_z z_lead z_place z_rest, oSi ad_s s_lead s_place s_rest] = w1) : gAt l G m_Si_order w0 res w1 22 [(0, .ref ad_z), (1, .ref ad_s)] [.int v0] [oSi ad_z z_lead z_place z_rest, oSi ad_s s_lead s_place s_rest] := by
  exact a_iret (st := []) dSi_order_22 rfl k0.1 k0.2

set_option maxRecDepth 20000 in
theorem k_Si_order_43 {l : Launch} {G : gG} {w0 w1 : va_W} {res : Option Value} {ad_z ad_s : Nat} {z_place z_rest s_place s_rest : Int32} {z_lead s_lead : Int64} {v0 : Int64} {v1 : Int64} {r : Int32} (hc : gCt l G m_JL_compare [.long v1, .long v0] [] (some (.int r)) []) (k : gAt l G m_Si_order w0 res w1 46 [(0, .ref ad_z), (1, .ref ad_s)] [.int r] [oSi ad_z z_lead z_place z_rest, oSi ad_s s_lead s_place s_rest]) : gAt l G m_Si_order w0 res w1 43 [(0, .ref ad_z), (1, .ref ad_s)] [.long v0, .long v1] [oSi ad_z z_lead z_place z_rest, oSi ad_s s_lead s_place s_rest] :=
  a_callS (As := [.long v1, .long v0]) (rest := []) (wc := []) (wr := [oSi ad_z z_lead z_place z_rest, oSi ad_s s_lead s_place s_rest]) (w1c := []) (r := (some (.int r))) [oSi ad_z z_lead z_place z_rest, oSi ad_s s_lead s_place s_rest] [] [0, 1] [0, 1] hc dSi_order_43 rfl ok_JL_compare ⟨Nat.le_of_ble_eq_true rfl, Nat.le_of_ble_eq_true rfl⟩ w_639 w_640 rfl rfl rfl rfl (by decide) rfl rfl (Nat.le_of_ble_eq_true rfl) k

set_option maxRecDepth 20000 in
theorem b_Si_order_46 {l : Launch} {G : gG} {w0 w1 : va_W} {res : Option Value} {ad_z ad_s : Nat} {z_place z_rest s_place s_rest : Int32} {z_lead s_lead : Int64} {v0 : Int32} (k0 : res = some (.int v0) ∧ [oSi ad_z z_lead z_place z_rest, oSi ad_s s_lead s_place s_rest] = w1) : gAt l G m_Si_order w0 res w1 46 [(0, .ref ad_z), (1, .ref ad_s)] [.int v0] [oSi ad_z z_lead z_place z_rest, oSi ad_s s_lead s_place s_rest] := by
  exact a_iret (st := []) dSi_order_46 rfl k0.1 k0.2

set_option maxRecDepth 20000 in
theorem b_Si_order_59 {l : Launch} {G : gG} {w0 w1 : va_W} {res : Option Value} {ad_z ad_s : Nat} {z_place z_rest s_place s_rest : Int32} {z_lead s_lead : Int64} {v0 : Int32} (k0 : res = some (.int v0) ∧ [oSi ad_z z_lead z_place z_rest, oSi ad_s s_lead s_place s_rest] = w1) : gAt l G m_Si_order w0 res w1 59 [(0, .ref ad_z), (1, .ref ad_s)] [.int v0] [oSi ad_z z_lead z_place z_rest, oSi ad_s s_lead s_place s_rest] := by
  exact a_iret (st := []) dSi_order_59 rfl k0.1 k0.2
