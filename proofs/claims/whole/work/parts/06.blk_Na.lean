set_option maxRecDepth 20000 in
theorem b_Na_begin_0 {l : Launch} {G : gG} {w0 w1 : va_W} {res : Option Value} {ad_n ar_n : Nat} {n_size n_gathered n_weight : Int32} {n_words : Nat → Int32}  (k0 : res = none ∧ [oNa ad_n ar_n (0 : Int32) (0 : Int32) (1 : Int32), aI G ar_n 100 n_words] = w1) : gAt l G m_Na_begin w0 res w1 0 [(0, .ref ad_n)] [] [oNa ad_n ar_n n_size n_gathered n_weight, aI G ar_n 100 n_words] := by
  refine a_aload_n 0 dNa_begin_0 rfl ?_
  refine a_iconst (0 : Int32) dNa_begin_1 (by decide) ?_
  refine a_put (ci := 1) (kx := 1) ty_Na 0 [oNa ad_n ar_n (0 : Int32) n_gathered n_weight, aI G ar_n 100 n_words] dNa_begin_2 rfl I_Na tyo_Na nmo_Na w_100 rfl (by decide) rfl rfl rfl (Nat.le_of_ble_eq_true rfl) rfl ?_
  refine a_aload_n 0 dNa_begin_5 rfl ?_
  refine a_iconst (0 : Int32) dNa_begin_6 (by decide) ?_
  refine a_put (ci := 1) (kx := 2) ty_Na 0 [oNa ad_n ar_n (0 : Int32) (0 : Int32) n_weight, aI G ar_n 100 n_words] dNa_begin_7 rfl I_Na tyo_Na nmo_Na w_102 rfl (by decide) rfl rfl rfl (Nat.le_of_ble_eq_true rfl) rfl ?_
  refine a_aload_n 0 dNa_begin_10 rfl ?_
  refine a_iconst (1 : Int32) dNa_begin_11 (by decide) ?_
  refine a_put (ci := 1) (kx := 3) ty_Na 0 [oNa ad_n ar_n (0 : Int32) (0 : Int32) (1 : Int32), aI G ar_n 100 n_words] dNa_begin_12 rfl I_Na tyo_Na nmo_Na w_103 rfl (by decide) rfl rfl rfl (Nat.le_of_ble_eq_true rfl) rfl ?_
  exact a_vret (st := []) dNa_begin_15 rfl k0.1 k0.2

set_option maxRecDepth 20000 in
theorem b_Na_pushDigit_0 {l : Launch} {G : gG} {w0 w1 : va_W} {res : Option Value} {ad_n ar_n : Nat} {n_size n_gathered n_weight : Int32} {n_words : Nat → Int32} {x1 : Int32} (k0 : (¬ (n_weight * (10 : Int32)) = (1000000000 : Int32)) → gAt l G m_Na_pushDigit w0 res w1 37 [(0, .ref ad_n), (1, .int x1)] [] [oNa ad_n ar_n n_size ((n_gathered * (10 : Int32)) + x1) (n_weight * (10 : Int32)), aI G ar_n 100 n_words]) (k1 : ((n_weight * (10 : Int32)) = (1000000000 : Int32)) → gAt l G m_Na_pushDigit w0 res w1 34 [(0, .ref ad_n), (1, .int x1)] [.ref ad_n] [oNa ad_n ar_n n_size ((n_gathered * (10 : Int32)) + x1) (n_weight * (10 : Int32)), aI G ar_n 100 n_words]) : gAt l G m_Na_pushDigit w0 res w1 0 [(0, .ref ad_n), (1, .int x1)] [] [oNa ad_n ar_n n_size n_gathered n_weight, aI G ar_n 100 n_words] := by
  refine a_aload_n 0 dNa_pushDigit_0 rfl ?_
  refine a_aload_n 0 dNa_pushDigit_1 rfl ?_
  refine a_get (ci := 1) (kx := 2) 0 dNa_pushDigit_2 rfl I_Na w_102 rfl (by decide) rfl ?_
  refine a_bipush (10 : Int32) dNa_pushDigit_5 (by decide) ?_
  refine a_imul dNa_pushDigit_7 ?_
  refine a_iload_n 1 dNa_pushDigit_8 rfl ?_
  refine a_iadd dNa_pushDigit_9 ?_
  refine a_put (ci := 1) (kx := 2) ty_Na 0 [oNa ad_n ar_n n_size ((n_gathered * (10 : Int32)) + x1) n_weight, aI G ar_n 100 n_words] dNa_pushDigit_10 rfl I_Na tyo_Na nmo_Na w_102 rfl (by decide) rfl rfl rfl (Nat.le_of_ble_eq_true rfl) rfl ?_
  refine a_aload_n 0 dNa_pushDigit_13 rfl ?_
  refine a_dup dNa_pushDigit_14 rfl ?_
  refine a_get (ci := 1) (kx := 3) 0 dNa_pushDigit_15 rfl I_Na w_103 rfl (by decide) rfl ?_
  refine a_bipush (10 : Int32) dNa_pushDigit_18 (by decide) ?_
  refine a_imul dNa_pushDigit_20 ?_
  refine a_put (ci := 1) (kx := 3) ty_Na 0 [oNa ad_n ar_n n_size ((n_gathered * (10 : Int32)) + x1) (n_weight * (10 : Int32)), aI G ar_n 100 n_words] dNa_pushDigit_21 rfl I_Na tyo_Na nmo_Na w_103 rfl (by decide) rfl rfl rfl (Nat.le_of_ble_eq_true rfl) rfl ?_
  refine a_aload_n 0 dNa_pushDigit_24 rfl ?_
  refine a_get (ci := 1) (kx := 3) 0 dNa_pushDigit_25 rfl I_Na w_103 rfl (by decide) rfl ?_
  refine a_ldc (1000000000 : Int32) dNa_pushDigit_28 w_502 ?_
  refine a_icmp_ne 37 dNa_pushDigit_30 (by decide) (fun c1 => ?_) (fun c1 => ?_)
  · exact (k0 c1)
  · refine a_aload_n 0 dNa_pushDigit_33 rfl ?_
    exact (k1 c1)

set_option maxRecDepth 20000 in
theorem k_Na_pushDigit_34 {l : Launch} {G : gG} {w0 w1 : va_W} {res : Option Value} {ad_n ar_n : Nat} {n_size n_gathered n_weight : Int32} {n_words : Nat → Int32} {x1 : Int32} {n_size' n_gathered' n_weight' : Int32} {n_words' : Nat → Int32} (hc : gCt l G m_Na_end [.ref ad_n] [oNa ad_n ar_n n_size n_gathered n_weight, aI G ar_n 100 n_words] none [oNa ad_n ar_n n_size' n_gathered' n_weight', aI G ar_n 100 n_words']) (k : gAt l G m_Na_pushDigit w0 res w1 37 [(0, .ref ad_n), (1, .int x1)] [] [oNa ad_n ar_n n_size' n_gathered' n_weight', aI G ar_n 100 n_words']) : gAt l G m_Na_pushDigit w0 res w1 34 [(0, .ref ad_n), (1, .int x1)] [.ref ad_n] [oNa ad_n ar_n n_size n_gathered n_weight, aI G ar_n 100 n_words] :=
  a_callV (As := []) (rest := []) (wc := [oNa ad_n ar_n n_size n_gathered n_weight, aI G ar_n 100 n_words]) (wr := []) (w1c := [oNa ad_n ar_n n_size' n_gathered' n_weight', aI G ar_n 100 n_words']) (r := none) [oNa ad_n ar_n n_size' n_gathered' n_weight', aI G ar_n 100 n_words'] [0, 1] [] [0, 1] (ci := 1) (q0 := 0) hc dNa_pushDigit_34 rfl ok_Na_end ⟨Nat.le_of_ble_eq_true rfl, Nat.le_of_ble_eq_true rfl⟩ w_503 w_505 sl_34 rfl rfl rfl rfl rfl rfl (by decide) rfl rfl (Nat.le_of_ble_eq_true rfl) k

set_option maxRecDepth 20000 in
theorem b_Na_pushDigit_37 {l : Launch} {G : gG} {w0 w1 : va_W} {res : Option Value} {ad_n ar_n : Nat} {n_size n_gathered n_weight : Int32} {n_words : Nat → Int32} {x1 : Int32} (k0 : res = none ∧ [oNa ad_n ar_n n_size n_gathered n_weight, aI G ar_n 100 n_words] = w1) : gAt l G m_Na_pushDigit w0 res w1 37 [(0, .ref ad_n), (1, .int x1)] [] [oNa ad_n ar_n n_size n_gathered n_weight, aI G ar_n 100 n_words] := by
  exact a_vret (st := []) dNa_pushDigit_37 rfl k0.1 k0.2

set_option maxRecDepth 20000 in
theorem b_Na_end_0 {l : Launch} {G : gG} {w0 w1 : va_W} {res : Option Value} {ad_n ar_n : Nat} {n_size n_gathered n_weight : Int32} {n_words : Nat → Int32}  (k0 : gAt l G m_Na_end w0 res w1 9 [(0, .ref ad_n)] [.int n_gathered, .int n_weight, .ref ad_n] [oNa ad_n ar_n n_size n_gathered n_weight, aI G ar_n 100 n_words]) : gAt l G m_Na_end w0 res w1 0 [(0, .ref ad_n)] [] [oNa ad_n ar_n n_size n_gathered n_weight, aI G ar_n 100 n_words] := by
  refine a_aload_n 0 dNa_end_0 rfl ?_
  refine a_aload_n 0 dNa_end_1 rfl ?_
  refine a_get (ci := 1) (kx := 3) 0 dNa_end_2 rfl I_Na w_103 rfl (by decide) rfl ?_
  refine a_aload_n 0 dNa_end_5 rfl ?_
  refine a_get (ci := 1) (kx := 2) 0 dNa_end_6 rfl I_Na w_102 rfl (by decide) rfl ?_
  exact k0

set_option maxRecDepth 20000 in
theorem k_Na_end_9 {l : Launch} {G : gG} {w0 w1 : va_W} {res : Option Value} {ad_n ar_n : Nat} {n_size n_gathered n_weight : Int32} {n_words : Nat → Int32} {v0 : Int32} {v1 : Int32} {n_size' n_gathered' n_weight' : Int32} {n_words' : Nat → Int32} (hc : gCt l G m_Na_multiplyAdd [.ref ad_n, .int v1, .int v0] [oNa ad_n ar_n n_size n_gathered n_weight, aI G ar_n 100 n_words] none [oNa ad_n ar_n n_size' n_gathered' n_weight', aI G ar_n 100 n_words']) (k : gAt l G m_Na_end w0 res w1 12 [(0, .ref ad_n)] [] [oNa ad_n ar_n n_size' n_gathered' n_weight', aI G ar_n 100 n_words']) : gAt l G m_Na_end w0 res w1 9 [(0, .ref ad_n)] [.int v0, .int v1, .ref ad_n] [oNa ad_n ar_n n_size n_gathered n_weight, aI G ar_n 100 n_words] :=
  a_callV (As := [.int v1, .int v0]) (rest := []) (wc := [oNa ad_n ar_n n_size n_gathered n_weight, aI G ar_n 100 n_words]) (wr := []) (w1c := [oNa ad_n ar_n n_size' n_gathered' n_weight', aI G ar_n 100 n_words']) (r := none) [oNa ad_n ar_n n_size' n_gathered' n_weight', aI G ar_n 100 n_words'] [0, 1] [] [0, 1] (ci := 1) (q0 := 0) hc dNa_end_9 rfl ok_Na_multiplyAdd ⟨Nat.le_of_ble_eq_true rfl, Nat.le_of_ble_eq_true rfl⟩ w_507 w_509 sl_35 rfl rfl rfl rfl rfl rfl (by decide) rfl rfl (Nat.le_of_ble_eq_true rfl) k

set_option maxRecDepth 20000 in
theorem b_Na_end_12 {l : Launch} {G : gG} {w0 w1 : va_W} {res : Option Value} {ad_n ar_n : Nat} {n_size n_gathered n_weight : Int32} {n_words : Nat → Int32}  (k0 : res = none ∧ [oNa ad_n ar_n n_size (0 : Int32) (1 : Int32), aI G ar_n 100 n_words] = w1) : gAt l G m_Na_end w0 res w1 12 [(0, .ref ad_n)] [] [oNa ad_n ar_n n_size n_gathered n_weight, aI G ar_n 100 n_words] := by
  refine a_aload_n 0 dNa_end_12 rfl ?_
  refine a_iconst (0 : Int32) dNa_end_13 (by decide) ?_
  refine a_put (ci := 1) (kx := 2) ty_Na 0 [oNa ad_n ar_n n_size (0 : Int32) n_weight, aI G ar_n 100 n_words] dNa_end_14 rfl I_Na tyo_Na nmo_Na w_102 rfl (by decide) rfl rfl rfl (Nat.le_of_ble_eq_true rfl) rfl ?_
  refine a_aload_n 0 dNa_end_17 rfl ?_
  refine a_iconst (1 : Int32) dNa_end_18 (by decide) ?_
  refine a_put (ci := 1) (kx := 3) ty_Na 0 [oNa ad_n ar_n n_size (0 : Int32) (1 : Int32), aI G ar_n 100 n_words] dNa_end_19 rfl I_Na tyo_Na nmo_Na w_103 rfl (by decide) rfl rfl rfl (Nat.le_of_ble_eq_true rfl) rfl ?_
  exact a_vret (st := []) dNa_end_22 rfl k0.1 k0.2

set_option maxRecDepth 20000 in
theorem b_Na_multiplyAdd_0 {l : Launch} {G : gG} {w0 w1 : va_W} {res : Option Value} {ad_n ar_n : Nat} {n_size n_gathered n_weight : Int32} {n_words : Nat → Int32} {x1 : Int32} {x2 : Int32} (k0 : gAt l G m_Na_multiplyAdd w0 res w1 6 [(0, .ref ad_n), (1, .int x1), (2, .int x2), (3, .long (Int32.toInt64 x2)), (5, .int (0 : Int32))] [] [oNa ad_n ar_n n_size n_gathered n_weight, aI G ar_n 100 n_words]) : gAt l G m_Na_multiplyAdd w0 res w1 0 [(0, .ref ad_n), (1, .int x1), (2, .int x2)] [] [oNa ad_n ar_n n_size n_gathered n_weight, aI G ar_n 100 n_words] := by
  refine a_iload_n 2 dNa_multiplyAdd_0 rfl ?_
  refine a_i2l dNa_multiplyAdd_1 ?_
  refine a_lstore_n [(3, .long (Int32.toInt64 x2)), (0, .ref ad_n), (1, .int x1), (2, .int x2)] dNa_multiplyAdd_2 rfl (by decide) rfl ?_
  refine a_iconst (0 : Int32) dNa_multiplyAdd_3 (by decide) ?_
  refine a_istore [(5, .int (0 : Int32)), (3, .long (Int32.toInt64 x2)), (0, .ref ad_n), (1, .int x1), (2, .int x2)] dNa_multiplyAdd_4 (by decide) rfl ?_
  refine a_lv [(0, .ref ad_n), (1, .int x1), (2, .int x2), (3, .long (Int32.toInt64 x2)), (5, .int (0 : Int32))] [2, 3, 4, 1, 0] rfl ?_
  exact k0

set_option maxRecDepth 20000 in
theorem b_Na_multiplyAdd_6 {l : Launch} {G : gG} {w0 w1 : va_W} {res : Option Value} {ad_n ar_n : Nat} {n_size n_gathered n_weight : Int32} {n_words : Nat → Int32} {x1 : Int32} {x2 : Int32} {x3 : Int64} {x5 : Int32} (k0 : (n_size ≤ x5) → gAt l G m_Na_multiplyAdd w0 res w1 66 [(0, .ref ad_n), (1, .int x1), (2, .int x2), (3, .long x3), (5, .int x5)] [] [oNa ad_n ar_n n_size n_gathered n_weight, aI G ar_n 100 n_words]) (k1 : (¬ n_size ≤ x5) → ((100 : Int32) ≤ x5) → gAt l G m_Na_multiplyAdd w0 res w1 66 [(0, .ref ad_n), (1, .int x1), (2, .int x2), (3, .long x3), (5, .int x5)] [] [oNa ad_n ar_n n_size n_gathered n_weight, aI G ar_n 100 n_words]) (s2 : (¬ n_size ≤ x5) → (¬ (100 : Int32) ≤ x5) → vp_in x5 100) (s3 : (¬ n_size ≤ x5) → (¬ (100 : Int32) ≤ x5) → vp_in x5 100) (k4 : (¬ n_size ≤ x5) → (¬ (100 : Int32) ≤ x5) → gAt l G m_Na_multiplyAdd w0 res w1 6 [(0, .ref ad_n), (1, .int x1), (2, .int x2), (3, .long ((Int64.toUInt64 ((((Int32.toInt64 (n_words (Int32.toNatClampNeg x5))) &&& (4294967295 : Int64)) * (Int32.toInt64 x1)) + x3) >>> ((Int32.toInt64 (32 : Int32)).toUInt64 &&& Int64.toUInt64 63)).toInt64)), (5, .int (x5 + 1))] [] [oNa ad_n ar_n n_size n_gathered n_weight, aI G ar_n 100 (upd n_words (Int32.toNatClampNeg x5) (Int64.toInt32 ((((Int32.toInt64 (n_words (Int32.toNatClampNeg x5))) &&& (4294967295 : Int64)) * (Int32.toInt64 x1)) + x3)))]) : gAt l G m_Na_multiplyAdd w0 res w1 6 [(0, .ref ad_n), (1, .int x1), (2, .int x2), (3, .long x3), (5, .int x5)] [] [oNa ad_n ar_n n_size n_gathered n_weight, aI G ar_n 100 n_words] := by
  refine a_iload 4 dNa_multiplyAdd_6 rfl ?_
  refine a_aload_n 0 dNa_multiplyAdd_8 rfl ?_
  refine a_get (ci := 1) (kx := 1) 0 dNa_multiplyAdd_9 rfl I_Na w_100 rfl (by decide) rfl ?_
  refine a_icmp_ge 66 dNa_multiplyAdd_12 (by decide) (fun c1 => ?_) (fun c1 => ?_)
  · exact (k0 c1)
  · refine a_iload 4 dNa_multiplyAdd_15 rfl ?_
    refine a_aload_n 0 dNa_multiplyAdd_17 rfl ?_
    refine a_get (ci := 1) (kx := 0) 0 dNa_multiplyAdd_18 rfl I_Na w_99 rfl (by decide) rfl ?_
    refine a_ilen 1 (100 : Int32) dNa_multiplyAdd_21 rfl rfl ?_
    refine a_icmp_ge 66 dNa_multiplyAdd_22 (by decide) (fun c2 => ?_) (fun c2 => ?_)
    · exact (k1 c1 c2)
    · refine a_aload_n 0 dNa_multiplyAdd_25 rfl ?_
      refine a_get (ci := 1) (kx := 0) 0 dNa_multiplyAdd_26 rfl I_Na w_99 rfl (by decide) rfl ?_
      refine a_iload 4 dNa_multiplyAdd_29 rfl ?_
      refine a_iald 1 dNa_multiplyAdd_31 rfl (s2 c1 c2) ?_
      refine a_i2l dNa_multiplyAdd_32 ?_
      refine a_ldc2 (4294967295 : Int64) dNa_multiplyAdd_33 w_511 ?_
      refine a_land dNa_multiplyAdd_36 ?_
      refine a_iload_n 1 dNa_multiplyAdd_37 rfl ?_
      refine a_i2l dNa_multiplyAdd_38 ?_
      refine a_lmul dNa_multiplyAdd_39 ?_
      refine a_lload_n 3 dNa_multiplyAdd_40 rfl ?_
      refine a_ladd dNa_multiplyAdd_41 ?_
      refine a_lstore [(6, .long ((((Int32.toInt64 (n_words (Int32.toNatClampNeg x5))) &&& (4294967295 : Int64)) * (Int32.toInt64 x1)) + x3)), (0, .ref ad_n), (1, .int x1), (2, .int x2), (3, .long x3), (5, .int x5)] dNa_multiplyAdd_42 (by decide) rfl ?_
      refine a_aload_n 1 dNa_multiplyAdd_44 rfl ?_
      refine a_get (ci := 1) (kx := 0) 0 dNa_multiplyAdd_45 rfl I_Na w_99 rfl (by decide) rfl ?_
      refine a_iload 5 dNa_multiplyAdd_48 rfl ?_
      refine a_lload 0 dNa_multiplyAdd_50 rfl ?_
      refine a_l2i dNa_multiplyAdd_52 ?_
      refine a_iast 1 [oNa ad_n ar_n n_size n_gathered n_weight, aI G ar_n 100 (upd n_words (Int32.toNatClampNeg x5) (Int64.toInt32 ((((Int32.toInt64 (n_words (Int32.toNatClampNeg x5))) &&& (4294967295 : Int64)) * (Int32.toInt64 x1)) + x3)))] dNa_multiplyAdd_53 rfl (s3 c1 c2) rfl ?_
      refine a_lload 0 dNa_multiplyAdd_54 rfl ?_
      refine a_bipush (32 : Int32) dNa_multiplyAdd_56 (by decide) ?_
      refine a_lushr dNa_multiplyAdd_58 ?_
      refine a_lstore_n [(3, .long ((Int64.toUInt64 ((((Int32.toInt64 (n_words (Int32.toNatClampNeg x5))) &&& (4294967295 : Int64)) * (Int32.toInt64 x1)) + x3) >>> ((Int32.toInt64 (32 : Int32)).toUInt64 &&& Int64.toUInt64 63)).toInt64)), (6, .long ((((Int32.toInt64 (n_words (Int32.toNatClampNeg x5))) &&& (4294967295 : Int64)) * (Int32.toInt64 x1)) + x3)), (0, .ref ad_n), (1, .int x1), (2, .int x2), (5, .int x5)] dNa_multiplyAdd_59 rfl (by decide) rfl ?_
      refine a_iinc 5 (x5 + 1) [(5, .int (x5 + 1)), (3, .long ((Int64.toUInt64 ((((Int32.toInt64 (n_words (Int32.toNatClampNeg x5))) &&& (4294967295 : Int64)) * (Int32.toInt64 x1)) + x3) >>> ((Int32.toInt64 (32 : Int32)).toUInt64 &&& Int64.toUInt64 63)).toInt64)), (6, .long ((((Int32.toInt64 (n_words (Int32.toNatClampNeg x5))) &&& (4294967295 : Int64)) * (Int32.toInt64 x1)) + x3)), (0, .ref ad_n), (1, .int x1), (2, .int x2)] dNa_multiplyAdd_60 rfl rfl (by decide) rfl ?_
      refine a_goto 6 dNa_multiplyAdd_63 (by decide) ?_
      refine a_lv [(0, .ref ad_n), (1, .int x1), (2, .int x2), (3, .long ((Int64.toUInt64 ((((Int32.toInt64 (n_words (Int32.toNatClampNeg x5))) &&& (4294967295 : Int64)) * (Int32.toInt64 x1)) + x3) >>> ((Int32.toInt64 (32 : Int32)).toUInt64 &&& Int64.toUInt64 63)).toInt64)), (5, .int (x5 + 1))] [3, 4, 5, 1, 0] rfl ?_
      exact (k4 c1 c2)

set_option maxRecDepth 20000 in
theorem b_Na_multiplyAdd_66 {l : Launch} {G : gG} {w0 w1 : va_W} {res : Option Value} {ad_n ar_n : Nat} {n_size n_gathered n_weight : Int32} {n_words : Nat → Int32} {x1 : Int32} {x2 : Int32} {x3 : Int64} {x5 : Int32} (k0 : ((lg_cmp x3 (0 : Int64)) = 0) → gAt l G m_Na_multiplyAdd w0 res w1 112 [(0, .ref ad_n), (1, .int x1), (2, .int x2), (3, .long x3), (5, .int x5)] [] [oNa ad_n ar_n n_size n_gathered n_weight, aI G ar_n 100 n_words]) (k1 : (¬ (lg_cmp x3 (0 : Int64)) = 0) → (n_size < 0) → gAt l G m_Na_multiplyAdd w0 res w1 112 [(0, .ref ad_n), (1, .int x1), (2, .int x2), (3, .long x3), (5, .int x5)] [] [oNa ad_n ar_n n_size n_gathered n_weight, aI G ar_n 100 n_words]) (k2 : (¬ (lg_cmp x3 (0 : Int64)) = 0) → (¬ n_size < 0) → ((100 : Int32) ≤ n_size) → gAt l G m_Na_multiplyAdd w0 res w1 112 [(0, .ref ad_n), (1, .int x1), (2, .int x2), (3, .long x3), (5, .int x5)] [] [oNa ad_n ar_n n_size n_gathered n_weight, aI G ar_n 100 n_words]) (s3 : (¬ (lg_cmp x3 (0 : Int64)) = 0) → (¬ n_size < 0) → (¬ (100 : Int32) ≤ n_size) → vp_in n_size 100) (k4 : (¬ (lg_cmp x3 (0 : Int64)) = 0) → (¬ n_size < 0) → (¬ (100 : Int32) ≤ n_size) → gAt l G m_Na_multiplyAdd w0 res w1 112 [(0, .ref ad_n), (1, .int x1), (2, .int x2), (3, .long x3), (5, .int x5)] [] [oNa ad_n ar_n (n_size + (1 : Int32)) n_gathered n_weight, aI G ar_n 100 (upd n_words (Int32.toNatClampNeg n_size) (Int64.toInt32 x3))]) : gAt l G m_Na_multiplyAdd w0 res w1 66 [(0, .ref ad_n), (1, .int x1), (2, .int x2), (3, .long x3), (5, .int x5)] [] [oNa ad_n ar_n n_size n_gathered n_weight, aI G ar_n 100 n_words] := by
  refine a_lload_n 3 dNa_multiplyAdd_66 rfl ?_
  refine a_lconst (0 : Int64) dNa_multiplyAdd_67 (by decide) ?_
  refine a_lcmp dNa_multiplyAdd_68 ?_
  refine a_if_eq 112 dNa_multiplyAdd_69 (by decide) (fun c1 => ?_) (fun c1 => ?_)
  · exact (k0 c1)
  · refine a_aload_n 0 dNa_multiplyAdd_72 rfl ?_
    refine a_get (ci := 1) (kx := 1) 0 dNa_multiplyAdd_73 rfl I_Na w_100 rfl (by decide) rfl ?_
    refine a_if_lt 112 dNa_multiplyAdd_76 (by decide) (fun c2 => ?_) (fun c2 => ?_)
    · exact (k1 c1 c2)
    · refine a_aload_n 0 dNa_multiplyAdd_79 rfl ?_
      refine a_get (ci := 1) (kx := 1) 0 dNa_multiplyAdd_80 rfl I_Na w_100 rfl (by decide) rfl ?_
      refine a_aload_n 0 dNa_multiplyAdd_83 rfl ?_
      refine a_get (ci := 1) (kx := 0) 0 dNa_multiplyAdd_84 rfl I_Na w_99 rfl (by decide) rfl ?_
      refine a_ilen 1 (100 : Int32) dNa_multiplyAdd_87 rfl rfl ?_
      refine a_icmp_ge 112 dNa_multiplyAdd_88 (by decide) (fun c3 => ?_) (fun c3 => ?_)
      · exact (k2 c1 c2 c3)
      · refine a_aload_n 0 dNa_multiplyAdd_91 rfl ?_
        refine a_get (ci := 1) (kx := 0) 0 dNa_multiplyAdd_92 rfl I_Na w_99 rfl (by decide) rfl ?_
        refine a_aload_n 0 dNa_multiplyAdd_95 rfl ?_
        refine a_get (ci := 1) (kx := 1) 0 dNa_multiplyAdd_96 rfl I_Na w_100 rfl (by decide) rfl ?_
        refine a_lload_n 3 dNa_multiplyAdd_99 rfl ?_
        refine a_l2i dNa_multiplyAdd_100 ?_
        refine a_iast 1 [oNa ad_n ar_n n_size n_gathered n_weight, aI G ar_n 100 (upd n_words (Int32.toNatClampNeg n_size) (Int64.toInt32 x3))] dNa_multiplyAdd_101 rfl (s3 c1 c2 c3) rfl ?_
        refine a_aload_n 0 dNa_multiplyAdd_102 rfl ?_
        refine a_dup dNa_multiplyAdd_103 rfl ?_
        refine a_get (ci := 1) (kx := 1) 0 dNa_multiplyAdd_104 rfl I_Na w_100 rfl (by decide) rfl ?_
        refine a_iconst (1 : Int32) dNa_multiplyAdd_107 (by decide) ?_
        refine a_iadd dNa_multiplyAdd_108 ?_
        refine a_put (ci := 1) (kx := 1) ty_Na 0 [oNa ad_n ar_n (n_size + (1 : Int32)) n_gathered n_weight, aI G ar_n 100 (upd n_words (Int32.toNatClampNeg n_size) (Int64.toInt32 x3))] dNa_multiplyAdd_109 rfl I_Na tyo_Na nmo_Na w_100 rfl (by decide) rfl rfl rfl (Nat.le_of_ble_eq_true rfl) rfl ?_
        exact (k4 c1 c2 c3)

set_option maxRecDepth 20000 in
theorem b_Na_multiplyAdd_112 {l : Launch} {G : gG} {w0 w1 : va_W} {res : Option Value} {ad_n ar_n : Nat} {n_size n_gathered n_weight : Int32} {n_words : Nat → Int32} {x1 : Int32} {x2 : Int32} {x3 : Int64} {x5 : Int32} (k0 : res = none ∧ [oNa ad_n ar_n n_size n_gathered n_weight, aI G ar_n 100 n_words] = w1) : gAt l G m_Na_multiplyAdd w0 res w1 112 [(0, .ref ad_n), (1, .int x1), (2, .int x2), (3, .long x3), (5, .int x5)] [] [oNa ad_n ar_n n_size n_gathered n_weight, aI G ar_n 100 n_words] := by
  exact a_vret (st := []) dNa_multiplyAdd_112 rfl k0.1 k0.2

set_option maxRecDepth 20000 in
theorem b_Na_multiplyByFives_0 {l : Launch} {G : gG} {w0 w1 : va_W} {res : Option Value} {ad_n ar_n : Nat} {n_size n_gathered n_weight : Int32} {n_words : Nat → Int32} {x1 : Int32} (k0 : gAt l G m_Na_multiplyByFives w0 res w1 2 [(0, .ref ad_n), (1, .int x1), (2, .int x1)] [] [oNa ad_n ar_n n_size n_gathered n_weight, aI G ar_n 100 n_words]) : gAt l G m_Na_multiplyByFives w0 res w1 0 [(0, .ref ad_n), (1, .int x1)] [] [oNa ad_n ar_n n_size n_gathered n_weight, aI G ar_n 100 n_words] := by
  refine a_iload_n 1 dNa_multiplyByFives_0 rfl ?_
  refine a_istore_n [(2, .int x1), (0, .ref ad_n), (1, .int x1)] dNa_multiplyByFives_1 rfl (by decide) rfl ?_
  refine a_lv [(0, .ref ad_n), (1, .int x1), (2, .int x1)] [1, 2, 0] rfl ?_
  exact k0

set_option maxRecDepth 20000 in
theorem b_Na_multiplyByFives_2 {l : Launch} {G : gG} {w0 w1 : va_W} {res : Option Value} {ad_n ar_n : Nat} {n_size n_gathered n_weight : Int32} {n_words : Nat → Int32} {x1 : Int32} {x2 : Int32} (k0 : (x2 ≤ 0) → res = none ∧ [oNa ad_n ar_n n_size n_gathered n_weight, aI G ar_n 100 n_words] = w1) (k1 : (¬ x2 ≤ 0) → gAt l G m_Na_multiplyByFives w0 res w1 13 [(0, .ref ad_n), (1, .int x1), (2, .int x2)] [.int (if (13 : Int32) < x2 then (13 : Int32) else x2), .ref ad_n] [oNa ad_n ar_n n_size n_gathered n_weight, aI G ar_n 100 n_words]) : gAt l G m_Na_multiplyByFives w0 res w1 2 [(0, .ref ad_n), (1, .int x1), (2, .int x2)] [] [oNa ad_n ar_n n_size n_gathered n_weight, aI G ar_n 100 n_words] := by
  refine a_iload_n 2 dNa_multiplyByFives_2 rfl ?_
  refine a_if_le 26 dNa_multiplyByFives_3 (by decide) (fun c1 => ?_) (fun c1 => ?_)
  · exact a_vret (st := []) dNa_multiplyByFives_26 rfl (k0 c1).1 (k0 c1).2
  · refine a_aload_n 0 dNa_multiplyByFives_6 rfl ?_
    refine a_iload_n 2 dNa_multiplyByFives_7 rfl ?_
    refine a_bipush (13 : Int32) dNa_multiplyByFives_8 (by decide) ?_
    refine a_mmin dNa_multiplyByFives_10 w_521 w_198 w_12 w_199 (Nat.le_of_ble_eq_true rfl) (Nat.le_of_ble_eq_true rfl) ?_
    exact (k1 c1)

set_option maxRecDepth 20000 in
theorem k_Na_multiplyByFives_13 {l : Launch} {G : gG} {w0 w1 : va_W} {res : Option Value} {ad_n ar_n : Nat} {n_size n_gathered n_weight : Int32} {n_words : Nat → Int32} {x1 : Int32} {x2 : Int32} {v0 : Int32} {r : Int32} (hc : gCt l G m_Na_powerOfFive [.int v0] [] (some (.int r)) []) (k : gAt l G m_Na_multiplyByFives w0 res w1 16 [(0, .ref ad_n), (1, .int x1), (2, .int x2)] [.int r, .ref ad_n] [oNa ad_n ar_n n_size n_gathered n_weight, aI G ar_n 100 n_words]) : gAt l G m_Na_multiplyByFives w0 res w1 13 [(0, .ref ad_n), (1, .int x1), (2, .int x2)] [.int v0, .ref ad_n] [oNa ad_n ar_n n_size n_gathered n_weight, aI G ar_n 100 n_words] :=
  a_callS (As := [.int v0]) (rest := [.ref ad_n]) (wc := []) (wr := [oNa ad_n ar_n n_size n_gathered n_weight, aI G ar_n 100 n_words]) (w1c := []) (r := (some (.int r))) [oNa ad_n ar_n n_size n_gathered n_weight, aI G ar_n 100 n_words] [] [0, 1] [0, 1] hc dNa_multiplyByFives_13 rfl ok_Na_powerOfFive ⟨Nat.le_of_ble_eq_true rfl, Nat.le_of_ble_eq_true rfl⟩ w_522 w_523 rfl rfl rfl rfl (by decide) rfl rfl (Nat.le_of_ble_eq_true rfl) k

set_option maxRecDepth 20000 in
theorem b_Na_multiplyByFives_16 {l : Launch} {G : gG} {w0 w1 : va_W} {res : Option Value} {ad_n ar_n : Nat} {n_size n_gathered n_weight : Int32} {n_words : Nat → Int32} {x1 : Int32} {x2 : Int32} {v0 : Int32} (k0 : gAt l G m_Na_multiplyByFives w0 res w1 17 [(0, .ref ad_n), (1, .int x1), (2, .int x2)] [.int (0 : Int32), .int v0, .ref ad_n] [oNa ad_n ar_n n_size n_gathered n_weight, aI G ar_n 100 n_words]) : gAt l G m_Na_multiplyByFives w0 res w1 16 [(0, .ref ad_n), (1, .int x1), (2, .int x2)] [.int v0, .ref ad_n] [oNa ad_n ar_n n_size n_gathered n_weight, aI G ar_n 100 n_words] := by
  refine a_iconst (0 : Int32) dNa_multiplyByFives_16 (by decide) ?_
  exact k0

set_option maxRecDepth 20000 in
theorem k_Na_multiplyByFives_17 {l : Launch} {G : gG} {w0 w1 : va_W} {res : Option Value} {ad_n ar_n : Nat} {n_size n_gathered n_weight : Int32} {n_words : Nat → Int32} {x1 : Int32} {x2 : Int32} {v0 : Int32} {v1 : Int32} {n_size' n_gathered' n_weight' : Int32} {n_words' : Nat → Int32} (hc : gCt l G m_Na_multiplyAdd [.ref ad_n, .int v1, .int v0] [oNa ad_n ar_n n_size n_gathered n_weight, aI G ar_n 100 n_words] none [oNa ad_n ar_n n_size' n_gathered' n_weight', aI G ar_n 100 n_words']) (k : gAt l G m_Na_multiplyByFives w0 res w1 20 [(0, .ref ad_n), (1, .int x1), (2, .int x2)] [] [oNa ad_n ar_n n_size' n_gathered' n_weight', aI G ar_n 100 n_words']) : gAt l G m_Na_multiplyByFives w0 res w1 17 [(0, .ref ad_n), (1, .int x1), (2, .int x2)] [.int v0, .int v1, .ref ad_n] [oNa ad_n ar_n n_size n_gathered n_weight, aI G ar_n 100 n_words] :=
  a_callV (As := [.int v1, .int v0]) (rest := []) (wc := [oNa ad_n ar_n n_size n_gathered n_weight, aI G ar_n 100 n_words]) (wr := []) (w1c := [oNa ad_n ar_n n_size' n_gathered' n_weight', aI G ar_n 100 n_words']) (r := none) [oNa ad_n ar_n n_size' n_gathered' n_weight', aI G ar_n 100 n_words'] [0, 1] [] [0, 1] (ci := 1) (q0 := 0) hc dNa_multiplyByFives_17 rfl ok_Na_multiplyAdd ⟨Nat.le_of_ble_eq_true rfl, Nat.le_of_ble_eq_true rfl⟩ w_507 w_509 sl_35 rfl rfl rfl rfl rfl rfl (by decide) rfl rfl (Nat.le_of_ble_eq_true rfl) k

set_option maxRecDepth 20000 in
theorem b_Na_multiplyByFives_20 {l : Launch} {G : gG} {w0 w1 : va_W} {res : Option Value} {ad_n ar_n : Nat} {n_size n_gathered n_weight : Int32} {n_words : Nat → Int32} {x1 : Int32} {x2 : Int32} (k0 : gAt l G m_Na_multiplyByFives w0 res w1 2 [(0, .ref ad_n), (1, .int x1), (2, .int (x2 + (-13 : Int32)))] [] [oNa ad_n ar_n n_size n_gathered n_weight, aI G ar_n 100 n_words]) : gAt l G m_Na_multiplyByFives w0 res w1 20 [(0, .ref ad_n), (1, .int x1), (2, .int x2)] [] [oNa ad_n ar_n n_size n_gathered n_weight, aI G ar_n 100 n_words] := by
  refine a_iinc 2 (x2 + (-13 : Int32)) [(2, .int (x2 + (-13 : Int32))), (0, .ref ad_n), (1, .int x1)] dNa_multiplyByFives_20 rfl rfl (by decide) rfl ?_
  refine a_goto 2 dNa_multiplyByFives_23 (by decide) ?_
  refine a_lv [(0, .ref ad_n), (1, .int x1), (2, .int (x2 + (-13 : Int32)))] [1, 2, 0] rfl ?_
  exact k0

set_option maxRecDepth 20000 in
theorem b_Na_powerOfFive_0 {l : Launch} {G : gG} {w0 w1 : va_W} {res : Option Value} {x0 : Int32} (k0 : (x0 < 0) → gAt l G m_Na_powerOfFive w0 res w1 20 [(0, .int x0)] [] []) (k1 : (¬ x0 < 0) → ((14 : Int32) ≤ x0) → gAt l G m_Na_powerOfFive w0 res w1 20 [(0, .int x0)] [] []) (s2 : (¬ x0 < 0) → (¬ (14 : Int32) ≤ x0) → vp_in x0 14) (k3 : (¬ x0 < 0) → (¬ (14 : Int32) ≤ x0) → gAt l G m_Na_powerOfFive w0 res w1 21 [(0, .int x0)] [.int (g_five (Int32.toNatClampNeg x0))] []) : gAt l G m_Na_powerOfFive w0 res w1 0 [(0, .int x0)] [] [] := by
  refine a_iload_n 0 dNa_powerOfFive_0 rfl ?_
  refine a_if_lt 20 dNa_powerOfFive_1 (by decide) (fun c1 => ?_) (fun c1 => ?_)
  · exact (k0 c1)
  · refine a_iload_n 0 dNa_powerOfFive_4 rfl ?_
    refine a_gets5 dNa_powerOfFive_5 w_525 ?_
    refine a_t5len (14 : Int32) dNa_powerOfFive_8 rfl ?_
    refine a_icmp_ge 20 dNa_powerOfFive_9 (by decide) (fun c2 => ?_) (fun c2 => ?_)
    · exact (k1 c1 c2)
    · refine a_gets5 dNa_powerOfFive_12 w_525 ?_
      refine a_iload_n 0 dNa_powerOfFive_15 rfl ?_
      refine a_t5 dNa_powerOfFive_16 (s2 c1 c2) ?_
      refine a_goto 21 dNa_powerOfFive_17 (by decide) ?_
      exact (k3 c1 c2)

set_option maxRecDepth 20000 in
theorem b_Na_powerOfFive_20 {l : Launch} {G : gG} {w0 w1 : va_W} {res : Option Value} {x0 : Int32} (k0 : gAt l G m_Na_powerOfFive w0 res w1 21 [(0, .int x0)] [.int (1 : Int32)] []) : gAt l G m_Na_powerOfFive w0 res w1 20 [(0, .int x0)] [] [] := by
  refine a_iconst (1 : Int32) dNa_powerOfFive_20 (by decide) ?_
  exact k0

set_option maxRecDepth 20000 in
theorem b_Na_powerOfFive_21 {l : Launch} {G : gG} {w0 w1 : va_W} {res : Option Value} {x0 : Int32} {v0 : Int32} (k0 : res = some (.int v0) ∧ [] = w1) : gAt l G m_Na_powerOfFive w0 res w1 21 [(0, .int x0)] [.int v0] [] := by
  exact a_iret (st := []) dNa_powerOfFive_21 rfl k0.1 k0.2

set_option maxRecDepth 20000 in
theorem b_Na_raiseAboveFives_0 {l : Launch} {G : gG} {w0 w1 : va_W} {res : Option Value} {ad_n ar_n : Nat} {n_size n_gathered n_weight : Int32} {n_words : Nat → Int32} {x1 : Int32} (k0 : (0 < ((if (100 : Int32) < (((x1 * (7 : Int32)) / (96 : Int32)) + (4 : Int32)) then (100 : Int32) else (((x1 * (7 : Int32)) / (96 : Int32)) + (4 : Int32))) - n_size)) → gAt l G m_Na_raiseAboveFives w0 res w1 36 [(0, .ref ad_n), (1, .int x1), (2, .int (if (100 : Int32) < (((x1 * (7 : Int32)) / (96 : Int32)) + (4 : Int32)) then (100 : Int32) else (((x1 * (7 : Int32)) / (96 : Int32)) + (4 : Int32)))), (3, .int ((if (100 : Int32) < (((x1 * (7 : Int32)) / (96 : Int32)) + (4 : Int32)) then (100 : Int32) else (((x1 * (7 : Int32)) / (96 : Int32)) + (4 : Int32))) - n_size)), (4, .int ((if (100 : Int32) < (((x1 * (7 : Int32)) / (96 : Int32)) + (4 : Int32)) then (100 : Int32) else (((x1 * (7 : Int32)) / (96 : Int32)) + (4 : Int32))) - (1 : Int32)))] [] [oNa ad_n ar_n n_size n_gathered n_weight, aI G ar_n 100 n_words]) (k1 : (¬ 0 < ((if (100 : Int32) < (((x1 * (7 : Int32)) / (96 : Int32)) + (4 : Int32)) then (100 : Int32) else (((x1 * (7 : Int32)) / (96 : Int32)) + (4 : Int32))) - n_size)) → res = some (.int (0 : Int32)) ∧ [oNa ad_n ar_n n_size n_gathered n_weight, aI G ar_n 100 n_words] = w1) : gAt l G m_Na_raiseAboveFives w0 res w1 0 [(0, .ref ad_n), (1, .int x1)] [] [oNa ad_n ar_n n_size n_gathered n_weight, aI G ar_n 100 n_words] := by
  refine a_iload_n 1 dNa_raiseAboveFives_0 rfl ?_
  refine a_bipush (7 : Int32) dNa_raiseAboveFives_1 (by decide) ?_
  refine a_imul dNa_raiseAboveFives_3 ?_
  refine a_bipush (96 : Int32) dNa_raiseAboveFives_4 (by decide) ?_
  refine a_idiv dNa_raiseAboveFives_6 (by decide) ?_
  refine a_iconst (4 : Int32) dNa_raiseAboveFives_7 (by decide) ?_
  refine a_iadd dNa_raiseAboveFives_8 ?_
  refine a_aload_n 0 dNa_raiseAboveFives_9 rfl ?_
  refine a_get (ci := 1) (kx := 0) 0 dNa_raiseAboveFives_10 rfl I_Na w_99 rfl (by decide) rfl ?_
  refine a_ilen 1 (100 : Int32) dNa_raiseAboveFives_13 rfl rfl ?_
  refine a_mmin dNa_raiseAboveFives_14 w_521 w_198 w_12 w_199 (Nat.le_of_ble_eq_true rfl) (Nat.le_of_ble_eq_true rfl) ?_
  refine a_istore_n [(2, .int (if (100 : Int32) < (((x1 * (7 : Int32)) / (96 : Int32)) + (4 : Int32)) then (100 : Int32) else (((x1 * (7 : Int32)) / (96 : Int32)) + (4 : Int32)))), (0, .ref ad_n), (1, .int x1)] dNa_raiseAboveFives_17 rfl (by decide) rfl ?_
  refine a_iload_n 0 dNa_raiseAboveFives_18 rfl ?_
  refine a_aload_n 1 dNa_raiseAboveFives_19 rfl ?_
  refine a_get (ci := 1) (kx := 1) 0 dNa_raiseAboveFives_20 rfl I_Na w_100 rfl (by decide) rfl ?_
  refine a_isub dNa_raiseAboveFives_23 ?_
  refine a_istore_n [(3, .int ((if (100 : Int32) < (((x1 * (7 : Int32)) / (96 : Int32)) + (4 : Int32)) then (100 : Int32) else (((x1 * (7 : Int32)) / (96 : Int32)) + (4 : Int32))) - n_size)), (2, .int (if (100 : Int32) < (((x1 * (7 : Int32)) / (96 : Int32)) + (4 : Int32)) then (100 : Int32) else (((x1 * (7 : Int32)) / (96 : Int32)) + (4 : Int32)))), (0, .ref ad_n), (1, .int x1)] dNa_raiseAboveFives_24 rfl (by decide) rfl ?_
  refine a_iload_n 0 dNa_raiseAboveFives_25 rfl ?_
  refine a_if_gt 31 dNa_raiseAboveFives_26 (by decide) (fun c1 => ?_) (fun c1 => ?_)
  · refine a_iload_n 1 dNa_raiseAboveFives_31 rfl ?_
    refine a_iconst (1 : Int32) dNa_raiseAboveFives_32 (by decide) ?_
    refine a_isub dNa_raiseAboveFives_33 ?_
    refine a_istore [(4, .int ((if (100 : Int32) < (((x1 * (7 : Int32)) / (96 : Int32)) + (4 : Int32)) then (100 : Int32) else (((x1 * (7 : Int32)) / (96 : Int32)) + (4 : Int32))) - (1 : Int32))), (3, .int ((if (100 : Int32) < (((x1 * (7 : Int32)) / (96 : Int32)) + (4 : Int32)) then (100 : Int32) else (((x1 * (7 : Int32)) / (96 : Int32)) + (4 : Int32))) - n_size)), (2, .int (if (100 : Int32) < (((x1 * (7 : Int32)) / (96 : Int32)) + (4 : Int32)) then (100 : Int32) else (((x1 * (7 : Int32)) / (96 : Int32)) + (4 : Int32)))), (0, .ref ad_n), (1, .int x1)] dNa_raiseAboveFives_34 (by decide) rfl ?_
    refine a_lv [(0, .ref ad_n), (1, .int x1), (2, .int (if (100 : Int32) < (((x1 * (7 : Int32)) / (96 : Int32)) + (4 : Int32)) then (100 : Int32) else (((x1 * (7 : Int32)) / (96 : Int32)) + (4 : Int32)))), (3, .int ((if (100 : Int32) < (((x1 * (7 : Int32)) / (96 : Int32)) + (4 : Int32)) then (100 : Int32) else (((x1 * (7 : Int32)) / (96 : Int32)) + (4 : Int32))) - n_size)), (4, .int ((if (100 : Int32) < (((x1 * (7 : Int32)) / (96 : Int32)) + (4 : Int32)) then (100 : Int32) else (((x1 * (7 : Int32)) / (96 : Int32)) + (4 : Int32))) - (1 : Int32)))] [3, 4, 2, 1, 0] rfl ?_
    exact (k0 c1)
  · refine a_iconst (0 : Int32) dNa_raiseAboveFives_29 (by decide) ?_
    exact a_iret (st := []) dNa_raiseAboveFives_30 rfl (k1 c1).1 (k1 c1).2

set_option maxRecDepth 20000 in
theorem b_Na_raiseAboveFives_36 {l : Launch} {G : gG} {w0 w1 : va_W} {res : Option Value} {ad_n ar_n : Nat} {n_size n_gathered n_weight : Int32} {n_words : Nat → Int32} {x1 : Int32} {x2 : Int32} {x3 : Int32} {x4 : Int32} (k0 : (x4 < 0) → res = some (.int ((32 : Int32) * x3)) ∧ [oNa ad_n ar_n x2 n_gathered n_weight, aI G ar_n 100 n_words] = w1) (k1 : (¬ x4 < 0) → gAt l G m_Na_raiseAboveFives w0 res w1 52 [(0, .ref ad_n), (1, .int x1), (2, .int x2), (3, .int x3), (4, .int x4)] [.int (x4 - x3), .ref ad_n, .int x4, .ref ar_n] [oNa ad_n ar_n n_size n_gathered n_weight, aI G ar_n 100 n_words]) : gAt l G m_Na_raiseAboveFives w0 res w1 36 [(0, .ref ad_n), (1, .int x1), (2, .int x2), (3, .int x3), (4, .int x4)] [] [oNa ad_n ar_n n_size n_gathered n_weight, aI G ar_n 100 n_words] := by
  refine a_iload 4 dNa_raiseAboveFives_36 rfl ?_
  refine a_if_lt 62 dNa_raiseAboveFives_38 (by decide) (fun c1 => ?_) (fun c1 => ?_)
  · refine a_aload_n 0 dNa_raiseAboveFives_62 rfl ?_
    refine a_iload_n 2 dNa_raiseAboveFives_63 rfl ?_
    refine a_put (ci := 1) (kx := 1) ty_Na 0 [oNa ad_n ar_n x2 n_gathered n_weight, aI G ar_n 100 n_words] dNa_raiseAboveFives_64 rfl I_Na tyo_Na nmo_Na w_100 rfl (by decide) rfl rfl rfl (Nat.le_of_ble_eq_true rfl) rfl ?_
    refine a_bipush (32 : Int32) dNa_raiseAboveFives_67 (by decide) ?_
    refine a_iload_n 3 dNa_raiseAboveFives_69 rfl ?_
    refine a_imul dNa_raiseAboveFives_70 ?_
    exact a_iret (st := []) dNa_raiseAboveFives_71 rfl (k0 c1).1 (k0 c1).2
  · refine a_aload_n 0 dNa_raiseAboveFives_41 rfl ?_
    refine a_get (ci := 1) (kx := 0) 0 dNa_raiseAboveFives_42 rfl I_Na w_99 rfl (by decide) rfl ?_
    refine a_iload 4 dNa_raiseAboveFives_45 rfl ?_
    refine a_aload_n 0 dNa_raiseAboveFives_47 rfl ?_
    refine a_iload 4 dNa_raiseAboveFives_48 rfl ?_
    refine a_iload_n 3 dNa_raiseAboveFives_50 rfl ?_
    refine a_isub dNa_raiseAboveFives_51 ?_
    exact (k1 c1)

set_option maxRecDepth 20000 in
theorem k_Na_raiseAboveFives_52 {l : Launch} {G : gG} {w0 w1 : va_W} {res : Option Value} {ad_n ar_n : Nat} {n_size n_gathered n_weight : Int32} {n_words : Nat → Int32} {x1 : Int32} {x2 : Int32} {x3 : Int32} {x4 : Int32} {v0 : Int32} {v2 : Int32} {r : Int32} {n_size' n_gathered' n_weight' : Int32} {n_words' : Nat → Int32} (hc : gCt l G m_Na_wordAt [.ref ad_n, .int v0] [oNa ad_n ar_n n_size n_gathered n_weight, aI G ar_n 100 n_words] (some (.int r)) [oNa ad_n ar_n n_size' n_gathered' n_weight', aI G ar_n 100 n_words']) (k : gAt l G m_Na_raiseAboveFives w0 res w1 55 [(0, .ref ad_n), (1, .int x1), (2, .int x2), (3, .int x3), (4, .int x4)] [.int r, .int v2, .ref ar_n] [oNa ad_n ar_n n_size' n_gathered' n_weight', aI G ar_n 100 n_words']) : gAt l G m_Na_raiseAboveFives w0 res w1 52 [(0, .ref ad_n), (1, .int x1), (2, .int x2), (3, .int x3), (4, .int x4)] [.int v0, .ref ad_n, .int v2, .ref ar_n] [oNa ad_n ar_n n_size n_gathered n_weight, aI G ar_n 100 n_words] :=
  a_callV (As := [.int v0]) (rest := [.int v2, .ref ar_n]) (wc := [oNa ad_n ar_n n_size n_gathered n_weight, aI G ar_n 100 n_words]) (wr := []) (w1c := [oNa ad_n ar_n n_size' n_gathered' n_weight', aI G ar_n 100 n_words']) (r := (some (.int r))) [oNa ad_n ar_n n_size' n_gathered' n_weight', aI G ar_n 100 n_words'] [0, 1] [] [0, 1] (ci := 1) (q0 := 0) hc dNa_raiseAboveFives_52 rfl ok_Na_wordAt ⟨Nat.le_of_ble_eq_true rfl, Nat.le_of_ble_eq_true rfl⟩ w_531 w_533 sl_39 rfl rfl rfl rfl rfl rfl (by decide) rfl rfl (Nat.le_of_ble_eq_true rfl) k

set_option maxRecDepth 20000 in
theorem b_Na_raiseAboveFives_55 {l : Launch} {G : gG} {w0 w1 : va_W} {res : Option Value} {ad_n ar_n : Nat} {n_size n_gathered n_weight : Int32} {n_words : Nat → Int32} {x1 : Int32} {x2 : Int32} {x3 : Int32} {x4 : Int32} {v0 : Int32} {v1 : Int32} (s0 : vp_in v1 100) (k1 : gAt l G m_Na_raiseAboveFives w0 res w1 36 [(0, .ref ad_n), (1, .int x1), (2, .int x2), (3, .int x3), (4, .int (x4 + (-1 : Int32)))] [] [oNa ad_n ar_n n_size n_gathered n_weight, aI G ar_n 100 (upd n_words (Int32.toNatClampNeg v1) v0)]) : gAt l G m_Na_raiseAboveFives w0 res w1 55 [(0, .ref ad_n), (1, .int x1), (2, .int x2), (3, .int x3), (4, .int x4)] [.int v0, .int v1, .ref ar_n] [oNa ad_n ar_n n_size n_gathered n_weight, aI G ar_n 100 n_words] := by
  refine a_iast 1 [oNa ad_n ar_n n_size n_gathered n_weight, aI G ar_n 100 (upd n_words (Int32.toNatClampNeg v1) v0)] dNa_raiseAboveFives_55 rfl s0 rfl ?_
  refine a_iinc 4 (x4 + (-1 : Int32)) [(4, .int (x4 + (-1 : Int32))), (0, .ref ad_n), (1, .int x1), (2, .int x2), (3, .int x3)] dNa_raiseAboveFives_56 rfl rfl (by decide) rfl ?_
  refine a_goto 36 dNa_raiseAboveFives_59 (by decide) ?_
  refine a_lv [(0, .ref ad_n), (1, .int x1), (2, .int x2), (3, .int x3), (4, .int (x4 + (-1 : Int32)))] [1, 2, 3, 4, 0] rfl ?_
  exact k1

set_option maxRecDepth 20000 in
theorem b_Na_wordAt_0 {l : Launch} {G : gG} {w0 w1 : va_W} {res : Option Value} {ad_n ar_n : Nat} {n_size n_gathered n_weight : Int32} {n_words : Nat → Int32} {x1 : Int32} (k0 : (x1 < 0) → gAt l G m_Na_wordAt w0 res w1 30 [(0, .ref ad_n), (1, .int x1)] [] [oNa ad_n ar_n n_size n_gathered n_weight, aI G ar_n 100 n_words]) (k1 : (¬ x1 < 0) → (n_size ≤ x1) → gAt l G m_Na_wordAt w0 res w1 30 [(0, .ref ad_n), (1, .int x1)] [] [oNa ad_n ar_n n_size n_gathered n_weight, aI G ar_n 100 n_words]) (k2 : (¬ x1 < 0) → (¬ n_size ≤ x1) → ((100 : Int32) ≤ x1) → gAt l G m_Na_wordAt w0 res w1 30 [(0, .ref ad_n), (1, .int x1)] [] [oNa ad_n ar_n n_size n_gathered n_weight, aI G ar_n 100 n_words]) (s3 : (¬ x1 < 0) → (¬ n_size ≤ x1) → (¬ (100 : Int32) ≤ x1) → vp_in x1 100) (k4 : (¬ x1 < 0) → (¬ n_size ≤ x1) → (¬ (100 : Int32) ≤ x1) → gAt l G m_Na_wordAt w0 res w1 31 [(0, .ref ad_n), (1, .int x1)] [.int (n_words (Int32.toNatClampNeg x1))] [oNa ad_n ar_n n_size n_gathered n_weight, aI G ar_n 100 n_words]) : gAt l G m_Na_wordAt w0 res w1 0 [(0, .ref ad_n), (1, .int x1)] [] [oNa ad_n ar_n n_size n_gathered n_weight, aI G ar_n 100 n_words] := by
  refine a_iload_n 1 dNa_wordAt_0 rfl ?_
  refine a_if_lt 30 dNa_wordAt_1 (by decide) (fun c1 => ?_) (fun c1 => ?_)
  · exact (k0 c1)
  · refine a_iload_n 1 dNa_wordAt_4 rfl ?_
    refine a_aload_n 0 dNa_wordAt_5 rfl ?_
    refine a_get (ci := 1) (kx := 1) 0 dNa_wordAt_6 rfl I_Na w_100 rfl (by decide) rfl ?_
    refine a_icmp_ge 30 dNa_wordAt_9 (by decide) (fun c2 => ?_) (fun c2 => ?_)
    · exact (k1 c1 c2)
    · refine a_iload_n 1 dNa_wordAt_12 rfl ?_
      refine a_aload_n 0 dNa_wordAt_13 rfl ?_
      refine a_get (ci := 1) (kx := 0) 0 dNa_wordAt_14 rfl I_Na w_99 rfl (by decide) rfl ?_
      refine a_ilen 1 (100 : Int32) dNa_wordAt_17 rfl rfl ?_
      refine a_icmp_ge 30 dNa_wordAt_18 (by decide) (fun c3 => ?_) (fun c3 => ?_)
      · exact (k2 c1 c2 c3)
      · refine a_aload_n 0 dNa_wordAt_21 rfl ?_
        refine a_get (ci := 1) (kx := 0) 0 dNa_wordAt_22 rfl I_Na w_99 rfl (by decide) rfl ?_
        refine a_iload_n 1 dNa_wordAt_25 rfl ?_
        refine a_iald 1 dNa_wordAt_26 rfl (s3 c1 c2 c3) ?_
        refine a_goto 31 dNa_wordAt_27 (by decide) ?_
        exact (k4 c1 c2 c3)

set_option maxRecDepth 20000 in
theorem b_Na_wordAt_30 {l : Launch} {G : gG} {w0 w1 : va_W} {res : Option Value} {ad_n ar_n : Nat} {n_size n_gathered n_weight : Int32} {n_words : Nat → Int32} {x1 : Int32} (k0 : gAt l G m_Na_wordAt w0 res w1 31 [(0, .ref ad_n), (1, .int x1)] [.int (0 : Int32)] [oNa ad_n ar_n n_size n_gathered n_weight, aI G ar_n 100 n_words]) : gAt l G m_Na_wordAt w0 res w1 30 [(0, .ref ad_n), (1, .int x1)] [] [oNa ad_n ar_n n_size n_gathered n_weight, aI G ar_n 100 n_words] := by
  refine a_iconst (0 : Int32) dNa_wordAt_30 (by decide) ?_
  exact k0

set_option maxRecDepth 20000 in
theorem b_Na_wordAt_31 {l : Launch} {G : gG} {w0 w1 : va_W} {res : Option Value} {ad_n ar_n : Nat} {n_size n_gathered n_weight : Int32} {n_words : Nat → Int32} {x1 : Int32} {v0 : Int32} (k0 : res = some (.int v0) ∧ [oNa ad_n ar_n n_size n_gathered n_weight, aI G ar_n 100 n_words] = w1) : gAt l G m_Na_wordAt w0 res w1 31 [(0, .ref ad_n), (1, .int x1)] [.int v0] [oNa ad_n ar_n n_size n_gathered n_weight, aI G ar_n 100 n_words] := by
  exact a_iret (st := []) dNa_wordAt_31 rfl k0.1 k0.2

set_option maxRecDepth 20000 in
theorem b_Na_divideByFives_0 {l : Launch} {G : gG} {w0 w1 : va_W} {res : Option Value} {ad_n ar_n : Nat} {n_size n_gathered n_weight : Int32} {n_words : Nat → Int32} {x1 : Int32} (k0 : gAt l G m_Na_divideByFives w0 res w1 4 [(0, .ref ad_n), (1, .int x1), (2, .int (0 : Int32)), (3, .int x1)] [] [oNa ad_n ar_n n_size n_gathered n_weight, aI G ar_n 100 n_words]) : gAt l G m_Na_divideByFives w0 res w1 0 [(0, .ref ad_n), (1, .int x1)] [] [oNa ad_n ar_n n_size n_gathered n_weight, aI G ar_n 100 n_words] := by
  refine a_iconst (0 : Int32) dNa_divideByFives_0 (by decide) ?_
  refine a_istore_n [(2, .int (0 : Int32)), (0, .ref ad_n), (1, .int x1)] dNa_divideByFives_1 rfl (by decide) rfl ?_
  refine a_iload_n 2 dNa_divideByFives_2 rfl ?_
  refine a_istore_n [(3, .int x1), (2, .int (0 : Int32)), (0, .ref ad_n), (1, .int x1)] dNa_divideByFives_3 rfl (by decide) rfl ?_
  refine a_lv [(0, .ref ad_n), (1, .int x1), (2, .int (0 : Int32)), (3, .int x1)] [2, 3, 1, 0] rfl ?_
  exact k0

set_option maxRecDepth 20000 in
theorem b_Na_divideByFives_4 {l : Launch} {G : gG} {w0 w1 : va_W} {res : Option Value} {ad_n ar_n : Nat} {n_size n_gathered n_weight : Int32} {n_words : Nat → Int32} {x1 : Int32} {x2 : Int32} {x3 : Int32} (k0 : (x3 ≤ 0) → narrow .boolean (.int x2) = .int x2 ∧ res = some (.int x2) ∧ [oNa ad_n ar_n n_size n_gathered n_weight, aI G ar_n 100 n_words] = w1) (k1 : (¬ x3 ≤ 0) → gAt l G m_Na_divideByFives w0 res w1 16 [(0, .ref ad_n), (1, .int x1), (2, .int x2), (3, .int x3)] [.int (if (13 : Int32) < x3 then (13 : Int32) else x3), .ref ad_n, .int x2] [oNa ad_n ar_n n_size n_gathered n_weight, aI G ar_n 100 n_words]) : gAt l G m_Na_divideByFives w0 res w1 4 [(0, .ref ad_n), (1, .int x1), (2, .int x2), (3, .int x3)] [] [oNa ad_n ar_n n_size n_gathered n_weight, aI G ar_n 100 n_words] := by
  refine a_iload_n 3 dNa_divideByFives_4 rfl ?_
  refine a_if_le 30 dNa_divideByFives_5 (by decide) (fun c1 => ?_) (fun c1 => ?_)
  · refine a_iload_n 2 dNa_divideByFives_30 rfl ?_
    exact a_zret (st := []) dNa_divideByFives_31 rfl (k0 c1).1 (k0 c1).2.1 (k0 c1).2.2
  · refine a_iload_n 2 dNa_divideByFives_8 rfl ?_
    refine a_aload_n 0 dNa_divideByFives_9 rfl ?_
    refine a_iload_n 3 dNa_divideByFives_10 rfl ?_
    refine a_bipush (13 : Int32) dNa_divideByFives_11 (by decide) ?_
    refine a_mmin dNa_divideByFives_13 w_521 w_198 w_12 w_199 (Nat.le_of_ble_eq_true rfl) (Nat.le_of_ble_eq_true rfl) ?_
    exact (k1 c1)

set_option maxRecDepth 20000 in
theorem k_Na_divideByFives_16 {l : Launch} {G : gG} {w0 w1 : va_W} {res : Option Value} {ad_n ar_n : Nat} {n_size n_gathered n_weight : Int32} {n_words : Nat → Int32} {x1 : Int32} {x2 : Int32} {x3 : Int32} {v0 : Int32} {v2 : Int32} {r : Int32} (hc : gCt l G m_Na_powerOfFive [.int v0] [] (some (.int r)) []) (k : gAt l G m_Na_divideByFives w0 res w1 19 [(0, .ref ad_n), (1, .int x1), (2, .int x2), (3, .int x3)] [.int r, .ref ad_n, .int v2] [oNa ad_n ar_n n_size n_gathered n_weight, aI G ar_n 100 n_words]) : gAt l G m_Na_divideByFives w0 res w1 16 [(0, .ref ad_n), (1, .int x1), (2, .int x2), (3, .int x3)] [.int v0, .ref ad_n, .int v2] [oNa ad_n ar_n n_size n_gathered n_weight, aI G ar_n 100 n_words] :=
  a_callS (As := [.int v0]) (rest := [.ref ad_n, .int v2]) (wc := []) (wr := [oNa ad_n ar_n n_size n_gathered n_weight, aI G ar_n 100 n_words]) (w1c := []) (r := (some (.int r))) [oNa ad_n ar_n n_size n_gathered n_weight, aI G ar_n 100 n_words] [] [0, 1] [0, 1] hc dNa_divideByFives_16 rfl ok_Na_powerOfFive ⟨Nat.le_of_ble_eq_true rfl, Nat.le_of_ble_eq_true rfl⟩ w_522 w_523 rfl rfl rfl rfl (by decide) rfl rfl (Nat.le_of_ble_eq_true rfl) k

set_option maxRecDepth 20000 in
theorem k_Na_divideByFives_19 {l : Launch} {G : gG} {w0 w1 : va_W} {res : Option Value} {ad_n ar_n : Nat} {n_size n_gathered n_weight : Int32} {n_words : Nat → Int32} {x1 : Int32} {x2 : Int32} {x3 : Int32} {v0 : Int32} {v2 : Int32} {r : Int32} {n_size' n_gathered' n_weight' : Int32} {n_words' : Nat → Int32} (hc : gCt l G m_Na_divide [.ref ad_n, .int v0] [oNa ad_n ar_n n_size n_gathered n_weight, aI G ar_n 100 n_words] (some (.int r)) [oNa ad_n ar_n n_size' n_gathered' n_weight', aI G ar_n 100 n_words']) (k : gAt l G m_Na_divideByFives w0 res w1 22 [(0, .ref ad_n), (1, .int x1), (2, .int x2), (3, .int x3)] [.int r, .int v2] [oNa ad_n ar_n n_size' n_gathered' n_weight', aI G ar_n 100 n_words']) : gAt l G m_Na_divideByFives w0 res w1 19 [(0, .ref ad_n), (1, .int x1), (2, .int x2), (3, .int x3)] [.int v0, .ref ad_n, .int v2] [oNa ad_n ar_n n_size n_gathered n_weight, aI G ar_n 100 n_words] :=
  a_callV (As := [.int v0]) (rest := [.int v2]) (wc := [oNa ad_n ar_n n_size n_gathered n_weight, aI G ar_n 100 n_words]) (wr := []) (w1c := [oNa ad_n ar_n n_size' n_gathered' n_weight', aI G ar_n 100 n_words']) (r := (some (.int r))) [oNa ad_n ar_n n_size' n_gathered' n_weight', aI G ar_n 100 n_words'] [0, 1] [] [0, 1] (ci := 1) (q0 := 0) hc dNa_divideByFives_19 rfl ok_Na_divide ⟨Nat.le_of_ble_eq_true rfl, Nat.le_of_ble_eq_true rfl⟩ w_539 w_541 sl_41 rfl rfl rfl rfl rfl rfl (by decide) rfl rfl (Nat.le_of_ble_eq_true rfl) k

set_option maxRecDepth 20000 in
theorem b_Na_divideByFives_22 {l : Launch} {G : gG} {w0 w1 : va_W} {res : Option Value} {ad_n ar_n : Nat} {n_size n_gathered n_weight : Int32} {n_words : Nat → Int32} {x1 : Int32} {x2 : Int32} {x3 : Int32} {v0 : Int32} {v1 : Int32} (k0 : gAt l G m_Na_divideByFives w0 res w1 4 [(0, .ref ad_n), (1, .int x1), (2, .int (v1 ||| v0)), (3, .int (x3 + (-13 : Int32)))] [] [oNa ad_n ar_n n_size n_gathered n_weight, aI G ar_n 100 n_words]) : gAt l G m_Na_divideByFives w0 res w1 22 [(0, .ref ad_n), (1, .int x1), (2, .int x2), (3, .int x3)] [.int v0, .int v1] [oNa ad_n ar_n n_size n_gathered n_weight, aI G ar_n 100 n_words] := by
  refine a_ior dNa_divideByFives_22 ?_
  refine a_istore_n [(2, .int (v1 ||| v0)), (0, .ref ad_n), (1, .int x1), (3, .int x3)] dNa_divideByFives_23 rfl (by decide) rfl ?_
  refine a_iinc 3 (x3 + (-13 : Int32)) [(3, .int (x3 + (-13 : Int32))), (2, .int (v1 ||| v0)), (0, .ref ad_n), (1, .int x1)] dNa_divideByFives_24 rfl rfl (by decide) rfl ?_
  refine a_goto 4 dNa_divideByFives_27 (by decide) ?_
  refine a_lv [(0, .ref ad_n), (1, .int x1), (2, .int (v1 ||| v0)), (3, .int (x3 + (-13 : Int32)))] [2, 3, 1, 0] rfl ?_
  exact k0

set_option maxRecDepth 20000 in
theorem b_Na_divide_0 {l : Launch} {G : gG} {w0 w1 : va_W} {res : Option Value} {ad_n ar_n : Nat} {n_size n_gathered n_weight : Int32} {n_words : Nat → Int32} {x1 : Int32} (k0 : ((1 : Int32) ≤ x1) → gAt l G m_Na_divide w0 res w1 25 [(0, .ref ad_n), (1, .int x1), (2, .long (0 : Int64)), (4, .int ((if (100 : Int32) < n_size then (100 : Int32) else n_size) - (1 : Int32)))] [] [oNa ad_n ar_n n_size n_gathered n_weight, aI G ar_n 100 n_words]) (k1 : (¬ (1 : Int32) ≤ x1) → narrow .boolean (.int (0 : Int32)) = .int (0 : Int32) ∧ res = some (.int (0 : Int32)) ∧ [oNa ad_n ar_n n_size n_gathered n_weight, aI G ar_n 100 n_words] = w1) : gAt l G m_Na_divide w0 res w1 0 [(0, .ref ad_n), (1, .int x1)] [] [oNa ad_n ar_n n_size n_gathered n_weight, aI G ar_n 100 n_words] := by
  refine a_iload_n 1 dNa_divide_0 rfl ?_
  refine a_iconst (1 : Int32) dNa_divide_1 (by decide) ?_
  refine a_icmp_ge 7 dNa_divide_2 (by decide) (fun c1 => ?_) (fun c1 => ?_)
  · refine a_lconst (0 : Int64) dNa_divide_7 (by decide) ?_
    refine a_lstore_n [(2, .long (0 : Int64)), (0, .ref ad_n), (1, .int x1)] dNa_divide_8 rfl (by decide) rfl ?_
    refine a_aload_n 1 dNa_divide_9 rfl ?_
    refine a_get (ci := 1) (kx := 1) 0 dNa_divide_10 rfl I_Na w_100 rfl (by decide) rfl ?_
    refine a_aload_n 1 dNa_divide_13 rfl ?_
    refine a_get (ci := 1) (kx := 0) 0 dNa_divide_14 rfl I_Na w_99 rfl (by decide) rfl ?_
    refine a_ilen 1 (100 : Int32) dNa_divide_17 rfl rfl ?_
    refine a_mmin dNa_divide_18 w_521 w_198 w_12 w_199 (Nat.le_of_ble_eq_true rfl) (Nat.le_of_ble_eq_true rfl) ?_
    refine a_iconst (1 : Int32) dNa_divide_21 (by decide) ?_
    refine a_isub dNa_divide_22 ?_
    refine a_istore [(4, .int ((if (100 : Int32) < n_size then (100 : Int32) else n_size) - (1 : Int32))), (2, .long (0 : Int64)), (0, .ref ad_n), (1, .int x1)] dNa_divide_23 (by decide) rfl ?_
    refine a_lv [(0, .ref ad_n), (1, .int x1), (2, .long (0 : Int64)), (4, .int ((if (100 : Int32) < n_size then (100 : Int32) else n_size) - (1 : Int32)))] [2, 3, 1, 0] rfl ?_
    exact (k0 c1)
  · refine a_iconst (0 : Int32) dNa_divide_5 (by decide) ?_
    exact a_zret (st := []) dNa_divide_6 rfl (k1 c1).1 (k1 c1).2.1 (k1 c1).2.2

set_option maxRecDepth 20000 in
theorem b_Na_divide_25 {l : Launch} {G : gG} {w0 w1 : va_W} {res : Option Value} {ad_n ar_n : Nat} {n_size n_gathered n_weight : Int32} {n_words : Nat → Int32} {x1 : Int32} {x2 : Int64} {x4 : Int32} (k0 : (x4 < 0) → gAt l G m_Na_divide w0 res w1 81 [(0, .ref ad_n), (1, .int x1), (2, .long x2), (4, .int x4)] [] [oNa ad_n ar_n n_size n_gathered n_weight, aI G ar_n 100 n_words]) (s1 : (¬ x4 < 0) → vp_in x4 100) (s2 : (¬ x4 < 0) → ¬ (Int32.toInt64 x1) = 0) (s3 : (¬ x4 < 0) → vp_in x4 100) (k4 : (¬ x4 < 0) → gAt l G m_Na_divide w0 res w1 25 [(0, .ref ad_n), (1, .int x1), (2, .long (((x2 <<< ((Int32.toInt64 (32 : Int32)) &&& 63)) ||| ((Int32.toInt64 (n_words (Int32.toNatClampNeg x4))) &&& (4294967295 : Int64))) - ((((x2 <<< ((Int32.toInt64 (32 : Int32)) &&& 63)) ||| ((Int32.toInt64 (n_words (Int32.toNatClampNeg x4))) &&& (4294967295 : Int64))) / (Int32.toInt64 x1)) * (Int32.toInt64 x1)))), (4, .int (x4 + (-1 : Int32)))] [] [oNa ad_n ar_n n_size n_gathered n_weight, aI G ar_n 100 (upd n_words (Int32.toNatClampNeg x4) (Int64.toInt32 (((x2 <<< ((Int32.toInt64 (32 : Int32)) &&& 63)) ||| ((Int32.toInt64 (n_words (Int32.toNatClampNeg x4))) &&& (4294967295 : Int64))) / (Int32.toInt64 x1))))]) : gAt l G m_Na_divide w0 res w1 25 [(0, .ref ad_n), (1, .int x1), (2, .long x2), (4, .int x4)] [] [oNa ad_n ar_n n_size n_gathered n_weight, aI G ar_n 100 n_words] := by
  refine a_iload 3 dNa_divide_25 rfl ?_
  refine a_if_lt 81 dNa_divide_27 (by decide) (fun c1 => ?_) (fun c1 => ?_)
  · exact (k0 c1)
  · refine a_lload_n 2 dNa_divide_30 rfl ?_
    refine a_bipush (32 : Int32) dNa_divide_31 (by decide) ?_
    refine a_lshl dNa_divide_33 ?_
    refine a_aload_n 0 dNa_divide_34 rfl ?_
    refine a_get (ci := 1) (kx := 0) 0 dNa_divide_35 rfl I_Na w_99 rfl (by decide) rfl ?_
    refine a_iload 3 dNa_divide_38 rfl ?_
    refine a_iald 1 dNa_divide_40 rfl (s1 c1) ?_
    refine a_i2l dNa_divide_41 ?_
    refine a_ldc2 (4294967295 : Int64) dNa_divide_42 w_511 ?_
    refine a_land dNa_divide_45 ?_
    refine a_lor dNa_divide_46 ?_
    refine a_lstore [(5, .long ((x2 <<< ((Int32.toInt64 (32 : Int32)) &&& 63)) ||| ((Int32.toInt64 (n_words (Int32.toNatClampNeg x4))) &&& (4294967295 : Int64)))), (0, .ref ad_n), (1, .int x1), (2, .long x2), (4, .int x4)] dNa_divide_47 (by decide) rfl ?_
    refine a_lload 0 dNa_divide_49 rfl ?_
    refine a_iload_n 2 dNa_divide_51 rfl ?_
    refine a_i2l dNa_divide_52 ?_
    refine a_ldiv dNa_divide_53 (s2 c1) ?_
    refine a_lstore [(7, .long (((x2 <<< ((Int32.toInt64 (32 : Int32)) &&& 63)) ||| ((Int32.toInt64 (n_words (Int32.toNatClampNeg x4))) &&& (4294967295 : Int64))) / (Int32.toInt64 x1))), (5, .long ((x2 <<< ((Int32.toInt64 (32 : Int32)) &&& 63)) ||| ((Int32.toInt64 (n_words (Int32.toNatClampNeg x4))) &&& (4294967295 : Int64)))), (0, .ref ad_n), (1, .int x1), (2, .long x2), (4, .int x4)] dNa_divide_54 (by decide) rfl ?_
    refine a_aload_n 2 dNa_divide_56 rfl ?_
    refine a_get (ci := 1) (kx := 0) 0 dNa_divide_57 rfl I_Na w_99 rfl (by decide) rfl ?_
    refine a_iload 5 dNa_divide_60 rfl ?_
    refine a_lload 0 dNa_divide_62 rfl ?_
    refine a_l2i dNa_divide_64 ?_
    refine a_iast 1 [oNa ad_n ar_n n_size n_gathered n_weight, aI G ar_n 100 (upd n_words (Int32.toNatClampNeg x4) (Int64.toInt32 (((x2 <<< ((Int32.toInt64 (32 : Int32)) &&& 63)) ||| ((Int32.toInt64 (n_words (Int32.toNatClampNeg x4))) &&& (4294967295 : Int64))) / (Int32.toInt64 x1))))] dNa_divide_65 rfl (s3 c1) rfl ?_
    refine a_lload 1 dNa_divide_66 rfl ?_
    refine a_lload 0 dNa_divide_68 rfl ?_
    refine a_iload_n 3 dNa_divide_70 rfl ?_
    refine a_i2l dNa_divide_71 ?_
    refine a_lmul dNa_divide_72 ?_
    refine a_lsub dNa_divide_73 ?_
    refine a_lstore_n [(2, .long (((x2 <<< ((Int32.toInt64 (32 : Int32)) &&& 63)) ||| ((Int32.toInt64 (n_words (Int32.toNatClampNeg x4))) &&& (4294967295 : Int64))) - ((((x2 <<< ((Int32.toInt64 (32 : Int32)) &&& 63)) ||| ((Int32.toInt64 (n_words (Int32.toNatClampNeg x4))) &&& (4294967295 : Int64))) / (Int32.toInt64 x1)) * (Int32.toInt64 x1)))), (7, .long (((x2 <<< ((Int32.toInt64 (32 : Int32)) &&& 63)) ||| ((Int32.toInt64 (n_words (Int32.toNatClampNeg x4))) &&& (4294967295 : Int64))) / (Int32.toInt64 x1))), (5, .long ((x2 <<< ((Int32.toInt64 (32 : Int32)) &&& 63)) ||| ((Int32.toInt64 (n_words (Int32.toNatClampNeg x4))) &&& (4294967295 : Int64)))), (0, .ref ad_n), (1, .int x1), (4, .int x4)] dNa_divide_74 rfl (by decide) rfl ?_
    refine a_iinc 5 (x4 + (-1 : Int32)) [(4, .int (x4 + (-1 : Int32))), (2, .long (((x2 <<< ((Int32.toInt64 (32 : Int32)) &&& 63)) ||| ((Int32.toInt64 (n_words (Int32.toNatClampNeg x4))) &&& (4294967295 : Int64))) - ((((x2 <<< ((Int32.toInt64 (32 : Int32)) &&& 63)) ||| ((Int32.toInt64 (n_words (Int32.toNatClampNeg x4))) &&& (4294967295 : Int64))) / (Int32.toInt64 x1)) * (Int32.toInt64 x1)))), (7, .long (((x2 <<< ((Int32.toInt64 (32 : Int32)) &&& 63)) ||| ((Int32.toInt64 (n_words (Int32.toNatClampNeg x4))) &&& (4294967295 : Int64))) / (Int32.toInt64 x1))), (5, .long ((x2 <<< ((Int32.toInt64 (32 : Int32)) &&& 63)) ||| ((Int32.toInt64 (n_words (Int32.toNatClampNeg x4))) &&& (4294967295 : Int64)))), (0, .ref ad_n), (1, .int x1)] dNa_divide_75 rfl rfl (by decide) rfl ?_
    refine a_goto 25 dNa_divide_78 (by decide) ?_
    refine a_lv [(0, .ref ad_n), (1, .int x1), (2, .long (((x2 <<< ((Int32.toInt64 (32 : Int32)) &&& 63)) ||| ((Int32.toInt64 (n_words (Int32.toNatClampNeg x4))) &&& (4294967295 : Int64))) - ((((x2 <<< ((Int32.toInt64 (32 : Int32)) &&& 63)) ||| ((Int32.toInt64 (n_words (Int32.toNatClampNeg x4))) &&& (4294967295 : Int64))) / (Int32.toInt64 x1)) * (Int32.toInt64 x1)))), (4, .int (x4 + (-1 : Int32)))] [4, 5, 1, 0] rfl ?_
    exact (k4 c1)

set_option maxRecDepth 20000 in
theorem b_Na_divide_81 {l : Launch} {G : gG} {w0 w1 : va_W} {res : Option Value} {ad_n ar_n : Nat} {n_size n_gathered n_weight : Int32} {n_words : Nat → Int32} {x1 : Int32} {x2 : Int64} {x4 : Int32} (k0 : (n_size ≤ 0) → gAt l G m_Na_divide w0 res w1 114 [(0, .ref ad_n), (1, .int x1), (2, .long x2), (4, .int x4)] [] [oNa ad_n ar_n n_size n_gathered n_weight, aI G ar_n 100 n_words]) (k1 : (¬ n_size ≤ 0) → gAt l G m_Na_divide w0 res w1 95 [(0, .ref ad_n), (1, .int x1), (2, .long x2), (4, .int x4)] [.int (n_size - (1 : Int32)), .ref ad_n] [oNa ad_n ar_n n_size n_gathered n_weight, aI G ar_n 100 n_words]) : gAt l G m_Na_divide w0 res w1 81 [(0, .ref ad_n), (1, .int x1), (2, .long x2), (4, .int x4)] [] [oNa ad_n ar_n n_size n_gathered n_weight, aI G ar_n 100 n_words] := by
  refine a_aload_n 0 dNa_divide_81 rfl ?_
  refine a_get (ci := 1) (kx := 1) 0 dNa_divide_82 rfl I_Na w_100 rfl (by decide) rfl ?_
  refine a_if_le 114 dNa_divide_85 (by decide) (fun c1 => ?_) (fun c1 => ?_)
  · exact (k0 c1)
  · refine a_aload_n 0 dNa_divide_88 rfl ?_
    refine a_aload_n 0 dNa_divide_89 rfl ?_
    refine a_get (ci := 1) (kx := 1) 0 dNa_divide_90 rfl I_Na w_100 rfl (by decide) rfl ?_
    refine a_iconst (1 : Int32) dNa_divide_93 (by decide) ?_
    refine a_isub dNa_divide_94 ?_
    exact (k1 c1)

set_option maxRecDepth 20000 in
theorem k_Na_divide_95 {l : Launch} {G : gG} {w0 w1 : va_W} {res : Option Value} {ad_n ar_n : Nat} {n_size n_gathered n_weight : Int32} {n_words : Nat → Int32} {x1 : Int32} {x2 : Int64} {x4 : Int32} {v0 : Int32} {r : Int32} {n_size' n_gathered' n_weight' : Int32} {n_words' : Nat → Int32} (hc : gCt l G m_Na_wordAt [.ref ad_n, .int v0] [oNa ad_n ar_n n_size n_gathered n_weight, aI G ar_n 100 n_words] (some (.int r)) [oNa ad_n ar_n n_size' n_gathered' n_weight', aI G ar_n 100 n_words']) (k : gAt l G m_Na_divide w0 res w1 98 [(0, .ref ad_n), (1, .int x1), (2, .long x2), (4, .int x4)] [.int r] [oNa ad_n ar_n n_size' n_gathered' n_weight', aI G ar_n 100 n_words']) : gAt l G m_Na_divide w0 res w1 95 [(0, .ref ad_n), (1, .int x1), (2, .long x2), (4, .int x4)] [.int v0, .ref ad_n] [oNa ad_n ar_n n_size n_gathered n_weight, aI G ar_n 100 n_words] :=
  a_callV (As := [.int v0]) (rest := []) (wc := [oNa ad_n ar_n n_size n_gathered n_weight, aI G ar_n 100 n_words]) (wr := []) (w1c := [oNa ad_n ar_n n_size' n_gathered' n_weight', aI G ar_n 100 n_words']) (r := (some (.int r))) [oNa ad_n ar_n n_size' n_gathered' n_weight', aI G ar_n 100 n_words'] [0, 1] [] [0, 1] (ci := 1) (q0 := 0) hc dNa_divide_95 rfl ok_Na_wordAt ⟨Nat.le_of_ble_eq_true rfl, Nat.le_of_ble_eq_true rfl⟩ w_531 w_533 sl_39 rfl rfl rfl rfl rfl rfl (by decide) rfl rfl (Nat.le_of_ble_eq_true rfl) k

set_option maxRecDepth 20000 in
theorem b_Na_divide_98 {l : Launch} {G : gG} {w0 w1 : va_W} {res : Option Value} {ad_n ar_n : Nat} {n_size n_gathered n_weight : Int32} {n_words : Nat → Int32} {x1 : Int32} {x2 : Int64} {x4 : Int32} {v0 : Int32} (k0 : (¬ v0 = 0) → gAt l G m_Na_divide w0 res w1 114 [(0, .ref ad_n), (1, .int x1), (2, .long x2), (4, .int x4)] [] [oNa ad_n ar_n n_size n_gathered n_weight, aI G ar_n 100 n_words]) (k1 : (v0 = 0) → gAt l G m_Na_divide w0 res w1 81 [(0, .ref ad_n), (1, .int x1), (2, .long x2), (4, .int x4)] [] [oNa ad_n ar_n (n_size - (1 : Int32)) n_gathered n_weight, aI G ar_n 100 n_words]) : gAt l G m_Na_divide w0 res w1 98 [(0, .ref ad_n), (1, .int x1), (2, .long x2), (4, .int x4)] [.int v0] [oNa ad_n ar_n n_size n_gathered n_weight, aI G ar_n 100 n_words] := by
  refine a_if_ne 114 dNa_divide_98 (by decide) (fun c1 => ?_) (fun c1 => ?_)
  · exact (k0 c1)
  · refine a_aload_n 0 dNa_divide_101 rfl ?_
    refine a_dup dNa_divide_102 rfl ?_
    refine a_get (ci := 1) (kx := 1) 0 dNa_divide_103 rfl I_Na w_100 rfl (by decide) rfl ?_
    refine a_iconst (1 : Int32) dNa_divide_106 (by decide) ?_
    refine a_isub dNa_divide_107 ?_
    refine a_put (ci := 1) (kx := 1) ty_Na 0 [oNa ad_n ar_n (n_size - (1 : Int32)) n_gathered n_weight, aI G ar_n 100 n_words] dNa_divide_108 rfl I_Na tyo_Na nmo_Na w_100 rfl (by decide) rfl rfl rfl (Nat.le_of_ble_eq_true rfl) rfl ?_
    refine a_goto 81 dNa_divide_111 (by decide) ?_
    exact (k1 c1)

set_option maxRecDepth 20000 in
theorem b_Na_divide_114 {l : Launch} {G : gG} {w0 w1 : va_W} {res : Option Value} {ad_n ar_n : Nat} {n_size n_gathered n_weight : Int32} {n_words : Nat → Int32} {x1 : Int32} {x2 : Int64} {x4 : Int32} (k0 : ((lg_cmp x2 (0 : Int64)) = 0) → gAt l G m_Na_divide w0 res w1 125 [(0, .ref ad_n), (1, .int x1), (2, .long x2), (4, .int x4)] [.int (0 : Int32)] [oNa ad_n ar_n n_size n_gathered n_weight, aI G ar_n 100 n_words]) (k1 : (¬ (lg_cmp x2 (0 : Int64)) = 0) → gAt l G m_Na_divide w0 res w1 125 [(0, .ref ad_n), (1, .int x1), (2, .long x2), (4, .int x4)] [.int (1 : Int32)] [oNa ad_n ar_n n_size n_gathered n_weight, aI G ar_n 100 n_words]) : gAt l G m_Na_divide w0 res w1 114 [(0, .ref ad_n), (1, .int x1), (2, .long x2), (4, .int x4)] [] [oNa ad_n ar_n n_size n_gathered n_weight, aI G ar_n 100 n_words] := by
  refine a_lload_n 2 dNa_divide_114 rfl ?_
  refine a_lconst (0 : Int64) dNa_divide_115 (by decide) ?_
  refine a_lcmp dNa_divide_116 ?_
  refine a_if_eq 124 dNa_divide_117 (by decide) (fun c1 => ?_) (fun c1 => ?_)
  · refine a_iconst (0 : Int32) dNa_divide_124 (by decide) ?_
    exact (k0 c1)
  · refine a_iconst (1 : Int32) dNa_divide_120 (by decide) ?_
    refine a_goto 125 dNa_divide_121 (by decide) ?_
    exact (k1 c1)

set_option maxRecDepth 20000 in
theorem b_Na_divide_125 {l : Launch} {G : gG} {w0 w1 : va_W} {res : Option Value} {ad_n ar_n : Nat} {n_size n_gathered n_weight : Int32} {n_words : Nat → Int32} {x1 : Int32} {x2 : Int64} {x4 : Int32} {v0 : Int32} (k0 : narrow .boolean (.int v0) = .int v0 ∧ res = some (.int v0) ∧ [oNa ad_n ar_n n_size n_gathered n_weight, aI G ar_n 100 n_words] = w1) : gAt l G m_Na_divide w0 res w1 125 [(0, .ref ad_n), (1, .int x1), (2, .long x2), (4, .int x4)] [.int v0] [oNa ad_n ar_n n_size n_gathered n_weight, aI G ar_n 100 n_words] := by
  exact a_zret (st := []) dNa_divide_125 rfl k0.1 k0.2.1 k0.2.2
