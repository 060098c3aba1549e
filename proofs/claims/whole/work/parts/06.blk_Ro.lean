set_option maxRecDepth 20000 in
theorem b_Ro_round_0 {l : Launch} {G : gG} {w0 w1 : va_W} {res : Option Value} {ad_r ad_s : Nat} {r_k r_infinite r_lies s_place s_rest : Int32} {r_m s_lead : Int64} {i2 : Nat} (s0 : i2 < 2) (s1 : i2 < 2) (k2 : (¬ (lg_cmp s_lead (0 : Int64)) = 0) → (((if (g_eF1.2.2.2.getD i2 0) < ((s_place + (63 : Int32)) - (g_eF0.2.2.2.getD i2 0)) then ((s_place + (63 : Int32)) - (g_eF0.2.2.2.getD i2 0)) else (g_eF1.2.2.2.getD i2 0)) - s_place) ≤ (63 : Int32)) → gAt l G m_Ro_round w0 res w1 74 [(0, .ref ad_r), (1, .ref ad_s), (2, .ref (g_adE G i2)), (3, .int ((if (g_eF1.2.2.2.getD i2 0) < ((s_place + (63 : Int32)) - (g_eF0.2.2.2.getD i2 0)) then ((s_place + (63 : Int32)) - (g_eF0.2.2.2.getD i2 0)) else (g_eF1.2.2.2.getD i2 0)) - s_place))] [.int ((if (g_eF1.2.2.2.getD i2 0) < ((s_place + (63 : Int32)) - (g_eF0.2.2.2.getD i2 0)) then ((s_place + (63 : Int32)) - (g_eF0.2.2.2.getD i2 0)) else (g_eF1.2.2.2.getD i2 0)) - s_place), .ref ad_s, .ref ad_r] [oRo ad_r r_m (if (g_eF1.2.2.2.getD i2 0) < ((s_place + (63 : Int32)) - (g_eF0.2.2.2.getD i2 0)) then ((s_place + (63 : Int32)) - (g_eF0.2.2.2.getD i2 0)) else (g_eF1.2.2.2.getD i2 0)) (0 : Int32) r_lies, oSi ad_s s_lead s_place s_rest]) (k3 : (¬ (lg_cmp s_lead (0 : Int64)) = 0) → (¬ ((if (g_eF1.2.2.2.getD i2 0) < ((s_place + (63 : Int32)) - (g_eF0.2.2.2.getD i2 0)) then ((s_place + (63 : Int32)) - (g_eF0.2.2.2.getD i2 0)) else (g_eF1.2.2.2.getD i2 0)) - s_place) ≤ (63 : Int32)) → gAt l G m_Ro_round w0 res w1 65 [(0, .ref ad_r), (1, .ref ad_s), (2, .ref (g_adE G i2)), (3, .int ((if (g_eF1.2.2.2.getD i2 0) < ((s_place + (63 : Int32)) - (g_eF0.2.2.2.getD i2 0)) then ((s_place + (63 : Int32)) - (g_eF0.2.2.2.getD i2 0)) else (g_eF1.2.2.2.getD i2 0)) - s_place))] [.int (-1 : Int32), .long (0 : Int64), .ref ad_r] [oRo ad_r r_m (if (g_eF1.2.2.2.getD i2 0) < ((s_place + (63 : Int32)) - (g_eF0.2.2.2.getD i2 0)) then ((s_place + (63 : Int32)) - (g_eF0.2.2.2.getD i2 0)) else (g_eF1.2.2.2.getD i2 0)) (0 : Int32) r_lies, oSi ad_s s_lead s_place s_rest]) (k4 : ((lg_cmp s_lead (0 : Int64)) = 0) → gAt l G m_Ro_round w0 res w1 50 [(0, .ref ad_r), (1, .ref ad_s), (2, .ref (g_adE G i2)), (3, .int ((if (g_eF1.2.2.2.getD i2 0) < ((s_place + (63 : Int32)) - (g_eF0.2.2.2.getD i2 0)) then ((s_place + (63 : Int32)) - (g_eF0.2.2.2.getD i2 0)) else (g_eF1.2.2.2.getD i2 0)) - s_place))] [.int (0 : Int32), .long (0 : Int64), .ref ad_r] [oRo ad_r r_m (if (g_eF1.2.2.2.getD i2 0) < ((s_place + (63 : Int32)) - (g_eF0.2.2.2.getD i2 0)) then ((s_place + (63 : Int32)) - (g_eF0.2.2.2.getD i2 0)) else (g_eF1.2.2.2.getD i2 0)) (0 : Int32) r_lies, oSi ad_s s_lead s_place s_rest]) : gAt l G m_Ro_round w0 res w1 0 [(0, .ref ad_r), (1, .ref ad_s), (2, .ref (g_adE G i2))] [] [oRo ad_r r_m r_k r_infinite r_lies, oSi ad_s s_lead s_place s_rest] := by
  refine a_aload_n 0 dRo_round_0 rfl ?_
  refine a_aload_n 2 dRo_round_1 rfl ?_
  refine a_getEN (q := g_eF1) dRo_round_2 g_in1 s0 nf_mem_860 ?_
  refine a_aload_n 1 dRo_round_5 rfl ?_
  refine a_getN (ci := 4) (kx := 1) 1 dRo_round_6 rfl I_Si nf_mem_126 rfl (by decide) rfl ?_
  refine a_bipush (63 : Int32) dRo_round_9 (by decide) ?_
  refine a_iadd dRo_round_11 ?_
  refine a_aload_n 2 dRo_round_12 rfl ?_
  refine a_getEN (q := g_eF0) dRo_round_13 g_in0 s1 nf_mem_861 ?_
  refine a_isub dRo_round_16 ?_
  refine a_mmax dRo_round_17 w_553 w_554 w_12 w_555 (Nat.le_of_ble_eq_true rfl) (Nat.le_of_ble_eq_true rfl) ?_
  refine a_put (ci := 3) (kx := 1) ty_Ro 0 [oRo ad_r r_m (if (g_eF1.2.2.2.getD i2 0) < ((s_place + (63 : Int32)) - (g_eF0.2.2.2.getD i2 0)) then ((s_place + (63 : Int32)) - (g_eF0.2.2.2.getD i2 0)) else (g_eF1.2.2.2.getD i2 0)) r_infinite r_lies, oSi ad_s s_lead s_place s_rest] dRo_round_20 rfl I_Ro tyo_Ro nmo_Ro w_144 rfl (by decide) rfl rfl rfl (Nat.le_of_ble_eq_true rfl) rfl ?_
  refine a_aload_n 0 dRo_round_23 rfl ?_
  refine a_iconst (0 : Int32) dRo_round_24 (by decide) ?_
  refine a_put (ci := 3) (kx := 2) ty_Ro 0 [oRo ad_r r_m (if (g_eF1.2.2.2.getD i2 0) < ((s_place + (63 : Int32)) - (g_eF0.2.2.2.getD i2 0)) then ((s_place + (63 : Int32)) - (g_eF0.2.2.2.getD i2 0)) else (g_eF1.2.2.2.getD i2 0)) (0 : Int32) r_lies, oSi ad_s s_lead s_place s_rest] dRo_round_25 rfl I_Ro tyo_Ro nmo_Ro w_145 rfl (by decide) rfl (by decide) (by decide) (Nat.le_of_ble_eq_true rfl) rfl ?_
  refine a_aload_n 0 dRo_round_28 rfl ?_
  refine a_get (ci := 3) (kx := 1) 0 dRo_round_29 rfl I_Ro w_144 rfl (by decide) rfl ?_
  refine a_aload_n 1 dRo_round_32 rfl ?_
  refine a_getN (ci := 4) (kx := 1) 1 dRo_round_33 rfl I_Si nf_mem_126 rfl (by decide) rfl ?_
  refine a_isub dRo_round_36 ?_
  refine a_istore_n [(3, .int ((if (g_eF1.2.2.2.getD i2 0) < ((s_place + (63 : Int32)) - (g_eF0.2.2.2.getD i2 0)) then ((s_place + (63 : Int32)) - (g_eF0.2.2.2.getD i2 0)) else (g_eF1.2.2.2.getD i2 0)) - s_place)), (0, .ref ad_r), (1, .ref ad_s), (2, .ref (g_adE G i2))] dRo_round_37 rfl (by decide) rfl ?_
  refine a_aload_n 2 dRo_round_38 rfl ?_
  refine a_getN (ci := 4) (kx := 0) 1 dRo_round_39 rfl I_Si nf_mem_125 rfl (by decide) rfl ?_
  refine a_lconst (0 : Int64) dRo_round_42 (by decide) ?_
  refine a_lcmp dRo_round_43 ?_
  refine a_if_ne 56 dRo_round_44 (by decide) (fun c1 => ?_) (fun c1 => ?_)
  · refine a_iload_n 0 dRo_round_56 rfl ?_
    refine a_bipush (63 : Int32) dRo_round_57 (by decide) ?_
    refine a_icmp_le 71 dRo_round_59 (by decide) (fun c2 => ?_) (fun c2 => ?_)
    · refine a_aload_n 1 dRo_round_71 rfl ?_
      refine a_aload_n 2 dRo_round_72 rfl ?_
      refine a_iload_n 0 dRo_round_73 rfl ?_
      refine a_lv [(0, .ref ad_r), (1, .ref ad_s), (2, .ref (g_adE G i2)), (3, .int ((if (g_eF1.2.2.2.getD i2 0) < ((s_place + (63 : Int32)) - (g_eF0.2.2.2.getD i2 0)) then ((s_place + (63 : Int32)) - (g_eF0.2.2.2.getD i2 0)) else (g_eF1.2.2.2.getD i2 0)) - s_place))] [1, 2, 3, 0] rfl ?_
      exact (k2 c1 c2)
    · refine a_aload_n 1 dRo_round_62 rfl ?_
      refine a_lconst (0 : Int64) dRo_round_63 (by decide) ?_
      refine a_iconst (-1 : Int32) dRo_round_64 (by decide) ?_
      refine a_lv [(0, .ref ad_r), (1, .ref ad_s), (2, .ref (g_adE G i2)), (3, .int ((if (g_eF1.2.2.2.getD i2 0) < ((s_place + (63 : Int32)) - (g_eF0.2.2.2.getD i2 0)) then ((s_place + (63 : Int32)) - (g_eF0.2.2.2.getD i2 0)) else (g_eF1.2.2.2.getD i2 0)) - s_place))] [1, 2, 3, 0] rfl ?_
      exact (k3 c1 c2)
  · refine a_aload_n 1 dRo_round_47 rfl ?_
    refine a_lconst (0 : Int64) dRo_round_48 (by decide) ?_
    refine a_iconst (0 : Int32) dRo_round_49 (by decide) ?_
    refine a_lv [(0, .ref ad_r), (1, .ref ad_s), (2, .ref (g_adE G i2)), (3, .int ((if (g_eF1.2.2.2.getD i2 0) < ((s_place + (63 : Int32)) - (g_eF0.2.2.2.getD i2 0)) then ((s_place + (63 : Int32)) - (g_eF0.2.2.2.getD i2 0)) else (g_eF1.2.2.2.getD i2 0)) - s_place))] [1, 2, 3, 0] rfl ?_
    exact (k4 c1)

set_option maxRecDepth 20000 in
theorem k_Ro_round_50 {l : Launch} {G : gG} {w0 w1 : va_W} {res : Option Value} {ad_r ad_s : Nat} {r_k r_infinite r_lies s_place s_rest : Int32} {r_m s_lead : Int64} {i2 : Nat} {x3 : Int32} {v0 : Int32} {v1 : Int64} {r_k' r_infinite' r_lies' : Int32} {r_m' : Int64} (hc : gCt l G m_Ro_setWhole [.ref ad_r, .long v1, .int v0] [oRo ad_r r_m r_k r_infinite r_lies] none [oRo ad_r r_m' r_k' r_infinite' r_lies']) (k : gAt l G m_Ro_round w0 res w1 53 [(0, .ref ad_r), (1, .ref ad_s), (2, .ref (g_adE G i2)), (3, .int x3)] [] [oRo ad_r r_m' r_k' r_infinite' r_lies', oSi ad_s s_lead s_place s_rest]) : gAt l G m_Ro_round w0 res w1 50 [(0, .ref ad_r), (1, .ref ad_s), (2, .ref (g_adE G i2)), (3, .int x3)] [.int v0, .long v1, .ref ad_r] [oRo ad_r r_m r_k r_infinite r_lies, oSi ad_s s_lead s_place s_rest] :=
  a_callV (As := [.long v1, .int v0]) (rest := []) (wc := [oRo ad_r r_m r_k r_infinite r_lies]) (wr := [oSi ad_s s_lead s_place s_rest]) (w1c := [oRo ad_r r_m' r_k' r_infinite' r_lies']) (r := none) [oRo ad_r r_m' r_k' r_infinite' r_lies', oSi ad_s s_lead s_place s_rest] [0] [1] [1, 0] (ci := 3) (q0 := 0) hc dRo_round_50 rfl ok_Ro_setWhole ⟨Nat.le_of_ble_eq_true rfl, Nat.le_of_ble_eq_true rfl⟩ w_556 w_558 sl_44 rfl rfl rfl rfl rfl rfl (by decide) rfl rfl (Nat.le_of_ble_eq_true rfl) k

set_option maxRecDepth 20000 in
theorem b_Ro_round_53 {l : Launch} {G : gG} {w0 w1 : va_W} {res : Option Value} {ad_r ad_s : Nat} {r_k r_infinite r_lies s_place s_rest : Int32} {r_m s_lead : Int64} {i2 : Nat} {x3 : Int32} (k0 : gAt l G m_Ro_round w0 res w1 82 [(0, .ref ad_r), (1, .ref ad_s), (2, .ref (g_adE G i2)), (3, .int x3)] [] [oRo ad_r r_m r_k r_infinite r_lies, oSi ad_s s_lead s_place s_rest]) : gAt l G m_Ro_round w0 res w1 53 [(0, .ref ad_r), (1, .ref ad_s), (2, .ref (g_adE G i2)), (3, .int x3)] [] [oRo ad_r r_m r_k r_infinite r_lies, oSi ad_s s_lead s_place s_rest] := by
  refine a_goto 82 dRo_round_53 (by decide) ?_
  exact k0

set_option maxRecDepth 20000 in
theorem k_Ro_round_65 {l : Launch} {G : gG} {w0 w1 : va_W} {res : Option Value} {ad_r ad_s : Nat} {r_k r_infinite r_lies s_place s_rest : Int32} {r_m s_lead : Int64} {i2 : Nat} {x3 : Int32} {v0 : Int32} {v1 : Int64} {r_k' r_infinite' r_lies' : Int32} {r_m' : Int64} (hc : gCt l G m_Ro_setWhole [.ref ad_r, .long v1, .int v0] [oRo ad_r r_m r_k r_infinite r_lies] none [oRo ad_r r_m' r_k' r_infinite' r_lies']) (k : gAt l G m_Ro_round w0 res w1 68 [(0, .ref ad_r), (1, .ref ad_s), (2, .ref (g_adE G i2)), (3, .int x3)] [] [oRo ad_r r_m' r_k' r_infinite' r_lies', oSi ad_s s_lead s_place s_rest]) : gAt l G m_Ro_round w0 res w1 65 [(0, .ref ad_r), (1, .ref ad_s), (2, .ref (g_adE G i2)), (3, .int x3)] [.int v0, .long v1, .ref ad_r] [oRo ad_r r_m r_k r_infinite r_lies, oSi ad_s s_lead s_place s_rest] :=
  a_callV (As := [.long v1, .int v0]) (rest := []) (wc := [oRo ad_r r_m r_k r_infinite r_lies]) (wr := [oSi ad_s s_lead s_place s_rest]) (w1c := [oRo ad_r r_m' r_k' r_infinite' r_lies']) (r := none) [oRo ad_r r_m' r_k' r_infinite' r_lies', oSi ad_s s_lead s_place s_rest] [0] [1] [1, 0] (ci := 3) (q0 := 0) hc dRo_round_65 rfl ok_Ro_setWhole ⟨Nat.le_of_ble_eq_true rfl, Nat.le_of_ble_eq_true rfl⟩ w_556 w_558 sl_44 rfl rfl rfl rfl rfl rfl (by decide) rfl rfl (Nat.le_of_ble_eq_true rfl) k

set_option maxRecDepth 20000 in
theorem b_Ro_round_68 {l : Launch} {G : gG} {w0 w1 : va_W} {res : Option Value} {ad_r ad_s : Nat} {r_k r_infinite r_lies s_place s_rest : Int32} {r_m s_lead : Int64} {i2 : Nat} {x3 : Int32} (k0 : gAt l G m_Ro_round w0 res w1 82 [(0, .ref ad_r), (1, .ref ad_s), (2, .ref (g_adE G i2)), (3, .int x3)] [] [oRo ad_r r_m r_k r_infinite r_lies, oSi ad_s s_lead s_place s_rest]) : gAt l G m_Ro_round w0 res w1 68 [(0, .ref ad_r), (1, .ref ad_s), (2, .ref (g_adE G i2)), (3, .int x3)] [] [oRo ad_r r_m r_k r_infinite r_lies, oSi ad_s s_lead s_place s_rest] := by
  refine a_goto 82 dRo_round_68 (by decide) ?_
  exact k0

set_option maxRecDepth 20000 in
theorem k_Ro_round_74 {l : Launch} {G : gG} {w0 w1 : va_W} {res : Option Value} {ad_r ad_s : Nat} {r_k r_infinite r_lies s_place s_rest : Int32} {r_m s_lead : Int64} {i2 : Nat} {x3 : Int32} {v0 : Int32} {r_k' r_infinite' r_lies' s_place' s_rest' : Int32} {r_m' s_lead' : Int64} (hc : gCt l G m_Ro_roundLead [.ref ad_r, .ref ad_s, .int v0] [oRo ad_r r_m r_k r_infinite r_lies, oSi ad_s s_lead s_place s_rest] none [oRo ad_r r_m' r_k' r_infinite' r_lies', oSi ad_s s_lead' s_place' s_rest']) (k : gAt l G m_Ro_round w0 res w1 77 [(0, .ref ad_r), (1, .ref ad_s), (2, .ref (g_adE G i2)), (3, .int x3)] [] [oRo ad_r r_m' r_k' r_infinite' r_lies', oSi ad_s s_lead' s_place' s_rest']) : gAt l G m_Ro_round w0 res w1 74 [(0, .ref ad_r), (1, .ref ad_s), (2, .ref (g_adE G i2)), (3, .int x3)] [.int v0, .ref ad_s, .ref ad_r] [oRo ad_r r_m r_k r_infinite r_lies, oSi ad_s s_lead s_place s_rest] :=
  a_callV (As := [.ref ad_s, .int v0]) (rest := []) (wc := [oRo ad_r r_m r_k r_infinite r_lies, oSi ad_s s_lead s_place s_rest]) (wr := []) (w1c := [oRo ad_r r_m' r_k' r_infinite' r_lies', oSi ad_s s_lead' s_place' s_rest']) (r := none) [oRo ad_r r_m' r_k' r_infinite' r_lies', oSi ad_s s_lead' s_place' s_rest'] [0, 1] [] [0, 1] (ci := 3) (q0 := 0) hc dRo_round_74 rfl ok_Ro_roundLead ⟨Nat.le_of_ble_eq_true rfl, Nat.le_of_ble_eq_true rfl⟩ w_560 w_562 sl_45 rfl rfl rfl rfl rfl rfl (by decide) rfl rfl (Nat.le_of_ble_eq_true rfl) k

set_option maxRecDepth 20000 in
theorem b_Ro_round_77 {l : Launch} {G : gG} {w0 w1 : va_W} {res : Option Value} {ad_r ad_s : Nat} {r_k r_infinite r_lies s_place s_rest : Int32} {r_m s_lead : Int64} {i2 : Nat} {x3 : Int32} (k0 : gAt l G m_Ro_round w0 res w1 79 [(0, .ref ad_r), (1, .ref ad_s), (2, .ref (g_adE G i2)), (3, .int x3)] [.ref (g_adE G i2), .ref ad_r] [oRo ad_r r_m r_k r_infinite r_lies, oSi ad_s s_lead s_place s_rest]) : gAt l G m_Ro_round w0 res w1 77 [(0, .ref ad_r), (1, .ref ad_s), (2, .ref (g_adE G i2)), (3, .int x3)] [] [oRo ad_r r_m r_k r_infinite r_lies, oSi ad_s s_lead s_place s_rest] := by
  refine a_aload_n 0 dRo_round_77 rfl ?_
  refine a_aload_n 2 dRo_round_78 rfl ?_
  exact k0

set_option maxRecDepth 20000 in
theorem k_Ro_round_79 {l : Launch} {G : gG} {w0 w1 : va_W} {res : Option Value} {ad_r ad_s : Nat} {r_k r_infinite r_lies s_place s_rest : Int32} {r_m s_lead : Int64} {i2 : Nat} {x3 : Int32} {r_k' r_infinite' r_lies' : Int32} {r_m' : Int64} (hc : gCt l G m_Ro_carry [.ref ad_r, .ref (g_adE G i2)] [oRo ad_r r_m r_k r_infinite r_lies] none [oRo ad_r r_m' r_k' r_infinite' r_lies']) (k : gAt l G m_Ro_round w0 res w1 82 [(0, .ref ad_r), (1, .ref ad_s), (2, .ref (g_adE G i2)), (3, .int x3)] [] [oRo ad_r r_m' r_k' r_infinite' r_lies', oSi ad_s s_lead s_place s_rest]) : gAt l G m_Ro_round w0 res w1 79 [(0, .ref ad_r), (1, .ref ad_s), (2, .ref (g_adE G i2)), (3, .int x3)] [.ref (g_adE G i2), .ref ad_r] [oRo ad_r r_m r_k r_infinite r_lies, oSi ad_s s_lead s_place s_rest] :=
  a_callV (As := [.ref (g_adE G i2)]) (rest := []) (wc := [oRo ad_r r_m r_k r_infinite r_lies]) (wr := [oSi ad_s s_lead s_place s_rest]) (w1c := [oRo ad_r r_m' r_k' r_infinite' r_lies']) (r := none) [oRo ad_r r_m' r_k' r_infinite' r_lies', oSi ad_s s_lead s_place s_rest] [0] [1] [1, 0] (ci := 3) (q0 := 0) hc dRo_round_79 rfl ok_Ro_carry ⟨Nat.le_of_ble_eq_true rfl, Nat.le_of_ble_eq_true rfl⟩ w_564 w_566 sl_46 rfl rfl rfl rfl rfl rfl (by decide) rfl rfl (Nat.le_of_ble_eq_true rfl) k

set_option maxRecDepth 20000 in
theorem b_Ro_round_82 {l : Launch} {G : gG} {w0 w1 : va_W} {res : Option Value} {ad_r ad_s : Nat} {r_k r_infinite r_lies s_place s_rest : Int32} {r_m s_lead : Int64} {i2 : Nat} {x3 : Int32} (k0 : res = none ∧ [oRo ad_r r_m r_k r_infinite r_lies, oSi ad_s s_lead s_place s_rest] = w1) : gAt l G m_Ro_round w0 res w1 82 [(0, .ref ad_r), (1, .ref ad_s), (2, .ref (g_adE G i2)), (3, .int x3)] [] [oRo ad_r r_m r_k r_infinite r_lies, oSi ad_s s_lead s_place s_rest] := by
  exact a_vret (st := []) dRo_round_82 rfl k0.1 k0.2

set_option maxRecDepth 20000 in
theorem b_Ro_setWhole_0 {l : Launch} {G : gG} {w0 w1 : va_W} {res : Option Value} {ad_r : Nat} {r_k r_infinite r_lies : Int32} {r_m : Int64} {x1 : Int64} {x3 : Int32} (k0 : res = none ∧ [oRo ad_r x1 r_k r_infinite x3] = w1) : gAt l G m_Ro_setWhole w0 res w1 0 [(0, .ref ad_r), (1, .long x1), (3, .int x3)] [] [oRo ad_r r_m r_k r_infinite r_lies] := by
  refine a_aload_n 0 dRo_setWhole_0 rfl ?_
  refine a_lload_n 1 dRo_setWhole_1 rfl ?_
  refine a_put (ci := 3) (kx := 0) ty_Ro 0 [oRo ad_r x1 r_k r_infinite r_lies] dRo_setWhole_2 rfl I_Ro tyo_Ro nmo_Ro w_143 rfl (by decide) rfl rfl rfl (Nat.le_of_ble_eq_true rfl) rfl ?_
  refine a_aload_n 0 dRo_setWhole_5 rfl ?_
  refine a_iload_n 2 dRo_setWhole_6 rfl ?_
  refine a_put (ci := 3) (kx := 3) ty_Ro 0 [oRo ad_r x1 r_k r_infinite x3] dRo_setWhole_7 rfl I_Ro tyo_Ro nmo_Ro w_146 rfl (by decide) rfl rfl rfl (Nat.le_of_ble_eq_true rfl) rfl ?_
  exact a_vret (st := []) dRo_setWhole_10 rfl k0.1 k0.2

set_option maxRecDepth 20000 in
theorem b_Ro_roundLead_0 {l : Launch} {G : gG} {w0 w1 : va_W} {res : Option Value} {ad_r ad_s : Nat} {r_k r_infinite r_lies s_place s_rest : Int32} {r_m s_lead : Int64} {x2 : Int32} (k0 : (0 < (lg_cmp (s_lead &&& (((1 : Int64) <<< ((Int32.toInt64 x2) &&& 63)) - (1 : Int64))) ((1 : Int64) <<< ((Int32.toInt64 (x2 - (1 : Int32))) &&& 63)))) → gAt l G m_Ro_roundLead w0 res w1 49 [(0, .ref ad_r), (1, .ref ad_s), (2, .int x2), (3, .long ((Int64.toUInt64 s_lead >>> ((Int32.toInt64 x2).toUInt64 &&& Int64.toUInt64 63)).toInt64)), (5, .long (s_lead &&& (((1 : Int64) <<< ((Int32.toInt64 x2) &&& 63)) - (1 : Int64)))), (7, .long ((1 : Int64) <<< ((Int32.toInt64 (x2 - (1 : Int32))) &&& 63)))] [] [oRo ad_r r_m r_k r_infinite r_lies, oSi ad_s s_lead s_place s_rest]) (k1 : (¬ 0 < (lg_cmp (s_lead &&& (((1 : Int64) <<< ((Int32.toInt64 x2) &&& 63)) - (1 : Int64))) ((1 : Int64) <<< ((Int32.toInt64 (x2 - (1 : Int32))) &&& 63)))) → (¬ (lg_cmp (s_lead &&& (((1 : Int64) <<< ((Int32.toInt64 x2) &&& 63)) - (1 : Int64))) ((1 : Int64) <<< ((Int32.toInt64 (x2 - (1 : Int32))) &&& 63))) = 0) → gAt l G m_Ro_roundLead w0 res w1 53 [(0, .ref ad_r), (1, .ref ad_s), (2, .int x2), (3, .long ((Int64.toUInt64 s_lead >>> ((Int32.toInt64 x2).toUInt64 &&& Int64.toUInt64 63)).toInt64)), (5, .long (s_lead &&& (((1 : Int64) <<< ((Int32.toInt64 x2) &&& 63)) - (1 : Int64)))), (7, .long ((1 : Int64) <<< ((Int32.toInt64 (x2 - (1 : Int32))) &&& 63)))] [] [oRo ad_r r_m r_k r_infinite r_lies, oSi ad_s s_lead s_place s_rest]) (k2 : (¬ 0 < (lg_cmp (s_lead &&& (((1 : Int64) <<< ((Int32.toInt64 x2) &&& 63)) - (1 : Int64))) ((1 : Int64) <<< ((Int32.toInt64 (x2 - (1 : Int32))) &&& 63)))) → ((lg_cmp (s_lead &&& (((1 : Int64) <<< ((Int32.toInt64 x2) &&& 63)) - (1 : Int64))) ((1 : Int64) <<< ((Int32.toInt64 (x2 - (1 : Int32))) &&& 63))) = 0) → (s_rest = 0) → gAt l G m_Ro_roundLead w0 res w1 53 [(0, .ref ad_r), (1, .ref ad_s), (2, .int x2), (3, .long ((Int64.toUInt64 s_lead >>> ((Int32.toInt64 x2).toUInt64 &&& Int64.toUInt64 63)).toInt64)), (5, .long (s_lead &&& (((1 : Int64) <<< ((Int32.toInt64 x2) &&& 63)) - (1 : Int64)))), (7, .long ((1 : Int64) <<< ((Int32.toInt64 (x2 - (1 : Int32))) &&& 63)))] [] [oRo ad_r r_m r_k r_infinite r_lies, oSi ad_s s_lead s_place s_rest]) (k3 : (¬ 0 < (lg_cmp (s_lead &&& (((1 : Int64) <<< ((Int32.toInt64 x2) &&& 63)) - (1 : Int64))) ((1 : Int64) <<< ((Int32.toInt64 (x2 - (1 : Int32))) &&& 63)))) → ((lg_cmp (s_lead &&& (((1 : Int64) <<< ((Int32.toInt64 x2) &&& 63)) - (1 : Int64))) ((1 : Int64) <<< ((Int32.toInt64 (x2 - (1 : Int32))) &&& 63))) = 0) → (¬ s_rest = 0) → gAt l G m_Ro_roundLead w0 res w1 49 [(0, .ref ad_r), (1, .ref ad_s), (2, .int x2), (3, .long ((Int64.toUInt64 s_lead >>> ((Int32.toInt64 x2).toUInt64 &&& Int64.toUInt64 63)).toInt64)), (5, .long (s_lead &&& (((1 : Int64) <<< ((Int32.toInt64 x2) &&& 63)) - (1 : Int64)))), (7, .long ((1 : Int64) <<< ((Int32.toInt64 (x2 - (1 : Int32))) &&& 63)))] [] [oRo ad_r r_m r_k r_infinite r_lies, oSi ad_s s_lead s_place s_rest]) : gAt l G m_Ro_roundLead w0 res w1 0 [(0, .ref ad_r), (1, .ref ad_s), (2, .int x2)] [] [oRo ad_r r_m r_k r_infinite r_lies, oSi ad_s s_lead s_place s_rest] := by
  refine a_aload_n 1 dRo_roundLead_0 rfl ?_
  refine a_getN (ci := 4) (kx := 0) 1 dRo_roundLead_1 rfl I_Si nf_mem_125 rfl (by decide) rfl ?_
  refine a_iload_n 2 dRo_roundLead_4 rfl ?_
  refine a_lushr dRo_roundLead_5 ?_
  refine a_lstore_n [(3, .long ((Int64.toUInt64 s_lead >>> ((Int32.toInt64 x2).toUInt64 &&& Int64.toUInt64 63)).toInt64)), (0, .ref ad_r), (1, .ref ad_s), (2, .int x2)] dRo_roundLead_6 rfl (by decide) rfl ?_
  refine a_aload_n 2 dRo_roundLead_7 rfl ?_
  refine a_getN (ci := 4) (kx := 0) 1 dRo_roundLead_8 rfl I_Si nf_mem_125 rfl (by decide) rfl ?_
  refine a_lconst (1 : Int64) dRo_roundLead_11 (by decide) ?_
  refine a_iload_n 3 dRo_roundLead_12 rfl ?_
  refine a_lshl dRo_roundLead_13 ?_
  refine a_lconst (1 : Int64) dRo_roundLead_14 (by decide) ?_
  refine a_lsub dRo_roundLead_15 ?_
  refine a_land dRo_roundLead_16 ?_
  refine a_lstore [(5, .long (s_lead &&& (((1 : Int64) <<< ((Int32.toInt64 x2) &&& 63)) - (1 : Int64)))), (3, .long ((Int64.toUInt64 s_lead >>> ((Int32.toInt64 x2).toUInt64 &&& Int64.toUInt64 63)).toInt64)), (0, .ref ad_r), (1, .ref ad_s), (2, .int x2)] dRo_roundLead_17 (by decide) rfl ?_
  refine a_lconst (1 : Int64) dRo_roundLead_19 (by decide) ?_
  refine a_iload_n 4 dRo_roundLead_20 rfl ?_
  refine a_iconst (1 : Int32) dRo_roundLead_21 (by decide) ?_
  refine a_isub dRo_roundLead_22 ?_
  refine a_lshl dRo_roundLead_23 ?_
  refine a_lstore [(7, .long ((1 : Int64) <<< ((Int32.toInt64 (x2 - (1 : Int32))) &&& 63))), (5, .long (s_lead &&& (((1 : Int64) <<< ((Int32.toInt64 x2) &&& 63)) - (1 : Int64)))), (3, .long ((Int64.toUInt64 s_lead >>> ((Int32.toInt64 x2).toUInt64 &&& Int64.toUInt64 63)).toInt64)), (0, .ref ad_r), (1, .ref ad_s), (2, .int x2)] dRo_roundLead_24 (by decide) rfl ?_
  refine a_lload 1 dRo_roundLead_26 rfl ?_
  refine a_lload 0 dRo_roundLead_28 rfl ?_
  refine a_lcmp dRo_roundLead_30 ?_
  refine a_if_gt 49 dRo_roundLead_31 (by decide) (fun c1 => ?_) (fun c1 => ?_)
  · refine a_lv [(0, .ref ad_r), (1, .ref ad_s), (2, .int x2), (3, .long ((Int64.toUInt64 s_lead >>> ((Int32.toInt64 x2).toUInt64 &&& Int64.toUInt64 63)).toInt64)), (5, .long (s_lead &&& (((1 : Int64) <<< ((Int32.toInt64 x2) &&& 63)) - (1 : Int64)))), (7, .long ((1 : Int64) <<< ((Int32.toInt64 (x2 - (1 : Int32))) &&& 63)))] [3, 4, 5, 2, 1, 0] rfl ?_
    exact (k0 c1)
  · refine a_lload 1 dRo_roundLead_34 rfl ?_
    refine a_lload 0 dRo_roundLead_36 rfl ?_
    refine a_lcmp dRo_roundLead_38 ?_
    refine a_if_ne 53 dRo_roundLead_39 (by decide) (fun c2 => ?_) (fun c2 => ?_)
    · refine a_lv [(0, .ref ad_r), (1, .ref ad_s), (2, .int x2), (3, .long ((Int64.toUInt64 s_lead >>> ((Int32.toInt64 x2).toUInt64 &&& Int64.toUInt64 63)).toInt64)), (5, .long (s_lead &&& (((1 : Int64) <<< ((Int32.toInt64 x2) &&& 63)) - (1 : Int64)))), (7, .long ((1 : Int64) <<< ((Int32.toInt64 (x2 - (1 : Int32))) &&& 63)))] [3, 4, 5, 2, 1, 0] rfl ?_
      exact (k1 c1 c2)
    · refine a_aload_n 4 dRo_roundLead_42 rfl ?_
      refine a_getN (ci := 4) (kx := 2) 1 dRo_roundLead_43 rfl I_Si nf_mem_129 rfl (by decide) rfl ?_
      refine a_if_eq 53 dRo_roundLead_46 (by decide) (fun c3 => ?_) (fun c3 => ?_)
      · refine a_lv [(0, .ref ad_r), (1, .ref ad_s), (2, .int x2), (3, .long ((Int64.toUInt64 s_lead >>> ((Int32.toInt64 x2).toUInt64 &&& Int64.toUInt64 63)).toInt64)), (5, .long (s_lead &&& (((1 : Int64) <<< ((Int32.toInt64 x2) &&& 63)) - (1 : Int64)))), (7, .long ((1 : Int64) <<< ((Int32.toInt64 (x2 - (1 : Int32))) &&& 63)))] [3, 4, 5, 2, 1, 0] rfl ?_
        exact (k2 c1 c2 c3)
      · refine a_lv [(0, .ref ad_r), (1, .ref ad_s), (2, .int x2), (3, .long ((Int64.toUInt64 s_lead >>> ((Int32.toInt64 x2).toUInt64 &&& Int64.toUInt64 63)).toInt64)), (5, .long (s_lead &&& (((1 : Int64) <<< ((Int32.toInt64 x2) &&& 63)) - (1 : Int64)))), (7, .long ((1 : Int64) <<< ((Int32.toInt64 (x2 - (1 : Int32))) &&& 63)))] [3, 4, 5, 2, 1, 0] rfl ?_
        exact (k3 c1 c2 c3)

set_option maxRecDepth 20000 in
theorem b_Ro_roundLead_49 {l : Launch} {G : gG} {w0 w1 : va_W} {res : Option Value} {ad_r ad_s : Nat} {r_k r_infinite r_lies s_place s_rest : Int32} {r_m s_lead : Int64} {x2 : Int32} {x3 : Int64} {x5 : Int64} {x7 : Int64} (k0 : gAt l G m_Ro_roundLead w0 res w1 54 [(0, .ref ad_r), (1, .ref ad_s), (2, .int x2), (3, .long x3), (5, .long x5), (7, .long x7)] [.int (1 : Int32)] [oRo ad_r r_m r_k r_infinite r_lies, oSi ad_s s_lead s_place s_rest]) : gAt l G m_Ro_roundLead w0 res w1 49 [(0, .ref ad_r), (1, .ref ad_s), (2, .int x2), (3, .long x3), (5, .long x5), (7, .long x7)] [] [oRo ad_r r_m r_k r_infinite r_lies, oSi ad_s s_lead s_place s_rest] := by
  refine a_iconst (1 : Int32) dRo_roundLead_49 (by decide) ?_
  refine a_goto 54 dRo_roundLead_50 (by decide) ?_
  exact k0

set_option maxRecDepth 20000 in
theorem b_Ro_roundLead_53 {l : Launch} {G : gG} {w0 w1 : va_W} {res : Option Value} {ad_r ad_s : Nat} {r_k r_infinite r_lies s_place s_rest : Int32} {r_m s_lead : Int64} {x2 : Int32} {x3 : Int64} {x5 : Int64} {x7 : Int64} (k0 : gAt l G m_Ro_roundLead w0 res w1 54 [(0, .ref ad_r), (1, .ref ad_s), (2, .int x2), (3, .long x3), (5, .long x5), (7, .long x7)] [.int (0 : Int32)] [oRo ad_r r_m r_k r_infinite r_lies, oSi ad_s s_lead s_place s_rest]) : gAt l G m_Ro_roundLead w0 res w1 53 [(0, .ref ad_r), (1, .ref ad_s), (2, .int x2), (3, .long x3), (5, .long x5), (7, .long x7)] [] [oRo ad_r r_m r_k r_infinite r_lies, oSi ad_s s_lead s_place s_rest] := by
  refine a_iconst (0 : Int32) dRo_roundLead_53 (by decide) ?_
  exact k0

set_option maxRecDepth 20000 in
theorem b_Ro_roundLead_54 {l : Launch} {G : gG} {w0 w1 : va_W} {res : Option Value} {ad_r ad_s : Nat} {r_k r_infinite r_lies s_place s_rest : Int32} {r_m s_lead : Int64} {x2 : Int32} {x3 : Int64} {x5 : Int64} {x7 : Int64} {v0 : Int32} (k0 : (¬ (lg_cmp x5 x7) = 0) → gAt l G m_Ro_roundLead w0 res w1 76 [(0, .ref ad_r), (1, .ref ad_s), (2, .int x2), (3, .long x3), (5, .long x5), (7, .long x7), (9, .int v0)] [] [oRo ad_r r_m r_k r_infinite r_lies, oSi ad_s s_lead s_place s_rest]) (k1 : ((lg_cmp x5 x7) = 0) → (¬ (lg_cmp (x3 &&& (1 : Int64)) (1 : Int64)) = 0) → gAt l G m_Ro_roundLead w0 res w1 76 [(0, .ref ad_r), (1, .ref ad_s), (2, .int x2), (3, .long x3), (5, .long x5), (7, .long x7), (9, .int v0)] [] [oRo ad_r r_m r_k r_infinite r_lies, oSi ad_s s_lead s_place s_rest]) (k2 : ((lg_cmp x5 x7) = 0) → ((lg_cmp (x3 &&& (1 : Int64)) (1 : Int64)) = 0) → gAt l G m_Ro_roundLead w0 res w1 77 [(0, .ref ad_r), (1, .ref ad_s), (2, .int x2), (3, .long x3), (5, .long x5), (7, .long x7), (9, .int v0)] [.int (1 : Int32)] [oRo ad_r r_m r_k r_infinite r_lies, oSi ad_s s_lead s_place s_rest]) : gAt l G m_Ro_roundLead w0 res w1 54 [(0, .ref ad_r), (1, .ref ad_s), (2, .int x2), (3, .long x3), (5, .long x5), (7, .long x7)] [.int v0] [oRo ad_r r_m r_k r_infinite r_lies, oSi ad_s s_lead s_place s_rest] := by
  refine a_istore [(9, .int v0), (0, .ref ad_r), (1, .ref ad_s), (2, .int x2), (3, .long x3), (5, .long x5), (7, .long x7)] dRo_roundLead_54 (by decide) rfl ?_
  refine a_lload 5 dRo_roundLead_56 rfl ?_
  refine a_lload 6 dRo_roundLead_58 rfl ?_
  refine a_lcmp dRo_roundLead_60 ?_
  refine a_if_ne 76 dRo_roundLead_61 (by decide) (fun c1 => ?_) (fun c1 => ?_)
  · refine a_lv [(0, .ref ad_r), (1, .ref ad_s), (2, .int x2), (3, .long x3), (5, .long x5), (7, .long x7), (9, .int v0)] [1, 2, 3, 4, 5, 6, 0] rfl ?_
    exact (k0 c1)
  · refine a_lload_n 4 dRo_roundLead_64 rfl ?_
    refine a_lconst (1 : Int64) dRo_roundLead_65 (by decide) ?_
    refine a_land dRo_roundLead_66 ?_
    refine a_lconst (1 : Int64) dRo_roundLead_67 (by decide) ?_
    refine a_lcmp dRo_roundLead_68 ?_
    refine a_if_ne 76 dRo_roundLead_69 (by decide) (fun c2 => ?_) (fun c2 => ?_)
    · refine a_lv [(0, .ref ad_r), (1, .ref ad_s), (2, .int x2), (3, .long x3), (5, .long x5), (7, .long x7), (9, .int v0)] [1, 2, 3, 4, 5, 6, 0] rfl ?_
      exact (k1 c1 c2)
    · refine a_iconst (1 : Int32) dRo_roundLead_72 (by decide) ?_
      refine a_goto 77 dRo_roundLead_73 (by decide) ?_
      refine a_lv [(0, .ref ad_r), (1, .ref ad_s), (2, .int x2), (3, .long x3), (5, .long x5), (7, .long x7), (9, .int v0)] [1, 2, 3, 4, 5, 6, 0] rfl ?_
      exact (k2 c1 c2)

set_option maxRecDepth 20000 in
theorem b_Ro_roundLead_76 {l : Launch} {G : gG} {w0 w1 : va_W} {res : Option Value} {ad_r ad_s : Nat} {r_k r_infinite r_lies s_place s_rest : Int32} {r_m s_lead : Int64} {x2 : Int32} {x3 : Int64} {x5 : Int64} {x7 : Int64} {x9 : Int32} (k0 : gAt l G m_Ro_roundLead w0 res w1 77 [(0, .ref ad_r), (1, .ref ad_s), (2, .int x2), (3, .long x3), (5, .long x5), (7, .long x7), (9, .int x9)] [.int (0 : Int32)] [oRo ad_r r_m r_k r_infinite r_lies, oSi ad_s s_lead s_place s_rest]) : gAt l G m_Ro_roundLead w0 res w1 76 [(0, .ref ad_r), (1, .ref ad_s), (2, .int x2), (3, .long x3), (5, .long x5), (7, .long x7), (9, .int x9)] [] [oRo ad_r r_m r_k r_infinite r_lies, oSi ad_s s_lead s_place s_rest] := by
  refine a_iconst (0 : Int32) dRo_roundLead_76 (by decide) ?_
  exact k0

set_option maxRecDepth 20000 in
theorem b_Ro_roundLead_77 {l : Launch} {G : gG} {w0 w1 : va_W} {res : Option Value} {ad_r ad_s : Nat} {r_k r_infinite r_lies s_place s_rest : Int32} {r_m s_lead : Int64} {x2 : Int32} {x3 : Int64} {x5 : Int64} {x7 : Int64} {x9 : Int32} {v0 : Int32} (k0 : (¬ x9 = 0) → gAt l G m_Ro_roundLead w0 res w1 89 [(0, .ref ad_r), (1, .ref ad_s), (2, .int x2), (3, .long x3), (5, .long x5), (7, .long x7), (9, .int x9), (10, .int v0)] [] [oRo ad_r r_m r_k r_infinite r_lies, oSi ad_s s_lead s_place s_rest]) (k1 : (x9 = 0) → (v0 = 0) → (¬ (lg_cmp x5 (0 : Int64)) = 0) → gAt l G m_Ro_roundLead w0 res w1 120 [(0, .ref ad_r), (1, .ref ad_s), (2, .int x2), (3, .long x3), (5, .long x5), (7, .long x7), (9, .int x9), (10, .int v0)] [.long x3, .ref ad_r] [oRo ad_r r_m r_k r_infinite r_lies, oSi ad_s s_lead s_place s_rest]) (k2 : (x9 = 0) → (v0 = 0) → ((lg_cmp x5 (0 : Int64)) = 0) → (¬ s_rest = 0) → gAt l G m_Ro_roundLead w0 res w1 120 [(0, .ref ad_r), (1, .ref ad_s), (2, .int x2), (3, .long x3), (5, .long x5), (7, .long x7), (9, .int x9), (10, .int v0)] [.long x3, .ref ad_r] [oRo ad_r r_m r_k r_infinite r_lies, oSi ad_s s_lead s_place s_rest]) (k3 : (x9 = 0) → (v0 = 0) → ((lg_cmp x5 (0 : Int64)) = 0) → (s_rest = 0) → gAt l G m_Ro_roundLead w0 res w1 121 [(0, .ref ad_r), (1, .ref ad_s), (2, .int x2), (3, .long x3), (5, .long x5), (7, .long x7), (9, .int x9), (10, .int v0)] [.int (0 : Int32), .long x3, .ref ad_r] [oRo ad_r r_m r_k r_infinite r_lies, oSi ad_s s_lead s_place s_rest]) (k4 : (x9 = 0) → (¬ v0 = 0) → gAt l G m_Ro_roundLead w0 res w1 89 [(0, .ref ad_r), (1, .ref ad_s), (2, .int x2), (3, .long x3), (5, .long x5), (7, .long x7), (9, .int x9), (10, .int v0)] [] [oRo ad_r r_m r_k r_infinite r_lies, oSi ad_s s_lead s_place s_rest]) : gAt l G m_Ro_roundLead w0 res w1 77 [(0, .ref ad_r), (1, .ref ad_s), (2, .int x2), (3, .long x3), (5, .long x5), (7, .long x7), (9, .int x9)] [.int v0] [oRo ad_r r_m r_k r_infinite r_lies, oSi ad_s s_lead s_place s_rest] := by
  refine a_istore [(10, .int v0), (0, .ref ad_r), (1, .ref ad_s), (2, .int x2), (3, .long x3), (5, .long x5), (7, .long x7), (9, .int x9)] dRo_roundLead_77 (by decide) rfl ?_
  refine a_iload 7 dRo_roundLead_79 rfl ?_
  refine a_if_ne 89 dRo_roundLead_81 (by decide) (fun c1 => ?_) (fun c1 => ?_)
  · refine a_lv [(0, .ref ad_r), (1, .ref ad_s), (2, .int x2), (3, .long x3), (5, .long x5), (7, .long x7), (9, .int x9), (10, .int v0)] [1, 2, 3, 4, 5, 6, 7, 0] rfl ?_
    exact (k0 c1)
  · refine a_iload 0 dRo_roundLead_84 rfl ?_
    refine a_if_eq 100 dRo_roundLead_86 (by decide) (fun c2 => ?_) (fun c2 => ?_)
    · refine a_aload_n 1 dRo_roundLead_100 rfl ?_
      refine a_lload_n 4 dRo_roundLead_101 rfl ?_
      refine a_lload 5 dRo_roundLead_102 rfl ?_
      refine a_lconst (0 : Int64) dRo_roundLead_104 (by decide) ?_
      refine a_lcmp dRo_roundLead_105 ?_
      refine a_if_ne 120 dRo_roundLead_106 (by decide) (fun c3 => ?_) (fun c3 => ?_)
      · refine a_lv [(0, .ref ad_r), (1, .ref ad_s), (2, .int x2), (3, .long x3), (5, .long x5), (7, .long x7), (9, .int x9), (10, .int v0)] [1, 2, 3, 4, 5, 6, 7, 0] rfl ?_
        exact (k1 c1 c2 c3)
      · refine a_aload_n 2 dRo_roundLead_109 rfl ?_
        refine a_getN (ci := 4) (kx := 2) 1 dRo_roundLead_110 rfl I_Si nf_mem_129 rfl (by decide) rfl ?_
        refine a_if_ne 120 dRo_roundLead_113 (by decide) (fun c4 => ?_) (fun c4 => ?_)
        · refine a_lv [(0, .ref ad_r), (1, .ref ad_s), (2, .int x2), (3, .long x3), (5, .long x5), (7, .long x7), (9, .int x9), (10, .int v0)] [1, 2, 3, 4, 5, 6, 7, 0] rfl ?_
          exact (k2 c1 c2 c3 c4)
        · refine a_iconst (0 : Int32) dRo_roundLead_116 (by decide) ?_
          refine a_goto 121 dRo_roundLead_117 (by decide) ?_
          refine a_lv [(0, .ref ad_r), (1, .ref ad_s), (2, .int x2), (3, .long x3), (5, .long x5), (7, .long x7), (9, .int x9), (10, .int v0)] [1, 2, 3, 4, 5, 6, 7, 0] rfl ?_
          exact (k3 c1 c2 c3 c4)
    · refine a_lv [(0, .ref ad_r), (1, .ref ad_s), (2, .int x2), (3, .long x3), (5, .long x5), (7, .long x7), (9, .int x9), (10, .int v0)] [1, 2, 3, 4, 5, 6, 7, 0] rfl ?_
      exact (k4 c1 c2)

set_option maxRecDepth 20000 in
theorem b_Ro_roundLead_89 {l : Launch} {G : gG} {w0 w1 : va_W} {res : Option Value} {ad_r ad_s : Nat} {r_k r_infinite r_lies s_place s_rest : Int32} {r_m s_lead : Int64} {x2 : Int32} {x3 : Int64} {x5 : Int64} {x7 : Int64} {x9 : Int32} {x10 : Int32} (k0 : gAt l G m_Ro_roundLead w0 res w1 94 [(0, .ref ad_r), (1, .ref ad_s), (2, .int x2), (3, .long x3), (5, .long x5), (7, .long x7), (9, .int x9), (10, .int x10)] [.int (1 : Int32), .long (x3 + (1 : Int64)), .ref ad_r] [oRo ad_r r_m r_k r_infinite r_lies, oSi ad_s s_lead s_place s_rest]) : gAt l G m_Ro_roundLead w0 res w1 89 [(0, .ref ad_r), (1, .ref ad_s), (2, .int x2), (3, .long x3), (5, .long x5), (7, .long x7), (9, .int x9), (10, .int x10)] [] [oRo ad_r r_m r_k r_infinite r_lies, oSi ad_s s_lead s_place s_rest] := by
  refine a_aload_n 0 dRo_roundLead_89 rfl ?_
  refine a_lload_n 3 dRo_roundLead_90 rfl ?_
  refine a_lconst (1 : Int64) dRo_roundLead_91 (by decide) ?_
  refine a_ladd dRo_roundLead_92 ?_
  refine a_iconst (1 : Int32) dRo_roundLead_93 (by decide) ?_
  exact k0

set_option maxRecDepth 20000 in
theorem k_Ro_roundLead_94 {l : Launch} {G : gG} {w0 w1 : va_W} {res : Option Value} {ad_r ad_s : Nat} {r_k r_infinite r_lies s_place s_rest : Int32} {r_m s_lead : Int64} {x2 : Int32} {x3 : Int64} {x5 : Int64} {x7 : Int64} {x9 : Int32} {x10 : Int32} {v0 : Int32} {v1 : Int64} {r_k' r_infinite' r_lies' : Int32} {r_m' : Int64} (hc : gCt l G m_Ro_setWhole [.ref ad_r, .long v1, .int v0] [oRo ad_r r_m r_k r_infinite r_lies] none [oRo ad_r r_m' r_k' r_infinite' r_lies']) (k : gAt l G m_Ro_roundLead w0 res w1 97 [(0, .ref ad_r), (1, .ref ad_s), (2, .int x2), (3, .long x3), (5, .long x5), (7, .long x7), (9, .int x9), (10, .int x10)] [] [oRo ad_r r_m' r_k' r_infinite' r_lies', oSi ad_s s_lead s_place s_rest]) : gAt l G m_Ro_roundLead w0 res w1 94 [(0, .ref ad_r), (1, .ref ad_s), (2, .int x2), (3, .long x3), (5, .long x5), (7, .long x7), (9, .int x9), (10, .int x10)] [.int v0, .long v1, .ref ad_r] [oRo ad_r r_m r_k r_infinite r_lies, oSi ad_s s_lead s_place s_rest] :=
  a_callV (As := [.long v1, .int v0]) (rest := []) (wc := [oRo ad_r r_m r_k r_infinite r_lies]) (wr := [oSi ad_s s_lead s_place s_rest]) (w1c := [oRo ad_r r_m' r_k' r_infinite' r_lies']) (r := none) [oRo ad_r r_m' r_k' r_infinite' r_lies', oSi ad_s s_lead s_place s_rest] [0] [1] [1, 0] (ci := 3) (q0 := 0) hc dRo_roundLead_94 rfl ok_Ro_setWhole ⟨Nat.le_of_ble_eq_true rfl, Nat.le_of_ble_eq_true rfl⟩ w_556 w_558 sl_44 rfl rfl rfl rfl rfl rfl (by decide) rfl rfl (Nat.le_of_ble_eq_true rfl) k

set_option maxRecDepth 20000 in
theorem b_Ro_roundLead_97 {l : Launch} {G : gG} {w0 w1 : va_W} {res : Option Value} {ad_r ad_s : Nat} {r_k r_infinite r_lies s_place s_rest : Int32} {r_m s_lead : Int64} {x2 : Int32} {x3 : Int64} {x5 : Int64} {x7 : Int64} {x9 : Int32} {x10 : Int32} (k0 : gAt l G m_Ro_roundLead w0 res w1 124 [(0, .ref ad_r), (1, .ref ad_s), (2, .int x2), (3, .long x3), (5, .long x5), (7, .long x7), (9, .int x9), (10, .int x10)] [] [oRo ad_r r_m r_k r_infinite r_lies, oSi ad_s s_lead s_place s_rest]) : gAt l G m_Ro_roundLead w0 res w1 97 [(0, .ref ad_r), (1, .ref ad_s), (2, .int x2), (3, .long x3), (5, .long x5), (7, .long x7), (9, .int x9), (10, .int x10)] [] [oRo ad_r r_m r_k r_infinite r_lies, oSi ad_s s_lead s_place s_rest] := by
  refine a_goto 124 dRo_roundLead_97 (by decide) ?_
  exact k0

set_option maxRecDepth 20000 in
theorem b_Ro_roundLead_120 {l : Launch} {G : gG} {w0 w1 : va_W} {res : Option Value} {ad_r ad_s : Nat} {r_k r_infinite r_lies s_place s_rest : Int32} {r_m s_lead : Int64} {x2 : Int32} {x3 : Int64} {x5 : Int64} {x7 : Int64} {x9 : Int32} {x10 : Int32} {v0 : Int64} (k0 : gAt l G m_Ro_roundLead w0 res w1 121 [(0, .ref ad_r), (1, .ref ad_s), (2, .int x2), (3, .long x3), (5, .long x5), (7, .long x7), (9, .int x9), (10, .int x10)] [.int (-1 : Int32), .long v0, .ref ad_r] [oRo ad_r r_m r_k r_infinite r_lies, oSi ad_s s_lead s_place s_rest]) : gAt l G m_Ro_roundLead w0 res w1 120 [(0, .ref ad_r), (1, .ref ad_s), (2, .int x2), (3, .long x3), (5, .long x5), (7, .long x7), (9, .int x9), (10, .int x10)] [.long v0, .ref ad_r] [oRo ad_r r_m r_k r_infinite r_lies, oSi ad_s s_lead s_place s_rest] := by
  refine a_iconst (-1 : Int32) dRo_roundLead_120 (by decide) ?_
  exact k0

set_option maxRecDepth 20000 in
theorem k_Ro_roundLead_121 {l : Launch} {G : gG} {w0 w1 : va_W} {res : Option Value} {ad_r ad_s : Nat} {r_k r_infinite r_lies s_place s_rest : Int32} {r_m s_lead : Int64} {x2 : Int32} {x3 : Int64} {x5 : Int64} {x7 : Int64} {x9 : Int32} {x10 : Int32} {v0 : Int32} {v1 : Int64} {r_k' r_infinite' r_lies' : Int32} {r_m' : Int64} (hc : gCt l G m_Ro_setWhole [.ref ad_r, .long v1, .int v0] [oRo ad_r r_m r_k r_infinite r_lies] none [oRo ad_r r_m' r_k' r_infinite' r_lies']) (k : gAt l G m_Ro_roundLead w0 res w1 124 [(0, .ref ad_r), (1, .ref ad_s), (2, .int x2), (3, .long x3), (5, .long x5), (7, .long x7), (9, .int x9), (10, .int x10)] [] [oRo ad_r r_m' r_k' r_infinite' r_lies', oSi ad_s s_lead s_place s_rest]) : gAt l G m_Ro_roundLead w0 res w1 121 [(0, .ref ad_r), (1, .ref ad_s), (2, .int x2), (3, .long x3), (5, .long x5), (7, .long x7), (9, .int x9), (10, .int x10)] [.int v0, .long v1, .ref ad_r] [oRo ad_r r_m r_k r_infinite r_lies, oSi ad_s s_lead s_place s_rest] :=
  a_callV (As := [.long v1, .int v0]) (rest := []) (wc := [oRo ad_r r_m r_k r_infinite r_lies]) (wr := [oSi ad_s s_lead s_place s_rest]) (w1c := [oRo ad_r r_m' r_k' r_infinite' r_lies']) (r := none) [oRo ad_r r_m' r_k' r_infinite' r_lies', oSi ad_s s_lead s_place s_rest] [0] [1] [1, 0] (ci := 3) (q0 := 0) hc dRo_roundLead_121 rfl ok_Ro_setWhole ⟨Nat.le_of_ble_eq_true rfl, Nat.le_of_ble_eq_true rfl⟩ w_556 w_558 sl_44 rfl rfl rfl rfl rfl rfl (by decide) rfl rfl (Nat.le_of_ble_eq_true rfl) k

set_option maxRecDepth 20000 in
theorem b_Ro_roundLead_124 {l : Launch} {G : gG} {w0 w1 : va_W} {res : Option Value} {ad_r ad_s : Nat} {r_k r_infinite r_lies s_place s_rest : Int32} {r_m s_lead : Int64} {x2 : Int32} {x3 : Int64} {x5 : Int64} {x7 : Int64} {x9 : Int32} {x10 : Int32} (k0 : res = none ∧ [oRo ad_r r_m r_k r_infinite r_lies, oSi ad_s s_lead s_place s_rest] = w1) : gAt l G m_Ro_roundLead w0 res w1 124 [(0, .ref ad_r), (1, .ref ad_s), (2, .int x2), (3, .long x3), (5, .long x5), (7, .long x7), (9, .int x9), (10, .int x10)] [] [oRo ad_r r_m r_k r_infinite r_lies, oSi ad_s s_lead s_place s_rest] := by
  exact a_vret (st := []) dRo_roundLead_124 rfl k0.1 k0.2

set_option maxRecDepth 20000 in
theorem b_Ro_carry_0 {l : Launch} {G : gG} {w0 w1 : va_W} {res : Option Value} {ad_r : Nat} {r_k r_infinite r_lies : Int32} {r_m : Int64} {i1 : Nat} (k0 : gAt l G m_Ro_carry w0 res w1 8 [(0, .ref ad_r), (1, .ref (g_adE G i1))] [.ref (g_adE G i1), .long (2 : Int64), .long r_m] [oRo ad_r r_m r_k r_infinite r_lies]) : gAt l G m_Ro_carry w0 res w1 0 [(0, .ref ad_r), (1, .ref (g_adE G i1))] [] [oRo ad_r r_m r_k r_infinite r_lies] := by
  refine a_aload_n 0 dRo_carry_0 rfl ?_
  refine a_get (ci := 3) (kx := 0) 0 dRo_carry_1 rfl I_Ro w_143 rfl (by decide) rfl ?_
  refine a_ldc2 (2 : Int64) dRo_carry_4 w_568 ?_
  refine a_aload_n 1 dRo_carry_7 rfl ?_
  exact k0

set_option maxRecDepth 20000 in
theorem k_Ro_carry_8 {l : Launch} {G : gG} {w0 w1 : va_W} {res : Option Value} {ad_r : Nat} {r_k r_infinite r_lies : Int32} {r_m : Int64} {i1 : Nat} {v1 : Int64} {v2 : Int64} {r : Int64} (hi : i1 < 2) (hc : gCt l G m_Fm_hiddenBit [.ref (g_adE G i1)] [] (some (.long r)) []) (k : gAt l G m_Ro_carry w0 res w1 11 [(0, .ref ad_r), (1, .ref (g_adE G i1))] [.long r, .long v1, .long v2] [oRo ad_r r_m r_k r_infinite r_lies]) : gAt l G m_Ro_carry w0 res w1 8 [(0, .ref ad_r), (1, .ref (g_adE G i1))] [.ref (g_adE G i1), .long v1, .long v2] [oRo ad_r r_m r_k r_infinite r_lies] :=
  a_callEN (As := []) (rest := [.long v1, .long v2]) (wc := []) (wr := [oRo ad_r r_m r_k r_infinite r_lies]) (w1c := []) (r := (some (.long r))) [oRo ad_r r_m r_k r_infinite r_lies] [] [0] [0] (i := i1) hc dRo_carry_8 rfl ok_Fm_hiddenBit ⟨Nat.le_of_ble_eq_true rfl, Nat.le_of_ble_eq_true rfl⟩ nm_mem_569 w_434 sl_19 hi rfl rfl rfl rfl (by decide) rfl rfl (Nat.le_of_ble_eq_true rfl) k

set_option maxRecDepth 20000 in
theorem b_Ro_carry_11 {l : Launch} {G : gG} {w0 w1 : va_W} {res : Option Value} {ad_r : Nat} {r_k r_infinite r_lies : Int32} {r_m : Int64} {i1 : Nat} {v0 : Int64} {v1 : Int64} {v2 : Int64} (k0 : ((lg_cmp v2 (v1 * v0)) < 0) → gAt l G m_Ro_carry w0 res w1 36 [(0, .ref ad_r), (1, .ref (g_adE G i1))] [] [oRo ad_r r_m r_k r_infinite r_lies]) (k1 : (¬ (lg_cmp v2 (v1 * v0)) < 0) → gAt l G m_Ro_carry w0 res w1 36 [(0, .ref ad_r), (1, .ref (g_adE G i1))] [] [oRo ad_r ((Int64.toUInt64 r_m >>> ((Int32.toInt64 (1 : Int32)).toUInt64 &&& Int64.toUInt64 63)).toInt64) (r_k + (1 : Int32)) r_infinite r_lies]) : gAt l G m_Ro_carry w0 res w1 11 [(0, .ref ad_r), (1, .ref (g_adE G i1))] [.long v0, .long v1, .long v2] [oRo ad_r r_m r_k r_infinite r_lies] := by
  refine a_lmul dRo_carry_11 ?_
  refine a_lcmp dRo_carry_12 ?_
  refine a_if_lt 36 dRo_carry_13 (by decide) (fun c1 => ?_) (fun c1 => ?_)
  · exact (k0 c1)
  · refine a_aload_n 0 dRo_carry_16 rfl ?_
    refine a_dup dRo_carry_17 rfl ?_
    refine a_get (ci := 3) (kx := 0) 0 dRo_carry_18 rfl I_Ro w_143 rfl (by decide) rfl ?_
    refine a_iconst (1 : Int32) dRo_carry_21 (by decide) ?_
    refine a_lushr dRo_carry_22 ?_
    refine a_put (ci := 3) (kx := 0) ty_Ro 0 [oRo ad_r ((Int64.toUInt64 r_m >>> ((Int32.toInt64 (1 : Int32)).toUInt64 &&& Int64.toUInt64 63)).toInt64) r_k r_infinite r_lies] dRo_carry_23 rfl I_Ro tyo_Ro nmo_Ro w_143 rfl (by decide) rfl rfl rfl (Nat.le_of_ble_eq_true rfl) rfl ?_
    refine a_aload_n 0 dRo_carry_26 rfl ?_
    refine a_dup dRo_carry_27 rfl ?_
    refine a_get (ci := 3) (kx := 1) 0 dRo_carry_28 rfl I_Ro w_144 rfl (by decide) rfl ?_
    refine a_iconst (1 : Int32) dRo_carry_31 (by decide) ?_
    refine a_iadd dRo_carry_32 ?_
    refine a_put (ci := 3) (kx := 1) ty_Ro 0 [oRo ad_r ((Int64.toUInt64 r_m >>> ((Int32.toInt64 (1 : Int32)).toUInt64 &&& Int64.toUInt64 63)).toInt64) (r_k + (1 : Int32)) r_infinite r_lies] dRo_carry_33 rfl I_Ro tyo_Ro nmo_Ro w_144 rfl (by decide) rfl rfl rfl (Nat.le_of_ble_eq_true rfl) rfl ?_
    exact (k1 c1)

set_option maxRecDepth 20000 in
theorem b_Ro_carry_36 {l : Launch} {G : gG} {w0 w1 : va_W} {res : Option Value} {ad_r : Nat} {r_k r_infinite r_lies : Int32} {r_m : Int64} {i1 : Nat} (k0 : gAt l G m_Ro_carry w0 res w1 42 [(0, .ref ad_r), (1, .ref (g_adE G i1))] [.ref (g_adE G i1), .ref (g_adE G i1), .int r_k] [oRo ad_r r_m r_k r_infinite r_lies]) : gAt l G m_Ro_carry w0 res w1 36 [(0, .ref ad_r), (1, .ref (g_adE G i1))] [] [oRo ad_r r_m r_k r_infinite r_lies] := by
  refine a_aload_n 0 dRo_carry_36 rfl ?_
  refine a_get (ci := 3) (kx := 1) 0 dRo_carry_37 rfl I_Ro w_144 rfl (by decide) rfl ?_
  refine a_aload_n 1 dRo_carry_40 rfl ?_
  refine a_aload_n 1 dRo_carry_41 rfl ?_
  exact k0

set_option maxRecDepth 20000 in
theorem k_Ro_carry_42 {l : Launch} {G : gG} {w0 w1 : va_W} {res : Option Value} {ad_r : Nat} {r_k r_infinite r_lies : Int32} {r_m : Int64} {i1 : Nat} {v2 : Int32} {r : Int32} (hi : i1 < 2) (hc : gCt l G m_Fm_infiniteField [.ref (g_adE G i1)] [] (some (.int r)) []) (k : gAt l G m_Ro_carry w0 res w1 45 [(0, .ref ad_r), (1, .ref (g_adE G i1))] [.int r, .ref (g_adE G i1), .int v2] [oRo ad_r r_m r_k r_infinite r_lies]) : gAt l G m_Ro_carry w0 res w1 42 [(0, .ref ad_r), (1, .ref (g_adE G i1))] [.ref (g_adE G i1), .ref (g_adE G i1), .int v2] [oRo ad_r r_m r_k r_infinite r_lies] :=
  a_callEN (As := []) (rest := [.ref (g_adE G i1), .int v2]) (wc := []) (wr := [oRo ad_r r_m r_k r_infinite r_lies]) (w1c := []) (r := (some (.int r))) [oRo ad_r r_m r_k r_infinite r_lies] [] [0] [0] (i := i1) hc dRo_carry_42 rfl ok_Fm_infiniteField ⟨Nat.le_of_ble_eq_true rfl, Nat.le_of_ble_eq_true rfl⟩ nm_mem_570 w_430 sl_18 hi rfl rfl rfl rfl (by decide) rfl rfl (Nat.le_of_ble_eq_true rfl) k

set_option maxRecDepth 20000 in
theorem b_Ro_carry_45 {l : Launch} {G : gG} {w0 w1 : va_W} {res : Option Value} {ad_r : Nat} {r_k r_infinite r_lies : Int32} {r_m : Int64} {i1 : Nat} {v0 : Int32} {v2 : Int32} (k0 : gAt l G m_Ro_carry w0 res w1 47 [(0, .ref ad_r), (1, .ref (g_adE G i1))] [.int (v0 - (1 : Int32)), .ref (g_adE G i1), .int v2] [oRo ad_r r_m r_k r_infinite r_lies]) : gAt l G m_Ro_carry w0 res w1 45 [(0, .ref ad_r), (1, .ref (g_adE G i1))] [.int v0, .ref (g_adE G i1), .int v2] [oRo ad_r r_m r_k r_infinite r_lies] := by
  refine a_iconst (1 : Int32) dRo_carry_45 (by decide) ?_
  refine a_isub dRo_carry_46 ?_
  exact k0

set_option maxRecDepth 20000 in
theorem k_Ro_carry_47 {l : Launch} {G : gG} {w0 w1 : va_W} {res : Option Value} {ad_r : Nat} {r_k r_infinite r_lies : Int32} {r_m : Int64} {i1 : Nat} {v0 : Int32} {v2 : Int32} {r : Int32} (hi : i1 < 2) (hc : gCt l G m_Fm_exponentOf [.ref (g_adE G i1), .int v0] [] (some (.int r)) []) (k : gAt l G m_Ro_carry w0 res w1 50 [(0, .ref ad_r), (1, .ref (g_adE G i1))] [.int r, .int v2] [oRo ad_r r_m r_k r_infinite r_lies]) : gAt l G m_Ro_carry w0 res w1 47 [(0, .ref ad_r), (1, .ref (g_adE G i1))] [.int v0, .ref (g_adE G i1), .int v2] [oRo ad_r r_m r_k r_infinite r_lies] :=
  a_callEN (As := [.int v0]) (rest := [.int v2]) (wc := []) (wr := [oRo ad_r r_m r_k r_infinite r_lies]) (w1c := []) (r := (some (.int r))) [oRo ad_r r_m r_k r_infinite r_lies] [] [0] [0] (i := i1) hc dRo_carry_47 rfl ok_Fm_exponentOf ⟨Nat.le_of_ble_eq_true rfl, Nat.le_of_ble_eq_true rfl⟩ nm_mem_571 w_573 sl_47 hi rfl rfl rfl rfl (by decide) rfl rfl (Nat.le_of_ble_eq_true rfl) k

set_option maxRecDepth 20000 in
theorem b_Ro_carry_50 {l : Launch} {G : gG} {w0 w1 : va_W} {res : Option Value} {ad_r : Nat} {r_k r_infinite r_lies : Int32} {r_m : Int64} {i1 : Nat} {v0 : Int32} {v1 : Int32} (k0 : (v1 ≤ v0) → gAt l G m_Ro_carry w0 res w1 63 [(0, .ref ad_r), (1, .ref (g_adE G i1))] [] [oRo ad_r r_m r_k r_infinite r_lies]) (k1 : (¬ v1 ≤ v0) → gAt l G m_Ro_carry w0 res w1 63 [(0, .ref ad_r), (1, .ref (g_adE G i1))] [] [oRo ad_r r_m r_k (1 : Int32) (1 : Int32)]) : gAt l G m_Ro_carry w0 res w1 50 [(0, .ref ad_r), (1, .ref (g_adE G i1))] [.int v0, .int v1] [oRo ad_r r_m r_k r_infinite r_lies] := by
  refine a_icmp_le 63 dRo_carry_50 (by decide) (fun c1 => ?_) (fun c1 => ?_)
  · exact (k0 c1)
  · refine a_aload_n 0 dRo_carry_53 rfl ?_
    refine a_iconst (1 : Int32) dRo_carry_54 (by decide) ?_
    refine a_put (ci := 3) (kx := 2) ty_Ro 0 [oRo ad_r r_m r_k (1 : Int32) r_lies] dRo_carry_55 rfl I_Ro tyo_Ro nmo_Ro w_145 rfl (by decide) rfl (by decide) (by decide) (Nat.le_of_ble_eq_true rfl) rfl ?_
    refine a_aload_n 0 dRo_carry_58 rfl ?_
    refine a_iconst (1 : Int32) dRo_carry_59 (by decide) ?_
    refine a_put (ci := 3) (kx := 3) ty_Ro 0 [oRo ad_r r_m r_k (1 : Int32) (1 : Int32)] dRo_carry_60 rfl I_Ro tyo_Ro nmo_Ro w_146 rfl (by decide) rfl rfl rfl (Nat.le_of_ble_eq_true rfl) rfl ?_
    exact (k1 c1)

set_option maxRecDepth 20000 in
theorem b_Ro_carry_63 {l : Launch} {G : gG} {w0 w1 : va_W} {res : Option Value} {ad_r : Nat} {r_k r_infinite r_lies : Int32} {r_m : Int64} {i1 : Nat} (k0 : res = none ∧ [oRo ad_r r_m r_k r_infinite r_lies] = w1) : gAt l G m_Ro_carry w0 res w1 63 [(0, .ref ad_r), (1, .ref (g_adE G i1))] [] [oRo ad_r r_m r_k r_infinite r_lies] := by
  exact a_vret (st := []) dRo_carry_63 rfl k0.1 k0.2

set_option maxRecDepth 20000 in
theorem b_Ro_bitsOfSize_0 {l : Launch} {G : gG} {w0 w1 : va_W} {res : Option Value} {ad_r : Nat} {r_k r_infinite r_lies : Int32} {r_m : Int64} {i1 : Nat} (k0 : (r_infinite = 0) → gAt l G m_Ro_bitsOfSize w0 res w1 22 [(0, .ref ad_r), (1, .ref (g_adE G i1))] [.ref (g_adE G i1), .long r_m] [oRo ad_r r_m r_k r_infinite r_lies]) (k1 : (¬ r_infinite = 0) → gAt l G m_Ro_bitsOfSize w0 res w1 9 [(0, .ref ad_r), (1, .ref (g_adE G i1))] [.ref (g_adE G i1), .ref (g_adE G i1)] [oRo ad_r r_m r_k r_infinite r_lies]) : gAt l G m_Ro_bitsOfSize w0 res w1 0 [(0, .ref ad_r), (1, .ref (g_adE G i1))] [] [oRo ad_r r_m r_k r_infinite r_lies] := by
  refine a_aload_n 0 dRo_bitsOfSize_0 rfl ?_
  refine a_get (ci := 3) (kx := 2) 0 dRo_bitsOfSize_1 rfl I_Ro w_145 rfl (by decide) rfl ?_
  refine a_if_eq 17 dRo_bitsOfSize_4 (by decide) (fun c1 => ?_) (fun c1 => ?_)
  · refine a_aload_n 0 dRo_bitsOfSize_17 rfl ?_
    refine a_get (ci := 3) (kx := 0) 0 dRo_bitsOfSize_18 rfl I_Ro w_143 rfl (by decide) rfl ?_
    refine a_aload_n 1 dRo_bitsOfSize_21 rfl ?_
    exact (k0 c1)
  · refine a_aload_n 1 dRo_bitsOfSize_7 rfl ?_
    refine a_aload_n 1 dRo_bitsOfSize_8 rfl ?_
    exact (k1 c1)

set_option maxRecDepth 20000 in
theorem k_Ro_bitsOfSize_9 {l : Launch} {G : gG} {w0 w1 : va_W} {res : Option Value} {ad_r : Nat} {r_k r_infinite r_lies : Int32} {r_m : Int64} {i1 : Nat} {r : Int32} (hi : i1 < 2) (hc : gCt l G m_Fm_infiniteField [.ref (g_adE G i1)] [] (some (.int r)) []) (k : gAt l G m_Ro_bitsOfSize w0 res w1 12 [(0, .ref ad_r), (1, .ref (g_adE G i1))] [.int r, .ref (g_adE G i1)] [oRo ad_r r_m r_k r_infinite r_lies]) : gAt l G m_Ro_bitsOfSize w0 res w1 9 [(0, .ref ad_r), (1, .ref (g_adE G i1))] [.ref (g_adE G i1), .ref (g_adE G i1)] [oRo ad_r r_m r_k r_infinite r_lies] :=
  a_callEN (As := []) (rest := [.ref (g_adE G i1)]) (wc := []) (wr := [oRo ad_r r_m r_k r_infinite r_lies]) (w1c := []) (r := (some (.int r))) [oRo ad_r r_m r_k r_infinite r_lies] [] [0] [0] (i := i1) hc dRo_bitsOfSize_9 rfl ok_Fm_infiniteField ⟨Nat.le_of_ble_eq_true rfl, Nat.le_of_ble_eq_true rfl⟩ nm_mem_570 w_430 sl_18 hi rfl rfl rfl rfl (by decide) rfl rfl (Nat.le_of_ble_eq_true rfl) k

set_option maxRecDepth 20000 in
theorem b_Ro_bitsOfSize_12 {l : Launch} {G : gG} {w0 w1 : va_W} {res : Option Value} {ad_r : Nat} {r_k r_infinite r_lies : Int32} {r_m : Int64} {i1 : Nat} {v0 : Int32} (k0 : gAt l G m_Ro_bitsOfSize w0 res w1 13 [(0, .ref ad_r), (1, .ref (g_adE G i1))] [.long (0 : Int64), .int v0, .ref (g_adE G i1)] [oRo ad_r r_m r_k r_infinite r_lies]) : gAt l G m_Ro_bitsOfSize w0 res w1 12 [(0, .ref ad_r), (1, .ref (g_adE G i1))] [.int v0, .ref (g_adE G i1)] [oRo ad_r r_m r_k r_infinite r_lies] := by
  refine a_lconst (0 : Int64) dRo_bitsOfSize_12 (by decide) ?_
  exact k0

set_option maxRecDepth 20000 in
theorem k_Ro_bitsOfSize_13 {l : Launch} {G : gG} {w0 w1 : va_W} {res : Option Value} {ad_r : Nat} {r_k r_infinite r_lies : Int32} {r_m : Int64} {i1 : Nat} {v0 : Int64} {v1 : Int32} {r : Int64} (hi : i1 < 2) (hc : gCt l G m_Fm_bitsOf [.ref (g_adE G i1), .int v1, .long v0] [] (some (.long r)) []) (k : gAt l G m_Ro_bitsOfSize w0 res w1 16 [(0, .ref ad_r), (1, .ref (g_adE G i1))] [.long r] [oRo ad_r r_m r_k r_infinite r_lies]) : gAt l G m_Ro_bitsOfSize w0 res w1 13 [(0, .ref ad_r), (1, .ref (g_adE G i1))] [.long v0, .int v1, .ref (g_adE G i1)] [oRo ad_r r_m r_k r_infinite r_lies] :=
  a_callEN (As := [.int v1, .long v0]) (rest := []) (wc := []) (wr := [oRo ad_r r_m r_k r_infinite r_lies]) (w1c := []) (r := (some (.long r))) [oRo ad_r r_m r_k r_infinite r_lies] [] [0] [0] (i := i1) hc dRo_bitsOfSize_13 rfl ok_Fm_bitsOf ⟨Nat.le_of_ble_eq_true rfl, Nat.le_of_ble_eq_true rfl⟩ nm_mem_579 w_438 sl_20 hi rfl rfl rfl rfl (by decide) rfl rfl (Nat.le_of_ble_eq_true rfl) k

set_option maxRecDepth 20000 in
theorem b_Ro_bitsOfSize_16 {l : Launch} {G : gG} {w0 w1 : va_W} {res : Option Value} {ad_r : Nat} {r_k r_infinite r_lies : Int32} {r_m : Int64} {i1 : Nat} {v0 : Int64} (k0 : res = some (.long v0) ∧ [oRo ad_r r_m r_k r_infinite r_lies] = w1) : gAt l G m_Ro_bitsOfSize w0 res w1 16 [(0, .ref ad_r), (1, .ref (g_adE G i1))] [.long v0] [oRo ad_r r_m r_k r_infinite r_lies] := by
  exact a_lret (st := []) dRo_bitsOfSize_16 rfl k0.1 k0.2

set_option maxRecDepth 20000 in
theorem k_Ro_bitsOfSize_22 {l : Launch} {G : gG} {w0 w1 : va_W} {res : Option Value} {ad_r : Nat} {r_k r_infinite r_lies : Int32} {r_m : Int64} {i1 : Nat} {v1 : Int64} {r : Int64} (hi : i1 < 2) (hc : gCt l G m_Fm_hiddenBit [.ref (g_adE G i1)] [] (some (.long r)) []) (k : gAt l G m_Ro_bitsOfSize w0 res w1 25 [(0, .ref ad_r), (1, .ref (g_adE G i1))] [.long r, .long v1] [oRo ad_r r_m r_k r_infinite r_lies]) : gAt l G m_Ro_bitsOfSize w0 res w1 22 [(0, .ref ad_r), (1, .ref (g_adE G i1))] [.ref (g_adE G i1), .long v1] [oRo ad_r r_m r_k r_infinite r_lies] :=
  a_callEN (As := []) (rest := [.long v1]) (wc := []) (wr := [oRo ad_r r_m r_k r_infinite r_lies]) (w1c := []) (r := (some (.long r))) [oRo ad_r r_m r_k r_infinite r_lies] [] [0] [0] (i := i1) hc dRo_bitsOfSize_22 rfl ok_Fm_hiddenBit ⟨Nat.le_of_ble_eq_true rfl, Nat.le_of_ble_eq_true rfl⟩ nm_mem_569 w_434 sl_19 hi rfl rfl rfl rfl (by decide) rfl rfl (Nat.le_of_ble_eq_true rfl) k

set_option maxRecDepth 20000 in
theorem b_Ro_bitsOfSize_25 {l : Launch} {G : gG} {w0 w1 : va_W} {res : Option Value} {ad_r : Nat} {r_k r_infinite r_lies : Int32} {r_m : Int64} {i1 : Nat} {v0 : Int64} {v1 : Int64} (s0 : (0 ≤ (lg_cmp v1 v0)) → i1 < 2) (k1 : (0 ≤ (lg_cmp v1 v0)) → gAt l G m_Ro_bitsOfSize w0 res w1 44 [(0, .ref ad_r), (1, .ref (g_adE G i1))] [.int ((r_k - (g_eF1.2.2.2.getD i1 0)) + (1 : Int32))] [oRo ad_r r_m r_k r_infinite r_lies]) (k2 : (¬ 0 ≤ (lg_cmp v1 v0)) → gAt l G m_Ro_bitsOfSize w0 res w1 44 [(0, .ref ad_r), (1, .ref (g_adE G i1))] [.int (0 : Int32)] [oRo ad_r r_m r_k r_infinite r_lies]) : gAt l G m_Ro_bitsOfSize w0 res w1 25 [(0, .ref ad_r), (1, .ref (g_adE G i1))] [.long v0, .long v1] [oRo ad_r r_m r_k r_infinite r_lies] := by
  refine a_lcmp dRo_bitsOfSize_25 ?_
  refine a_if_ge 33 dRo_bitsOfSize_26 (by decide) (fun c1 => ?_) (fun c1 => ?_)
  · refine a_aload_n 0 dRo_bitsOfSize_33 rfl ?_
    refine a_get (ci := 3) (kx := 1) 0 dRo_bitsOfSize_34 rfl I_Ro w_144 rfl (by decide) rfl ?_
    refine a_aload_n 1 dRo_bitsOfSize_37 rfl ?_
    refine a_getEN (q := g_eF1) dRo_bitsOfSize_38 g_in1 (s0 c1) nf_mem_860 ?_
    refine a_isub dRo_bitsOfSize_41 ?_
    refine a_iconst (1 : Int32) dRo_bitsOfSize_42 (by decide) ?_
    refine a_iadd dRo_bitsOfSize_43 ?_
    exact (k1 c1)
  · refine a_iconst (0 : Int32) dRo_bitsOfSize_29 (by decide) ?_
    refine a_goto 44 dRo_bitsOfSize_30 (by decide) ?_
    exact (k2 c1)

set_option maxRecDepth 20000 in
theorem b_Ro_bitsOfSize_44 {l : Launch} {G : gG} {w0 w1 : va_W} {res : Option Value} {ad_r : Nat} {r_k r_infinite r_lies : Int32} {r_m : Int64} {i1 : Nat} {v0 : Int32} (k0 : gAt l G m_Ro_bitsOfSize w0 res w1 51 [(0, .ref ad_r), (1, .ref (g_adE G i1)), (2, .int v0)] [.long r_m, .int v0, .ref (g_adE G i1)] [oRo ad_r r_m r_k r_infinite r_lies]) : gAt l G m_Ro_bitsOfSize w0 res w1 44 [(0, .ref ad_r), (1, .ref (g_adE G i1))] [.int v0] [oRo ad_r r_m r_k r_infinite r_lies] := by
  refine a_istore_n [(2, .int v0), (0, .ref ad_r), (1, .ref (g_adE G i1))] dRo_bitsOfSize_44 rfl (by decide) rfl ?_
  refine a_aload_n 2 dRo_bitsOfSize_45 rfl ?_
  refine a_iload_n 0 dRo_bitsOfSize_46 rfl ?_
  refine a_aload_n 1 dRo_bitsOfSize_47 rfl ?_
  refine a_get (ci := 3) (kx := 0) 0 dRo_bitsOfSize_48 rfl I_Ro w_143 rfl (by decide) rfl ?_
  refine a_lv [(0, .ref ad_r), (1, .ref (g_adE G i1)), (2, .int v0)] [1, 2, 0] rfl ?_
  exact k0

set_option maxRecDepth 20000 in
theorem k_Ro_bitsOfSize_51 {l : Launch} {G : gG} {w0 w1 : va_W} {res : Option Value} {ad_r : Nat} {r_k r_infinite r_lies : Int32} {r_m : Int64} {i1 : Nat} {x2 : Int32} {v0 : Int64} {v1 : Int32} {r : Int64} (hi : i1 < 2) (hc : gCt l G m_Fm_bitsOf [.ref (g_adE G i1), .int v1, .long v0] [] (some (.long r)) []) (k : gAt l G m_Ro_bitsOfSize w0 res w1 54 [(0, .ref ad_r), (1, .ref (g_adE G i1)), (2, .int x2)] [.long r] [oRo ad_r r_m r_k r_infinite r_lies]) : gAt l G m_Ro_bitsOfSize w0 res w1 51 [(0, .ref ad_r), (1, .ref (g_adE G i1)), (2, .int x2)] [.long v0, .int v1, .ref (g_adE G i1)] [oRo ad_r r_m r_k r_infinite r_lies] :=
  a_callEN (As := [.int v1, .long v0]) (rest := []) (wc := []) (wr := [oRo ad_r r_m r_k r_infinite r_lies]) (w1c := []) (r := (some (.long r))) [oRo ad_r r_m r_k r_infinite r_lies] [] [0] [0] (i := i1) hc dRo_bitsOfSize_51 rfl ok_Fm_bitsOf ⟨Nat.le_of_ble_eq_true rfl, Nat.le_of_ble_eq_true rfl⟩ nm_mem_579 w_438 sl_20 hi rfl rfl rfl rfl (by decide) rfl rfl (Nat.le_of_ble_eq_true rfl) k

set_option maxRecDepth 20000 in
theorem b_Ro_bitsOfSize_54 {l : Launch} {G : gG} {w0 w1 : va_W} {res : Option Value} {ad_r : Nat} {r_k r_infinite r_lies : Int32} {r_m : Int64} {i1 : Nat} {x2 : Int32} {v0 : Int64} (k0 : res = some (.long v0) ∧ [oRo ad_r r_m r_k r_infinite r_lies] = w1) : gAt l G m_Ro_bitsOfSize w0 res w1 54 [(0, .ref ad_r), (1, .ref (g_adE G i1)), (2, .int x2)] [.long v0] [oRo ad_r r_m r_k r_infinite r_lies] := by
  exact a_lret (st := []) dRo_bitsOfSize_54 rfl k0.1 k0.2
