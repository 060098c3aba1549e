set_option maxRecDepth 20000 in
theorem b_Nt_room_0 {l : Launch} {G : gG} {w0 w1 : va_W} {res : Option Value} {ad_t ar_t : Nat} {t_length t_scanned t_measured t_at t_found t_wrongAt t_negative t_digitsFrom t_digitsTo t_significant t_fraction t_exponent : Int32} {t_row : Nat → Int32}  (k0 : res = some (.int ((4096 : Int32) - t_length)) ∧ [oNt ad_t ar_t t_length t_scanned t_measured t_at t_found t_wrongAt t_negative t_digitsFrom t_digitsTo t_significant t_fraction t_exponent, aC G ar_t 4096 t_row] = w1) : gAt l G m_Nt_room w0 res w1 0 [(0, .ref ad_t)] [] [oNt ad_t ar_t t_length t_scanned t_measured t_at t_found t_wrongAt t_negative t_digitsFrom t_digitsTo t_significant t_fraction t_exponent, aC G ar_t 4096 t_row] := by
  refine a_aload_n 0 dNt_room_0 rfl ?_
  refine a_get (ci := 2) (kx := 0) 0 dNt_room_1 rfl I_Nt w_36 rfl (by decide) rfl ?_
  refine a_clen 1 (4096 : Int32) dNt_room_4 rfl rfl ?_
  refine a_aload_n 0 dNt_room_5 rfl ?_
  refine a_get (ci := 2) (kx := 1) 0 dNt_room_6 rfl I_Nt w_37 rfl (by decide) rfl ?_
  refine a_isub dNt_room_9 ?_
  exact a_iret (st := []) dNt_room_10 rfl k0.1 k0.2

set_option maxRecDepth 20000 in
theorem b_Nt_append_0 {l : Launch} {G : gG} {w0 w1 : va_W} {res : Option Value} {ad_t ar_t : Nat} {t_length t_scanned t_measured t_at t_found t_wrongAt t_negative t_digitsFrom t_digitsTo t_significant t_fraction t_exponent : Int32} {t_row : Nat → Int32} {x1 : Int32} (k0 : (x1 = 0) → gAt l G m_Nt_append w0 res w1 48 [(0, .ref ad_t), (1, .int x1)] [] [oNt ad_t ar_t t_length t_scanned t_measured t_at t_found t_wrongAt t_negative t_digitsFrom t_digitsTo t_significant t_fraction t_exponent, aC G ar_t 4096 t_row]) (k1 : (¬ x1 = 0) → (t_length < 0) → gAt l G m_Nt_append w0 res w1 48 [(0, .ref ad_t), (1, .int x1)] [] [oNt ad_t ar_t t_length t_scanned t_measured t_at t_found t_wrongAt t_negative t_digitsFrom t_digitsTo t_significant t_fraction t_exponent, aC G ar_t 4096 t_row]) (k2 : (¬ x1 = 0) → (¬ t_length < 0) → ((4096 : Int32) ≤ t_length) → gAt l G m_Nt_append w0 res w1 48 [(0, .ref ad_t), (1, .int x1)] [] [oNt ad_t ar_t t_length t_scanned t_measured t_at t_found t_wrongAt t_negative t_digitsFrom t_digitsTo t_significant t_fraction t_exponent, aC G ar_t 4096 t_row]) (s3 : (¬ x1 = 0) → (¬ t_length < 0) → (¬ (4096 : Int32) ≤ t_length) → vp_in t_length 4096) (k4 : (¬ x1 = 0) → (¬ t_length < 0) → (¬ (4096 : Int32) ≤ t_length) → gAt l G m_Nt_append w0 res w1 48 [(0, .ref ad_t), (1, .int x1)] [] [oNt ad_t ar_t (t_length + (1 : Int32)) (0 : Int32) t_measured t_at t_found t_wrongAt t_negative t_digitsFrom t_digitsTo t_significant t_fraction t_exponent, aC G ar_t 4096 (upd t_row (Int32.toNatClampNeg t_length) (vp_nar .char x1))]) : gAt l G m_Nt_append w0 res w1 0 [(0, .ref ad_t), (1, .int x1)] [] [oNt ad_t ar_t t_length t_scanned t_measured t_at t_found t_wrongAt t_negative t_digitsFrom t_digitsTo t_significant t_fraction t_exponent, aC G ar_t 4096 t_row] := by
  refine a_iload_n 1 dNt_append_0 rfl ?_
  refine a_if_eq 48 dNt_append_1 (by decide) (fun c1 => ?_) (fun c1 => ?_)
  · exact (k0 c1)
  · refine a_aload_n 0 dNt_append_4 rfl ?_
    refine a_get (ci := 2) (kx := 1) 0 dNt_append_5 rfl I_Nt w_37 rfl (by decide) rfl ?_
    refine a_if_lt 48 dNt_append_8 (by decide) (fun c2 => ?_) (fun c2 => ?_)
    · exact (k1 c1 c2)
    · refine a_aload_n 0 dNt_append_11 rfl ?_
      refine a_get (ci := 2) (kx := 1) 0 dNt_append_12 rfl I_Nt w_37 rfl (by decide) rfl ?_
      refine a_aload_n 0 dNt_append_15 rfl ?_
      refine a_get (ci := 2) (kx := 0) 0 dNt_append_16 rfl I_Nt w_36 rfl (by decide) rfl ?_
      refine a_clen 1 (4096 : Int32) dNt_append_19 rfl rfl ?_
      refine a_icmp_ge 48 dNt_append_20 (by decide) (fun c3 => ?_) (fun c3 => ?_)
      · exact (k2 c1 c2 c3)
      · refine a_aload_n 0 dNt_append_23 rfl ?_
        refine a_get (ci := 2) (kx := 0) 0 dNt_append_24 rfl I_Nt w_36 rfl (by decide) rfl ?_
        refine a_aload_n 0 dNt_append_27 rfl ?_
        refine a_get (ci := 2) (kx := 1) 0 dNt_append_28 rfl I_Nt w_37 rfl (by decide) rfl ?_
        refine a_iload_n 1 dNt_append_31 rfl ?_
        refine a_cast 1 [oNt ad_t ar_t t_length t_scanned t_measured t_at t_found t_wrongAt t_negative t_digitsFrom t_digitsTo t_significant t_fraction t_exponent, aC G ar_t 4096 (upd t_row (Int32.toNatClampNeg t_length) (vp_nar .char x1))] dNt_append_32 rfl (s3 c1 c2 c3) rfl ?_
        refine a_aload_n 0 dNt_append_33 rfl ?_
        refine a_dup dNt_append_34 rfl ?_
        refine a_get (ci := 2) (kx := 1) 0 dNt_append_35 rfl I_Nt w_37 rfl (by decide) rfl ?_
        refine a_iconst (1 : Int32) dNt_append_38 (by decide) ?_
        refine a_iadd dNt_append_39 ?_
        refine a_put (ci := 2) (kx := 1) ty_Nt 0 [oNt ad_t ar_t (t_length + (1 : Int32)) t_scanned t_measured t_at t_found t_wrongAt t_negative t_digitsFrom t_digitsTo t_significant t_fraction t_exponent, aC G ar_t 4096 (upd t_row (Int32.toNatClampNeg t_length) (vp_nar .char x1))] dNt_append_40 rfl I_Nt tyo_Nt nmo_Nt w_37 rfl (by decide) rfl rfl rfl (Nat.le_of_ble_eq_true rfl) rfl ?_
        refine a_aload_n 0 dNt_append_43 rfl ?_
        refine a_iconst (0 : Int32) dNt_append_44 (by decide) ?_
        refine a_put (ci := 2) (kx := 2) ty_Nt 0 [oNt ad_t ar_t (t_length + (1 : Int32)) (0 : Int32) t_measured t_at t_found t_wrongAt t_negative t_digitsFrom t_digitsTo t_significant t_fraction t_exponent, aC G ar_t 4096 (upd t_row (Int32.toNatClampNeg t_length) (vp_nar .char x1))] dNt_append_45 rfl I_Nt tyo_Nt nmo_Nt w_39 rfl (by decide) rfl (by decide) (by decide) (Nat.le_of_ble_eq_true rfl) rfl ?_
        exact (k4 c1 c2 c3)

set_option maxRecDepth 20000 in
theorem b_Nt_append_48 {l : Launch} {G : gG} {w0 w1 : va_W} {res : Option Value} {ad_t ar_t : Nat} {t_length t_scanned t_measured t_at t_found t_wrongAt t_negative t_digitsFrom t_digitsTo t_significant t_fraction t_exponent : Int32} {t_row : Nat → Int32} {x1 : Int32} (k0 : res = none ∧ [oNt ad_t ar_t t_length t_scanned t_measured t_at t_found t_wrongAt t_negative t_digitsFrom t_digitsTo t_significant t_fraction t_exponent, aC G ar_t 4096 t_row] = w1) : gAt l G m_Nt_append w0 res w1 48 [(0, .ref ad_t), (1, .int x1)] [] [oNt ad_t ar_t t_length t_scanned t_measured t_at t_found t_wrongAt t_negative t_digitsFrom t_digitsTo t_significant t_fraction t_exponent, aC G ar_t 4096 t_row] := by
  exact a_vret (st := []) dNt_append_48 rfl k0.1 k0.2

set_option maxRecDepth 20000 in
theorem b_Nt_dropLast_0 {l : Launch} {G : gG} {w0 w1 : va_W} {res : Option Value} {ad_t ar_t : Nat} {t_length t_scanned t_measured t_at t_found t_wrongAt t_negative t_digitsFrom t_digitsTo t_significant t_fraction t_exponent : Int32} {t_row : Nat → Int32} {x1 : Int32} (k0 : res = none ∧ [oNt ad_t ar_t (t_length - (if t_length < x1 then t_length else x1)) (0 : Int32) t_measured t_at t_found t_wrongAt t_negative t_digitsFrom t_digitsTo t_significant t_fraction t_exponent, aC G ar_t 4096 t_row] = w1) : gAt l G m_Nt_dropLast w0 res w1 0 [(0, .ref ad_t), (1, .int x1)] [] [oNt ad_t ar_t t_length t_scanned t_measured t_at t_found t_wrongAt t_negative t_digitsFrom t_digitsTo t_significant t_fraction t_exponent, aC G ar_t 4096 t_row] := by
  refine a_aload_n 0 dNt_dropLast_0 rfl ?_
  refine a_dup dNt_dropLast_1 rfl ?_
  refine a_get (ci := 2) (kx := 1) 0 dNt_dropLast_2 rfl I_Nt w_37 rfl (by decide) rfl ?_
  refine a_iload_n 1 dNt_dropLast_5 rfl ?_
  refine a_aload_n 0 dNt_dropLast_6 rfl ?_
  refine a_get (ci := 2) (kx := 1) 0 dNt_dropLast_7 rfl I_Nt w_37 rfl (by decide) rfl ?_
  refine a_mmin dNt_dropLast_10 w_197 w_198 w_12 w_199 (Nat.le_of_ble_eq_true rfl) (Nat.le_of_ble_eq_true rfl) ?_
  refine a_isub dNt_dropLast_13 ?_
  refine a_put (ci := 2) (kx := 1) ty_Nt 0 [oNt ad_t ar_t (t_length - (if t_length < x1 then t_length else x1)) t_scanned t_measured t_at t_found t_wrongAt t_negative t_digitsFrom t_digitsTo t_significant t_fraction t_exponent, aC G ar_t 4096 t_row] dNt_dropLast_14 rfl I_Nt tyo_Nt nmo_Nt w_37 rfl (by decide) rfl rfl rfl (Nat.le_of_ble_eq_true rfl) rfl ?_
  refine a_aload_n 0 dNt_dropLast_17 rfl ?_
  refine a_iconst (0 : Int32) dNt_dropLast_18 (by decide) ?_
  refine a_put (ci := 2) (kx := 2) ty_Nt 0 [oNt ad_t ar_t (t_length - (if t_length < x1 then t_length else x1)) (0 : Int32) t_measured t_at t_found t_wrongAt t_negative t_digitsFrom t_digitsTo t_significant t_fraction t_exponent, aC G ar_t 4096 t_row] dNt_dropLast_19 rfl I_Nt tyo_Nt nmo_Nt w_39 rfl (by decide) rfl (by decide) (by decide) (Nat.le_of_ble_eq_true rfl) rfl ?_
  exact a_vret (st := []) dNt_dropLast_22 rfl k0.1 k0.2

set_option maxRecDepth 20000 in
theorem b_Nt_scan_0 {l : Launch} {G : gG} {w0 w1 : va_W} {res : Option Value} {ad_t ar_t : Nat} {t_length t_scanned t_measured t_at t_found t_wrongAt t_negative t_digitsFrom t_digitsTo t_significant t_fraction t_exponent : Int32} {t_row : Nat → Int32}  (k0 : (t_scanned = 0) → gAt l G m_Nt_scan w0 res w1 24 [(0, .ref ad_t)] [.ref ad_t] [oNt ad_t ar_t t_length (1 : Int32) (0 : Int32) (0 : Int32) t_found t_wrongAt t_negative t_digitsFrom t_digitsTo t_significant t_fraction t_exponent, aC G ar_t 4096 t_row]) (k1 : (¬ t_scanned = 0) → res = none ∧ [oNt ad_t ar_t t_length t_scanned t_measured t_at t_found t_wrongAt t_negative t_digitsFrom t_digitsTo t_significant t_fraction t_exponent, aC G ar_t 4096 t_row] = w1) : gAt l G m_Nt_scan w0 res w1 0 [(0, .ref ad_t)] [] [oNt ad_t ar_t t_length t_scanned t_measured t_at t_found t_wrongAt t_negative t_digitsFrom t_digitsTo t_significant t_fraction t_exponent, aC G ar_t 4096 t_row] := by
  refine a_aload_n 0 dNt_scan_0 rfl ?_
  refine a_get (ci := 2) (kx := 2) 0 dNt_scan_1 rfl I_Nt w_39 rfl (by decide) rfl ?_
  refine a_if_eq 8 dNt_scan_4 (by decide) (fun c1 => ?_) (fun c1 => ?_)
  · refine a_aload_n 0 dNt_scan_8 rfl ?_
    refine a_iconst (1 : Int32) dNt_scan_9 (by decide) ?_
    refine a_put (ci := 2) (kx := 2) ty_Nt 0 [oNt ad_t ar_t t_length (1 : Int32) t_measured t_at t_found t_wrongAt t_negative t_digitsFrom t_digitsTo t_significant t_fraction t_exponent, aC G ar_t 4096 t_row] dNt_scan_10 rfl I_Nt tyo_Nt nmo_Nt w_39 rfl (by decide) rfl (by decide) (by decide) (Nat.le_of_ble_eq_true rfl) rfl ?_
    refine a_aload_n 0 dNt_scan_13 rfl ?_
    refine a_iconst (0 : Int32) dNt_scan_14 (by decide) ?_
    refine a_put (ci := 2) (kx := 3) ty_Nt 0 [oNt ad_t ar_t t_length (1 : Int32) (0 : Int32) t_at t_found t_wrongAt t_negative t_digitsFrom t_digitsTo t_significant t_fraction t_exponent, aC G ar_t 4096 t_row] dNt_scan_15 rfl I_Nt tyo_Nt nmo_Nt w_40 rfl (by decide) rfl (by decide) (by decide) (Nat.le_of_ble_eq_true rfl) rfl ?_
    refine a_aload_n 0 dNt_scan_18 rfl ?_
    refine a_iconst (0 : Int32) dNt_scan_19 (by decide) ?_
    refine a_put (ci := 2) (kx := 4) ty_Nt 0 [oNt ad_t ar_t t_length (1 : Int32) (0 : Int32) (0 : Int32) t_found t_wrongAt t_negative t_digitsFrom t_digitsTo t_significant t_fraction t_exponent, aC G ar_t 4096 t_row] dNt_scan_20 rfl I_Nt tyo_Nt nmo_Nt w_42 rfl (by decide) rfl rfl rfl (Nat.le_of_ble_eq_true rfl) rfl ?_
    refine a_aload_n 0 dNt_scan_23 rfl ?_
    exact (k0 c1)
  · exact a_vret (st := []) dNt_scan_7 rfl (k1 c1).1 (k1 c1).2

set_option maxRecDepth 20000 in
theorem k_Nt_scan_24 {l : Launch} {G : gG} {w0 w1 : va_W} {res : Option Value} {ad_t ar_t : Nat} {t_length t_scanned t_measured t_at t_found t_wrongAt t_negative t_digitsFrom t_digitsTo t_significant t_fraction t_exponent : Int32} {t_row : Nat → Int32}  {t_length' t_scanned' t_measured' t_at' t_found' t_wrongAt' t_negative' t_digitsFrom' t_digitsTo' t_significant' t_fraction' t_exponent' : Int32} {t_row' : Nat → Int32} (hc : gCt l G m_Nt_skipBlanks [.ref ad_t] [oNt ad_t ar_t t_length t_scanned t_measured t_at t_found t_wrongAt t_negative t_digitsFrom t_digitsTo t_significant t_fraction t_exponent, aC G ar_t 4096 t_row] none [oNt ad_t ar_t t_length' t_scanned' t_measured' t_at' t_found' t_wrongAt' t_negative' t_digitsFrom' t_digitsTo' t_significant' t_fraction' t_exponent', aC G ar_t 4096 t_row']) (k : gAt l G m_Nt_scan w0 res w1 27 [(0, .ref ad_t)] [] [oNt ad_t ar_t t_length' t_scanned' t_measured' t_at' t_found' t_wrongAt' t_negative' t_digitsFrom' t_digitsTo' t_significant' t_fraction' t_exponent', aC G ar_t 4096 t_row']) : gAt l G m_Nt_scan w0 res w1 24 [(0, .ref ad_t)] [.ref ad_t] [oNt ad_t ar_t t_length t_scanned t_measured t_at t_found t_wrongAt t_negative t_digitsFrom t_digitsTo t_significant t_fraction t_exponent, aC G ar_t 4096 t_row] :=
  a_callV (As := []) (rest := []) (wc := [oNt ad_t ar_t t_length t_scanned t_measured t_at t_found t_wrongAt t_negative t_digitsFrom t_digitsTo t_significant t_fraction t_exponent, aC G ar_t 4096 t_row]) (wr := []) (w1c := [oNt ad_t ar_t t_length' t_scanned' t_measured' t_at' t_found' t_wrongAt' t_negative' t_digitsFrom' t_digitsTo' t_significant' t_fraction' t_exponent', aC G ar_t 4096 t_row']) (r := none) [oNt ad_t ar_t t_length' t_scanned' t_measured' t_at' t_found' t_wrongAt' t_negative' t_digitsFrom' t_digitsTo' t_significant' t_fraction' t_exponent', aC G ar_t 4096 t_row'] [0, 1] [] [0, 1] (ci := 2) (q0 := 0) hc dNt_scan_24 rfl ok_Nt_skipBlanks ⟨Nat.le_of_ble_eq_true rfl, Nat.le_of_ble_eq_true rfl⟩ w_208 w_210 sl_4 rfl rfl rfl rfl rfl rfl (by decide) rfl rfl (Nat.le_of_ble_eq_true rfl) k

set_option maxRecDepth 20000 in
theorem b_Nt_scan_27 {l : Launch} {G : gG} {w0 w1 : va_W} {res : Option Value} {ad_t ar_t : Nat} {t_length t_scanned t_measured t_at t_found t_wrongAt t_negative t_digitsFrom t_digitsTo t_significant t_fraction t_exponent : Int32} {t_row : Nat → Int32}  (k0 : gAt l G m_Nt_scan w0 res w1 29 [(0, .ref ad_t)] [.ref ad_t, .ref ad_t] [oNt ad_t ar_t t_length t_scanned t_measured t_at t_found t_wrongAt t_negative t_digitsFrom t_digitsTo t_significant t_fraction t_exponent, aC G ar_t 4096 t_row]) : gAt l G m_Nt_scan w0 res w1 27 [(0, .ref ad_t)] [] [oNt ad_t ar_t t_length t_scanned t_measured t_at t_found t_wrongAt t_negative t_digitsFrom t_digitsTo t_significant t_fraction t_exponent, aC G ar_t 4096 t_row] := by
  refine a_aload_n 0 dNt_scan_27 rfl ?_
  refine a_aload_n 0 dNt_scan_28 rfl ?_
  exact k0

set_option maxRecDepth 20000 in
theorem k_Nt_scan_29 {l : Launch} {G : gG} {w0 w1 : va_W} {res : Option Value} {ad_t ar_t : Nat} {t_length t_scanned t_measured t_at t_found t_wrongAt t_negative t_digitsFrom t_digitsTo t_significant t_fraction t_exponent : Int32} {t_row : Nat → Int32}  {r : Int32} {t_length' t_scanned' t_measured' t_at' t_found' t_wrongAt' t_negative' t_digitsFrom' t_digitsTo' t_significant' t_fraction' t_exponent' : Int32} {t_row' : Nat → Int32} (hc : gCt l G m_Nt_here [.ref ad_t] [oNt ad_t ar_t t_length t_scanned t_measured t_at t_found t_wrongAt t_negative t_digitsFrom t_digitsTo t_significant t_fraction t_exponent, aC G ar_t 4096 t_row] (some (.int r)) [oNt ad_t ar_t t_length' t_scanned' t_measured' t_at' t_found' t_wrongAt' t_negative' t_digitsFrom' t_digitsTo' t_significant' t_fraction' t_exponent', aC G ar_t 4096 t_row']) (k : gAt l G m_Nt_scan w0 res w1 32 [(0, .ref ad_t)] [.int r, .ref ad_t] [oNt ad_t ar_t t_length' t_scanned' t_measured' t_at' t_found' t_wrongAt' t_negative' t_digitsFrom' t_digitsTo' t_significant' t_fraction' t_exponent', aC G ar_t 4096 t_row']) : gAt l G m_Nt_scan w0 res w1 29 [(0, .ref ad_t)] [.ref ad_t, .ref ad_t] [oNt ad_t ar_t t_length t_scanned t_measured t_at t_found t_wrongAt t_negative t_digitsFrom t_digitsTo t_significant t_fraction t_exponent, aC G ar_t 4096 t_row] :=
  a_callV (As := []) (rest := [.ref ad_t]) (wc := [oNt ad_t ar_t t_length t_scanned t_measured t_at t_found t_wrongAt t_negative t_digitsFrom t_digitsTo t_significant t_fraction t_exponent, aC G ar_t 4096 t_row]) (wr := []) (w1c := [oNt ad_t ar_t t_length' t_scanned' t_measured' t_at' t_found' t_wrongAt' t_negative' t_digitsFrom' t_digitsTo' t_significant' t_fraction' t_exponent', aC G ar_t 4096 t_row']) (r := (some (.int r))) [oNt ad_t ar_t t_length' t_scanned' t_measured' t_at' t_found' t_wrongAt' t_negative' t_digitsFrom' t_digitsTo' t_significant' t_fraction' t_exponent', aC G ar_t 4096 t_row'] [0, 1] [] [0, 1] (ci := 2) (q0 := 0) hc dNt_scan_29 rfl ok_Nt_here ⟨Nat.le_of_ble_eq_true rfl, Nat.le_of_ble_eq_true rfl⟩ w_212 w_214 sl_5 rfl rfl rfl rfl rfl rfl (by decide) rfl rfl (Nat.le_of_ble_eq_true rfl) k

set_option maxRecDepth 20000 in
theorem b_Nt_scan_32 {l : Launch} {G : gG} {w0 w1 : va_W} {res : Option Value} {ad_t ar_t : Nat} {t_length t_scanned t_measured t_at t_found t_wrongAt t_negative t_digitsFrom t_digitsTo t_significant t_fraction t_exponent : Int32} {t_row : Nat → Int32} {v0 : Int32} (k0 : (¬ v0 = (45 : Int32)) → gAt l G m_Nt_scan w0 res w1 42 [(0, .ref ad_t)] [.int (0 : Int32), .ref ad_t] [oNt ad_t ar_t t_length t_scanned t_measured t_at t_found t_wrongAt t_negative t_digitsFrom t_digitsTo t_significant t_fraction t_exponent, aC G ar_t 4096 t_row]) (k1 : (v0 = (45 : Int32)) → gAt l G m_Nt_scan w0 res w1 42 [(0, .ref ad_t)] [.int (1 : Int32), .ref ad_t] [oNt ad_t ar_t t_length t_scanned t_measured t_at t_found t_wrongAt t_negative t_digitsFrom t_digitsTo t_significant t_fraction t_exponent, aC G ar_t 4096 t_row]) : gAt l G m_Nt_scan w0 res w1 32 [(0, .ref ad_t)] [.int v0, .ref ad_t] [oNt ad_t ar_t t_length t_scanned t_measured t_at t_found t_wrongAt t_negative t_digitsFrom t_digitsTo t_significant t_fraction t_exponent, aC G ar_t 4096 t_row] := by
  refine a_bipush (45 : Int32) dNt_scan_32 (by decide) ?_
  refine a_icmp_ne 41 dNt_scan_34 (by decide) (fun c1 => ?_) (fun c1 => ?_)
  · refine a_iconst (0 : Int32) dNt_scan_41 (by decide) ?_
    exact (k0 c1)
  · refine a_iconst (1 : Int32) dNt_scan_37 (by decide) ?_
    refine a_goto 42 dNt_scan_38 (by decide) ?_
    exact (k1 c1)

set_option maxRecDepth 20000 in
theorem b_Nt_scan_42 {l : Launch} {G : gG} {w0 w1 : va_W} {res : Option Value} {ad_t ar_t : Nat} {t_length t_scanned t_measured t_at t_found t_wrongAt t_negative t_digitsFrom t_digitsTo t_significant t_fraction t_exponent : Int32} {t_row : Nat → Int32} {v0 : Int32} (s0 : narrow .boolean (.int v0) = .int v0 ∧ fits .boolean (.int v0) = true) (k1 : gAt l G m_Nt_scan w0 res w1 50 [(0, .ref ad_t)] [.int (45 : Int32), .int (43 : Int32), .ref ad_t] [oNt ad_t ar_t t_length t_scanned t_measured t_at t_found t_wrongAt v0 t_digitsFrom t_digitsTo t_significant t_fraction t_exponent, aC G ar_t 4096 t_row]) : gAt l G m_Nt_scan w0 res w1 42 [(0, .ref ad_t)] [.int v0, .ref ad_t] [oNt ad_t ar_t t_length t_scanned t_measured t_at t_found t_wrongAt t_negative t_digitsFrom t_digitsTo t_significant t_fraction t_exponent, aC G ar_t 4096 t_row] := by
  refine a_put (ci := 2) (kx := 7) ty_Nt 0 [oNt ad_t ar_t t_length t_scanned t_measured t_at t_found t_wrongAt v0 t_digitsFrom t_digitsTo t_significant t_fraction t_exponent, aC G ar_t 4096 t_row] dNt_scan_42 rfl I_Nt tyo_Nt nmo_Nt w_47 rfl (by decide) rfl s0.1 s0.2 (Nat.le_of_ble_eq_true rfl) rfl ?_
  refine a_aload_n 0 dNt_scan_45 rfl ?_
  refine a_bipush (43 : Int32) dNt_scan_46 (by decide) ?_
  refine a_bipush (45 : Int32) dNt_scan_48 (by decide) ?_
  exact k1

set_option maxRecDepth 20000 in
theorem k_Nt_scan_50 {l : Launch} {G : gG} {w0 w1 : va_W} {res : Option Value} {ad_t ar_t : Nat} {t_length t_scanned t_measured t_at t_found t_wrongAt t_negative t_digitsFrom t_digitsTo t_significant t_fraction t_exponent : Int32} {t_row : Nat → Int32} {v0 : Int32} {v1 : Int32} {r : Int32} {t_length' t_scanned' t_measured' t_at' t_found' t_wrongAt' t_negative' t_digitsFrom' t_digitsTo' t_significant' t_fraction' t_exponent' : Int32} {t_row' : Nat → Int32} (hc : gCt l G m_Nt_skipOneOf [.ref ad_t, .int v1, .int v0] [oNt ad_t ar_t t_length t_scanned t_measured t_at t_found t_wrongAt t_negative t_digitsFrom t_digitsTo t_significant t_fraction t_exponent, aC G ar_t 4096 t_row] (some (.int r)) [oNt ad_t ar_t t_length' t_scanned' t_measured' t_at' t_found' t_wrongAt' t_negative' t_digitsFrom' t_digitsTo' t_significant' t_fraction' t_exponent', aC G ar_t 4096 t_row']) (k : gAt l G m_Nt_scan w0 res w1 53 [(0, .ref ad_t)] [.int r] [oNt ad_t ar_t t_length' t_scanned' t_measured' t_at' t_found' t_wrongAt' t_negative' t_digitsFrom' t_digitsTo' t_significant' t_fraction' t_exponent', aC G ar_t 4096 t_row']) : gAt l G m_Nt_scan w0 res w1 50 [(0, .ref ad_t)] [.int v0, .int v1, .ref ad_t] [oNt ad_t ar_t t_length t_scanned t_measured t_at t_found t_wrongAt t_negative t_digitsFrom t_digitsTo t_significant t_fraction t_exponent, aC G ar_t 4096 t_row] :=
  a_callV (As := [.int v1, .int v0]) (rest := []) (wc := [oNt ad_t ar_t t_length t_scanned t_measured t_at t_found t_wrongAt t_negative t_digitsFrom t_digitsTo t_significant t_fraction t_exponent, aC G ar_t 4096 t_row]) (wr := []) (w1c := [oNt ad_t ar_t t_length' t_scanned' t_measured' t_at' t_found' t_wrongAt' t_negative' t_digitsFrom' t_digitsTo' t_significant' t_fraction' t_exponent', aC G ar_t 4096 t_row']) (r := (some (.int r))) [oNt ad_t ar_t t_length' t_scanned' t_measured' t_at' t_found' t_wrongAt' t_negative' t_digitsFrom' t_digitsTo' t_significant' t_fraction' t_exponent', aC G ar_t 4096 t_row'] [0, 1] [] [0, 1] (ci := 2) (q0 := 0) hc dNt_scan_50 rfl ok_Nt_skipOneOf ⟨Nat.le_of_ble_eq_true rfl, Nat.le_of_ble_eq_true rfl⟩ w_216 w_218 sl_6 rfl rfl rfl rfl rfl rfl (by decide) rfl rfl (Nat.le_of_ble_eq_true rfl) k

set_option maxRecDepth 20000 in
theorem b_Nt_scan_53 {l : Launch} {G : gG} {w0 w1 : va_W} {res : Option Value} {ad_t ar_t : Nat} {t_length t_scanned t_measured t_at t_found t_wrongAt t_negative t_digitsFrom t_digitsTo t_significant t_fraction t_exponent : Int32} {t_row : Nat → Int32} {v0 : Int32} (k0 : gAt l G m_Nt_scan w0 res w1 56 [(0, .ref ad_t)] [.ref ad_t, .ref ad_t] [oNt ad_t ar_t t_length t_scanned t_measured t_at t_found t_wrongAt t_negative t_digitsFrom t_digitsTo t_significant t_fraction t_exponent, aC G ar_t 4096 t_row]) : gAt l G m_Nt_scan w0 res w1 53 [(0, .ref ad_t)] [.int v0] [oNt ad_t ar_t t_length t_scanned t_measured t_at t_found t_wrongAt t_negative t_digitsFrom t_digitsTo t_significant t_fraction t_exponent, aC G ar_t 4096 t_row] := by
  refine a_pop dNt_scan_53 rfl ?_
  refine a_aload_n 0 dNt_scan_54 rfl ?_
  refine a_aload_n 0 dNt_scan_55 rfl ?_
  exact k0

set_option maxRecDepth 20000 in
theorem k_Nt_scan_56 {l : Launch} {G : gG} {w0 w1 : va_W} {res : Option Value} {ad_t ar_t : Nat} {t_length t_scanned t_measured t_at t_found t_wrongAt t_negative t_digitsFrom t_digitsTo t_significant t_fraction t_exponent : Int32} {t_row : Nat → Int32}  {r : Int32} {t_length' t_scanned' t_measured' t_at' t_found' t_wrongAt' t_negative' t_digitsFrom' t_digitsTo' t_significant' t_fraction' t_exponent' : Int32} {t_row' : Nat → Int32} (hc : gCt l G m_Nt_takeBody [.ref ad_t] [oNt ad_t ar_t t_length t_scanned t_measured t_at t_found t_wrongAt t_negative t_digitsFrom t_digitsTo t_significant t_fraction t_exponent, aC G ar_t 4096 t_row] (some (.int r)) [oNt ad_t ar_t t_length' t_scanned' t_measured' t_at' t_found' t_wrongAt' t_negative' t_digitsFrom' t_digitsTo' t_significant' t_fraction' t_exponent', aC G ar_t 4096 t_row']) (k : gAt l G m_Nt_scan w0 res w1 59 [(0, .ref ad_t)] [.int r, .ref ad_t] [oNt ad_t ar_t t_length' t_scanned' t_measured' t_at' t_found' t_wrongAt' t_negative' t_digitsFrom' t_digitsTo' t_significant' t_fraction' t_exponent', aC G ar_t 4096 t_row']) : gAt l G m_Nt_scan w0 res w1 56 [(0, .ref ad_t)] [.ref ad_t, .ref ad_t] [oNt ad_t ar_t t_length t_scanned t_measured t_at t_found t_wrongAt t_negative t_digitsFrom t_digitsTo t_significant t_fraction t_exponent, aC G ar_t 4096 t_row] :=
  a_callV (As := []) (rest := [.ref ad_t]) (wc := [oNt ad_t ar_t t_length t_scanned t_measured t_at t_found t_wrongAt t_negative t_digitsFrom t_digitsTo t_significant t_fraction t_exponent, aC G ar_t 4096 t_row]) (wr := []) (w1c := [oNt ad_t ar_t t_length' t_scanned' t_measured' t_at' t_found' t_wrongAt' t_negative' t_digitsFrom' t_digitsTo' t_significant' t_fraction' t_exponent', aC G ar_t 4096 t_row']) (r := (some (.int r))) [oNt ad_t ar_t t_length' t_scanned' t_measured' t_at' t_found' t_wrongAt' t_negative' t_digitsFrom' t_digitsTo' t_significant' t_fraction' t_exponent', aC G ar_t 4096 t_row'] [0, 1] [] [0, 1] (ci := 2) (q0 := 0) hc dNt_scan_56 rfl ok_Nt_takeBody ⟨Nat.le_of_ble_eq_true rfl, Nat.le_of_ble_eq_true rfl⟩ w_220 w_222 sl_7 rfl rfl rfl rfl rfl rfl (by decide) rfl rfl (Nat.le_of_ble_eq_true rfl) k

set_option maxRecDepth 20000 in
theorem b_Nt_scan_59 {l : Launch} {G : gG} {w0 w1 : va_W} {res : Option Value} {ad_t ar_t : Nat} {t_length t_scanned t_measured t_at t_found t_wrongAt t_negative t_digitsFrom t_digitsTo t_significant t_fraction t_exponent : Int32} {t_row : Nat → Int32} {v0 : Int32} (k0 : (v0 = (-1 : Int32)) → gAt l G m_Nt_scan w0 res w1 97 [(0, .ref ad_t)] [] [oNt ad_t ar_t t_length t_scanned t_measured t_at v0 t_wrongAt t_negative t_digitsFrom t_digitsTo t_significant t_fraction t_exponent, aC G ar_t 4096 t_row]) (k1 : (¬ v0 = (-1 : Int32)) → gAt l G m_Nt_scan w0 res w1 71 [(0, .ref ad_t)] [.ref ad_t] [oNt ad_t ar_t t_length t_scanned t_measured t_at v0 t_wrongAt t_negative t_digitsFrom t_digitsTo t_significant t_fraction t_exponent, aC G ar_t 4096 t_row]) : gAt l G m_Nt_scan w0 res w1 59 [(0, .ref ad_t)] [.int v0, .ref ad_t] [oNt ad_t ar_t t_length t_scanned t_measured t_at t_found t_wrongAt t_negative t_digitsFrom t_digitsTo t_significant t_fraction t_exponent, aC G ar_t 4096 t_row] := by
  refine a_put (ci := 2) (kx := 5) ty_Nt 0 [oNt ad_t ar_t t_length t_scanned t_measured t_at v0 t_wrongAt t_negative t_digitsFrom t_digitsTo t_significant t_fraction t_exponent, aC G ar_t 4096 t_row] dNt_scan_59 rfl I_Nt tyo_Nt nmo_Nt w_43 rfl (by decide) rfl rfl rfl (Nat.le_of_ble_eq_true rfl) rfl ?_
  refine a_aload_n 0 dNt_scan_62 rfl ?_
  refine a_get (ci := 2) (kx := 5) 0 dNt_scan_63 rfl I_Nt w_43 rfl (by decide) rfl ?_
  refine a_iconst (-1 : Int32) dNt_scan_66 (by decide) ?_
  refine a_icmp_eq 97 dNt_scan_67 (by decide) (fun c1 => ?_) (fun c1 => ?_)
  · exact (k0 c1)
  · refine a_aload_n 0 dNt_scan_70 rfl ?_
    exact (k1 c1)

set_option maxRecDepth 20000 in
theorem k_Nt_scan_71 {l : Launch} {G : gG} {w0 w1 : va_W} {res : Option Value} {ad_t ar_t : Nat} {t_length t_scanned t_measured t_at t_found t_wrongAt t_negative t_digitsFrom t_digitsTo t_significant t_fraction t_exponent : Int32} {t_row : Nat → Int32}  {t_length' t_scanned' t_measured' t_at' t_found' t_wrongAt' t_negative' t_digitsFrom' t_digitsTo' t_significant' t_fraction' t_exponent' : Int32} {t_row' : Nat → Int32} (hc : gCt l G m_Nt_skipBlanks [.ref ad_t] [oNt ad_t ar_t t_length t_scanned t_measured t_at t_found t_wrongAt t_negative t_digitsFrom t_digitsTo t_significant t_fraction t_exponent, aC G ar_t 4096 t_row] none [oNt ad_t ar_t t_length' t_scanned' t_measured' t_at' t_found' t_wrongAt' t_negative' t_digitsFrom' t_digitsTo' t_significant' t_fraction' t_exponent', aC G ar_t 4096 t_row']) (k : gAt l G m_Nt_scan w0 res w1 74 [(0, .ref ad_t)] [] [oNt ad_t ar_t t_length' t_scanned' t_measured' t_at' t_found' t_wrongAt' t_negative' t_digitsFrom' t_digitsTo' t_significant' t_fraction' t_exponent', aC G ar_t 4096 t_row']) : gAt l G m_Nt_scan w0 res w1 71 [(0, .ref ad_t)] [.ref ad_t] [oNt ad_t ar_t t_length t_scanned t_measured t_at t_found t_wrongAt t_negative t_digitsFrom t_digitsTo t_significant t_fraction t_exponent, aC G ar_t 4096 t_row] :=
  a_callV (As := []) (rest := []) (wc := [oNt ad_t ar_t t_length t_scanned t_measured t_at t_found t_wrongAt t_negative t_digitsFrom t_digitsTo t_significant t_fraction t_exponent, aC G ar_t 4096 t_row]) (wr := []) (w1c := [oNt ad_t ar_t t_length' t_scanned' t_measured' t_at' t_found' t_wrongAt' t_negative' t_digitsFrom' t_digitsTo' t_significant' t_fraction' t_exponent', aC G ar_t 4096 t_row']) (r := none) [oNt ad_t ar_t t_length' t_scanned' t_measured' t_at' t_found' t_wrongAt' t_negative' t_digitsFrom' t_digitsTo' t_significant' t_fraction' t_exponent', aC G ar_t 4096 t_row'] [0, 1] [] [0, 1] (ci := 2) (q0 := 0) hc dNt_scan_71 rfl ok_Nt_skipBlanks ⟨Nat.le_of_ble_eq_true rfl, Nat.le_of_ble_eq_true rfl⟩ w_208 w_210 sl_4 rfl rfl rfl rfl rfl rfl (by decide) rfl rfl (Nat.le_of_ble_eq_true rfl) k

set_option maxRecDepth 20000 in
theorem b_Nt_scan_74 {l : Launch} {G : gG} {w0 w1 : va_W} {res : Option Value} {ad_t ar_t : Nat} {t_length t_scanned t_measured t_at t_found t_wrongAt t_negative t_digitsFrom t_digitsTo t_significant t_fraction t_exponent : Int32} {t_row : Nat → Int32}  (k0 : (t_length ≤ t_at) → gAt l G m_Nt_scan w0 res w1 94 [(0, .ref ad_t)] [.int t_found, .ref ad_t] [oNt ad_t ar_t t_length t_scanned t_measured t_at t_found t_wrongAt t_negative t_digitsFrom t_digitsTo t_significant t_fraction t_exponent, aC G ar_t 4096 t_row]) (k1 : (¬ t_length ≤ t_at) → gAt l G m_Nt_scan w0 res w1 94 [(0, .ref ad_t)] [.int (-1 : Int32), .ref ad_t] [oNt ad_t ar_t t_length t_scanned t_measured t_at t_found t_wrongAt t_negative t_digitsFrom t_digitsTo t_significant t_fraction t_exponent, aC G ar_t 4096 t_row]) : gAt l G m_Nt_scan w0 res w1 74 [(0, .ref ad_t)] [] [oNt ad_t ar_t t_length t_scanned t_measured t_at t_found t_wrongAt t_negative t_digitsFrom t_digitsTo t_significant t_fraction t_exponent, aC G ar_t 4096 t_row] := by
  refine a_aload_n 0 dNt_scan_74 rfl ?_
  refine a_aload_n 0 dNt_scan_75 rfl ?_
  refine a_get (ci := 2) (kx := 4) 0 dNt_scan_76 rfl I_Nt w_42 rfl (by decide) rfl ?_
  refine a_aload_n 0 dNt_scan_79 rfl ?_
  refine a_get (ci := 2) (kx := 1) 0 dNt_scan_80 rfl I_Nt w_37 rfl (by decide) rfl ?_
  refine a_icmp_ge 90 dNt_scan_83 (by decide) (fun c1 => ?_) (fun c1 => ?_)
  · refine a_aload_n 0 dNt_scan_90 rfl ?_
    refine a_get (ci := 2) (kx := 5) 0 dNt_scan_91 rfl I_Nt w_43 rfl (by decide) rfl ?_
    exact (k0 c1)
  · refine a_iconst (-1 : Int32) dNt_scan_86 (by decide) ?_
    refine a_goto 94 dNt_scan_87 (by decide) ?_
    exact (k1 c1)

set_option maxRecDepth 20000 in
theorem b_Nt_scan_94 {l : Launch} {G : gG} {w0 w1 : va_W} {res : Option Value} {ad_t ar_t : Nat} {t_length t_scanned t_measured t_at t_found t_wrongAt t_negative t_digitsFrom t_digitsTo t_significant t_fraction t_exponent : Int32} {t_row : Nat → Int32} {v0 : Int32} (k0 : gAt l G m_Nt_scan w0 res w1 97 [(0, .ref ad_t)] [] [oNt ad_t ar_t t_length t_scanned t_measured t_at v0 t_wrongAt t_negative t_digitsFrom t_digitsTo t_significant t_fraction t_exponent, aC G ar_t 4096 t_row]) : gAt l G m_Nt_scan w0 res w1 94 [(0, .ref ad_t)] [.int v0, .ref ad_t] [oNt ad_t ar_t t_length t_scanned t_measured t_at t_found t_wrongAt t_negative t_digitsFrom t_digitsTo t_significant t_fraction t_exponent, aC G ar_t 4096 t_row] := by
  refine a_put (ci := 2) (kx := 5) ty_Nt 0 [oNt ad_t ar_t t_length t_scanned t_measured t_at v0 t_wrongAt t_negative t_digitsFrom t_digitsTo t_significant t_fraction t_exponent, aC G ar_t 4096 t_row] dNt_scan_94 rfl I_Nt tyo_Nt nmo_Nt w_43 rfl (by decide) rfl rfl rfl (Nat.le_of_ble_eq_true rfl) rfl ?_
  exact k0

set_option maxRecDepth 20000 in
theorem b_Nt_scan_97 {l : Launch} {G : gG} {w0 w1 : va_W} {res : Option Value} {ad_t ar_t : Nat} {t_length t_scanned t_measured t_at t_found t_wrongAt t_negative t_digitsFrom t_digitsTo t_significant t_fraction t_exponent : Int32} {t_row : Nat → Int32}  (k0 : (¬ t_found = (-1 : Int32)) → gAt l G m_Nt_scan w0 res w1 114 [(0, .ref ad_t)] [.int (-1 : Int32), .ref ad_t] [oNt ad_t ar_t t_length t_scanned t_measured t_at t_found t_wrongAt t_negative t_digitsFrom t_digitsTo t_significant t_fraction t_exponent, aC G ar_t 4096 t_row]) (k1 : (t_found = (-1 : Int32)) → gAt l G m_Nt_scan w0 res w1 114 [(0, .ref ad_t)] [.int t_at, .ref ad_t] [oNt ad_t ar_t t_length t_scanned t_measured t_at t_found t_wrongAt t_negative t_digitsFrom t_digitsTo t_significant t_fraction t_exponent, aC G ar_t 4096 t_row]) : gAt l G m_Nt_scan w0 res w1 97 [(0, .ref ad_t)] [] [oNt ad_t ar_t t_length t_scanned t_measured t_at t_found t_wrongAt t_negative t_digitsFrom t_digitsTo t_significant t_fraction t_exponent, aC G ar_t 4096 t_row] := by
  refine a_aload_n 0 dNt_scan_97 rfl ?_
  refine a_aload_n 0 dNt_scan_98 rfl ?_
  refine a_get (ci := 2) (kx := 5) 0 dNt_scan_99 rfl I_Nt w_43 rfl (by decide) rfl ?_
  refine a_iconst (-1 : Int32) dNt_scan_102 (by decide) ?_
  refine a_icmp_ne 113 dNt_scan_103 (by decide) (fun c1 => ?_) (fun c1 => ?_)
  · refine a_iconst (-1 : Int32) dNt_scan_113 (by decide) ?_
    exact (k0 c1)
  · refine a_aload_n 0 dNt_scan_106 rfl ?_
    refine a_get (ci := 2) (kx := 4) 0 dNt_scan_107 rfl I_Nt w_42 rfl (by decide) rfl ?_
    refine a_goto 114 dNt_scan_110 (by decide) ?_
    exact (k1 c1)

set_option maxRecDepth 20000 in
theorem b_Nt_scan_114 {l : Launch} {G : gG} {w0 w1 : va_W} {res : Option Value} {ad_t ar_t : Nat} {t_length t_scanned t_measured t_at t_found t_wrongAt t_negative t_digitsFrom t_digitsTo t_significant t_fraction t_exponent : Int32} {t_row : Nat → Int32} {v0 : Int32} (k0 : res = none ∧ [oNt ad_t ar_t t_length t_scanned t_measured t_at t_found v0 t_negative t_digitsFrom t_digitsTo t_significant t_fraction t_exponent, aC G ar_t 4096 t_row] = w1) : gAt l G m_Nt_scan w0 res w1 114 [(0, .ref ad_t)] [.int v0, .ref ad_t] [oNt ad_t ar_t t_length t_scanned t_measured t_at t_found t_wrongAt t_negative t_digitsFrom t_digitsTo t_significant t_fraction t_exponent, aC G ar_t 4096 t_row] := by
  refine a_put (ci := 2) (kx := 6) ty_Nt 0 [oNt ad_t ar_t t_length t_scanned t_measured t_at t_found v0 t_negative t_digitsFrom t_digitsTo t_significant t_fraction t_exponent, aC G ar_t 4096 t_row] dNt_scan_114 rfl I_Nt tyo_Nt nmo_Nt w_45 rfl (by decide) rfl rfl rfl (Nat.le_of_ble_eq_true rfl) rfl ?_
  exact a_vret (st := []) dNt_scan_117 rfl k0.1 k0.2

set_option maxRecDepth 20000 in
theorem b_Nt_skipBlanks_0 {l : Launch} {G : gG} {w0 w1 : va_W} {res : Option Value} {ad_t ar_t : Nat} {t_length t_scanned t_measured t_at t_found t_wrongAt t_negative t_digitsFrom t_digitsTo t_significant t_fraction t_exponent : Int32} {t_row : Nat → Int32}  (k0 : (t_length ≤ t_at) → gAt l G m_Nt_skipBlanks w0 res w1 33 [(0, .ref ad_t)] [] [oNt ad_t ar_t t_length t_scanned t_measured t_at t_found t_wrongAt t_negative t_digitsFrom t_digitsTo t_significant t_fraction t_exponent, aC G ar_t 4096 t_row]) (k1 : (¬ t_length ≤ t_at) → gAt l G m_Nt_skipBlanks w0 res w1 12 [(0, .ref ad_t)] [.ref ad_t] [oNt ad_t ar_t t_length t_scanned t_measured t_at t_found t_wrongAt t_negative t_digitsFrom t_digitsTo t_significant t_fraction t_exponent, aC G ar_t 4096 t_row]) : gAt l G m_Nt_skipBlanks w0 res w1 0 [(0, .ref ad_t)] [] [oNt ad_t ar_t t_length t_scanned t_measured t_at t_found t_wrongAt t_negative t_digitsFrom t_digitsTo t_significant t_fraction t_exponent, aC G ar_t 4096 t_row] := by
  refine a_aload_n 0 dNt_skipBlanks_0 rfl ?_
  refine a_get (ci := 2) (kx := 4) 0 dNt_skipBlanks_1 rfl I_Nt w_42 rfl (by decide) rfl ?_
  refine a_aload_n 0 dNt_skipBlanks_4 rfl ?_
  refine a_get (ci := 2) (kx := 1) 0 dNt_skipBlanks_5 rfl I_Nt w_37 rfl (by decide) rfl ?_
  refine a_icmp_ge 33 dNt_skipBlanks_8 (by decide) (fun c1 => ?_) (fun c1 => ?_)
  · exact (k0 c1)
  · refine a_aload_n 0 dNt_skipBlanks_11 rfl ?_
    exact (k1 c1)

set_option maxRecDepth 20000 in
theorem k_Nt_skipBlanks_12 {l : Launch} {G : gG} {w0 w1 : va_W} {res : Option Value} {ad_t ar_t : Nat} {t_length t_scanned t_measured t_at t_found t_wrongAt t_negative t_digitsFrom t_digitsTo t_significant t_fraction t_exponent : Int32} {t_row : Nat → Int32}  {r : Int32} {t_length' t_scanned' t_measured' t_at' t_found' t_wrongAt' t_negative' t_digitsFrom' t_digitsTo' t_significant' t_fraction' t_exponent' : Int32} {t_row' : Nat → Int32} (hc : gCt l G m_Nt_here [.ref ad_t] [oNt ad_t ar_t t_length t_scanned t_measured t_at t_found t_wrongAt t_negative t_digitsFrom t_digitsTo t_significant t_fraction t_exponent, aC G ar_t 4096 t_row] (some (.int r)) [oNt ad_t ar_t t_length' t_scanned' t_measured' t_at' t_found' t_wrongAt' t_negative' t_digitsFrom' t_digitsTo' t_significant' t_fraction' t_exponent', aC G ar_t 4096 t_row']) (k : gAt l G m_Nt_skipBlanks w0 res w1 15 [(0, .ref ad_t)] [.int r] [oNt ad_t ar_t t_length' t_scanned' t_measured' t_at' t_found' t_wrongAt' t_negative' t_digitsFrom' t_digitsTo' t_significant' t_fraction' t_exponent', aC G ar_t 4096 t_row']) : gAt l G m_Nt_skipBlanks w0 res w1 12 [(0, .ref ad_t)] [.ref ad_t] [oNt ad_t ar_t t_length t_scanned t_measured t_at t_found t_wrongAt t_negative t_digitsFrom t_digitsTo t_significant t_fraction t_exponent, aC G ar_t 4096 t_row] :=
  a_callV (As := []) (rest := []) (wc := [oNt ad_t ar_t t_length t_scanned t_measured t_at t_found t_wrongAt t_negative t_digitsFrom t_digitsTo t_significant t_fraction t_exponent, aC G ar_t 4096 t_row]) (wr := []) (w1c := [oNt ad_t ar_t t_length' t_scanned' t_measured' t_at' t_found' t_wrongAt' t_negative' t_digitsFrom' t_digitsTo' t_significant' t_fraction' t_exponent', aC G ar_t 4096 t_row']) (r := (some (.int r))) [oNt ad_t ar_t t_length' t_scanned' t_measured' t_at' t_found' t_wrongAt' t_negative' t_digitsFrom' t_digitsTo' t_significant' t_fraction' t_exponent', aC G ar_t 4096 t_row'] [0, 1] [] [0, 1] (ci := 2) (q0 := 0) hc dNt_skipBlanks_12 rfl ok_Nt_here ⟨Nat.le_of_ble_eq_true rfl, Nat.le_of_ble_eq_true rfl⟩ w_212 w_214 sl_5 rfl rfl rfl rfl rfl rfl (by decide) rfl rfl (Nat.le_of_ble_eq_true rfl) k

set_option maxRecDepth 20000 in
theorem b_Nt_skipBlanks_15 {l : Launch} {G : gG} {w0 w1 : va_W} {res : Option Value} {ad_t ar_t : Nat} {t_length t_scanned t_measured t_at t_found t_wrongAt t_negative t_digitsFrom t_digitsTo t_significant t_fraction t_exponent : Int32} {t_row : Nat → Int32} {v0 : Int32} (k0 : ((32 : Int32) < v0) → gAt l G m_Nt_skipBlanks w0 res w1 33 [(0, .ref ad_t)] [] [oNt ad_t ar_t t_length t_scanned t_measured t_at t_found t_wrongAt t_negative t_digitsFrom t_digitsTo t_significant t_fraction t_exponent, aC G ar_t 4096 t_row]) (k1 : (¬ (32 : Int32) < v0) → gAt l G m_Nt_skipBlanks w0 res w1 0 [(0, .ref ad_t)] [] [oNt ad_t ar_t t_length t_scanned t_measured (t_at + (1 : Int32)) t_found t_wrongAt t_negative t_digitsFrom t_digitsTo t_significant t_fraction t_exponent, aC G ar_t 4096 t_row]) : gAt l G m_Nt_skipBlanks w0 res w1 15 [(0, .ref ad_t)] [.int v0] [oNt ad_t ar_t t_length t_scanned t_measured t_at t_found t_wrongAt t_negative t_digitsFrom t_digitsTo t_significant t_fraction t_exponent, aC G ar_t 4096 t_row] := by
  refine a_bipush (32 : Int32) dNt_skipBlanks_15 (by decide) ?_
  refine a_icmp_gt 33 dNt_skipBlanks_17 (by decide) (fun c1 => ?_) (fun c1 => ?_)
  · exact (k0 c1)
  · refine a_aload_n 0 dNt_skipBlanks_20 rfl ?_
    refine a_dup dNt_skipBlanks_21 rfl ?_
    refine a_get (ci := 2) (kx := 4) 0 dNt_skipBlanks_22 rfl I_Nt w_42 rfl (by decide) rfl ?_
    refine a_iconst (1 : Int32) dNt_skipBlanks_25 (by decide) ?_
    refine a_iadd dNt_skipBlanks_26 ?_
    refine a_put (ci := 2) (kx := 4) ty_Nt 0 [oNt ad_t ar_t t_length t_scanned t_measured (t_at + (1 : Int32)) t_found t_wrongAt t_negative t_digitsFrom t_digitsTo t_significant t_fraction t_exponent, aC G ar_t 4096 t_row] dNt_skipBlanks_27 rfl I_Nt tyo_Nt nmo_Nt w_42 rfl (by decide) rfl rfl rfl (Nat.le_of_ble_eq_true rfl) rfl ?_
    refine a_goto 0 dNt_skipBlanks_30 (by decide) ?_
    exact (k1 c1)

set_option maxRecDepth 20000 in
theorem b_Nt_skipBlanks_33 {l : Launch} {G : gG} {w0 w1 : va_W} {res : Option Value} {ad_t ar_t : Nat} {t_length t_scanned t_measured t_at t_found t_wrongAt t_negative t_digitsFrom t_digitsTo t_significant t_fraction t_exponent : Int32} {t_row : Nat → Int32}  (k0 : res = none ∧ [oNt ad_t ar_t t_length t_scanned t_measured t_at t_found t_wrongAt t_negative t_digitsFrom t_digitsTo t_significant t_fraction t_exponent, aC G ar_t 4096 t_row] = w1) : gAt l G m_Nt_skipBlanks w0 res w1 33 [(0, .ref ad_t)] [] [oNt ad_t ar_t t_length t_scanned t_measured t_at t_found t_wrongAt t_negative t_digitsFrom t_digitsTo t_significant t_fraction t_exponent, aC G ar_t 4096 t_row] := by
  exact a_vret (st := []) dNt_skipBlanks_33 rfl k0.1 k0.2

set_option maxRecDepth 20000 in
theorem b_Nt_here_0 {l : Launch} {G : gG} {w0 w1 : va_W} {res : Option Value} {ad_t ar_t : Nat} {t_length t_scanned t_measured t_at t_found t_wrongAt t_negative t_digitsFrom t_digitsTo t_significant t_fraction t_exponent : Int32} {t_row : Nat → Int32}  (k0 : (t_at < 0) → gAt l G m_Nt_here w0 res w1 42 [(0, .ref ad_t)] [] [oNt ad_t ar_t t_length t_scanned t_measured t_at t_found t_wrongAt t_negative t_digitsFrom t_digitsTo t_significant t_fraction t_exponent, aC G ar_t 4096 t_row]) (k1 : (¬ t_at < 0) → (t_length ≤ t_at) → gAt l G m_Nt_here w0 res w1 42 [(0, .ref ad_t)] [] [oNt ad_t ar_t t_length t_scanned t_measured t_at t_found t_wrongAt t_negative t_digitsFrom t_digitsTo t_significant t_fraction t_exponent, aC G ar_t 4096 t_row]) (k2 : (¬ t_at < 0) → (¬ t_length ≤ t_at) → ((4096 : Int32) ≤ t_at) → gAt l G m_Nt_here w0 res w1 42 [(0, .ref ad_t)] [] [oNt ad_t ar_t t_length t_scanned t_measured t_at t_found t_wrongAt t_negative t_digitsFrom t_digitsTo t_significant t_fraction t_exponent, aC G ar_t 4096 t_row]) (s3 : (¬ t_at < 0) → (¬ t_length ≤ t_at) → (¬ (4096 : Int32) ≤ t_at) → vp_in t_at 4096) (k4 : (¬ t_at < 0) → (¬ t_length ≤ t_at) → (¬ (4096 : Int32) ≤ t_at) → gAt l G m_Nt_here w0 res w1 43 [(0, .ref ad_t)] [.int (t_row (Int32.toNatClampNeg t_at))] [oNt ad_t ar_t t_length t_scanned t_measured t_at t_found t_wrongAt t_negative t_digitsFrom t_digitsTo t_significant t_fraction t_exponent, aC G ar_t 4096 t_row]) : gAt l G m_Nt_here w0 res w1 0 [(0, .ref ad_t)] [] [oNt ad_t ar_t t_length t_scanned t_measured t_at t_found t_wrongAt t_negative t_digitsFrom t_digitsTo t_significant t_fraction t_exponent, aC G ar_t 4096 t_row] := by
  refine a_aload_n 0 dNt_here_0 rfl ?_
  refine a_get (ci := 2) (kx := 4) 0 dNt_here_1 rfl I_Nt w_42 rfl (by decide) rfl ?_
  refine a_if_lt 42 dNt_here_4 (by decide) (fun c1 => ?_) (fun c1 => ?_)
  · exact (k0 c1)
  · refine a_aload_n 0 dNt_here_7 rfl ?_
    refine a_get (ci := 2) (kx := 4) 0 dNt_here_8 rfl I_Nt w_42 rfl (by decide) rfl ?_
    refine a_aload_n 0 dNt_here_11 rfl ?_
    refine a_get (ci := 2) (kx := 1) 0 dNt_here_12 rfl I_Nt w_37 rfl (by decide) rfl ?_
    refine a_icmp_ge 42 dNt_here_15 (by decide) (fun c2 => ?_) (fun c2 => ?_)
    · exact (k1 c1 c2)
    · refine a_aload_n 0 dNt_here_18 rfl ?_
      refine a_get (ci := 2) (kx := 4) 0 dNt_here_19 rfl I_Nt w_42 rfl (by decide) rfl ?_
      refine a_aload_n 0 dNt_here_22 rfl ?_
      refine a_get (ci := 2) (kx := 0) 0 dNt_here_23 rfl I_Nt w_36 rfl (by decide) rfl ?_
      refine a_clen 1 (4096 : Int32) dNt_here_26 rfl rfl ?_
      refine a_icmp_ge 42 dNt_here_27 (by decide) (fun c3 => ?_) (fun c3 => ?_)
      · exact (k2 c1 c2 c3)
      · refine a_aload_n 0 dNt_here_30 rfl ?_
        refine a_get (ci := 2) (kx := 0) 0 dNt_here_31 rfl I_Nt w_36 rfl (by decide) rfl ?_
        refine a_aload_n 0 dNt_here_34 rfl ?_
        refine a_get (ci := 2) (kx := 4) 0 dNt_here_35 rfl I_Nt w_42 rfl (by decide) rfl ?_
        refine a_cald 1 dNt_here_38 rfl (s3 c1 c2 c3) ?_
        refine a_goto 43 dNt_here_39 (by decide) ?_
        exact (k4 c1 c2 c3)

set_option maxRecDepth 20000 in
theorem b_Nt_here_42 {l : Launch} {G : gG} {w0 w1 : va_W} {res : Option Value} {ad_t ar_t : Nat} {t_length t_scanned t_measured t_at t_found t_wrongAt t_negative t_digitsFrom t_digitsTo t_significant t_fraction t_exponent : Int32} {t_row : Nat → Int32}  (k0 : gAt l G m_Nt_here w0 res w1 43 [(0, .ref ad_t)] [.int (0 : Int32)] [oNt ad_t ar_t t_length t_scanned t_measured t_at t_found t_wrongAt t_negative t_digitsFrom t_digitsTo t_significant t_fraction t_exponent, aC G ar_t 4096 t_row]) : gAt l G m_Nt_here w0 res w1 42 [(0, .ref ad_t)] [] [oNt ad_t ar_t t_length t_scanned t_measured t_at t_found t_wrongAt t_negative t_digitsFrom t_digitsTo t_significant t_fraction t_exponent, aC G ar_t 4096 t_row] := by
  refine a_iconst (0 : Int32) dNt_here_42 (by decide) ?_
  exact k0

set_option maxRecDepth 20000 in
theorem b_Nt_here_43 {l : Launch} {G : gG} {w0 w1 : va_W} {res : Option Value} {ad_t ar_t : Nat} {t_length t_scanned t_measured t_at t_found t_wrongAt t_negative t_digitsFrom t_digitsTo t_significant t_fraction t_exponent : Int32} {t_row : Nat → Int32} {v0 : Int32} (k0 : narrow .char (.int v0) = .int v0 ∧ res = some (.int v0) ∧ [oNt ad_t ar_t t_length t_scanned t_measured t_at t_found t_wrongAt t_negative t_digitsFrom t_digitsTo t_significant t_fraction t_exponent, aC G ar_t 4096 t_row] = w1) : gAt l G m_Nt_here w0 res w1 43 [(0, .ref ad_t)] [.int v0] [oNt ad_t ar_t t_length t_scanned t_measured t_at t_found t_wrongAt t_negative t_digitsFrom t_digitsTo t_significant t_fraction t_exponent, aC G ar_t 4096 t_row] := by
  exact a_zret (st := []) dNt_here_43 rfl k0.1 k0.2.1 k0.2.2

set_option maxRecDepth 20000 in
theorem b_Nt_skipOneOf_0 {l : Launch} {G : gG} {w0 w1 : va_W} {res : Option Value} {ad_t ar_t : Nat} {t_length t_scanned t_measured t_at t_found t_wrongAt t_negative t_digitsFrom t_digitsTo t_significant t_fraction t_exponent : Int32} {t_row : Nat → Int32} {x1 : Int32} {x2 : Int32} (k0 : gAt l G m_Nt_skipOneOf w0 res w1 1 [(0, .ref ad_t), (1, .int x1), (2, .int x2)] [.ref ad_t] [oNt ad_t ar_t t_length t_scanned t_measured t_at t_found t_wrongAt t_negative t_digitsFrom t_digitsTo t_significant t_fraction t_exponent, aC G ar_t 4096 t_row]) : gAt l G m_Nt_skipOneOf w0 res w1 0 [(0, .ref ad_t), (1, .int x1), (2, .int x2)] [] [oNt ad_t ar_t t_length t_scanned t_measured t_at t_found t_wrongAt t_negative t_digitsFrom t_digitsTo t_significant t_fraction t_exponent, aC G ar_t 4096 t_row] := by
  refine a_aload_n 0 dNt_skipOneOf_0 rfl ?_
  exact k0

set_option maxRecDepth 20000 in
theorem k_Nt_skipOneOf_1 {l : Launch} {G : gG} {w0 w1 : va_W} {res : Option Value} {ad_t ar_t : Nat} {t_length t_scanned t_measured t_at t_found t_wrongAt t_negative t_digitsFrom t_digitsTo t_significant t_fraction t_exponent : Int32} {t_row : Nat → Int32} {x1 : Int32} {x2 : Int32} {r : Int32} {t_length' t_scanned' t_measured' t_at' t_found' t_wrongAt' t_negative' t_digitsFrom' t_digitsTo' t_significant' t_fraction' t_exponent' : Int32} {t_row' : Nat → Int32} (hc : gCt l G m_Nt_here [.ref ad_t] [oNt ad_t ar_t t_length t_scanned t_measured t_at t_found t_wrongAt t_negative t_digitsFrom t_digitsTo t_significant t_fraction t_exponent, aC G ar_t 4096 t_row] (some (.int r)) [oNt ad_t ar_t t_length' t_scanned' t_measured' t_at' t_found' t_wrongAt' t_negative' t_digitsFrom' t_digitsTo' t_significant' t_fraction' t_exponent', aC G ar_t 4096 t_row']) (k : gAt l G m_Nt_skipOneOf w0 res w1 4 [(0, .ref ad_t), (1, .int x1), (2, .int x2)] [.int r] [oNt ad_t ar_t t_length' t_scanned' t_measured' t_at' t_found' t_wrongAt' t_negative' t_digitsFrom' t_digitsTo' t_significant' t_fraction' t_exponent', aC G ar_t 4096 t_row']) : gAt l G m_Nt_skipOneOf w0 res w1 1 [(0, .ref ad_t), (1, .int x1), (2, .int x2)] [.ref ad_t] [oNt ad_t ar_t t_length t_scanned t_measured t_at t_found t_wrongAt t_negative t_digitsFrom t_digitsTo t_significant t_fraction t_exponent, aC G ar_t 4096 t_row] :=
  a_callV (As := []) (rest := []) (wc := [oNt ad_t ar_t t_length t_scanned t_measured t_at t_found t_wrongAt t_negative t_digitsFrom t_digitsTo t_significant t_fraction t_exponent, aC G ar_t 4096 t_row]) (wr := []) (w1c := [oNt ad_t ar_t t_length' t_scanned' t_measured' t_at' t_found' t_wrongAt' t_negative' t_digitsFrom' t_digitsTo' t_significant' t_fraction' t_exponent', aC G ar_t 4096 t_row']) (r := (some (.int r))) [oNt ad_t ar_t t_length' t_scanned' t_measured' t_at' t_found' t_wrongAt' t_negative' t_digitsFrom' t_digitsTo' t_significant' t_fraction' t_exponent', aC G ar_t 4096 t_row'] [0, 1] [] [0, 1] (ci := 2) (q0 := 0) hc dNt_skipOneOf_1 rfl ok_Nt_here ⟨Nat.le_of_ble_eq_true rfl, Nat.le_of_ble_eq_true rfl⟩ w_212 w_214 sl_5 rfl rfl rfl rfl rfl rfl (by decide) rfl rfl (Nat.le_of_ble_eq_true rfl) k

set_option maxRecDepth 20000 in
theorem b_Nt_skipOneOf_4 {l : Launch} {G : gG} {w0 w1 : va_W} {res : Option Value} {ad_t ar_t : Nat} {t_length t_scanned t_measured t_at t_found t_wrongAt t_negative t_digitsFrom t_digitsTo t_significant t_fraction t_exponent : Int32} {t_row : Nat → Int32} {x1 : Int32} {x2 : Int32} {v0 : Int32} (k0 : (v0 = x1) → gAt l G m_Nt_skipOneOf w0 res w1 17 [(0, .ref ad_t), (1, .int x1), (2, .int x2), (3, .int v0)] [] [oNt ad_t ar_t t_length t_scanned t_measured t_at t_found t_wrongAt t_negative t_digitsFrom t_digitsTo t_significant t_fraction t_exponent, aC G ar_t 4096 t_row]) (k1 : (¬ v0 = x1) → (v0 = x2) → gAt l G m_Nt_skipOneOf w0 res w1 17 [(0, .ref ad_t), (1, .int x1), (2, .int x2), (3, .int v0)] [] [oNt ad_t ar_t t_length t_scanned t_measured t_at t_found t_wrongAt t_negative t_digitsFrom t_digitsTo t_significant t_fraction t_exponent, aC G ar_t 4096 t_row]) (k2 : (¬ v0 = x1) → (¬ v0 = x2) → narrow .boolean (.int (0 : Int32)) = .int (0 : Int32) ∧ res = some (.int (0 : Int32)) ∧ [oNt ad_t ar_t t_length t_scanned t_measured t_at t_found t_wrongAt t_negative t_digitsFrom t_digitsTo t_significant t_fraction t_exponent, aC G ar_t 4096 t_row] = w1) : gAt l G m_Nt_skipOneOf w0 res w1 4 [(0, .ref ad_t), (1, .int x1), (2, .int x2)] [.int v0] [oNt ad_t ar_t t_length t_scanned t_measured t_at t_found t_wrongAt t_negative t_digitsFrom t_digitsTo t_significant t_fraction t_exponent, aC G ar_t 4096 t_row] := by
  refine a_istore_n [(3, .int v0), (0, .ref ad_t), (1, .int x1), (2, .int x2)] dNt_skipOneOf_4 rfl (by decide) rfl ?_
  refine a_iload_n 0 dNt_skipOneOf_5 rfl ?_
  refine a_iload_n 2 dNt_skipOneOf_6 rfl ?_
  refine a_icmp_eq 17 dNt_skipOneOf_7 (by decide) (fun c1 => ?_) (fun c1 => ?_)
  · refine a_lv [(0, .ref ad_t), (1, .int x1), (2, .int x2), (3, .int v0)] [1, 2, 3, 0] rfl ?_
    exact (k0 c1)
  · refine a_iload_n 0 dNt_skipOneOf_10 rfl ?_
    refine a_iload_n 3 dNt_skipOneOf_11 rfl ?_
    refine a_icmp_eq 17 dNt_skipOneOf_12 (by decide) (fun c2 => ?_) (fun c2 => ?_)
    · refine a_lv [(0, .ref ad_t), (1, .int x1), (2, .int x2), (3, .int v0)] [1, 2, 3, 0] rfl ?_
      exact (k1 c1 c2)
    · refine a_iconst (0 : Int32) dNt_skipOneOf_15 (by decide) ?_
      exact a_zret (st := []) dNt_skipOneOf_16 rfl (k2 c1 c2).1 (k2 c1 c2).2.1 (k2 c1 c2).2.2

set_option maxRecDepth 20000 in
theorem b_Nt_skipOneOf_17 {l : Launch} {G : gG} {w0 w1 : va_W} {res : Option Value} {ad_t ar_t : Nat} {t_length t_scanned t_measured t_at t_found t_wrongAt t_negative t_digitsFrom t_digitsTo t_significant t_fraction t_exponent : Int32} {t_row : Nat → Int32} {x1 : Int32} {x2 : Int32} {x3 : Int32} (k0 : narrow .boolean (.int (1 : Int32)) = .int (1 : Int32) ∧ res = some (.int (1 : Int32)) ∧ [oNt ad_t ar_t t_length t_scanned t_measured (t_at + (1 : Int32)) t_found t_wrongAt t_negative t_digitsFrom t_digitsTo t_significant t_fraction t_exponent, aC G ar_t 4096 t_row] = w1) : gAt l G m_Nt_skipOneOf w0 res w1 17 [(0, .ref ad_t), (1, .int x1), (2, .int x2), (3, .int x3)] [] [oNt ad_t ar_t t_length t_scanned t_measured t_at t_found t_wrongAt t_negative t_digitsFrom t_digitsTo t_significant t_fraction t_exponent, aC G ar_t 4096 t_row] := by
  refine a_aload_n 0 dNt_skipOneOf_17 rfl ?_
  refine a_dup dNt_skipOneOf_18 rfl ?_
  refine a_get (ci := 2) (kx := 4) 0 dNt_skipOneOf_19 rfl I_Nt w_42 rfl (by decide) rfl ?_
  refine a_iconst (1 : Int32) dNt_skipOneOf_22 (by decide) ?_
  refine a_iadd dNt_skipOneOf_23 ?_
  refine a_put (ci := 2) (kx := 4) ty_Nt 0 [oNt ad_t ar_t t_length t_scanned t_measured (t_at + (1 : Int32)) t_found t_wrongAt t_negative t_digitsFrom t_digitsTo t_significant t_fraction t_exponent, aC G ar_t 4096 t_row] dNt_skipOneOf_24 rfl I_Nt tyo_Nt nmo_Nt w_42 rfl (by decide) rfl rfl rfl (Nat.le_of_ble_eq_true rfl) rfl ?_
  refine a_iconst (1 : Int32) dNt_skipOneOf_27 (by decide) ?_
  exact a_zret (st := []) dNt_skipOneOf_28 rfl k0.1 k0.2.1 k0.2.2

set_option maxRecDepth 20000 in
theorem b_Nt_takeBody_0 {l : Launch} {G : gG} {w0 w1 : va_W} {res : Option Value} {ad_t ar_t : Nat} {t_length t_scanned t_measured t_at t_found t_wrongAt t_negative t_digitsFrom t_digitsTo t_significant t_fraction t_exponent : Int32} {t_row : Nat → Int32}  (k0 : gAt l G m_Nt_takeBody w0 res w1 1 [(0, .ref ad_t)] [.ref ad_t] [oNt ad_t ar_t t_length t_scanned t_measured t_at t_found t_wrongAt t_negative t_digitsFrom t_digitsTo t_significant t_fraction t_exponent, aC G ar_t 4096 t_row]) : gAt l G m_Nt_takeBody w0 res w1 0 [(0, .ref ad_t)] [] [oNt ad_t ar_t t_length t_scanned t_measured t_at t_found t_wrongAt t_negative t_digitsFrom t_digitsTo t_significant t_fraction t_exponent, aC G ar_t 4096 t_row] := by
  refine a_aload_n 0 dNt_takeBody_0 rfl ?_
  exact k0

set_option maxRecDepth 20000 in
theorem k_Nt_takeBody_1 {l : Launch} {G : gG} {w0 w1 : va_W} {res : Option Value} {ad_t ar_t : Nat} {t_length t_scanned t_measured t_at t_found t_wrongAt t_negative t_digitsFrom t_digitsTo t_significant t_fraction t_exponent : Int32} {t_row : Nat → Int32}  {r : Int32} {t_length' t_scanned' t_measured' t_at' t_found' t_wrongAt' t_negative' t_digitsFrom' t_digitsTo' t_significant' t_fraction' t_exponent' : Int32} {t_row' : Nat → Int32} (hc : gCt l G m_Nt_here [.ref ad_t] [oNt ad_t ar_t t_length t_scanned t_measured t_at t_found t_wrongAt t_negative t_digitsFrom t_digitsTo t_significant t_fraction t_exponent, aC G ar_t 4096 t_row] (some (.int r)) [oNt ad_t ar_t t_length' t_scanned' t_measured' t_at' t_found' t_wrongAt' t_negative' t_digitsFrom' t_digitsTo' t_significant' t_fraction' t_exponent', aC G ar_t 4096 t_row']) (k : gAt l G m_Nt_takeBody w0 res w1 4 [(0, .ref ad_t)] [.int r] [oNt ad_t ar_t t_length' t_scanned' t_measured' t_at' t_found' t_wrongAt' t_negative' t_digitsFrom' t_digitsTo' t_significant' t_fraction' t_exponent', aC G ar_t 4096 t_row']) : gAt l G m_Nt_takeBody w0 res w1 1 [(0, .ref ad_t)] [.ref ad_t] [oNt ad_t ar_t t_length t_scanned t_measured t_at t_found t_wrongAt t_negative t_digitsFrom t_digitsTo t_significant t_fraction t_exponent, aC G ar_t 4096 t_row] :=
  a_callV (As := []) (rest := []) (wc := [oNt ad_t ar_t t_length t_scanned t_measured t_at t_found t_wrongAt t_negative t_digitsFrom t_digitsTo t_significant t_fraction t_exponent, aC G ar_t 4096 t_row]) (wr := []) (w1c := [oNt ad_t ar_t t_length' t_scanned' t_measured' t_at' t_found' t_wrongAt' t_negative' t_digitsFrom' t_digitsTo' t_significant' t_fraction' t_exponent', aC G ar_t 4096 t_row']) (r := (some (.int r))) [oNt ad_t ar_t t_length' t_scanned' t_measured' t_at' t_found' t_wrongAt' t_negative' t_digitsFrom' t_digitsTo' t_significant' t_fraction' t_exponent', aC G ar_t 4096 t_row'] [0, 1] [] [0, 1] (ci := 2) (q0 := 0) hc dNt_takeBody_1 rfl ok_Nt_here ⟨Nat.le_of_ble_eq_true rfl, Nat.le_of_ble_eq_true rfl⟩ w_212 w_214 sl_5 rfl rfl rfl rfl rfl rfl (by decide) rfl rfl (Nat.le_of_ble_eq_true rfl) k

set_option maxRecDepth 20000 in
theorem b_Nt_takeBody_4 {l : Launch} {G : gG} {w0 w1 : va_W} {res : Option Value} {ad_t ar_t : Nat} {t_length t_scanned t_measured t_at t_found t_wrongAt t_negative t_digitsFrom t_digitsTo t_significant t_fraction t_exponent : Int32} {t_row : Nat → Int32} {v0 : Int32} (k0 : (¬ v0 = (78 : Int32)) → gAt l G m_Nt_takeBody w0 res w1 25 [(0, .ref ad_t)] [.ref ad_t] [oNt ad_t ar_t t_length t_scanned t_measured t_at t_found t_wrongAt t_negative t_digitsFrom t_digitsTo t_significant t_fraction t_exponent, aC G ar_t 4096 t_row]) (k1 : (v0 = (78 : Int32)) → gAt l G m_Nt_takeBody w0 res w1 12 [(0, .ref ad_t)] [.ref (g_adK G 0), .ref ad_t] [oNt ad_t ar_t t_length t_scanned t_measured t_at t_found t_wrongAt t_negative t_digitsFrom t_digitsTo t_significant t_fraction t_exponent, aC G ar_t 4096 t_row]) : gAt l G m_Nt_takeBody w0 res w1 4 [(0, .ref ad_t)] [.int v0] [oNt ad_t ar_t t_length t_scanned t_measured t_at t_found t_wrongAt t_negative t_digitsFrom t_digitsTo t_significant t_fraction t_exponent, aC G ar_t 4096 t_row] := by
  refine a_bipush (78 : Int32) dNt_takeBody_4 (by decide) ?_
  refine a_icmp_ne 24 dNt_takeBody_6 (by decide) (fun c1 => ?_) (fun c1 => ?_)
  · refine a_aload_n 0 dNt_takeBody_24 rfl ?_
    exact (k0 c1)
  · refine a_aload_n 0 dNt_takeBody_9 rfl ?_
    refine a_ldcS dNt_takeBody_10 (List.mem_of_getElem? (i := 0) rfl) ?_
    exact (k1 c1)

set_option maxRecDepth 20000 in
theorem k_Nt_takeBody_12 {l : Launch} {G : gG} {w0 w1 : va_W} {res : Option Value} {ad_t ar_t : Nat} {t_length t_scanned t_measured t_at t_found t_wrongAt t_negative t_digitsFrom t_digitsTo t_significant t_fraction t_exponent : Int32} {t_row : Nat → Int32}  {r : Int32} {t_length' t_scanned' t_measured' t_at' t_found' t_wrongAt' t_negative' t_digitsFrom' t_digitsTo' t_significant' t_fraction' t_exponent' : Int32} {t_row' : Nat → Int32} (hc : gCt l G m_Nt_takeWord [.ref ad_t, .ref (g_adK G 0)] [oNt ad_t ar_t t_length t_scanned t_measured t_at t_found t_wrongAt t_negative t_digitsFrom t_digitsTo t_significant t_fraction t_exponent, aC G ar_t 4096 t_row] (some (.int r)) [oNt ad_t ar_t t_length' t_scanned' t_measured' t_at' t_found' t_wrongAt' t_negative' t_digitsFrom' t_digitsTo' t_significant' t_fraction' t_exponent', aC G ar_t 4096 t_row']) (k : gAt l G m_Nt_takeBody w0 res w1 15 [(0, .ref ad_t)] [.int r] [oNt ad_t ar_t t_length' t_scanned' t_measured' t_at' t_found' t_wrongAt' t_negative' t_digitsFrom' t_digitsTo' t_significant' t_fraction' t_exponent', aC G ar_t 4096 t_row']) : gAt l G m_Nt_takeBody w0 res w1 12 [(0, .ref ad_t)] [.ref (g_adK G 0), .ref ad_t] [oNt ad_t ar_t t_length t_scanned t_measured t_at t_found t_wrongAt t_negative t_digitsFrom t_digitsTo t_significant t_fraction t_exponent, aC G ar_t 4096 t_row] :=
  a_callV (As := [.ref (g_adK G 0)]) (rest := []) (wc := [oNt ad_t ar_t t_length t_scanned t_measured t_at t_found t_wrongAt t_negative t_digitsFrom t_digitsTo t_significant t_fraction t_exponent, aC G ar_t 4096 t_row]) (wr := []) (w1c := [oNt ad_t ar_t t_length' t_scanned' t_measured' t_at' t_found' t_wrongAt' t_negative' t_digitsFrom' t_digitsTo' t_significant' t_fraction' t_exponent', aC G ar_t 4096 t_row']) (r := (some (.int r))) [oNt ad_t ar_t t_length' t_scanned' t_measured' t_at' t_found' t_wrongAt' t_negative' t_digitsFrom' t_digitsTo' t_significant' t_fraction' t_exponent', aC G ar_t 4096 t_row'] [0, 1] [] [0, 1] (ci := 2) (q0 := 0) hc dNt_takeBody_12 rfl ok_Nt_takeWord ⟨Nat.le_of_ble_eq_true rfl, Nat.le_of_ble_eq_true rfl⟩ w_225 w_227 sl_8 rfl rfl rfl rfl rfl rfl (by decide) rfl rfl (Nat.le_of_ble_eq_true rfl) k

set_option maxRecDepth 20000 in
theorem b_Nt_takeBody_15 {l : Launch} {G : gG} {w0 w1 : va_W} {res : Option Value} {ad_t ar_t : Nat} {t_length t_scanned t_measured t_at t_found t_wrongAt t_negative t_digitsFrom t_digitsTo t_significant t_fraction t_exponent : Int32} {t_row : Nat → Int32} {v0 : Int32} (k0 : (v0 = 0) → gAt l G m_Nt_takeBody w0 res w1 23 [(0, .ref ad_t)] [.int (-1 : Int32)] [oNt ad_t ar_t t_length t_scanned t_measured t_at t_found t_wrongAt t_negative t_digitsFrom t_digitsTo t_significant t_fraction t_exponent, aC G ar_t 4096 t_row]) (k1 : (¬ v0 = 0) → gAt l G m_Nt_takeBody w0 res w1 23 [(0, .ref ad_t)] [.int (3 : Int32)] [oNt ad_t ar_t t_length t_scanned t_measured t_at t_found t_wrongAt t_negative t_digitsFrom t_digitsTo t_significant t_fraction t_exponent, aC G ar_t 4096 t_row]) : gAt l G m_Nt_takeBody w0 res w1 15 [(0, .ref ad_t)] [.int v0] [oNt ad_t ar_t t_length t_scanned t_measured t_at t_found t_wrongAt t_negative t_digitsFrom t_digitsTo t_significant t_fraction t_exponent, aC G ar_t 4096 t_row] := by
  refine a_if_eq 22 dNt_takeBody_15 (by decide) (fun c1 => ?_) (fun c1 => ?_)
  · refine a_iconst (-1 : Int32) dNt_takeBody_22 (by decide) ?_
    exact (k0 c1)
  · refine a_iconst (3 : Int32) dNt_takeBody_18 (by decide) ?_
    refine a_goto 23 dNt_takeBody_19 (by decide) ?_
    exact (k1 c1)

set_option maxRecDepth 20000 in
theorem b_Nt_takeBody_23 {l : Launch} {G : gG} {w0 w1 : va_W} {res : Option Value} {ad_t ar_t : Nat} {t_length t_scanned t_measured t_at t_found t_wrongAt t_negative t_digitsFrom t_digitsTo t_significant t_fraction t_exponent : Int32} {t_row : Nat → Int32} {v0 : Int32} (k0 : res = some (.int v0) ∧ [oNt ad_t ar_t t_length t_scanned t_measured t_at t_found t_wrongAt t_negative t_digitsFrom t_digitsTo t_significant t_fraction t_exponent, aC G ar_t 4096 t_row] = w1) : gAt l G m_Nt_takeBody w0 res w1 23 [(0, .ref ad_t)] [.int v0] [oNt ad_t ar_t t_length t_scanned t_measured t_at t_found t_wrongAt t_negative t_digitsFrom t_digitsTo t_significant t_fraction t_exponent, aC G ar_t 4096 t_row] := by
  exact a_iret (st := []) dNt_takeBody_23 rfl k0.1 k0.2

set_option maxRecDepth 20000 in
theorem k_Nt_takeBody_25 {l : Launch} {G : gG} {w0 w1 : va_W} {res : Option Value} {ad_t ar_t : Nat} {t_length t_scanned t_measured t_at t_found t_wrongAt t_negative t_digitsFrom t_digitsTo t_significant t_fraction t_exponent : Int32} {t_row : Nat → Int32}  {r : Int32} {t_length' t_scanned' t_measured' t_at' t_found' t_wrongAt' t_negative' t_digitsFrom' t_digitsTo' t_significant' t_fraction' t_exponent' : Int32} {t_row' : Nat → Int32} (hc : gCt l G m_Nt_here [.ref ad_t] [oNt ad_t ar_t t_length t_scanned t_measured t_at t_found t_wrongAt t_negative t_digitsFrom t_digitsTo t_significant t_fraction t_exponent, aC G ar_t 4096 t_row] (some (.int r)) [oNt ad_t ar_t t_length' t_scanned' t_measured' t_at' t_found' t_wrongAt' t_negative' t_digitsFrom' t_digitsTo' t_significant' t_fraction' t_exponent', aC G ar_t 4096 t_row']) (k : gAt l G m_Nt_takeBody w0 res w1 28 [(0, .ref ad_t)] [.int r] [oNt ad_t ar_t t_length' t_scanned' t_measured' t_at' t_found' t_wrongAt' t_negative' t_digitsFrom' t_digitsTo' t_significant' t_fraction' t_exponent', aC G ar_t 4096 t_row']) : gAt l G m_Nt_takeBody w0 res w1 25 [(0, .ref ad_t)] [.ref ad_t] [oNt ad_t ar_t t_length t_scanned t_measured t_at t_found t_wrongAt t_negative t_digitsFrom t_digitsTo t_significant t_fraction t_exponent, aC G ar_t 4096 t_row] :=
  a_callV (As := []) (rest := []) (wc := [oNt ad_t ar_t t_length t_scanned t_measured t_at t_found t_wrongAt t_negative t_digitsFrom t_digitsTo t_significant t_fraction t_exponent, aC G ar_t 4096 t_row]) (wr := []) (w1c := [oNt ad_t ar_t t_length' t_scanned' t_measured' t_at' t_found' t_wrongAt' t_negative' t_digitsFrom' t_digitsTo' t_significant' t_fraction' t_exponent', aC G ar_t 4096 t_row']) (r := (some (.int r))) [oNt ad_t ar_t t_length' t_scanned' t_measured' t_at' t_found' t_wrongAt' t_negative' t_digitsFrom' t_digitsTo' t_significant' t_fraction' t_exponent', aC G ar_t 4096 t_row'] [0, 1] [] [0, 1] (ci := 2) (q0 := 0) hc dNt_takeBody_25 rfl ok_Nt_here ⟨Nat.le_of_ble_eq_true rfl, Nat.le_of_ble_eq_true rfl⟩ w_212 w_214 sl_5 rfl rfl rfl rfl rfl rfl (by decide) rfl rfl (Nat.le_of_ble_eq_true rfl) k

set_option maxRecDepth 20000 in
theorem b_Nt_takeBody_28 {l : Launch} {G : gG} {w0 w1 : va_W} {res : Option Value} {ad_t ar_t : Nat} {t_length t_scanned t_measured t_at t_found t_wrongAt t_negative t_digitsFrom t_digitsTo t_significant t_fraction t_exponent : Int32} {t_row : Nat → Int32} {v0 : Int32} (k0 : (¬ v0 = (73 : Int32)) → gAt l G m_Nt_takeBody w0 res w1 55 [(0, .ref ad_t)] [.int (t_at + (1 : Int32)), .ref ad_t] [oNt ad_t ar_t t_length t_scanned t_measured t_at t_found t_wrongAt t_negative t_digitsFrom t_digitsTo t_significant t_fraction t_exponent, aC G ar_t 4096 t_row]) (k1 : (v0 = (73 : Int32)) → gAt l G m_Nt_takeBody w0 res w1 36 [(0, .ref ad_t)] [.ref (g_adK G 1), .ref ad_t] [oNt ad_t ar_t t_length t_scanned t_measured t_at t_found t_wrongAt t_negative t_digitsFrom t_digitsTo t_significant t_fraction t_exponent, aC G ar_t 4096 t_row]) : gAt l G m_Nt_takeBody w0 res w1 28 [(0, .ref ad_t)] [.int v0] [oNt ad_t ar_t t_length t_scanned t_measured t_at t_found t_wrongAt t_negative t_digitsFrom t_digitsTo t_significant t_fraction t_exponent, aC G ar_t 4096 t_row] := by
  refine a_bipush (73 : Int32) dNt_takeBody_28 (by decide) ?_
  refine a_icmp_ne 48 dNt_takeBody_30 (by decide) (fun c1 => ?_) (fun c1 => ?_)
  · refine a_aload_n 0 dNt_takeBody_48 rfl ?_
    refine a_aload_n 0 dNt_takeBody_49 rfl ?_
    refine a_get (ci := 2) (kx := 4) 0 dNt_takeBody_50 rfl I_Nt w_42 rfl (by decide) rfl ?_
    refine a_iconst (1 : Int32) dNt_takeBody_53 (by decide) ?_
    refine a_iadd dNt_takeBody_54 ?_
    exact (k0 c1)
  · refine a_aload_n 0 dNt_takeBody_33 rfl ?_
    refine a_ldcS dNt_takeBody_34 (List.mem_of_getElem? (i := 1) rfl) ?_
    exact (k1 c1)

set_option maxRecDepth 20000 in
theorem k_Nt_takeBody_36 {l : Launch} {G : gG} {w0 w1 : va_W} {res : Option Value} {ad_t ar_t : Nat} {t_length t_scanned t_measured t_at t_found t_wrongAt t_negative t_digitsFrom t_digitsTo t_significant t_fraction t_exponent : Int32} {t_row : Nat → Int32}  {r : Int32} {t_length' t_scanned' t_measured' t_at' t_found' t_wrongAt' t_negative' t_digitsFrom' t_digitsTo' t_significant' t_fraction' t_exponent' : Int32} {t_row' : Nat → Int32} (hc : gCt l G m_Nt_takeWord [.ref ad_t, .ref (g_adK G 1)] [oNt ad_t ar_t t_length t_scanned t_measured t_at t_found t_wrongAt t_negative t_digitsFrom t_digitsTo t_significant t_fraction t_exponent, aC G ar_t 4096 t_row] (some (.int r)) [oNt ad_t ar_t t_length' t_scanned' t_measured' t_at' t_found' t_wrongAt' t_negative' t_digitsFrom' t_digitsTo' t_significant' t_fraction' t_exponent', aC G ar_t 4096 t_row']) (k : gAt l G m_Nt_takeBody w0 res w1 39 [(0, .ref ad_t)] [.int r] [oNt ad_t ar_t t_length' t_scanned' t_measured' t_at' t_found' t_wrongAt' t_negative' t_digitsFrom' t_digitsTo' t_significant' t_fraction' t_exponent', aC G ar_t 4096 t_row']) : gAt l G m_Nt_takeBody w0 res w1 36 [(0, .ref ad_t)] [.ref (g_adK G 1), .ref ad_t] [oNt ad_t ar_t t_length t_scanned t_measured t_at t_found t_wrongAt t_negative t_digitsFrom t_digitsTo t_significant t_fraction t_exponent, aC G ar_t 4096 t_row] :=
  a_callV (As := [.ref (g_adK G 1)]) (rest := []) (wc := [oNt ad_t ar_t t_length t_scanned t_measured t_at t_found t_wrongAt t_negative t_digitsFrom t_digitsTo t_significant t_fraction t_exponent, aC G ar_t 4096 t_row]) (wr := []) (w1c := [oNt ad_t ar_t t_length' t_scanned' t_measured' t_at' t_found' t_wrongAt' t_negative' t_digitsFrom' t_digitsTo' t_significant' t_fraction' t_exponent', aC G ar_t 4096 t_row']) (r := (some (.int r))) [oNt ad_t ar_t t_length' t_scanned' t_measured' t_at' t_found' t_wrongAt' t_negative' t_digitsFrom' t_digitsTo' t_significant' t_fraction' t_exponent', aC G ar_t 4096 t_row'] [0, 1] [] [0, 1] (ci := 2) (q0 := 0) hc dNt_takeBody_36 rfl ok_Nt_takeWord ⟨Nat.le_of_ble_eq_true rfl, Nat.le_of_ble_eq_true rfl⟩ w_225 w_227 sl_8 rfl rfl rfl rfl rfl rfl (by decide) rfl rfl (Nat.le_of_ble_eq_true rfl) k

set_option maxRecDepth 20000 in
theorem b_Nt_takeBody_39 {l : Launch} {G : gG} {w0 w1 : va_W} {res : Option Value} {ad_t ar_t : Nat} {t_length t_scanned t_measured t_at t_found t_wrongAt t_negative t_digitsFrom t_digitsTo t_significant t_fraction t_exponent : Int32} {t_row : Nat → Int32} {v0 : Int32} (k0 : (v0 = 0) → gAt l G m_Nt_takeBody w0 res w1 47 [(0, .ref ad_t)] [.int (-1 : Int32)] [oNt ad_t ar_t t_length t_scanned t_measured t_at t_found t_wrongAt t_negative t_digitsFrom t_digitsTo t_significant t_fraction t_exponent, aC G ar_t 4096 t_row]) (k1 : (¬ v0 = 0) → gAt l G m_Nt_takeBody w0 res w1 47 [(0, .ref ad_t)] [.int (2 : Int32)] [oNt ad_t ar_t t_length t_scanned t_measured t_at t_found t_wrongAt t_negative t_digitsFrom t_digitsTo t_significant t_fraction t_exponent, aC G ar_t 4096 t_row]) : gAt l G m_Nt_takeBody w0 res w1 39 [(0, .ref ad_t)] [.int v0] [oNt ad_t ar_t t_length t_scanned t_measured t_at t_found t_wrongAt t_negative t_digitsFrom t_digitsTo t_significant t_fraction t_exponent, aC G ar_t 4096 t_row] := by
  refine a_if_eq 46 dNt_takeBody_39 (by decide) (fun c1 => ?_) (fun c1 => ?_)
  · refine a_iconst (-1 : Int32) dNt_takeBody_46 (by decide) ?_
    exact (k0 c1)
  · refine a_iconst (2 : Int32) dNt_takeBody_42 (by decide) ?_
    refine a_goto 47 dNt_takeBody_43 (by decide) ?_
    exact (k1 c1)

set_option maxRecDepth 20000 in
theorem b_Nt_takeBody_47 {l : Launch} {G : gG} {w0 w1 : va_W} {res : Option Value} {ad_t ar_t : Nat} {t_length t_scanned t_measured t_at t_found t_wrongAt t_negative t_digitsFrom t_digitsTo t_significant t_fraction t_exponent : Int32} {t_row : Nat → Int32} {v0 : Int32} (k0 : res = some (.int v0) ∧ [oNt ad_t ar_t t_length t_scanned t_measured t_at t_found t_wrongAt t_negative t_digitsFrom t_digitsTo t_significant t_fraction t_exponent, aC G ar_t 4096 t_row] = w1) : gAt l G m_Nt_takeBody w0 res w1 47 [(0, .ref ad_t)] [.int v0] [oNt ad_t ar_t t_length t_scanned t_measured t_at t_found t_wrongAt t_negative t_digitsFrom t_digitsTo t_significant t_fraction t_exponent, aC G ar_t 4096 t_row] := by
  exact a_iret (st := []) dNt_takeBody_47 rfl k0.1 k0.2

set_option maxRecDepth 20000 in
theorem k_Nt_takeBody_55 {l : Launch} {G : gG} {w0 w1 : va_W} {res : Option Value} {ad_t ar_t : Nat} {t_length t_scanned t_measured t_at t_found t_wrongAt t_negative t_digitsFrom t_digitsTo t_significant t_fraction t_exponent : Int32} {t_row : Nat → Int32} {v0 : Int32} {r : Int32} {t_length' t_scanned' t_measured' t_at' t_found' t_wrongAt' t_negative' t_digitsFrom' t_digitsTo' t_significant' t_fraction' t_exponent' : Int32} {t_row' : Nat → Int32} (hc : gCt l G m_Nt_characterAt [.ref ad_t, .int v0] [oNt ad_t ar_t t_length t_scanned t_measured t_at t_found t_wrongAt t_negative t_digitsFrom t_digitsTo t_significant t_fraction t_exponent, aC G ar_t 4096 t_row] (some (.int r)) [oNt ad_t ar_t t_length' t_scanned' t_measured' t_at' t_found' t_wrongAt' t_negative' t_digitsFrom' t_digitsTo' t_significant' t_fraction' t_exponent', aC G ar_t 4096 t_row']) (k : gAt l G m_Nt_takeBody w0 res w1 58 [(0, .ref ad_t)] [.int r] [oNt ad_t ar_t t_length' t_scanned' t_measured' t_at' t_found' t_wrongAt' t_negative' t_digitsFrom' t_digitsTo' t_significant' t_fraction' t_exponent', aC G ar_t 4096 t_row']) : gAt l G m_Nt_takeBody w0 res w1 55 [(0, .ref ad_t)] [.int v0, .ref ad_t] [oNt ad_t ar_t t_length t_scanned t_measured t_at t_found t_wrongAt t_negative t_digitsFrom t_digitsTo t_significant t_fraction t_exponent, aC G ar_t 4096 t_row] :=
  a_callV (As := [.int v0]) (rest := []) (wc := [oNt ad_t ar_t t_length t_scanned t_measured t_at t_found t_wrongAt t_negative t_digitsFrom t_digitsTo t_significant t_fraction t_exponent, aC G ar_t 4096 t_row]) (wr := []) (w1c := [oNt ad_t ar_t t_length' t_scanned' t_measured' t_at' t_found' t_wrongAt' t_negative' t_digitsFrom' t_digitsTo' t_significant' t_fraction' t_exponent', aC G ar_t 4096 t_row']) (r := (some (.int r))) [oNt ad_t ar_t t_length' t_scanned' t_measured' t_at' t_found' t_wrongAt' t_negative' t_digitsFrom' t_digitsTo' t_significant' t_fraction' t_exponent', aC G ar_t 4096 t_row'] [0, 1] [] [0, 1] (ci := 2) (q0 := 0) hc dNt_takeBody_55 rfl ok_Nt_characterAt ⟨Nat.le_of_ble_eq_true rfl, Nat.le_of_ble_eq_true rfl⟩ w_278 w_280 sl_9 rfl rfl rfl rfl rfl rfl (by decide) rfl rfl (Nat.le_of_ble_eq_true rfl) k

set_option maxRecDepth 20000 in
theorem b_Nt_takeBody_58 {l : Launch} {G : gG} {w0 w1 : va_W} {res : Option Value} {ad_t ar_t : Nat} {t_length t_scanned t_measured t_at t_found t_wrongAt t_negative t_digitsFrom t_digitsTo t_significant t_fraction t_exponent : Int32} {t_row : Nat → Int32} {v0 : Int32} (k0 : gAt l G m_Nt_takeBody w0 res w1 60 [(0, .ref ad_t), (1, .int v0)] [.ref ad_t] [oNt ad_t ar_t t_length t_scanned t_measured t_at t_found t_wrongAt t_negative t_digitsFrom t_digitsTo t_significant t_fraction t_exponent, aC G ar_t 4096 t_row]) : gAt l G m_Nt_takeBody w0 res w1 58 [(0, .ref ad_t)] [.int v0] [oNt ad_t ar_t t_length t_scanned t_measured t_at t_found t_wrongAt t_negative t_digitsFrom t_digitsTo t_significant t_fraction t_exponent, aC G ar_t 4096 t_row] := by
  refine a_istore_n [(1, .int v0), (0, .ref ad_t)] dNt_takeBody_58 rfl (by decide) rfl ?_
  refine a_aload_n 1 dNt_takeBody_59 rfl ?_
  refine a_lv [(0, .ref ad_t), (1, .int v0)] [1, 0] rfl ?_
  exact k0

set_option maxRecDepth 20000 in
theorem k_Nt_takeBody_60 {l : Launch} {G : gG} {w0 w1 : va_W} {res : Option Value} {ad_t ar_t : Nat} {t_length t_scanned t_measured t_at t_found t_wrongAt t_negative t_digitsFrom t_digitsTo t_significant t_fraction t_exponent : Int32} {t_row : Nat → Int32} {x1 : Int32} {r : Int32} {t_length' t_scanned' t_measured' t_at' t_found' t_wrongAt' t_negative' t_digitsFrom' t_digitsTo' t_significant' t_fraction' t_exponent' : Int32} {t_row' : Nat → Int32} (hc : gCt l G m_Nt_here [.ref ad_t] [oNt ad_t ar_t t_length t_scanned t_measured t_at t_found t_wrongAt t_negative t_digitsFrom t_digitsTo t_significant t_fraction t_exponent, aC G ar_t 4096 t_row] (some (.int r)) [oNt ad_t ar_t t_length' t_scanned' t_measured' t_at' t_found' t_wrongAt' t_negative' t_digitsFrom' t_digitsTo' t_significant' t_fraction' t_exponent', aC G ar_t 4096 t_row']) (k : gAt l G m_Nt_takeBody w0 res w1 63 [(0, .ref ad_t), (1, .int x1)] [.int r] [oNt ad_t ar_t t_length' t_scanned' t_measured' t_at' t_found' t_wrongAt' t_negative' t_digitsFrom' t_digitsTo' t_significant' t_fraction' t_exponent', aC G ar_t 4096 t_row']) : gAt l G m_Nt_takeBody w0 res w1 60 [(0, .ref ad_t), (1, .int x1)] [.ref ad_t] [oNt ad_t ar_t t_length t_scanned t_measured t_at t_found t_wrongAt t_negative t_digitsFrom t_digitsTo t_significant t_fraction t_exponent, aC G ar_t 4096 t_row] :=
  a_callV (As := []) (rest := []) (wc := [oNt ad_t ar_t t_length t_scanned t_measured t_at t_found t_wrongAt t_negative t_digitsFrom t_digitsTo t_significant t_fraction t_exponent, aC G ar_t 4096 t_row]) (wr := []) (w1c := [oNt ad_t ar_t t_length' t_scanned' t_measured' t_at' t_found' t_wrongAt' t_negative' t_digitsFrom' t_digitsTo' t_significant' t_fraction' t_exponent', aC G ar_t 4096 t_row']) (r := (some (.int r))) [oNt ad_t ar_t t_length' t_scanned' t_measured' t_at' t_found' t_wrongAt' t_negative' t_digitsFrom' t_digitsTo' t_significant' t_fraction' t_exponent', aC G ar_t 4096 t_row'] [0, 1] [] [0, 1] (ci := 2) (q0 := 0) hc dNt_takeBody_60 rfl ok_Nt_here ⟨Nat.le_of_ble_eq_true rfl, Nat.le_of_ble_eq_true rfl⟩ w_212 w_214 sl_5 rfl rfl rfl rfl rfl rfl (by decide) rfl rfl (Nat.le_of_ble_eq_true rfl) k

set_option maxRecDepth 20000 in
theorem b_Nt_takeBody_63 {l : Launch} {G : gG} {w0 w1 : va_W} {res : Option Value} {ad_t ar_t : Nat} {t_length t_scanned t_measured t_at t_found t_wrongAt t_negative t_digitsFrom t_digitsTo t_significant t_fraction t_exponent : Int32} {t_row : Nat → Int32} {x1 : Int32} {v0 : Int32} (k0 : (¬ v0 = (48 : Int32)) → gAt l G m_Nt_takeBody w0 res w1 103 [(0, .ref ad_t), (1, .int x1)] [] [oNt ad_t ar_t t_length t_scanned t_measured t_at t_found t_wrongAt t_negative t_digitsFrom t_digitsTo t_significant t_fraction t_exponent, aC G ar_t 4096 t_row]) (k1 : (v0 = (48 : Int32)) → (x1 = (120 : Int32)) → gAt l G m_Nt_takeBody w0 res w1 80 [(0, .ref ad_t), (1, .int x1)] [] [oNt ad_t ar_t t_length t_scanned t_measured t_at t_found t_wrongAt t_negative t_digitsFrom t_digitsTo t_significant t_fraction t_exponent, aC G ar_t 4096 t_row]) (k2 : (v0 = (48 : Int32)) → (¬ x1 = (120 : Int32)) → (¬ x1 = (88 : Int32)) → gAt l G m_Nt_takeBody w0 res w1 103 [(0, .ref ad_t), (1, .int x1)] [] [oNt ad_t ar_t t_length t_scanned t_measured t_at t_found t_wrongAt t_negative t_digitsFrom t_digitsTo t_significant t_fraction t_exponent, aC G ar_t 4096 t_row]) (k3 : (v0 = (48 : Int32)) → (¬ x1 = (120 : Int32)) → (x1 = (88 : Int32)) → gAt l G m_Nt_takeBody w0 res w1 80 [(0, .ref ad_t), (1, .int x1)] [] [oNt ad_t ar_t t_length t_scanned t_measured t_at t_found t_wrongAt t_negative t_digitsFrom t_digitsTo t_significant t_fraction t_exponent, aC G ar_t 4096 t_row]) : gAt l G m_Nt_takeBody w0 res w1 63 [(0, .ref ad_t), (1, .int x1)] [.int v0] [oNt ad_t ar_t t_length t_scanned t_measured t_at t_found t_wrongAt t_negative t_digitsFrom t_digitsTo t_significant t_fraction t_exponent, aC G ar_t 4096 t_row] := by
  refine a_bipush (48 : Int32) dNt_takeBody_63 (by decide) ?_
  refine a_icmp_ne 103 dNt_takeBody_65 (by decide) (fun c1 => ?_) (fun c1 => ?_)
  · exact (k0 c1)
  · refine a_iload_n 1 dNt_takeBody_68 rfl ?_
    refine a_bipush (120 : Int32) dNt_takeBody_69 (by decide) ?_
    refine a_icmp_eq 80 dNt_takeBody_71 (by decide) (fun c2 => ?_) (fun c2 => ?_)
    · exact (k1 c1 c2)
    · refine a_iload_n 1 dNt_takeBody_74 rfl ?_
      refine a_bipush (88 : Int32) dNt_takeBody_75 (by decide) ?_
      refine a_icmp_ne 103 dNt_takeBody_77 (by decide) (fun c3 => ?_) (fun c3 => ?_)
      · exact (k2 c1 c2 c3)
      · exact (k3 c1 c2 c3)

set_option maxRecDepth 20000 in
theorem b_Nt_takeBody_80 {l : Launch} {G : gG} {w0 w1 : va_W} {res : Option Value} {ad_t ar_t : Nat} {t_length t_scanned t_measured t_at t_found t_wrongAt t_negative t_digitsFrom t_digitsTo t_significant t_fraction t_exponent : Int32} {t_row : Nat → Int32} {x1 : Int32} (k0 : gAt l G m_Nt_takeBody w0 res w1 91 [(0, .ref ad_t), (1, .int x1)] [.ref ad_t] [oNt ad_t ar_t t_length t_scanned t_measured (t_at + (2 : Int32)) t_found t_wrongAt t_negative t_digitsFrom t_digitsTo t_significant t_fraction t_exponent, aC G ar_t 4096 t_row]) : gAt l G m_Nt_takeBody w0 res w1 80 [(0, .ref ad_t), (1, .int x1)] [] [oNt ad_t ar_t t_length t_scanned t_measured t_at t_found t_wrongAt t_negative t_digitsFrom t_digitsTo t_significant t_fraction t_exponent, aC G ar_t 4096 t_row] := by
  refine a_aload_n 0 dNt_takeBody_80 rfl ?_
  refine a_dup dNt_takeBody_81 rfl ?_
  refine a_get (ci := 2) (kx := 4) 0 dNt_takeBody_82 rfl I_Nt w_42 rfl (by decide) rfl ?_
  refine a_iconst (2 : Int32) dNt_takeBody_85 (by decide) ?_
  refine a_iadd dNt_takeBody_86 ?_
  refine a_put (ci := 2) (kx := 4) ty_Nt 0 [oNt ad_t ar_t t_length t_scanned t_measured (t_at + (2 : Int32)) t_found t_wrongAt t_negative t_digitsFrom t_digitsTo t_significant t_fraction t_exponent, aC G ar_t 4096 t_row] dNt_takeBody_87 rfl I_Nt tyo_Nt nmo_Nt w_42 rfl (by decide) rfl rfl rfl (Nat.le_of_ble_eq_true rfl) rfl ?_
  refine a_aload_n 0 dNt_takeBody_90 rfl ?_
  exact k0

set_option maxRecDepth 20000 in
theorem k_Nt_takeBody_91 {l : Launch} {G : gG} {w0 w1 : va_W} {res : Option Value} {ad_t ar_t : Nat} {t_length t_scanned t_measured t_at t_found t_wrongAt t_negative t_digitsFrom t_digitsTo t_significant t_fraction t_exponent : Int32} {t_row : Nat → Int32} {x1 : Int32} {r : Int32} {t_length' t_scanned' t_measured' t_at' t_found' t_wrongAt' t_negative' t_digitsFrom' t_digitsTo' t_significant' t_fraction' t_exponent' : Int32} {t_row' : Nat → Int32} (hc : gCt l G m_Nt_takeHexadecimal [.ref ad_t] [oNt ad_t ar_t t_length t_scanned t_measured t_at t_found t_wrongAt t_negative t_digitsFrom t_digitsTo t_significant t_fraction t_exponent, aC G ar_t 4096 t_row] (some (.int r)) [oNt ad_t ar_t t_length' t_scanned' t_measured' t_at' t_found' t_wrongAt' t_negative' t_digitsFrom' t_digitsTo' t_significant' t_fraction' t_exponent', aC G ar_t 4096 t_row']) (k : gAt l G m_Nt_takeBody w0 res w1 94 [(0, .ref ad_t), (1, .int x1)] [.int r] [oNt ad_t ar_t t_length' t_scanned' t_measured' t_at' t_found' t_wrongAt' t_negative' t_digitsFrom' t_digitsTo' t_significant' t_fraction' t_exponent', aC G ar_t 4096 t_row']) : gAt l G m_Nt_takeBody w0 res w1 91 [(0, .ref ad_t), (1, .int x1)] [.ref ad_t] [oNt ad_t ar_t t_length t_scanned t_measured t_at t_found t_wrongAt t_negative t_digitsFrom t_digitsTo t_significant t_fraction t_exponent, aC G ar_t 4096 t_row] :=
  a_callV (As := []) (rest := []) (wc := [oNt ad_t ar_t t_length t_scanned t_measured t_at t_found t_wrongAt t_negative t_digitsFrom t_digitsTo t_significant t_fraction t_exponent, aC G ar_t 4096 t_row]) (wr := []) (w1c := [oNt ad_t ar_t t_length' t_scanned' t_measured' t_at' t_found' t_wrongAt' t_negative' t_digitsFrom' t_digitsTo' t_significant' t_fraction' t_exponent', aC G ar_t 4096 t_row']) (r := (some (.int r))) [oNt ad_t ar_t t_length' t_scanned' t_measured' t_at' t_found' t_wrongAt' t_negative' t_digitsFrom' t_digitsTo' t_significant' t_fraction' t_exponent', aC G ar_t 4096 t_row'] [0, 1] [] [0, 1] (ci := 2) (q0 := 0) hc dNt_takeBody_91 rfl ok_Nt_takeHexadecimal ⟨Nat.le_of_ble_eq_true rfl, Nat.le_of_ble_eq_true rfl⟩ w_282 w_284 sl_10 rfl rfl rfl rfl rfl rfl (by decide) rfl rfl (Nat.le_of_ble_eq_true rfl) k

set_option maxRecDepth 20000 in
theorem b_Nt_takeBody_94 {l : Launch} {G : gG} {w0 w1 : va_W} {res : Option Value} {ad_t ar_t : Nat} {t_length t_scanned t_measured t_at t_found t_wrongAt t_negative t_digitsFrom t_digitsTo t_significant t_fraction t_exponent : Int32} {t_row : Nat → Int32} {x1 : Int32} {v0 : Int32} (k0 : (v0 = 0) → gAt l G m_Nt_takeBody w0 res w1 102 [(0, .ref ad_t), (1, .int x1)] [.int (-1 : Int32)] [oNt ad_t ar_t t_length t_scanned t_measured t_at t_found t_wrongAt t_negative t_digitsFrom t_digitsTo t_significant t_fraction t_exponent, aC G ar_t 4096 t_row]) (k1 : (¬ v0 = 0) → gAt l G m_Nt_takeBody w0 res w1 102 [(0, .ref ad_t), (1, .int x1)] [.int (1 : Int32)] [oNt ad_t ar_t t_length t_scanned t_measured t_at t_found t_wrongAt t_negative t_digitsFrom t_digitsTo t_significant t_fraction t_exponent, aC G ar_t 4096 t_row]) : gAt l G m_Nt_takeBody w0 res w1 94 [(0, .ref ad_t), (1, .int x1)] [.int v0] [oNt ad_t ar_t t_length t_scanned t_measured t_at t_found t_wrongAt t_negative t_digitsFrom t_digitsTo t_significant t_fraction t_exponent, aC G ar_t 4096 t_row] := by
  refine a_if_eq 101 dNt_takeBody_94 (by decide) (fun c1 => ?_) (fun c1 => ?_)
  · refine a_iconst (-1 : Int32) dNt_takeBody_101 (by decide) ?_
    exact (k0 c1)
  · refine a_iconst (1 : Int32) dNt_takeBody_97 (by decide) ?_
    refine a_goto 102 dNt_takeBody_98 (by decide) ?_
    exact (k1 c1)

set_option maxRecDepth 20000 in
theorem b_Nt_takeBody_102 {l : Launch} {G : gG} {w0 w1 : va_W} {res : Option Value} {ad_t ar_t : Nat} {t_length t_scanned t_measured t_at t_found t_wrongAt t_negative t_digitsFrom t_digitsTo t_significant t_fraction t_exponent : Int32} {t_row : Nat → Int32} {x1 : Int32} {v0 : Int32} (k0 : res = some (.int v0) ∧ [oNt ad_t ar_t t_length t_scanned t_measured t_at t_found t_wrongAt t_negative t_digitsFrom t_digitsTo t_significant t_fraction t_exponent, aC G ar_t 4096 t_row] = w1) : gAt l G m_Nt_takeBody w0 res w1 102 [(0, .ref ad_t), (1, .int x1)] [.int v0] [oNt ad_t ar_t t_length t_scanned t_measured t_at t_found t_wrongAt t_negative t_digitsFrom t_digitsTo t_significant t_fraction t_exponent, aC G ar_t 4096 t_row] := by
  exact a_iret (st := []) dNt_takeBody_102 rfl k0.1 k0.2

set_option maxRecDepth 20000 in
theorem b_Nt_takeBody_103 {l : Launch} {G : gG} {w0 w1 : va_W} {res : Option Value} {ad_t ar_t : Nat} {t_length t_scanned t_measured t_at t_found t_wrongAt t_negative t_digitsFrom t_digitsTo t_significant t_fraction t_exponent : Int32} {t_row : Nat → Int32} {x1 : Int32} (k0 : gAt l G m_Nt_takeBody w0 res w1 104 [(0, .ref ad_t), (1, .int x1)] [.ref ad_t] [oNt ad_t ar_t t_length t_scanned t_measured t_at t_found t_wrongAt t_negative t_digitsFrom t_digitsTo t_significant t_fraction t_exponent, aC G ar_t 4096 t_row]) : gAt l G m_Nt_takeBody w0 res w1 103 [(0, .ref ad_t), (1, .int x1)] [] [oNt ad_t ar_t t_length t_scanned t_measured t_at t_found t_wrongAt t_negative t_digitsFrom t_digitsTo t_significant t_fraction t_exponent, aC G ar_t 4096 t_row] := by
  refine a_aload_n 0 dNt_takeBody_103 rfl ?_
  exact k0

set_option maxRecDepth 20000 in
theorem k_Nt_takeBody_104 {l : Launch} {G : gG} {w0 w1 : va_W} {res : Option Value} {ad_t ar_t : Nat} {t_length t_scanned t_measured t_at t_found t_wrongAt t_negative t_digitsFrom t_digitsTo t_significant t_fraction t_exponent : Int32} {t_row : Nat → Int32} {x1 : Int32} {r : Int32} {t_length' t_scanned' t_measured' t_at' t_found' t_wrongAt' t_negative' t_digitsFrom' t_digitsTo' t_significant' t_fraction' t_exponent' : Int32} {t_row' : Nat → Int32} (hc : gCt l G m_Nt_takeDecimal [.ref ad_t] [oNt ad_t ar_t t_length t_scanned t_measured t_at t_found t_wrongAt t_negative t_digitsFrom t_digitsTo t_significant t_fraction t_exponent, aC G ar_t 4096 t_row] (some (.int r)) [oNt ad_t ar_t t_length' t_scanned' t_measured' t_at' t_found' t_wrongAt' t_negative' t_digitsFrom' t_digitsTo' t_significant' t_fraction' t_exponent', aC G ar_t 4096 t_row']) (k : gAt l G m_Nt_takeBody w0 res w1 107 [(0, .ref ad_t), (1, .int x1)] [.int r] [oNt ad_t ar_t t_length' t_scanned' t_measured' t_at' t_found' t_wrongAt' t_negative' t_digitsFrom' t_digitsTo' t_significant' t_fraction' t_exponent', aC G ar_t 4096 t_row']) : gAt l G m_Nt_takeBody w0 res w1 104 [(0, .ref ad_t), (1, .int x1)] [.ref ad_t] [oNt ad_t ar_t t_length t_scanned t_measured t_at t_found t_wrongAt t_negative t_digitsFrom t_digitsTo t_significant t_fraction t_exponent, aC G ar_t 4096 t_row] :=
  a_callV (As := []) (rest := []) (wc := [oNt ad_t ar_t t_length t_scanned t_measured t_at t_found t_wrongAt t_negative t_digitsFrom t_digitsTo t_significant t_fraction t_exponent, aC G ar_t 4096 t_row]) (wr := []) (w1c := [oNt ad_t ar_t t_length' t_scanned' t_measured' t_at' t_found' t_wrongAt' t_negative' t_digitsFrom' t_digitsTo' t_significant' t_fraction' t_exponent', aC G ar_t 4096 t_row']) (r := (some (.int r))) [oNt ad_t ar_t t_length' t_scanned' t_measured' t_at' t_found' t_wrongAt' t_negative' t_digitsFrom' t_digitsTo' t_significant' t_fraction' t_exponent', aC G ar_t 4096 t_row'] [0, 1] [] [0, 1] (ci := 2) (q0 := 0) hc dNt_takeBody_104 rfl ok_Nt_takeDecimal ⟨Nat.le_of_ble_eq_true rfl, Nat.le_of_ble_eq_true rfl⟩ w_302 w_304 sl_14 rfl rfl rfl rfl rfl rfl (by decide) rfl rfl (Nat.le_of_ble_eq_true rfl) k

set_option maxRecDepth 20000 in
theorem b_Nt_takeBody_107 {l : Launch} {G : gG} {w0 w1 : va_W} {res : Option Value} {ad_t ar_t : Nat} {t_length t_scanned t_measured t_at t_found t_wrongAt t_negative t_digitsFrom t_digitsTo t_significant t_fraction t_exponent : Int32} {t_row : Nat → Int32} {x1 : Int32} {v0 : Int32} (k0 : (v0 = 0) → gAt l G m_Nt_takeBody w0 res w1 115 [(0, .ref ad_t), (1, .int x1)] [.int (-1 : Int32)] [oNt ad_t ar_t t_length t_scanned t_measured t_at t_found t_wrongAt t_negative t_digitsFrom t_digitsTo t_significant t_fraction t_exponent, aC G ar_t 4096 t_row]) (k1 : (¬ v0 = 0) → gAt l G m_Nt_takeBody w0 res w1 115 [(0, .ref ad_t), (1, .int x1)] [.int (0 : Int32)] [oNt ad_t ar_t t_length t_scanned t_measured t_at t_found t_wrongAt t_negative t_digitsFrom t_digitsTo t_significant t_fraction t_exponent, aC G ar_t 4096 t_row]) : gAt l G m_Nt_takeBody w0 res w1 107 [(0, .ref ad_t), (1, .int x1)] [.int v0] [oNt ad_t ar_t t_length t_scanned t_measured t_at t_found t_wrongAt t_negative t_digitsFrom t_digitsTo t_significant t_fraction t_exponent, aC G ar_t 4096 t_row] := by
  refine a_if_eq 114 dNt_takeBody_107 (by decide) (fun c1 => ?_) (fun c1 => ?_)
  · refine a_iconst (-1 : Int32) dNt_takeBody_114 (by decide) ?_
    exact (k0 c1)
  · refine a_iconst (0 : Int32) dNt_takeBody_110 (by decide) ?_
    refine a_goto 115 dNt_takeBody_111 (by decide) ?_
    exact (k1 c1)

set_option maxRecDepth 20000 in
theorem b_Nt_takeBody_115 {l : Launch} {G : gG} {w0 w1 : va_W} {res : Option Value} {ad_t ar_t : Nat} {t_length t_scanned t_measured t_at t_found t_wrongAt t_negative t_digitsFrom t_digitsTo t_significant t_fraction t_exponent : Int32} {t_row : Nat → Int32} {x1 : Int32} {v0 : Int32} (k0 : res = some (.int v0) ∧ [oNt ad_t ar_t t_length t_scanned t_measured t_at t_found t_wrongAt t_negative t_digitsFrom t_digitsTo t_significant t_fraction t_exponent, aC G ar_t 4096 t_row] = w1) : gAt l G m_Nt_takeBody w0 res w1 115 [(0, .ref ad_t), (1, .int x1)] [.int v0] [oNt ad_t ar_t t_length t_scanned t_measured t_at t_found t_wrongAt t_negative t_digitsFrom t_digitsTo t_significant t_fraction t_exponent, aC G ar_t 4096 t_row] := by
  exact a_iret (st := []) dNt_takeBody_115 rfl k0.1 k0.2

set_option maxRecDepth 20000 in
theorem b_Nt_characterAt_0 {l : Launch} {G : gG} {w0 w1 : va_W} {res : Option Value} {ad_t ar_t : Nat} {t_length t_scanned t_measured t_at t_found t_wrongAt t_negative t_digitsFrom t_digitsTo t_significant t_fraction t_exponent : Int32} {t_row : Nat → Int32} {x1 : Int32} (k0 : (x1 < 0) → gAt l G m_Nt_characterAt w0 res w1 30 [(0, .ref ad_t), (1, .int x1)] [] [oNt ad_t ar_t t_length t_scanned t_measured t_at t_found t_wrongAt t_negative t_digitsFrom t_digitsTo t_significant t_fraction t_exponent, aC G ar_t 4096 t_row]) (k1 : (¬ x1 < 0) → (t_length ≤ x1) → gAt l G m_Nt_characterAt w0 res w1 30 [(0, .ref ad_t), (1, .int x1)] [] [oNt ad_t ar_t t_length t_scanned t_measured t_at t_found t_wrongAt t_negative t_digitsFrom t_digitsTo t_significant t_fraction t_exponent, aC G ar_t 4096 t_row]) (k2 : (¬ x1 < 0) → (¬ t_length ≤ x1) → ((4096 : Int32) ≤ x1) → gAt l G m_Nt_characterAt w0 res w1 30 [(0, .ref ad_t), (1, .int x1)] [] [oNt ad_t ar_t t_length t_scanned t_measured t_at t_found t_wrongAt t_negative t_digitsFrom t_digitsTo t_significant t_fraction t_exponent, aC G ar_t 4096 t_row]) (s3 : (¬ x1 < 0) → (¬ t_length ≤ x1) → (¬ (4096 : Int32) ≤ x1) → vp_in x1 4096) (k4 : (¬ x1 < 0) → (¬ t_length ≤ x1) → (¬ (4096 : Int32) ≤ x1) → gAt l G m_Nt_characterAt w0 res w1 31 [(0, .ref ad_t), (1, .int x1)] [.int (t_row (Int32.toNatClampNeg x1))] [oNt ad_t ar_t t_length t_scanned t_measured t_at t_found t_wrongAt t_negative t_digitsFrom t_digitsTo t_significant t_fraction t_exponent, aC G ar_t 4096 t_row]) : gAt l G m_Nt_characterAt w0 res w1 0 [(0, .ref ad_t), (1, .int x1)] [] [oNt ad_t ar_t t_length t_scanned t_measured t_at t_found t_wrongAt t_negative t_digitsFrom t_digitsTo t_significant t_fraction t_exponent, aC G ar_t 4096 t_row] := by
  refine a_iload_n 1 dNt_characterAt_0 rfl ?_
  refine a_if_lt 30 dNt_characterAt_1 (by decide) (fun c1 => ?_) (fun c1 => ?_)
  · exact (k0 c1)
  · refine a_iload_n 1 dNt_characterAt_4 rfl ?_
    refine a_aload_n 0 dNt_characterAt_5 rfl ?_
    refine a_get (ci := 2) (kx := 1) 0 dNt_characterAt_6 rfl I_Nt w_37 rfl (by decide) rfl ?_
    refine a_icmp_ge 30 dNt_characterAt_9 (by decide) (fun c2 => ?_) (fun c2 => ?_)
    · exact (k1 c1 c2)
    · refine a_iload_n 1 dNt_characterAt_12 rfl ?_
      refine a_aload_n 0 dNt_characterAt_13 rfl ?_
      refine a_get (ci := 2) (kx := 0) 0 dNt_characterAt_14 rfl I_Nt w_36 rfl (by decide) rfl ?_
      refine a_clen 1 (4096 : Int32) dNt_characterAt_17 rfl rfl ?_
      refine a_icmp_ge 30 dNt_characterAt_18 (by decide) (fun c3 => ?_) (fun c3 => ?_)
      · exact (k2 c1 c2 c3)
      · refine a_aload_n 0 dNt_characterAt_21 rfl ?_
        refine a_get (ci := 2) (kx := 0) 0 dNt_characterAt_22 rfl I_Nt w_36 rfl (by decide) rfl ?_
        refine a_iload_n 1 dNt_characterAt_25 rfl ?_
        refine a_cald 1 dNt_characterAt_26 rfl (s3 c1 c2 c3) ?_
        refine a_goto 31 dNt_characterAt_27 (by decide) ?_
        exact (k4 c1 c2 c3)

set_option maxRecDepth 20000 in
theorem b_Nt_characterAt_30 {l : Launch} {G : gG} {w0 w1 : va_W} {res : Option Value} {ad_t ar_t : Nat} {t_length t_scanned t_measured t_at t_found t_wrongAt t_negative t_digitsFrom t_digitsTo t_significant t_fraction t_exponent : Int32} {t_row : Nat → Int32} {x1 : Int32} (k0 : gAt l G m_Nt_characterAt w0 res w1 31 [(0, .ref ad_t), (1, .int x1)] [.int (0 : Int32)] [oNt ad_t ar_t t_length t_scanned t_measured t_at t_found t_wrongAt t_negative t_digitsFrom t_digitsTo t_significant t_fraction t_exponent, aC G ar_t 4096 t_row]) : gAt l G m_Nt_characterAt w0 res w1 30 [(0, .ref ad_t), (1, .int x1)] [] [oNt ad_t ar_t t_length t_scanned t_measured t_at t_found t_wrongAt t_negative t_digitsFrom t_digitsTo t_significant t_fraction t_exponent, aC G ar_t 4096 t_row] := by
  refine a_iconst (0 : Int32) dNt_characterAt_30 (by decide) ?_
  exact k0

set_option maxRecDepth 20000 in
theorem b_Nt_characterAt_31 {l : Launch} {G : gG} {w0 w1 : va_W} {res : Option Value} {ad_t ar_t : Nat} {t_length t_scanned t_measured t_at t_found t_wrongAt t_negative t_digitsFrom t_digitsTo t_significant t_fraction t_exponent : Int32} {t_row : Nat → Int32} {x1 : Int32} {v0 : Int32} (k0 : narrow .char (.int v0) = .int v0 ∧ res = some (.int v0) ∧ [oNt ad_t ar_t t_length t_scanned t_measured t_at t_found t_wrongAt t_negative t_digitsFrom t_digitsTo t_significant t_fraction t_exponent, aC G ar_t 4096 t_row] = w1) : gAt l G m_Nt_characterAt w0 res w1 31 [(0, .ref ad_t), (1, .int x1)] [.int v0] [oNt ad_t ar_t t_length t_scanned t_measured t_at t_found t_wrongAt t_negative t_digitsFrom t_digitsTo t_significant t_fraction t_exponent, aC G ar_t 4096 t_row] := by
  exact a_zret (st := []) dNt_characterAt_31 rfl k0.1 k0.2.1 k0.2.2

set_option maxRecDepth 20000 in
theorem b_Nt_takeHexadecimal_0 {l : Launch} {G : gG} {w0 w1 : va_W} {res : Option Value} {ad_t ar_t : Nat} {t_length t_scanned t_measured t_at t_found t_wrongAt t_negative t_digitsFrom t_digitsTo t_significant t_fraction t_exponent : Int32} {t_row : Nat → Int32}  (k0 : gAt l G m_Nt_takeHexadecimal w0 res w1 3 [(0, .ref ad_t)] [.int (16 : Int32), .ref ad_t] [oNt ad_t ar_t t_length t_scanned t_measured t_at t_found t_wrongAt t_negative t_digitsFrom t_digitsTo t_significant t_fraction t_exponent, aC G ar_t 4096 t_row]) : gAt l G m_Nt_takeHexadecimal w0 res w1 0 [(0, .ref ad_t)] [] [oNt ad_t ar_t t_length t_scanned t_measured t_at t_found t_wrongAt t_negative t_digitsFrom t_digitsTo t_significant t_fraction t_exponent, aC G ar_t 4096 t_row] := by
  refine a_aload_n 0 dNt_takeHexadecimal_0 rfl ?_
  refine a_bipush (16 : Int32) dNt_takeHexadecimal_1 (by decide) ?_
  exact k0

set_option maxRecDepth 20000 in
theorem k_Nt_takeHexadecimal_3 {l : Launch} {G : gG} {w0 w1 : va_W} {res : Option Value} {ad_t ar_t : Nat} {t_length t_scanned t_measured t_at t_found t_wrongAt t_negative t_digitsFrom t_digitsTo t_significant t_fraction t_exponent : Int32} {t_row : Nat → Int32} {v0 : Int32} {r : Int32} {t_length' t_scanned' t_measured' t_at' t_found' t_wrongAt' t_negative' t_digitsFrom' t_digitsTo' t_significant' t_fraction' t_exponent' : Int32} {t_row' : Nat → Int32} (hc : gCt l G m_Nt_takeDigits [.ref ad_t, .int v0] [oNt ad_t ar_t t_length t_scanned t_measured t_at t_found t_wrongAt t_negative t_digitsFrom t_digitsTo t_significant t_fraction t_exponent, aC G ar_t 4096 t_row] (some (.int r)) [oNt ad_t ar_t t_length' t_scanned' t_measured' t_at' t_found' t_wrongAt' t_negative' t_digitsFrom' t_digitsTo' t_significant' t_fraction' t_exponent', aC G ar_t 4096 t_row']) (k : gAt l G m_Nt_takeHexadecimal w0 res w1 6 [(0, .ref ad_t)] [.int r] [oNt ad_t ar_t t_length' t_scanned' t_measured' t_at' t_found' t_wrongAt' t_negative' t_digitsFrom' t_digitsTo' t_significant' t_fraction' t_exponent', aC G ar_t 4096 t_row']) : gAt l G m_Nt_takeHexadecimal w0 res w1 3 [(0, .ref ad_t)] [.int v0, .ref ad_t] [oNt ad_t ar_t t_length t_scanned t_measured t_at t_found t_wrongAt t_negative t_digitsFrom t_digitsTo t_significant t_fraction t_exponent, aC G ar_t 4096 t_row] :=
  a_callV (As := [.int v0]) (rest := []) (wc := [oNt ad_t ar_t t_length t_scanned t_measured t_at t_found t_wrongAt t_negative t_digitsFrom t_digitsTo t_significant t_fraction t_exponent, aC G ar_t 4096 t_row]) (wr := []) (w1c := [oNt ad_t ar_t t_length' t_scanned' t_measured' t_at' t_found' t_wrongAt' t_negative' t_digitsFrom' t_digitsTo' t_significant' t_fraction' t_exponent', aC G ar_t 4096 t_row']) (r := (some (.int r))) [oNt ad_t ar_t t_length' t_scanned' t_measured' t_at' t_found' t_wrongAt' t_negative' t_digitsFrom' t_digitsTo' t_significant' t_fraction' t_exponent', aC G ar_t 4096 t_row'] [0, 1] [] [0, 1] (ci := 2) (q0 := 0) hc dNt_takeHexadecimal_3 rfl ok_Nt_takeDigits ⟨Nat.le_of_ble_eq_true rfl, Nat.le_of_ble_eq_true rfl⟩ w_286 w_288 sl_11 rfl rfl rfl rfl rfl rfl (by decide) rfl rfl (Nat.le_of_ble_eq_true rfl) k

set_option maxRecDepth 20000 in
theorem b_Nt_takeHexadecimal_6 {l : Launch} {G : gG} {w0 w1 : va_W} {res : Option Value} {ad_t ar_t : Nat} {t_length t_scanned t_measured t_at t_found t_wrongAt t_negative t_digitsFrom t_digitsTo t_significant t_fraction t_exponent : Int32} {t_row : Nat → Int32} {v0 : Int32} (k0 : (v0 = 0) → gAt l G m_Nt_takeHexadecimal w0 res w1 27 [(0, .ref ad_t)] [] [oNt ad_t ar_t t_length t_scanned t_measured t_at t_found t_wrongAt t_negative t_digitsFrom t_digitsTo t_significant t_fraction t_exponent, aC G ar_t 4096 t_row]) (k1 : (¬ v0 = 0) → gAt l G m_Nt_takeHexadecimal w0 res w1 14 [(0, .ref ad_t)] [.int (80 : Int32), .int (112 : Int32), .ref ad_t] [oNt ad_t ar_t t_length t_scanned t_measured t_at t_found t_wrongAt t_negative t_digitsFrom t_digitsTo t_significant t_fraction t_exponent, aC G ar_t 4096 t_row]) : gAt l G m_Nt_takeHexadecimal w0 res w1 6 [(0, .ref ad_t)] [.int v0] [oNt ad_t ar_t t_length t_scanned t_measured t_at t_found t_wrongAt t_negative t_digitsFrom t_digitsTo t_significant t_fraction t_exponent, aC G ar_t 4096 t_row] := by
  refine a_if_eq 27 dNt_takeHexadecimal_6 (by decide) (fun c1 => ?_) (fun c1 => ?_)
  · exact (k0 c1)
  · refine a_aload_n 0 dNt_takeHexadecimal_9 rfl ?_
    refine a_bipush (112 : Int32) dNt_takeHexadecimal_10 (by decide) ?_
    refine a_bipush (80 : Int32) dNt_takeHexadecimal_12 (by decide) ?_
    exact (k1 c1)

set_option maxRecDepth 20000 in
theorem k_Nt_takeHexadecimal_14 {l : Launch} {G : gG} {w0 w1 : va_W} {res : Option Value} {ad_t ar_t : Nat} {t_length t_scanned t_measured t_at t_found t_wrongAt t_negative t_digitsFrom t_digitsTo t_significant t_fraction t_exponent : Int32} {t_row : Nat → Int32} {v0 : Int32} {v1 : Int32} {r : Int32} {t_length' t_scanned' t_measured' t_at' t_found' t_wrongAt' t_negative' t_digitsFrom' t_digitsTo' t_significant' t_fraction' t_exponent' : Int32} {t_row' : Nat → Int32} (hc : gCt l G m_Nt_skipOneOf [.ref ad_t, .int v1, .int v0] [oNt ad_t ar_t t_length t_scanned t_measured t_at t_found t_wrongAt t_negative t_digitsFrom t_digitsTo t_significant t_fraction t_exponent, aC G ar_t 4096 t_row] (some (.int r)) [oNt ad_t ar_t t_length' t_scanned' t_measured' t_at' t_found' t_wrongAt' t_negative' t_digitsFrom' t_digitsTo' t_significant' t_fraction' t_exponent', aC G ar_t 4096 t_row']) (k : gAt l G m_Nt_takeHexadecimal w0 res w1 17 [(0, .ref ad_t)] [.int r] [oNt ad_t ar_t t_length' t_scanned' t_measured' t_at' t_found' t_wrongAt' t_negative' t_digitsFrom' t_digitsTo' t_significant' t_fraction' t_exponent', aC G ar_t 4096 t_row']) : gAt l G m_Nt_takeHexadecimal w0 res w1 14 [(0, .ref ad_t)] [.int v0, .int v1, .ref ad_t] [oNt ad_t ar_t t_length t_scanned t_measured t_at t_found t_wrongAt t_negative t_digitsFrom t_digitsTo t_significant t_fraction t_exponent, aC G ar_t 4096 t_row] :=
  a_callV (As := [.int v1, .int v0]) (rest := []) (wc := [oNt ad_t ar_t t_length t_scanned t_measured t_at t_found t_wrongAt t_negative t_digitsFrom t_digitsTo t_significant t_fraction t_exponent, aC G ar_t 4096 t_row]) (wr := []) (w1c := [oNt ad_t ar_t t_length' t_scanned' t_measured' t_at' t_found' t_wrongAt' t_negative' t_digitsFrom' t_digitsTo' t_significant' t_fraction' t_exponent', aC G ar_t 4096 t_row']) (r := (some (.int r))) [oNt ad_t ar_t t_length' t_scanned' t_measured' t_at' t_found' t_wrongAt' t_negative' t_digitsFrom' t_digitsTo' t_significant' t_fraction' t_exponent', aC G ar_t 4096 t_row'] [0, 1] [] [0, 1] (ci := 2) (q0 := 0) hc dNt_takeHexadecimal_14 rfl ok_Nt_skipOneOf ⟨Nat.le_of_ble_eq_true rfl, Nat.le_of_ble_eq_true rfl⟩ w_216 w_218 sl_6 rfl rfl rfl rfl rfl rfl (by decide) rfl rfl (Nat.le_of_ble_eq_true rfl) k

set_option maxRecDepth 20000 in
theorem b_Nt_takeHexadecimal_17 {l : Launch} {G : gG} {w0 w1 : va_W} {res : Option Value} {ad_t ar_t : Nat} {t_length t_scanned t_measured t_at t_found t_wrongAt t_negative t_digitsFrom t_digitsTo t_significant t_fraction t_exponent : Int32} {t_row : Nat → Int32} {v0 : Int32} (k0 : (v0 = 0) → gAt l G m_Nt_takeHexadecimal w0 res w1 27 [(0, .ref ad_t)] [] [oNt ad_t ar_t t_length t_scanned t_measured t_at t_found t_wrongAt t_negative t_digitsFrom t_digitsTo t_significant t_fraction t_exponent, aC G ar_t 4096 t_row]) (k1 : (¬ v0 = 0) → gAt l G m_Nt_takeHexadecimal w0 res w1 21 [(0, .ref ad_t)] [.ref ad_t] [oNt ad_t ar_t t_length t_scanned t_measured t_at t_found t_wrongAt t_negative t_digitsFrom t_digitsTo t_significant t_fraction t_exponent, aC G ar_t 4096 t_row]) : gAt l G m_Nt_takeHexadecimal w0 res w1 17 [(0, .ref ad_t)] [.int v0] [oNt ad_t ar_t t_length t_scanned t_measured t_at t_found t_wrongAt t_negative t_digitsFrom t_digitsTo t_significant t_fraction t_exponent, aC G ar_t 4096 t_row] := by
  refine a_if_eq 27 dNt_takeHexadecimal_17 (by decide) (fun c1 => ?_) (fun c1 => ?_)
  · exact (k0 c1)
  · refine a_aload_n 0 dNt_takeHexadecimal_20 rfl ?_
    exact (k1 c1)

set_option maxRecDepth 20000 in
theorem k_Nt_takeHexadecimal_21 {l : Launch} {G : gG} {w0 w1 : va_W} {res : Option Value} {ad_t ar_t : Nat} {t_length t_scanned t_measured t_at t_found t_wrongAt t_negative t_digitsFrom t_digitsTo t_significant t_fraction t_exponent : Int32} {t_row : Nat → Int32}  {r : Int32} {t_length' t_scanned' t_measured' t_at' t_found' t_wrongAt' t_negative' t_digitsFrom' t_digitsTo' t_significant' t_fraction' t_exponent' : Int32} {t_row' : Nat → Int32} (hc : gCt l G m_Nt_takeExponent [.ref ad_t] [oNt ad_t ar_t t_length t_scanned t_measured t_at t_found t_wrongAt t_negative t_digitsFrom t_digitsTo t_significant t_fraction t_exponent, aC G ar_t 4096 t_row] (some (.int r)) [oNt ad_t ar_t t_length' t_scanned' t_measured' t_at' t_found' t_wrongAt' t_negative' t_digitsFrom' t_digitsTo' t_significant' t_fraction' t_exponent', aC G ar_t 4096 t_row']) (k : gAt l G m_Nt_takeHexadecimal w0 res w1 24 [(0, .ref ad_t)] [.int r] [oNt ad_t ar_t t_length' t_scanned' t_measured' t_at' t_found' t_wrongAt' t_negative' t_digitsFrom' t_digitsTo' t_significant' t_fraction' t_exponent', aC G ar_t 4096 t_row']) : gAt l G m_Nt_takeHexadecimal w0 res w1 21 [(0, .ref ad_t)] [.ref ad_t] [oNt ad_t ar_t t_length t_scanned t_measured t_at t_found t_wrongAt t_negative t_digitsFrom t_digitsTo t_significant t_fraction t_exponent, aC G ar_t 4096 t_row] :=
  a_callV (As := []) (rest := []) (wc := [oNt ad_t ar_t t_length t_scanned t_measured t_at t_found t_wrongAt t_negative t_digitsFrom t_digitsTo t_significant t_fraction t_exponent, aC G ar_t 4096 t_row]) (wr := []) (w1c := [oNt ad_t ar_t t_length' t_scanned' t_measured' t_at' t_found' t_wrongAt' t_negative' t_digitsFrom' t_digitsTo' t_significant' t_fraction' t_exponent', aC G ar_t 4096 t_row']) (r := (some (.int r))) [oNt ad_t ar_t t_length' t_scanned' t_measured' t_at' t_found' t_wrongAt' t_negative' t_digitsFrom' t_digitsTo' t_significant' t_fraction' t_exponent', aC G ar_t 4096 t_row'] [0, 1] [] [0, 1] (ci := 2) (q0 := 0) hc dNt_takeHexadecimal_21 rfl ok_Nt_takeExponent ⟨Nat.le_of_ble_eq_true rfl, Nat.le_of_ble_eq_true rfl⟩ w_293 w_295 sl_12 rfl rfl rfl rfl rfl rfl (by decide) rfl rfl (Nat.le_of_ble_eq_true rfl) k

set_option maxRecDepth 20000 in
theorem b_Nt_takeHexadecimal_24 {l : Launch} {G : gG} {w0 w1 : va_W} {res : Option Value} {ad_t ar_t : Nat} {t_length t_scanned t_measured t_at t_found t_wrongAt t_negative t_digitsFrom t_digitsTo t_significant t_fraction t_exponent : Int32} {t_row : Nat → Int32} {v0 : Int32} (k0 : (¬ v0 = 0) → gAt l G m_Nt_takeHexadecimal w0 res w1 30 [(0, .ref ad_t)] [.ref ad_t] [oNt ad_t ar_t t_length t_scanned t_measured t_at t_found t_wrongAt t_negative t_digitsFrom t_digitsTo t_significant t_fraction t_exponent, aC G ar_t 4096 t_row]) (k1 : (v0 = 0) → gAt l G m_Nt_takeHexadecimal w0 res w1 27 [(0, .ref ad_t)] [] [oNt ad_t ar_t t_length t_scanned t_measured t_at t_found t_wrongAt t_negative t_digitsFrom t_digitsTo t_significant t_fraction t_exponent, aC G ar_t 4096 t_row]) : gAt l G m_Nt_takeHexadecimal w0 res w1 24 [(0, .ref ad_t)] [.int v0] [oNt ad_t ar_t t_length t_scanned t_measured t_at t_found t_wrongAt t_negative t_digitsFrom t_digitsTo t_significant t_fraction t_exponent, aC G ar_t 4096 t_row] := by
  refine a_if_ne 29 dNt_takeHexadecimal_24 (by decide) (fun c1 => ?_) (fun c1 => ?_)
  · refine a_aload_n 0 dNt_takeHexadecimal_29 rfl ?_
    exact (k0 c1)
  · exact (k1 c1)

set_option maxRecDepth 20000 in
theorem b_Nt_takeHexadecimal_27 {l : Launch} {G : gG} {w0 w1 : va_W} {res : Option Value} {ad_t ar_t : Nat} {t_length t_scanned t_measured t_at t_found t_wrongAt t_negative t_digitsFrom t_digitsTo t_significant t_fraction t_exponent : Int32} {t_row : Nat → Int32}  (k0 : narrow .boolean (.int (0 : Int32)) = .int (0 : Int32) ∧ res = some (.int (0 : Int32)) ∧ [oNt ad_t ar_t t_length t_scanned t_measured t_at t_found t_wrongAt t_negative t_digitsFrom t_digitsTo t_significant t_fraction t_exponent, aC G ar_t 4096 t_row] = w1) : gAt l G m_Nt_takeHexadecimal w0 res w1 27 [(0, .ref ad_t)] [] [oNt ad_t ar_t t_length t_scanned t_measured t_at t_found t_wrongAt t_negative t_digitsFrom t_digitsTo t_significant t_fraction t_exponent, aC G ar_t 4096 t_row] := by
  refine a_iconst (0 : Int32) dNt_takeHexadecimal_27 (by decide) ?_
  exact a_zret (st := []) dNt_takeHexadecimal_28 rfl k0.1 k0.2.1 k0.2.2

set_option maxRecDepth 20000 in
theorem k_Nt_takeHexadecimal_30 {l : Launch} {G : gG} {w0 w1 : va_W} {res : Option Value} {ad_t ar_t : Nat} {t_length t_scanned t_measured t_at t_found t_wrongAt t_negative t_digitsFrom t_digitsTo t_significant t_fraction t_exponent : Int32} {t_row : Nat → Int32}  {t_length' t_scanned' t_measured' t_at' t_found' t_wrongAt' t_negative' t_digitsFrom' t_digitsTo' t_significant' t_fraction' t_exponent' : Int32} {t_row' : Nat → Int32} (hc : gCt l G m_Nt_skipSuffix [.ref ad_t] [oNt ad_t ar_t t_length t_scanned t_measured t_at t_found t_wrongAt t_negative t_digitsFrom t_digitsTo t_significant t_fraction t_exponent, aC G ar_t 4096 t_row] none [oNt ad_t ar_t t_length' t_scanned' t_measured' t_at' t_found' t_wrongAt' t_negative' t_digitsFrom' t_digitsTo' t_significant' t_fraction' t_exponent', aC G ar_t 4096 t_row']) (k : gAt l G m_Nt_takeHexadecimal w0 res w1 33 [(0, .ref ad_t)] [] [oNt ad_t ar_t t_length' t_scanned' t_measured' t_at' t_found' t_wrongAt' t_negative' t_digitsFrom' t_digitsTo' t_significant' t_fraction' t_exponent', aC G ar_t 4096 t_row']) : gAt l G m_Nt_takeHexadecimal w0 res w1 30 [(0, .ref ad_t)] [.ref ad_t] [oNt ad_t ar_t t_length t_scanned t_measured t_at t_found t_wrongAt t_negative t_digitsFrom t_digitsTo t_significant t_fraction t_exponent, aC G ar_t 4096 t_row] :=
  a_callV (As := []) (rest := []) (wc := [oNt ad_t ar_t t_length t_scanned t_measured t_at t_found t_wrongAt t_negative t_digitsFrom t_digitsTo t_significant t_fraction t_exponent, aC G ar_t 4096 t_row]) (wr := []) (w1c := [oNt ad_t ar_t t_length' t_scanned' t_measured' t_at' t_found' t_wrongAt' t_negative' t_digitsFrom' t_digitsTo' t_significant' t_fraction' t_exponent', aC G ar_t 4096 t_row']) (r := none) [oNt ad_t ar_t t_length' t_scanned' t_measured' t_at' t_found' t_wrongAt' t_negative' t_digitsFrom' t_digitsTo' t_significant' t_fraction' t_exponent', aC G ar_t 4096 t_row'] [0, 1] [] [0, 1] (ci := 2) (q0 := 0) hc dNt_takeHexadecimal_30 rfl ok_Nt_skipSuffix ⟨Nat.le_of_ble_eq_true rfl, Nat.le_of_ble_eq_true rfl⟩ w_298 w_300 sl_13 rfl rfl rfl rfl rfl rfl (by decide) rfl rfl (Nat.le_of_ble_eq_true rfl) k

set_option maxRecDepth 20000 in
theorem b_Nt_takeHexadecimal_33 {l : Launch} {G : gG} {w0 w1 : va_W} {res : Option Value} {ad_t ar_t : Nat} {t_length t_scanned t_measured t_at t_found t_wrongAt t_negative t_digitsFrom t_digitsTo t_significant t_fraction t_exponent : Int32} {t_row : Nat → Int32}  (k0 : narrow .boolean (.int (1 : Int32)) = .int (1 : Int32) ∧ res = some (.int (1 : Int32)) ∧ [oNt ad_t ar_t t_length t_scanned t_measured t_at t_found t_wrongAt t_negative t_digitsFrom t_digitsTo t_significant t_fraction t_exponent, aC G ar_t 4096 t_row] = w1) : gAt l G m_Nt_takeHexadecimal w0 res w1 33 [(0, .ref ad_t)] [] [oNt ad_t ar_t t_length t_scanned t_measured t_at t_found t_wrongAt t_negative t_digitsFrom t_digitsTo t_significant t_fraction t_exponent, aC G ar_t 4096 t_row] := by
  refine a_iconst (1 : Int32) dNt_takeHexadecimal_33 (by decide) ?_
  exact a_zret (st := []) dNt_takeHexadecimal_34 rfl k0.1 k0.2.1 k0.2.2

set_option maxRecDepth 20000 in
theorem b_Nt_takeDigits_0 {l : Launch} {G : gG} {w0 w1 : va_W} {res : Option Value} {ad_t ar_t : Nat} {t_length t_scanned t_measured t_at t_found t_wrongAt t_negative t_digitsFrom t_digitsTo t_significant t_fraction t_exponent : Int32} {t_row : Nat → Int32} {x1 : Int32} (k0 : gAt l G m_Nt_takeDigits w0 res w1 22 [(0, .ref ad_t), (1, .int x1), (2, .int (0 : Int32)), (3, .int (0 : Int32))] [] [oNt ad_t ar_t t_length t_scanned t_measured t_at t_found t_wrongAt t_negative t_at t_digitsTo (0 : Int32) (0 : Int32) t_exponent, aC G ar_t 4096 t_row]) : gAt l G m_Nt_takeDigits w0 res w1 0 [(0, .ref ad_t), (1, .int x1)] [] [oNt ad_t ar_t t_length t_scanned t_measured t_at t_found t_wrongAt t_negative t_digitsFrom t_digitsTo t_significant t_fraction t_exponent, aC G ar_t 4096 t_row] := by
  refine a_iconst (0 : Int32) dNt_takeDigits_0 (by decide) ?_
  refine a_istore_n [(2, .int (0 : Int32)), (0, .ref ad_t), (1, .int x1)] dNt_takeDigits_1 rfl (by decide) rfl ?_
  refine a_iconst (0 : Int32) dNt_takeDigits_2 (by decide) ?_
  refine a_istore_n [(3, .int (0 : Int32)), (2, .int (0 : Int32)), (0, .ref ad_t), (1, .int x1)] dNt_takeDigits_3 rfl (by decide) rfl ?_
  refine a_aload_n 2 dNt_takeDigits_4 rfl ?_
  refine a_iconst (0 : Int32) dNt_takeDigits_5 (by decide) ?_
  refine a_put (ci := 2) (kx := 10) ty_Nt 0 [oNt ad_t ar_t t_length t_scanned t_measured t_at t_found t_wrongAt t_negative t_digitsFrom t_digitsTo (0 : Int32) t_fraction t_exponent, aC G ar_t 4096 t_row] dNt_takeDigits_6 rfl I_Nt tyo_Nt nmo_Nt w_54 rfl (by decide) rfl rfl rfl (Nat.le_of_ble_eq_true rfl) rfl ?_
  refine a_aload_n 2 dNt_takeDigits_9 rfl ?_
  refine a_iconst (0 : Int32) dNt_takeDigits_10 (by decide) ?_
  refine a_put (ci := 2) (kx := 11) ty_Nt 0 [oNt ad_t ar_t t_length t_scanned t_measured t_at t_found t_wrongAt t_negative t_digitsFrom t_digitsTo (0 : Int32) (0 : Int32) t_exponent, aC G ar_t 4096 t_row] dNt_takeDigits_11 rfl I_Nt tyo_Nt nmo_Nt w_56 rfl (by decide) rfl rfl rfl (Nat.le_of_ble_eq_true rfl) rfl ?_
  refine a_aload_n 2 dNt_takeDigits_14 rfl ?_
  refine a_aload_n 2 dNt_takeDigits_15 rfl ?_
  refine a_get (ci := 2) (kx := 4) 0 dNt_takeDigits_16 rfl I_Nt w_42 rfl (by decide) rfl ?_
  refine a_put (ci := 2) (kx := 8) ty_Nt 0 [oNt ad_t ar_t t_length t_scanned t_measured t_at t_found t_wrongAt t_negative t_at t_digitsTo (0 : Int32) (0 : Int32) t_exponent, aC G ar_t 4096 t_row] dNt_takeDigits_19 rfl I_Nt tyo_Nt nmo_Nt w_50 rfl (by decide) rfl rfl rfl (Nat.le_of_ble_eq_true rfl) rfl ?_
  refine a_lv [(0, .ref ad_t), (1, .int x1), (2, .int (0 : Int32)), (3, .int (0 : Int32))] [2, 3, 1, 0] rfl ?_
  exact k0

set_option maxRecDepth 20000 in
theorem b_Nt_takeDigits_22 {l : Launch} {G : gG} {w0 w1 : va_W} {res : Option Value} {ad_t ar_t : Nat} {t_length t_scanned t_measured t_at t_found t_wrongAt t_negative t_digitsFrom t_digitsTo t_significant t_fraction t_exponent : Int32} {t_row : Nat → Int32} {x1 : Int32} {x2 : Int32} {x3 : Int32} (k0 : (t_length ≤ t_at) → gAt l G m_Nt_takeDigits w0 res w1 128 [(0, .ref ad_t), (1, .int x1), (2, .int x2), (3, .int x3)] [] [oNt ad_t ar_t t_length t_scanned t_measured t_at t_found t_wrongAt t_negative t_digitsFrom t_digitsTo t_significant t_fraction t_exponent, aC G ar_t 4096 t_row]) (k1 : (¬ t_length ≤ t_at) → gAt l G m_Nt_takeDigits w0 res w1 34 [(0, .ref ad_t), (1, .int x1), (2, .int x2), (3, .int x3)] [.ref ad_t] [oNt ad_t ar_t t_length t_scanned t_measured t_at t_found t_wrongAt t_negative t_digitsFrom t_digitsTo t_significant t_fraction t_exponent, aC G ar_t 4096 t_row]) : gAt l G m_Nt_takeDigits w0 res w1 22 [(0, .ref ad_t), (1, .int x1), (2, .int x2), (3, .int x3)] [] [oNt ad_t ar_t t_length t_scanned t_measured t_at t_found t_wrongAt t_negative t_digitsFrom t_digitsTo t_significant t_fraction t_exponent, aC G ar_t 4096 t_row] := by
  refine a_aload_n 0 dNt_takeDigits_22 rfl ?_
  refine a_get (ci := 2) (kx := 4) 0 dNt_takeDigits_23 rfl I_Nt w_42 rfl (by decide) rfl ?_
  refine a_aload_n 0 dNt_takeDigits_26 rfl ?_
  refine a_get (ci := 2) (kx := 1) 0 dNt_takeDigits_27 rfl I_Nt w_37 rfl (by decide) rfl ?_
  refine a_icmp_ge 128 dNt_takeDigits_30 (by decide) (fun c1 => ?_) (fun c1 => ?_)
  · exact (k0 c1)
  · refine a_aload_n 0 dNt_takeDigits_33 rfl ?_
    exact (k1 c1)

set_option maxRecDepth 20000 in
theorem k_Nt_takeDigits_34 {l : Launch} {G : gG} {w0 w1 : va_W} {res : Option Value} {ad_t ar_t : Nat} {t_length t_scanned t_measured t_at t_found t_wrongAt t_negative t_digitsFrom t_digitsTo t_significant t_fraction t_exponent : Int32} {t_row : Nat → Int32} {x1 : Int32} {x2 : Int32} {x3 : Int32} {r : Int32} {t_length' t_scanned' t_measured' t_at' t_found' t_wrongAt' t_negative' t_digitsFrom' t_digitsTo' t_significant' t_fraction' t_exponent' : Int32} {t_row' : Nat → Int32} (hc : gCt l G m_Nt_here [.ref ad_t] [oNt ad_t ar_t t_length t_scanned t_measured t_at t_found t_wrongAt t_negative t_digitsFrom t_digitsTo t_significant t_fraction t_exponent, aC G ar_t 4096 t_row] (some (.int r)) [oNt ad_t ar_t t_length' t_scanned' t_measured' t_at' t_found' t_wrongAt' t_negative' t_digitsFrom' t_digitsTo' t_significant' t_fraction' t_exponent', aC G ar_t 4096 t_row']) (k : gAt l G m_Nt_takeDigits w0 res w1 37 [(0, .ref ad_t), (1, .int x1), (2, .int x2), (3, .int x3)] [.int r] [oNt ad_t ar_t t_length' t_scanned' t_measured' t_at' t_found' t_wrongAt' t_negative' t_digitsFrom' t_digitsTo' t_significant' t_fraction' t_exponent', aC G ar_t 4096 t_row']) : gAt l G m_Nt_takeDigits w0 res w1 34 [(0, .ref ad_t), (1, .int x1), (2, .int x2), (3, .int x3)] [.ref ad_t] [oNt ad_t ar_t t_length t_scanned t_measured t_at t_found t_wrongAt t_negative t_digitsFrom t_digitsTo t_significant t_fraction t_exponent, aC G ar_t 4096 t_row] :=
  a_callV (As := []) (rest := []) (wc := [oNt ad_t ar_t t_length t_scanned t_measured t_at t_found t_wrongAt t_negative t_digitsFrom t_digitsTo t_significant t_fraction t_exponent, aC G ar_t 4096 t_row]) (wr := []) (w1c := [oNt ad_t ar_t t_length' t_scanned' t_measured' t_at' t_found' t_wrongAt' t_negative' t_digitsFrom' t_digitsTo' t_significant' t_fraction' t_exponent', aC G ar_t 4096 t_row']) (r := (some (.int r))) [oNt ad_t ar_t t_length' t_scanned' t_measured' t_at' t_found' t_wrongAt' t_negative' t_digitsFrom' t_digitsTo' t_significant' t_fraction' t_exponent', aC G ar_t 4096 t_row'] [0, 1] [] [0, 1] (ci := 2) (q0 := 0) hc dNt_takeDigits_34 rfl ok_Nt_here ⟨Nat.le_of_ble_eq_true rfl, Nat.le_of_ble_eq_true rfl⟩ w_212 w_214 sl_5 rfl rfl rfl rfl rfl rfl (by decide) rfl rfl (Nat.le_of_ble_eq_true rfl) k

set_option maxRecDepth 20000 in
theorem b_Nt_takeDigits_37 {l : Launch} {G : gG} {w0 w1 : va_W} {res : Option Value} {ad_t ar_t : Nat} {t_length t_scanned t_measured t_at t_found t_wrongAt t_negative t_digitsFrom t_digitsTo t_significant t_fraction t_exponent : Int32} {t_row : Nat → Int32} {x1 : Int32} {x2 : Int32} {x3 : Int32} {v0 : Int32} (k0 : gAt l G m_Nt_takeDigits w0 res w1 42 [(0, .ref ad_t), (1, .int x1), (2, .int x2), (3, .int x3), (4, .int v0)] [.int x1, .int v0] [oNt ad_t ar_t t_length t_scanned t_measured t_at t_found t_wrongAt t_negative t_digitsFrom t_digitsTo t_significant t_fraction t_exponent, aC G ar_t 4096 t_row]) : gAt l G m_Nt_takeDigits w0 res w1 37 [(0, .ref ad_t), (1, .int x1), (2, .int x2), (3, .int x3)] [.int v0] [oNt ad_t ar_t t_length t_scanned t_measured t_at t_found t_wrongAt t_negative t_digitsFrom t_digitsTo t_significant t_fraction t_exponent, aC G ar_t 4096 t_row] := by
  refine a_istore [(4, .int v0), (0, .ref ad_t), (1, .int x1), (2, .int x2), (3, .int x3)] dNt_takeDigits_37 (by decide) rfl ?_
  refine a_iload 0 dNt_takeDigits_39 rfl ?_
  refine a_iload_n 2 dNt_takeDigits_41 rfl ?_
  refine a_lv [(0, .ref ad_t), (1, .int x1), (2, .int x2), (3, .int x3), (4, .int v0)] [1, 2, 3, 4, 0] rfl ?_
  exact k0

set_option maxRecDepth 20000 in
theorem k_Nt_takeDigits_42 {l : Launch} {G : gG} {w0 w1 : va_W} {res : Option Value} {ad_t ar_t : Nat} {t_length t_scanned t_measured t_at t_found t_wrongAt t_negative t_digitsFrom t_digitsTo t_significant t_fraction t_exponent : Int32} {t_row : Nat → Int32} {x1 : Int32} {x2 : Int32} {x3 : Int32} {x4 : Int32} {v0 : Int32} {v1 : Int32} {r : Int32} (hc : gCt l G m_Nt_digitOf [.int v1, .int v0] [] (some (.int r)) []) (k : gAt l G m_Nt_takeDigits w0 res w1 45 [(0, .ref ad_t), (1, .int x1), (2, .int x2), (3, .int x3), (4, .int x4)] [.int r] [oNt ad_t ar_t t_length t_scanned t_measured t_at t_found t_wrongAt t_negative t_digitsFrom t_digitsTo t_significant t_fraction t_exponent, aC G ar_t 4096 t_row]) : gAt l G m_Nt_takeDigits w0 res w1 42 [(0, .ref ad_t), (1, .int x1), (2, .int x2), (3, .int x3), (4, .int x4)] [.int v0, .int v1] [oNt ad_t ar_t t_length t_scanned t_measured t_at t_found t_wrongAt t_negative t_digitsFrom t_digitsTo t_significant t_fraction t_exponent, aC G ar_t 4096 t_row] :=
  a_callS (As := [.int v1, .int v0]) (rest := []) (wc := []) (wr := [oNt ad_t ar_t t_length t_scanned t_measured t_at t_found t_wrongAt t_negative t_digitsFrom t_digitsTo t_significant t_fraction t_exponent, aC G ar_t 4096 t_row]) (w1c := []) (r := (some (.int r))) [oNt ad_t ar_t t_length t_scanned t_measured t_at t_found t_wrongAt t_negative t_digitsFrom t_digitsTo t_significant t_fraction t_exponent, aC G ar_t 4096 t_row] [] [0, 1] [0, 1] hc dNt_takeDigits_42 rfl ok_Nt_digitOf ⟨Nat.le_of_ble_eq_true rfl, Nat.le_of_ble_eq_true rfl⟩ w_290 w_291 rfl rfl rfl rfl (by decide) rfl rfl (Nat.le_of_ble_eq_true rfl) k

set_option maxRecDepth 20000 in
theorem b_Nt_takeDigits_45 {l : Launch} {G : gG} {w0 w1 : va_W} {res : Option Value} {ad_t ar_t : Nat} {t_length t_scanned t_measured t_at t_found t_wrongAt t_negative t_digitsFrom t_digitsTo t_significant t_fraction t_exponent : Int32} {t_row : Nat → Int32} {x1 : Int32} {x2 : Int32} {x3 : Int32} {x4 : Int32} {v0 : Int32} (k0 : (v0 = (-1 : Int32)) → (¬ x4 = (46 : Int32)) → gAt l G m_Nt_takeDigits w0 res w1 128 [(0, .ref ad_t), (1, .int x1), (2, .int x2), (3, .int x3)] [] [oNt ad_t ar_t t_length t_scanned t_measured t_at t_found t_wrongAt t_negative t_digitsFrom t_digitsTo t_significant t_fraction t_exponent, aC G ar_t 4096 t_row]) (k1 : (v0 = (-1 : Int32)) → (x4 = (46 : Int32)) → (¬ x3 = 0) → gAt l G m_Nt_takeDigits w0 res w1 128 [(0, .ref ad_t), (1, .int x1), (2, .int x2), (3, .int x3)] [] [oNt ad_t ar_t t_length t_scanned t_measured t_at t_found t_wrongAt t_negative t_digitsFrom t_digitsTo t_significant t_fraction t_exponent, aC G ar_t 4096 t_row]) (k2 : (v0 = (-1 : Int32)) → (x4 = (46 : Int32)) → (x3 = 0) → gAt l G m_Nt_takeDigits w0 res w1 115 [(0, .ref ad_t), (1, .int x1), (2, .int x2), (3, .int (1 : Int32)), (4, .int x4), (5, .int v0)] [] [oNt ad_t ar_t t_length t_scanned t_measured t_at t_found t_wrongAt t_negative t_digitsFrom t_digitsTo t_significant t_fraction t_exponent, aC G ar_t 4096 t_row]) (k3 : (¬ v0 = (-1 : Int32)) → (0 < t_significant) → gAt l G m_Nt_takeDigits w0 res w1 72 [(0, .ref ad_t), (1, .int x1), (2, .int (1 : Int32)), (3, .int x3), (4, .int x4), (5, .int v0)] [.int t_significant, .ref ad_t] [oNt ad_t ar_t t_length t_scanned t_measured t_at t_found t_wrongAt t_negative t_digitsFrom t_digitsTo t_significant t_fraction t_exponent, aC G ar_t 4096 t_row]) (k4 : (¬ v0 = (-1 : Int32)) → (¬ 0 < t_significant) → (v0 ≤ 0) → gAt l G m_Nt_takeDigits w0 res w1 77 [(0, .ref ad_t), (1, .int x1), (2, .int (1 : Int32)), (3, .int x3), (4, .int x4), (5, .int v0)] [.int (0 : Int32), .int t_significant, .ref ad_t] [oNt ad_t ar_t t_length t_scanned t_measured t_at t_found t_wrongAt t_negative t_digitsFrom t_digitsTo t_significant t_fraction t_exponent, aC G ar_t 4096 t_row]) (k5 : (¬ v0 = (-1 : Int32)) → (¬ 0 < t_significant) → (¬ v0 ≤ 0) → gAt l G m_Nt_takeDigits w0 res w1 72 [(0, .ref ad_t), (1, .int x1), (2, .int (1 : Int32)), (3, .int x3), (4, .int x4), (5, .int v0)] [.int t_significant, .ref ad_t] [oNt ad_t ar_t t_length t_scanned t_measured t_at t_found t_wrongAt t_negative t_digitsFrom t_digitsTo t_significant t_fraction t_exponent, aC G ar_t 4096 t_row]) : gAt l G m_Nt_takeDigits w0 res w1 45 [(0, .ref ad_t), (1, .int x1), (2, .int x2), (3, .int x3), (4, .int x4)] [.int v0] [oNt ad_t ar_t t_length t_scanned t_measured t_at t_found t_wrongAt t_negative t_digitsFrom t_digitsTo t_significant t_fraction t_exponent, aC G ar_t 4096 t_row] := by
  refine a_istore [(5, .int v0), (0, .ref ad_t), (1, .int x1), (2, .int x2), (3, .int x3), (4, .int x4)] dNt_takeDigits_45 (by decide) rfl ?_
  refine a_iload 0 dNt_takeDigits_47 rfl ?_
  refine a_iconst (-1 : Int32) dNt_takeDigits_49 (by decide) ?_
  refine a_icmp_eq 102 dNt_takeDigits_50 (by decide) (fun c1 => ?_) (fun c1 => ?_)
  · refine a_iload 5 dNt_takeDigits_102 rfl ?_
    refine a_bipush (46 : Int32) dNt_takeDigits_104 (by decide) ?_
    refine a_icmp_ne 128 dNt_takeDigits_106 (by decide) (fun c2 => ?_) (fun c2 => ?_)
    · refine a_lv [(0, .ref ad_t), (1, .int x1), (2, .int x2), (3, .int x3)] [1, 2, 3, 4] rfl ?_
      exact (k0 c1 c2)
    · refine a_iload_n 4 dNt_takeDigits_109 rfl ?_
      refine a_if_ne 128 dNt_takeDigits_110 (by decide) (fun c3 => ?_) (fun c3 => ?_)
      · refine a_lv [(0, .ref ad_t), (1, .int x1), (2, .int x2), (3, .int x3)] [1, 2, 3, 4] rfl ?_
        exact (k1 c1 c2 c3)
      · refine a_iconst (1 : Int32) dNt_takeDigits_113 (by decide) ?_
        refine a_istore_n [(3, .int (1 : Int32)), (5, .int v0), (0, .ref ad_t), (1, .int x1), (2, .int x2), (4, .int x4)] dNt_takeDigits_114 rfl (by decide) rfl ?_
        refine a_lv [(0, .ref ad_t), (1, .int x1), (2, .int x2), (3, .int (1 : Int32)), (4, .int x4), (5, .int v0)] [2, 3, 4, 0, 5, 1] rfl ?_
        exact (k2 c1 c2 c3)
  · refine a_iconst (1 : Int32) dNt_takeDigits_53 (by decide) ?_
    refine a_istore_n [(2, .int (1 : Int32)), (5, .int v0), (0, .ref ad_t), (1, .int x1), (3, .int x3), (4, .int x4)] dNt_takeDigits_54 rfl (by decide) rfl ?_
    refine a_aload_n 2 dNt_takeDigits_55 rfl ?_
    refine a_dup dNt_takeDigits_56 rfl ?_
    refine a_get (ci := 2) (kx := 10) 0 dNt_takeDigits_57 rfl I_Nt w_54 rfl (by decide) rfl ?_
    refine a_aload_n 2 dNt_takeDigits_60 rfl ?_
    refine a_get (ci := 2) (kx := 10) 0 dNt_takeDigits_61 rfl I_Nt w_54 rfl (by decide) rfl ?_
    refine a_if_gt 72 dNt_takeDigits_64 (by decide) (fun c4 => ?_) (fun c4 => ?_)
    · refine a_lv [(0, .ref ad_t), (1, .int x1), (2, .int (1 : Int32)), (3, .int x3), (4, .int x4), (5, .int v0)] [2, 3, 0, 4, 5, 1] rfl ?_
      exact (k3 c1 c4)
    · refine a_iload 1 dNt_takeDigits_67 rfl ?_
      refine a_if_le 76 dNt_takeDigits_69 (by decide) (fun c5 => ?_) (fun c5 => ?_)
      · refine a_iconst (0 : Int32) dNt_takeDigits_76 (by decide) ?_
        refine a_lv [(0, .ref ad_t), (1, .int x1), (2, .int (1 : Int32)), (3, .int x3), (4, .int x4), (5, .int v0)] [2, 3, 0, 4, 5, 1] rfl ?_
        exact (k4 c1 c4 c5)
      · refine a_lv [(0, .ref ad_t), (1, .int x1), (2, .int (1 : Int32)), (3, .int x3), (4, .int x4), (5, .int v0)] [2, 3, 0, 4, 5, 1] rfl ?_
        exact (k5 c1 c4 c5)

set_option maxRecDepth 20000 in
theorem b_Nt_takeDigits_72 {l : Launch} {G : gG} {w0 w1 : va_W} {res : Option Value} {ad_t ar_t : Nat} {t_length t_scanned t_measured t_at t_found t_wrongAt t_negative t_digitsFrom t_digitsTo t_significant t_fraction t_exponent : Int32} {t_row : Nat → Int32} {x1 : Int32} {x2 : Int32} {x3 : Int32} {x4 : Int32} {x5 : Int32} {v0 : Int32} (k0 : gAt l G m_Nt_takeDigits w0 res w1 77 [(0, .ref ad_t), (1, .int x1), (2, .int x2), (3, .int x3), (4, .int x4), (5, .int x5)] [.int (1 : Int32), .int v0, .ref ad_t] [oNt ad_t ar_t t_length t_scanned t_measured t_at t_found t_wrongAt t_negative t_digitsFrom t_digitsTo t_significant t_fraction t_exponent, aC G ar_t 4096 t_row]) : gAt l G m_Nt_takeDigits w0 res w1 72 [(0, .ref ad_t), (1, .int x1), (2, .int x2), (3, .int x3), (4, .int x4), (5, .int x5)] [.int v0, .ref ad_t] [oNt ad_t ar_t t_length t_scanned t_measured t_at t_found t_wrongAt t_negative t_digitsFrom t_digitsTo t_significant t_fraction t_exponent, aC G ar_t 4096 t_row] := by
  refine a_iconst (1 : Int32) dNt_takeDigits_72 (by decide) ?_
  refine a_goto 77 dNt_takeDigits_73 (by decide) ?_
  exact k0

set_option maxRecDepth 20000 in
theorem b_Nt_takeDigits_77 {l : Launch} {G : gG} {w0 w1 : va_W} {res : Option Value} {ad_t ar_t : Nat} {t_length t_scanned t_measured t_at t_found t_wrongAt t_negative t_digitsFrom t_digitsTo t_significant t_fraction t_exponent : Int32} {t_row : Nat → Int32} {x1 : Int32} {x2 : Int32} {x3 : Int32} {x4 : Int32} {x5 : Int32} {v0 : Int32} {v1 : Int32} (k0 : (x3 = 0) → gAt l G m_Nt_takeDigits w0 res w1 95 [(0, .ref ad_t), (1, .int x1), (2, .int x2), (3, .int x3), (4, .int x4), (5, .int x5)] [.int (0 : Int32), .int t_fraction, .ref ad_t] [oNt ad_t ar_t t_length t_scanned t_measured t_at t_found t_wrongAt t_negative t_digitsFrom t_digitsTo (v1 + v0) t_fraction t_exponent, aC G ar_t 4096 t_row]) (k1 : (¬ x3 = 0) → gAt l G m_Nt_takeDigits w0 res w1 95 [(0, .ref ad_t), (1, .int x1), (2, .int x2), (3, .int x3), (4, .int x4), (5, .int x5)] [.int (1 : Int32), .int t_fraction, .ref ad_t] [oNt ad_t ar_t t_length t_scanned t_measured t_at t_found t_wrongAt t_negative t_digitsFrom t_digitsTo (v1 + v0) t_fraction t_exponent, aC G ar_t 4096 t_row]) : gAt l G m_Nt_takeDigits w0 res w1 77 [(0, .ref ad_t), (1, .int x1), (2, .int x2), (3, .int x3), (4, .int x4), (5, .int x5)] [.int v0, .int v1, .ref ad_t] [oNt ad_t ar_t t_length t_scanned t_measured t_at t_found t_wrongAt t_negative t_digitsFrom t_digitsTo t_significant t_fraction t_exponent, aC G ar_t 4096 t_row] := by
  refine a_iadd dNt_takeDigits_77 ?_
  refine a_put (ci := 2) (kx := 10) ty_Nt 0 [oNt ad_t ar_t t_length t_scanned t_measured t_at t_found t_wrongAt t_negative t_digitsFrom t_digitsTo (v1 + v0) t_fraction t_exponent, aC G ar_t 4096 t_row] dNt_takeDigits_78 rfl I_Nt tyo_Nt nmo_Nt w_54 rfl (by decide) rfl rfl rfl (Nat.le_of_ble_eq_true rfl) rfl ?_
  refine a_aload_n 0 dNt_takeDigits_81 rfl ?_
  refine a_dup dNt_takeDigits_82 rfl ?_
  refine a_get (ci := 2) (kx := 11) 0 dNt_takeDigits_83 rfl I_Nt w_56 rfl (by decide) rfl ?_
  refine a_iload_n 3 dNt_takeDigits_86 rfl ?_
  refine a_if_eq 94 dNt_takeDigits_87 (by decide) (fun c1 => ?_) (fun c1 => ?_)
  · refine a_iconst (0 : Int32) dNt_takeDigits_94 (by decide) ?_
    exact (k0 c1)
  · refine a_iconst (1 : Int32) dNt_takeDigits_90 (by decide) ?_
    refine a_goto 95 dNt_takeDigits_91 (by decide) ?_
    exact (k1 c1)

set_option maxRecDepth 20000 in
theorem b_Nt_takeDigits_95 {l : Launch} {G : gG} {w0 w1 : va_W} {res : Option Value} {ad_t ar_t : Nat} {t_length t_scanned t_measured t_at t_found t_wrongAt t_negative t_digitsFrom t_digitsTo t_significant t_fraction t_exponent : Int32} {t_row : Nat → Int32} {x1 : Int32} {x2 : Int32} {x3 : Int32} {x4 : Int32} {x5 : Int32} {v0 : Int32} {v1 : Int32} (k0 : gAt l G m_Nt_takeDigits w0 res w1 115 [(0, .ref ad_t), (1, .int x1), (2, .int x2), (3, .int x3), (4, .int x4), (5, .int x5)] [] [oNt ad_t ar_t t_length t_scanned t_measured t_at t_found t_wrongAt t_negative t_digitsFrom t_digitsTo t_significant (v1 + v0) t_exponent, aC G ar_t 4096 t_row]) : gAt l G m_Nt_takeDigits w0 res w1 95 [(0, .ref ad_t), (1, .int x1), (2, .int x2), (3, .int x3), (4, .int x4), (5, .int x5)] [.int v0, .int v1, .ref ad_t] [oNt ad_t ar_t t_length t_scanned t_measured t_at t_found t_wrongAt t_negative t_digitsFrom t_digitsTo t_significant t_fraction t_exponent, aC G ar_t 4096 t_row] := by
  refine a_iadd dNt_takeDigits_95 ?_
  refine a_put (ci := 2) (kx := 11) ty_Nt 0 [oNt ad_t ar_t t_length t_scanned t_measured t_at t_found t_wrongAt t_negative t_digitsFrom t_digitsTo t_significant (v1 + v0) t_exponent, aC G ar_t 4096 t_row] dNt_takeDigits_96 rfl I_Nt tyo_Nt nmo_Nt w_56 rfl (by decide) rfl rfl rfl (Nat.le_of_ble_eq_true rfl) rfl ?_
  refine a_goto 115 dNt_takeDigits_99 (by decide) ?_
  exact k0

set_option maxRecDepth 20000 in
theorem b_Nt_takeDigits_115 {l : Launch} {G : gG} {w0 w1 : va_W} {res : Option Value} {ad_t ar_t : Nat} {t_length t_scanned t_measured t_at t_found t_wrongAt t_negative t_digitsFrom t_digitsTo t_significant t_fraction t_exponent : Int32} {t_row : Nat → Int32} {x1 : Int32} {x2 : Int32} {x3 : Int32} {x4 : Int32} {x5 : Int32} (k0 : gAt l G m_Nt_takeDigits w0 res w1 22 [(0, .ref ad_t), (1, .int x1), (2, .int x2), (3, .int x3)] [] [oNt ad_t ar_t t_length t_scanned t_measured (t_at + (1 : Int32)) t_found t_wrongAt t_negative t_digitsFrom t_digitsTo t_significant t_fraction t_exponent, aC G ar_t 4096 t_row]) : gAt l G m_Nt_takeDigits w0 res w1 115 [(0, .ref ad_t), (1, .int x1), (2, .int x2), (3, .int x3), (4, .int x4), (5, .int x5)] [] [oNt ad_t ar_t t_length t_scanned t_measured t_at t_found t_wrongAt t_negative t_digitsFrom t_digitsTo t_significant t_fraction t_exponent, aC G ar_t 4096 t_row] := by
  refine a_aload_n 0 dNt_takeDigits_115 rfl ?_
  refine a_dup dNt_takeDigits_116 rfl ?_
  refine a_get (ci := 2) (kx := 4) 0 dNt_takeDigits_117 rfl I_Nt w_42 rfl (by decide) rfl ?_
  refine a_iconst (1 : Int32) dNt_takeDigits_120 (by decide) ?_
  refine a_iadd dNt_takeDigits_121 ?_
  refine a_put (ci := 2) (kx := 4) ty_Nt 0 [oNt ad_t ar_t t_length t_scanned t_measured (t_at + (1 : Int32)) t_found t_wrongAt t_negative t_digitsFrom t_digitsTo t_significant t_fraction t_exponent, aC G ar_t 4096 t_row] dNt_takeDigits_122 rfl I_Nt tyo_Nt nmo_Nt w_42 rfl (by decide) rfl rfl rfl (Nat.le_of_ble_eq_true rfl) rfl ?_
  refine a_goto 22 dNt_takeDigits_125 (by decide) ?_
  refine a_lv [(0, .ref ad_t), (1, .int x1), (2, .int x2), (3, .int x3)] [0, 1, 2, 3] rfl ?_
  exact k0

set_option maxRecDepth 20000 in
theorem b_Nt_takeDigits_128 {l : Launch} {G : gG} {w0 w1 : va_W} {res : Option Value} {ad_t ar_t : Nat} {t_length t_scanned t_measured t_at t_found t_wrongAt t_negative t_digitsFrom t_digitsTo t_significant t_fraction t_exponent : Int32} {t_row : Nat → Int32} {x1 : Int32} {x2 : Int32} {x3 : Int32} (k0 : narrow .boolean (.int x2) = .int x2 ∧ res = some (.int x2) ∧ [oNt ad_t ar_t t_length t_scanned t_measured t_at t_found t_wrongAt t_negative t_digitsFrom t_at t_significant t_fraction t_exponent, aC G ar_t 4096 t_row] = w1) : gAt l G m_Nt_takeDigits w0 res w1 128 [(0, .ref ad_t), (1, .int x1), (2, .int x2), (3, .int x3)] [] [oNt ad_t ar_t t_length t_scanned t_measured t_at t_found t_wrongAt t_negative t_digitsFrom t_digitsTo t_significant t_fraction t_exponent, aC G ar_t 4096 t_row] := by
  refine a_aload_n 0 dNt_takeDigits_128 rfl ?_
  refine a_aload_n 0 dNt_takeDigits_129 rfl ?_
  refine a_get (ci := 2) (kx := 4) 0 dNt_takeDigits_130 rfl I_Nt w_42 rfl (by decide) rfl ?_
  refine a_put (ci := 2) (kx := 9) ty_Nt 0 [oNt ad_t ar_t t_length t_scanned t_measured t_at t_found t_wrongAt t_negative t_digitsFrom t_at t_significant t_fraction t_exponent, aC G ar_t 4096 t_row] dNt_takeDigits_133 rfl I_Nt tyo_Nt nmo_Nt w_52 rfl (by decide) rfl rfl rfl (Nat.le_of_ble_eq_true rfl) rfl ?_
  refine a_iload_n 2 dNt_takeDigits_136 rfl ?_
  exact a_zret (st := []) dNt_takeDigits_137 rfl k0.1 k0.2.1 k0.2.2

set_option maxRecDepth 20000 in
theorem b_Nt_digitOf_0 {l : Launch} {G : gG} {w0 w1 : va_W} {res : Option Value} {x0 : Int32} {x1 : Int32} (k0 : (x0 < (48 : Int32)) → gAt l G m_Nt_digitOf w0 res w1 17 [(0, .int x0), (1, .int x1)] [] []) (k1 : (¬ x0 < (48 : Int32)) → ((57 : Int32) < x0) → gAt l G m_Nt_digitOf w0 res w1 17 [(0, .int x0), (1, .int x1)] [] []) (k2 : (¬ x0 < (48 : Int32)) → (¬ (57 : Int32) < x0) → res = some (.int (x0 - (48 : Int32))) ∧ [] = w1) : gAt l G m_Nt_digitOf w0 res w1 0 [(0, .int x0), (1, .int x1)] [] [] := by
  refine a_iload_n 0 dNt_digitOf_0 rfl ?_
  refine a_bipush (48 : Int32) dNt_digitOf_1 (by decide) ?_
  refine a_icmp_lt 17 dNt_digitOf_3 (by decide) (fun c1 => ?_) (fun c1 => ?_)
  · exact (k0 c1)
  · refine a_iload_n 0 dNt_digitOf_6 rfl ?_
    refine a_bipush (57 : Int32) dNt_digitOf_7 (by decide) ?_
    refine a_icmp_gt 17 dNt_digitOf_9 (by decide) (fun c2 => ?_) (fun c2 => ?_)
    · exact (k1 c1 c2)
    · refine a_iload_n 0 dNt_digitOf_12 rfl ?_
      refine a_bipush (48 : Int32) dNt_digitOf_13 (by decide) ?_
      refine a_isub dNt_digitOf_15 ?_
      exact a_iret (st := []) dNt_digitOf_16 rfl (k2 c1 c2).1 (k2 c1 c2).2

set_option maxRecDepth 20000 in
theorem b_Nt_digitOf_17 {l : Launch} {G : gG} {w0 w1 : va_W} {res : Option Value} {x0 : Int32} {x1 : Int32} (k0 : (¬ x1 = (16 : Int32)) → gAt l G m_Nt_digitOf w0 res w1 43 [(0, .int x0), (1, .int x1)] [] []) (k1 : (x1 = (16 : Int32)) → (x0 < (97 : Int32)) → gAt l G m_Nt_digitOf w0 res w1 43 [(0, .int x0), (1, .int x1)] [] []) (k2 : (x1 = (16 : Int32)) → (¬ x0 < (97 : Int32)) → ((102 : Int32) < x0) → gAt l G m_Nt_digitOf w0 res w1 43 [(0, .int x0), (1, .int x1)] [] []) (k3 : (x1 = (16 : Int32)) → (¬ x0 < (97 : Int32)) → (¬ (102 : Int32) < x0) → res = some (.int ((x0 - (97 : Int32)) + (10 : Int32))) ∧ [] = w1) : gAt l G m_Nt_digitOf w0 res w1 17 [(0, .int x0), (1, .int x1)] [] [] := by
  refine a_iload_n 1 dNt_digitOf_17 rfl ?_
  refine a_bipush (16 : Int32) dNt_digitOf_18 (by decide) ?_
  refine a_icmp_ne 43 dNt_digitOf_20 (by decide) (fun c1 => ?_) (fun c1 => ?_)
  · exact (k0 c1)
  · refine a_iload_n 0 dNt_digitOf_23 rfl ?_
    refine a_bipush (97 : Int32) dNt_digitOf_24 (by decide) ?_
    refine a_icmp_lt 43 dNt_digitOf_26 (by decide) (fun c2 => ?_) (fun c2 => ?_)
    · exact (k1 c1 c2)
    · refine a_iload_n 0 dNt_digitOf_29 rfl ?_
      refine a_bipush (102 : Int32) dNt_digitOf_30 (by decide) ?_
      refine a_icmp_gt 43 dNt_digitOf_32 (by decide) (fun c3 => ?_) (fun c3 => ?_)
      · exact (k2 c1 c2 c3)
      · refine a_iload_n 0 dNt_digitOf_35 rfl ?_
        refine a_bipush (97 : Int32) dNt_digitOf_36 (by decide) ?_
        refine a_isub dNt_digitOf_38 ?_
        refine a_bipush (10 : Int32) dNt_digitOf_39 (by decide) ?_
        refine a_iadd dNt_digitOf_41 ?_
        exact a_iret (st := []) dNt_digitOf_42 rfl (k3 c1 c2 c3).1 (k3 c1 c2 c3).2

set_option maxRecDepth 20000 in
theorem b_Nt_digitOf_43 {l : Launch} {G : gG} {w0 w1 : va_W} {res : Option Value} {x0 : Int32} {x1 : Int32} (k0 : (¬ x1 = (16 : Int32)) → gAt l G m_Nt_digitOf w0 res w1 69 [(0, .int x0), (1, .int x1)] [] []) (k1 : (x1 = (16 : Int32)) → (x0 < (65 : Int32)) → gAt l G m_Nt_digitOf w0 res w1 69 [(0, .int x0), (1, .int x1)] [] []) (k2 : (x1 = (16 : Int32)) → (¬ x0 < (65 : Int32)) → ((70 : Int32) < x0) → gAt l G m_Nt_digitOf w0 res w1 69 [(0, .int x0), (1, .int x1)] [] []) (k3 : (x1 = (16 : Int32)) → (¬ x0 < (65 : Int32)) → (¬ (70 : Int32) < x0) → res = some (.int ((x0 - (65 : Int32)) + (10 : Int32))) ∧ [] = w1) : gAt l G m_Nt_digitOf w0 res w1 43 [(0, .int x0), (1, .int x1)] [] [] := by
  refine a_iload_n 1 dNt_digitOf_43 rfl ?_
  refine a_bipush (16 : Int32) dNt_digitOf_44 (by decide) ?_
  refine a_icmp_ne 69 dNt_digitOf_46 (by decide) (fun c1 => ?_) (fun c1 => ?_)
  · exact (k0 c1)
  · refine a_iload_n 0 dNt_digitOf_49 rfl ?_
    refine a_bipush (65 : Int32) dNt_digitOf_50 (by decide) ?_
    refine a_icmp_lt 69 dNt_digitOf_52 (by decide) (fun c2 => ?_) (fun c2 => ?_)
    · exact (k1 c1 c2)
    · refine a_iload_n 0 dNt_digitOf_55 rfl ?_
      refine a_bipush (70 : Int32) dNt_digitOf_56 (by decide) ?_
      refine a_icmp_gt 69 dNt_digitOf_58 (by decide) (fun c3 => ?_) (fun c3 => ?_)
      · exact (k2 c1 c2 c3)
      · refine a_iload_n 0 dNt_digitOf_61 rfl ?_
        refine a_bipush (65 : Int32) dNt_digitOf_62 (by decide) ?_
        refine a_isub dNt_digitOf_64 ?_
        refine a_bipush (10 : Int32) dNt_digitOf_65 (by decide) ?_
        refine a_iadd dNt_digitOf_67 ?_
        exact a_iret (st := []) dNt_digitOf_68 rfl (k3 c1 c2 c3).1 (k3 c1 c2 c3).2

set_option maxRecDepth 20000 in
theorem b_Nt_digitOf_69 {l : Launch} {G : gG} {w0 w1 : va_W} {res : Option Value} {x0 : Int32} {x1 : Int32} (k0 : res = some (.int (-1 : Int32)) ∧ [] = w1) : gAt l G m_Nt_digitOf w0 res w1 69 [(0, .int x0), (1, .int x1)] [] [] := by
  refine a_iconst (-1 : Int32) dNt_digitOf_69 (by decide) ?_
  exact a_iret (st := []) dNt_digitOf_70 rfl k0.1 k0.2

set_option maxRecDepth 20000 in
theorem b_Nt_takeExponent_0 {l : Launch} {G : gG} {w0 w1 : va_W} {res : Option Value} {ad_t ar_t : Nat} {t_length t_scanned t_measured t_at t_found t_wrongAt t_negative t_digitsFrom t_digitsTo t_significant t_fraction t_exponent : Int32} {t_row : Nat → Int32}  (k0 : gAt l G m_Nt_takeExponent w0 res w1 1 [(0, .ref ad_t)] [.ref ad_t] [oNt ad_t ar_t t_length t_scanned t_measured t_at t_found t_wrongAt t_negative t_digitsFrom t_digitsTo t_significant t_fraction t_exponent, aC G ar_t 4096 t_row]) : gAt l G m_Nt_takeExponent w0 res w1 0 [(0, .ref ad_t)] [] [oNt ad_t ar_t t_length t_scanned t_measured t_at t_found t_wrongAt t_negative t_digitsFrom t_digitsTo t_significant t_fraction t_exponent, aC G ar_t 4096 t_row] := by
  refine a_aload_n 0 dNt_takeExponent_0 rfl ?_
  exact k0

set_option maxRecDepth 20000 in
theorem k_Nt_takeExponent_1 {l : Launch} {G : gG} {w0 w1 : va_W} {res : Option Value} {ad_t ar_t : Nat} {t_length t_scanned t_measured t_at t_found t_wrongAt t_negative t_digitsFrom t_digitsTo t_significant t_fraction t_exponent : Int32} {t_row : Nat → Int32}  {r : Int32} {t_length' t_scanned' t_measured' t_at' t_found' t_wrongAt' t_negative' t_digitsFrom' t_digitsTo' t_significant' t_fraction' t_exponent' : Int32} {t_row' : Nat → Int32} (hc : gCt l G m_Nt_here [.ref ad_t] [oNt ad_t ar_t t_length t_scanned t_measured t_at t_found t_wrongAt t_negative t_digitsFrom t_digitsTo t_significant t_fraction t_exponent, aC G ar_t 4096 t_row] (some (.int r)) [oNt ad_t ar_t t_length' t_scanned' t_measured' t_at' t_found' t_wrongAt' t_negative' t_digitsFrom' t_digitsTo' t_significant' t_fraction' t_exponent', aC G ar_t 4096 t_row']) (k : gAt l G m_Nt_takeExponent w0 res w1 4 [(0, .ref ad_t)] [.int r] [oNt ad_t ar_t t_length' t_scanned' t_measured' t_at' t_found' t_wrongAt' t_negative' t_digitsFrom' t_digitsTo' t_significant' t_fraction' t_exponent', aC G ar_t 4096 t_row']) : gAt l G m_Nt_takeExponent w0 res w1 1 [(0, .ref ad_t)] [.ref ad_t] [oNt ad_t ar_t t_length t_scanned t_measured t_at t_found t_wrongAt t_negative t_digitsFrom t_digitsTo t_significant t_fraction t_exponent, aC G ar_t 4096 t_row] :=
  a_callV (As := []) (rest := []) (wc := [oNt ad_t ar_t t_length t_scanned t_measured t_at t_found t_wrongAt t_negative t_digitsFrom t_digitsTo t_significant t_fraction t_exponent, aC G ar_t 4096 t_row]) (wr := []) (w1c := [oNt ad_t ar_t t_length' t_scanned' t_measured' t_at' t_found' t_wrongAt' t_negative' t_digitsFrom' t_digitsTo' t_significant' t_fraction' t_exponent', aC G ar_t 4096 t_row']) (r := (some (.int r))) [oNt ad_t ar_t t_length' t_scanned' t_measured' t_at' t_found' t_wrongAt' t_negative' t_digitsFrom' t_digitsTo' t_significant' t_fraction' t_exponent', aC G ar_t 4096 t_row'] [0, 1] [] [0, 1] (ci := 2) (q0 := 0) hc dNt_takeExponent_1 rfl ok_Nt_here ⟨Nat.le_of_ble_eq_true rfl, Nat.le_of_ble_eq_true rfl⟩ w_212 w_214 sl_5 rfl rfl rfl rfl rfl rfl (by decide) rfl rfl (Nat.le_of_ble_eq_true rfl) k

set_option maxRecDepth 20000 in
theorem b_Nt_takeExponent_4 {l : Launch} {G : gG} {w0 w1 : va_W} {res : Option Value} {ad_t ar_t : Nat} {t_length t_scanned t_measured t_at t_found t_wrongAt t_negative t_digitsFrom t_digitsTo t_significant t_fraction t_exponent : Int32} {t_row : Nat → Int32} {v0 : Int32} (k0 : (¬ v0 = (45 : Int32)) → gAt l G m_Nt_takeExponent w0 res w1 14 [(0, .ref ad_t)] [.int (0 : Int32)] [oNt ad_t ar_t t_length t_scanned t_measured t_at t_found t_wrongAt t_negative t_digitsFrom t_digitsTo t_significant t_fraction t_exponent, aC G ar_t 4096 t_row]) (k1 : (v0 = (45 : Int32)) → gAt l G m_Nt_takeExponent w0 res w1 14 [(0, .ref ad_t)] [.int (1 : Int32)] [oNt ad_t ar_t t_length t_scanned t_measured t_at t_found t_wrongAt t_negative t_digitsFrom t_digitsTo t_significant t_fraction t_exponent, aC G ar_t 4096 t_row]) : gAt l G m_Nt_takeExponent w0 res w1 4 [(0, .ref ad_t)] [.int v0] [oNt ad_t ar_t t_length t_scanned t_measured t_at t_found t_wrongAt t_negative t_digitsFrom t_digitsTo t_significant t_fraction t_exponent, aC G ar_t 4096 t_row] := by
  refine a_bipush (45 : Int32) dNt_takeExponent_4 (by decide) ?_
  refine a_icmp_ne 13 dNt_takeExponent_6 (by decide) (fun c1 => ?_) (fun c1 => ?_)
  · refine a_iconst (0 : Int32) dNt_takeExponent_13 (by decide) ?_
    exact (k0 c1)
  · refine a_iconst (1 : Int32) dNt_takeExponent_9 (by decide) ?_
    refine a_goto 14 dNt_takeExponent_10 (by decide) ?_
    exact (k1 c1)

set_option maxRecDepth 20000 in
theorem b_Nt_takeExponent_14 {l : Launch} {G : gG} {w0 w1 : va_W} {res : Option Value} {ad_t ar_t : Nat} {t_length t_scanned t_measured t_at t_found t_wrongAt t_negative t_digitsFrom t_digitsTo t_significant t_fraction t_exponent : Int32} {t_row : Nat → Int32} {v0 : Int32} (k0 : gAt l G m_Nt_takeExponent w0 res w1 20 [(0, .ref ad_t), (1, .int v0)] [.int (45 : Int32), .int (43 : Int32), .ref ad_t] [oNt ad_t ar_t t_length t_scanned t_measured t_at t_found t_wrongAt t_negative t_digitsFrom t_digitsTo t_significant t_fraction t_exponent, aC G ar_t 4096 t_row]) : gAt l G m_Nt_takeExponent w0 res w1 14 [(0, .ref ad_t)] [.int v0] [oNt ad_t ar_t t_length t_scanned t_measured t_at t_found t_wrongAt t_negative t_digitsFrom t_digitsTo t_significant t_fraction t_exponent, aC G ar_t 4096 t_row] := by
  refine a_istore_n [(1, .int v0), (0, .ref ad_t)] dNt_takeExponent_14 rfl (by decide) rfl ?_
  refine a_aload_n 1 dNt_takeExponent_15 rfl ?_
  refine a_bipush (43 : Int32) dNt_takeExponent_16 (by decide) ?_
  refine a_bipush (45 : Int32) dNt_takeExponent_18 (by decide) ?_
  refine a_lv [(0, .ref ad_t), (1, .int v0)] [1, 0] rfl ?_
  exact k0

set_option maxRecDepth 20000 in
theorem k_Nt_takeExponent_20 {l : Launch} {G : gG} {w0 w1 : va_W} {res : Option Value} {ad_t ar_t : Nat} {t_length t_scanned t_measured t_at t_found t_wrongAt t_negative t_digitsFrom t_digitsTo t_significant t_fraction t_exponent : Int32} {t_row : Nat → Int32} {x1 : Int32} {v0 : Int32} {v1 : Int32} {r : Int32} {t_length' t_scanned' t_measured' t_at' t_found' t_wrongAt' t_negative' t_digitsFrom' t_digitsTo' t_significant' t_fraction' t_exponent' : Int32} {t_row' : Nat → Int32} (hc : gCt l G m_Nt_skipOneOf [.ref ad_t, .int v1, .int v0] [oNt ad_t ar_t t_length t_scanned t_measured t_at t_found t_wrongAt t_negative t_digitsFrom t_digitsTo t_significant t_fraction t_exponent, aC G ar_t 4096 t_row] (some (.int r)) [oNt ad_t ar_t t_length' t_scanned' t_measured' t_at' t_found' t_wrongAt' t_negative' t_digitsFrom' t_digitsTo' t_significant' t_fraction' t_exponent', aC G ar_t 4096 t_row']) (k : gAt l G m_Nt_takeExponent w0 res w1 23 [(0, .ref ad_t), (1, .int x1)] [.int r] [oNt ad_t ar_t t_length' t_scanned' t_measured' t_at' t_found' t_wrongAt' t_negative' t_digitsFrom' t_digitsTo' t_significant' t_fraction' t_exponent', aC G ar_t 4096 t_row']) : gAt l G m_Nt_takeExponent w0 res w1 20 [(0, .ref ad_t), (1, .int x1)] [.int v0, .int v1, .ref ad_t] [oNt ad_t ar_t t_length t_scanned t_measured t_at t_found t_wrongAt t_negative t_digitsFrom t_digitsTo t_significant t_fraction t_exponent, aC G ar_t 4096 t_row] :=
  a_callV (As := [.int v1, .int v0]) (rest := []) (wc := [oNt ad_t ar_t t_length t_scanned t_measured t_at t_found t_wrongAt t_negative t_digitsFrom t_digitsTo t_significant t_fraction t_exponent, aC G ar_t 4096 t_row]) (wr := []) (w1c := [oNt ad_t ar_t t_length' t_scanned' t_measured' t_at' t_found' t_wrongAt' t_negative' t_digitsFrom' t_digitsTo' t_significant' t_fraction' t_exponent', aC G ar_t 4096 t_row']) (r := (some (.int r))) [oNt ad_t ar_t t_length' t_scanned' t_measured' t_at' t_found' t_wrongAt' t_negative' t_digitsFrom' t_digitsTo' t_significant' t_fraction' t_exponent', aC G ar_t 4096 t_row'] [0, 1] [] [0, 1] (ci := 2) (q0 := 0) hc dNt_takeExponent_20 rfl ok_Nt_skipOneOf ⟨Nat.le_of_ble_eq_true rfl, Nat.le_of_ble_eq_true rfl⟩ w_216 w_218 sl_6 rfl rfl rfl rfl rfl rfl (by decide) rfl rfl (Nat.le_of_ble_eq_true rfl) k

set_option maxRecDepth 20000 in
theorem b_Nt_takeExponent_23 {l : Launch} {G : gG} {w0 w1 : va_W} {res : Option Value} {ad_t ar_t : Nat} {t_length t_scanned t_measured t_at t_found t_wrongAt t_negative t_digitsFrom t_digitsTo t_significant t_fraction t_exponent : Int32} {t_row : Nat → Int32} {x1 : Int32} {v0 : Int32} (k0 : gAt l G m_Nt_takeExponent w0 res w1 31 [(0, .ref ad_t), (1, .int x1), (2, .int t_at), (3, .int (0 : Int32))] [] [oNt ad_t ar_t t_length t_scanned t_measured t_at t_found t_wrongAt t_negative t_digitsFrom t_digitsTo t_significant t_fraction t_exponent, aC G ar_t 4096 t_row]) : gAt l G m_Nt_takeExponent w0 res w1 23 [(0, .ref ad_t), (1, .int x1)] [.int v0] [oNt ad_t ar_t t_length t_scanned t_measured t_at t_found t_wrongAt t_negative t_digitsFrom t_digitsTo t_significant t_fraction t_exponent, aC G ar_t 4096 t_row] := by
  refine a_pop dNt_takeExponent_23 rfl ?_
  refine a_aload_n 0 dNt_takeExponent_24 rfl ?_
  refine a_get (ci := 2) (kx := 4) 0 dNt_takeExponent_25 rfl I_Nt w_42 rfl (by decide) rfl ?_
  refine a_istore_n [(2, .int t_at), (0, .ref ad_t), (1, .int x1)] dNt_takeExponent_28 rfl (by decide) rfl ?_
  refine a_iconst (0 : Int32) dNt_takeExponent_29 (by decide) ?_
  refine a_istore_n [(3, .int (0 : Int32)), (2, .int t_at), (0, .ref ad_t), (1, .int x1)] dNt_takeExponent_30 rfl (by decide) rfl ?_
  refine a_lv [(0, .ref ad_t), (1, .int x1), (2, .int t_at), (3, .int (0 : Int32))] [2, 3, 1, 0] rfl ?_
  exact k0

set_option maxRecDepth 20000 in
theorem b_Nt_takeExponent_31 {l : Launch} {G : gG} {w0 w1 : va_W} {res : Option Value} {ad_t ar_t : Nat} {t_length t_scanned t_measured t_at t_found t_wrongAt t_negative t_digitsFrom t_digitsTo t_significant t_fraction t_exponent : Int32} {t_row : Nat → Int32} {x1 : Int32} {x2 : Int32} {x3 : Int32} (k0 : (t_length ≤ t_at) → gAt l G m_Nt_takeExponent w0 res w1 88 [(0, .ref ad_t), (1, .int x1), (2, .int x2), (3, .int x3)] [] [oNt ad_t ar_t t_length t_scanned t_measured t_at t_found t_wrongAt t_negative t_digitsFrom t_digitsTo t_significant t_fraction t_exponent, aC G ar_t 4096 t_row]) (k1 : (¬ t_length ≤ t_at) → gAt l G m_Nt_takeExponent w0 res w1 43 [(0, .ref ad_t), (1, .int x1), (2, .int x2), (3, .int x3)] [.ref ad_t] [oNt ad_t ar_t t_length t_scanned t_measured t_at t_found t_wrongAt t_negative t_digitsFrom t_digitsTo t_significant t_fraction t_exponent, aC G ar_t 4096 t_row]) : gAt l G m_Nt_takeExponent w0 res w1 31 [(0, .ref ad_t), (1, .int x1), (2, .int x2), (3, .int x3)] [] [oNt ad_t ar_t t_length t_scanned t_measured t_at t_found t_wrongAt t_negative t_digitsFrom t_digitsTo t_significant t_fraction t_exponent, aC G ar_t 4096 t_row] := by
  refine a_aload_n 0 dNt_takeExponent_31 rfl ?_
  refine a_get (ci := 2) (kx := 4) 0 dNt_takeExponent_32 rfl I_Nt w_42 rfl (by decide) rfl ?_
  refine a_aload_n 0 dNt_takeExponent_35 rfl ?_
  refine a_get (ci := 2) (kx := 1) 0 dNt_takeExponent_36 rfl I_Nt w_37 rfl (by decide) rfl ?_
  refine a_icmp_ge 88 dNt_takeExponent_39 (by decide) (fun c1 => ?_) (fun c1 => ?_)
  · exact (k0 c1)
  · refine a_aload_n 0 dNt_takeExponent_42 rfl ?_
    exact (k1 c1)

set_option maxRecDepth 20000 in
theorem k_Nt_takeExponent_43 {l : Launch} {G : gG} {w0 w1 : va_W} {res : Option Value} {ad_t ar_t : Nat} {t_length t_scanned t_measured t_at t_found t_wrongAt t_negative t_digitsFrom t_digitsTo t_significant t_fraction t_exponent : Int32} {t_row : Nat → Int32} {x1 : Int32} {x2 : Int32} {x3 : Int32} {r : Int32} {t_length' t_scanned' t_measured' t_at' t_found' t_wrongAt' t_negative' t_digitsFrom' t_digitsTo' t_significant' t_fraction' t_exponent' : Int32} {t_row' : Nat → Int32} (hc : gCt l G m_Nt_here [.ref ad_t] [oNt ad_t ar_t t_length t_scanned t_measured t_at t_found t_wrongAt t_negative t_digitsFrom t_digitsTo t_significant t_fraction t_exponent, aC G ar_t 4096 t_row] (some (.int r)) [oNt ad_t ar_t t_length' t_scanned' t_measured' t_at' t_found' t_wrongAt' t_negative' t_digitsFrom' t_digitsTo' t_significant' t_fraction' t_exponent', aC G ar_t 4096 t_row']) (k : gAt l G m_Nt_takeExponent w0 res w1 46 [(0, .ref ad_t), (1, .int x1), (2, .int x2), (3, .int x3)] [.int r] [oNt ad_t ar_t t_length' t_scanned' t_measured' t_at' t_found' t_wrongAt' t_negative' t_digitsFrom' t_digitsTo' t_significant' t_fraction' t_exponent', aC G ar_t 4096 t_row']) : gAt l G m_Nt_takeExponent w0 res w1 43 [(0, .ref ad_t), (1, .int x1), (2, .int x2), (3, .int x3)] [.ref ad_t] [oNt ad_t ar_t t_length t_scanned t_measured t_at t_found t_wrongAt t_negative t_digitsFrom t_digitsTo t_significant t_fraction t_exponent, aC G ar_t 4096 t_row] :=
  a_callV (As := []) (rest := []) (wc := [oNt ad_t ar_t t_length t_scanned t_measured t_at t_found t_wrongAt t_negative t_digitsFrom t_digitsTo t_significant t_fraction t_exponent, aC G ar_t 4096 t_row]) (wr := []) (w1c := [oNt ad_t ar_t t_length' t_scanned' t_measured' t_at' t_found' t_wrongAt' t_negative' t_digitsFrom' t_digitsTo' t_significant' t_fraction' t_exponent', aC G ar_t 4096 t_row']) (r := (some (.int r))) [oNt ad_t ar_t t_length' t_scanned' t_measured' t_at' t_found' t_wrongAt' t_negative' t_digitsFrom' t_digitsTo' t_significant' t_fraction' t_exponent', aC G ar_t 4096 t_row'] [0, 1] [] [0, 1] (ci := 2) (q0 := 0) hc dNt_takeExponent_43 rfl ok_Nt_here ⟨Nat.le_of_ble_eq_true rfl, Nat.le_of_ble_eq_true rfl⟩ w_212 w_214 sl_5 rfl rfl rfl rfl rfl rfl (by decide) rfl rfl (Nat.le_of_ble_eq_true rfl) k

set_option maxRecDepth 20000 in
theorem b_Nt_takeExponent_46 {l : Launch} {G : gG} {w0 w1 : va_W} {res : Option Value} {ad_t ar_t : Nat} {t_length t_scanned t_measured t_at t_found t_wrongAt t_negative t_digitsFrom t_digitsTo t_significant t_fraction t_exponent : Int32} {t_row : Nat → Int32} {x1 : Int32} {x2 : Int32} {x3 : Int32} {v0 : Int32} (k0 : gAt l G m_Nt_takeExponent w0 res w1 48 [(0, .ref ad_t), (1, .int x1), (2, .int x2), (3, .int x3)] [.int (10 : Int32), .int v0] [oNt ad_t ar_t t_length t_scanned t_measured t_at t_found t_wrongAt t_negative t_digitsFrom t_digitsTo t_significant t_fraction t_exponent, aC G ar_t 4096 t_row]) : gAt l G m_Nt_takeExponent w0 res w1 46 [(0, .ref ad_t), (1, .int x1), (2, .int x2), (3, .int x3)] [.int v0] [oNt ad_t ar_t t_length t_scanned t_measured t_at t_found t_wrongAt t_negative t_digitsFrom t_digitsTo t_significant t_fraction t_exponent, aC G ar_t 4096 t_row] := by
  refine a_bipush (10 : Int32) dNt_takeExponent_46 (by decide) ?_
  exact k0

set_option maxRecDepth 20000 in
theorem k_Nt_takeExponent_48 {l : Launch} {G : gG} {w0 w1 : va_W} {res : Option Value} {ad_t ar_t : Nat} {t_length t_scanned t_measured t_at t_found t_wrongAt t_negative t_digitsFrom t_digitsTo t_significant t_fraction t_exponent : Int32} {t_row : Nat → Int32} {x1 : Int32} {x2 : Int32} {x3 : Int32} {v0 : Int32} {v1 : Int32} {r : Int32} (hc : gCt l G m_Nt_digitOf [.int v1, .int v0] [] (some (.int r)) []) (k : gAt l G m_Nt_takeExponent w0 res w1 51 [(0, .ref ad_t), (1, .int x1), (2, .int x2), (3, .int x3)] [.int r] [oNt ad_t ar_t t_length t_scanned t_measured t_at t_found t_wrongAt t_negative t_digitsFrom t_digitsTo t_significant t_fraction t_exponent, aC G ar_t 4096 t_row]) : gAt l G m_Nt_takeExponent w0 res w1 48 [(0, .ref ad_t), (1, .int x1), (2, .int x2), (3, .int x3)] [.int v0, .int v1] [oNt ad_t ar_t t_length t_scanned t_measured t_at t_found t_wrongAt t_negative t_digitsFrom t_digitsTo t_significant t_fraction t_exponent, aC G ar_t 4096 t_row] :=
  a_callS (As := [.int v1, .int v0]) (rest := []) (wc := []) (wr := [oNt ad_t ar_t t_length t_scanned t_measured t_at t_found t_wrongAt t_negative t_digitsFrom t_digitsTo t_significant t_fraction t_exponent, aC G ar_t 4096 t_row]) (w1c := []) (r := (some (.int r))) [oNt ad_t ar_t t_length t_scanned t_measured t_at t_found t_wrongAt t_negative t_digitsFrom t_digitsTo t_significant t_fraction t_exponent, aC G ar_t 4096 t_row] [] [0, 1] [0, 1] hc dNt_takeExponent_48 rfl ok_Nt_digitOf ⟨Nat.le_of_ble_eq_true rfl, Nat.le_of_ble_eq_true rfl⟩ w_290 w_291 rfl rfl rfl rfl (by decide) rfl rfl (Nat.le_of_ble_eq_true rfl) k

set_option maxRecDepth 20000 in
theorem b_Nt_takeExponent_51 {l : Launch} {G : gG} {w0 w1 : va_W} {res : Option Value} {ad_t ar_t : Nat} {t_length t_scanned t_measured t_at t_found t_wrongAt t_negative t_digitsFrom t_digitsTo t_significant t_fraction t_exponent : Int32} {t_row : Nat → Int32} {x1 : Int32} {x2 : Int32} {x3 : Int32} {v0 : Int32} (k0 : (¬ v0 = (-1 : Int32)) → gAt l G m_Nt_takeExponent w0 res w1 31 [(0, .ref ad_t), (1, .int x1), (2, .int x2), (3, .int (if (1000000 : Int32) < ((x3 * (10 : Int32)) + v0) then (1000000 : Int32) else ((x3 * (10 : Int32)) + v0)))] [] [oNt ad_t ar_t t_length t_scanned t_measured (t_at + (1 : Int32)) t_found t_wrongAt t_negative t_digitsFrom t_digitsTo t_significant t_fraction t_exponent, aC G ar_t 4096 t_row]) (k1 : (v0 = (-1 : Int32)) → gAt l G m_Nt_takeExponent w0 res w1 88 [(0, .ref ad_t), (1, .int x1), (2, .int x2), (3, .int x3)] [] [oNt ad_t ar_t t_length t_scanned t_measured t_at t_found t_wrongAt t_negative t_digitsFrom t_digitsTo t_significant t_fraction t_exponent, aC G ar_t 4096 t_row]) : gAt l G m_Nt_takeExponent w0 res w1 51 [(0, .ref ad_t), (1, .int x1), (2, .int x2), (3, .int x3)] [.int v0] [oNt ad_t ar_t t_length t_scanned t_measured t_at t_found t_wrongAt t_negative t_digitsFrom t_digitsTo t_significant t_fraction t_exponent, aC G ar_t 4096 t_row] := by
  refine a_istore [(4, .int v0), (0, .ref ad_t), (1, .int x1), (2, .int x2), (3, .int x3)] dNt_takeExponent_51 (by decide) rfl ?_
  refine a_iload 0 dNt_takeExponent_53 rfl ?_
  refine a_iconst (-1 : Int32) dNt_takeExponent_55 (by decide) ?_
  refine a_icmp_ne 62 dNt_takeExponent_56 (by decide) (fun c1 => ?_) (fun c1 => ?_)
  · refine a_iload_n 4 dNt_takeExponent_62 rfl ?_
    refine a_bipush (10 : Int32) dNt_takeExponent_63 (by decide) ?_
    refine a_imul dNt_takeExponent_65 ?_
    refine a_iload 0 dNt_takeExponent_66 rfl ?_
    refine a_iadd dNt_takeExponent_68 ?_
    refine a_ldc (1000000 : Int32) dNt_takeExponent_69 w_297 ?_
    refine a_mmin dNt_takeExponent_71 w_197 w_198 w_12 w_199 (Nat.le_of_ble_eq_true rfl) (Nat.le_of_ble_eq_true rfl) ?_
    refine a_istore_n [(3, .int (if (1000000 : Int32) < ((x3 * (10 : Int32)) + v0) then (1000000 : Int32) else ((x3 * (10 : Int32)) + v0))), (4, .int v0), (0, .ref ad_t), (1, .int x1), (2, .int x2)] dNt_takeExponent_74 rfl (by decide) rfl ?_
    refine a_aload_n 2 dNt_takeExponent_75 rfl ?_
    refine a_dup dNt_takeExponent_76 rfl ?_
    refine a_get (ci := 2) (kx := 4) 0 dNt_takeExponent_77 rfl I_Nt w_42 rfl (by decide) rfl ?_
    refine a_iconst (1 : Int32) dNt_takeExponent_80 (by decide) ?_
    refine a_iadd dNt_takeExponent_81 ?_
    refine a_put (ci := 2) (kx := 4) ty_Nt 0 [oNt ad_t ar_t t_length t_scanned t_measured (t_at + (1 : Int32)) t_found t_wrongAt t_negative t_digitsFrom t_digitsTo t_significant t_fraction t_exponent, aC G ar_t 4096 t_row] dNt_takeExponent_82 rfl I_Nt tyo_Nt nmo_Nt w_42 rfl (by decide) rfl rfl rfl (Nat.le_of_ble_eq_true rfl) rfl ?_
    refine a_goto 31 dNt_takeExponent_85 (by decide) ?_
    refine a_lv [(0, .ref ad_t), (1, .int x1), (2, .int x2), (3, .int (if (1000000 : Int32) < ((x3 * (10 : Int32)) + v0) then (1000000 : Int32) else ((x3 * (10 : Int32)) + v0)))] [2, 3, 4, 0] rfl ?_
    exact (k0 c1)
  · refine a_goto 88 dNt_takeExponent_59 (by decide) ?_
    refine a_lv [(0, .ref ad_t), (1, .int x1), (2, .int x2), (3, .int x3)] [1, 2, 3, 4] rfl ?_
    exact (k1 c1)

set_option maxRecDepth 20000 in
theorem b_Nt_takeExponent_88 {l : Launch} {G : gG} {w0 w1 : va_W} {res : Option Value} {ad_t ar_t : Nat} {t_length t_scanned t_measured t_at t_found t_wrongAt t_negative t_digitsFrom t_digitsTo t_significant t_fraction t_exponent : Int32} {t_row : Nat → Int32} {x1 : Int32} {x2 : Int32} {x3 : Int32} (k0 : (x1 = 0) → gAt l G m_Nt_takeExponent w0 res w1 99 [(0, .ref ad_t), (1, .int x1), (2, .int x2), (3, .int x3)] [.int x3, .ref ad_t] [oNt ad_t ar_t t_length t_scanned t_measured t_at t_found t_wrongAt t_negative t_digitsFrom t_digitsTo t_significant t_fraction t_exponent, aC G ar_t 4096 t_row]) (k1 : (¬ x1 = 0) → gAt l G m_Nt_takeExponent w0 res w1 99 [(0, .ref ad_t), (1, .int x1), (2, .int x2), (3, .int x3)] [.int (-x3), .ref ad_t] [oNt ad_t ar_t t_length t_scanned t_measured t_at t_found t_wrongAt t_negative t_digitsFrom t_digitsTo t_significant t_fraction t_exponent, aC G ar_t 4096 t_row]) : gAt l G m_Nt_takeExponent w0 res w1 88 [(0, .ref ad_t), (1, .int x1), (2, .int x2), (3, .int x3)] [] [oNt ad_t ar_t t_length t_scanned t_measured t_at t_found t_wrongAt t_negative t_digitsFrom t_digitsTo t_significant t_fraction t_exponent, aC G ar_t 4096 t_row] := by
  refine a_aload_n 0 dNt_takeExponent_88 rfl ?_
  refine a_iload_n 1 dNt_takeExponent_89 rfl ?_
  refine a_if_eq 98 dNt_takeExponent_90 (by decide) (fun c1 => ?_) (fun c1 => ?_)
  · refine a_iload_n 3 dNt_takeExponent_98 rfl ?_
    exact (k0 c1)
  · refine a_iload_n 3 dNt_takeExponent_93 rfl ?_
    refine a_ineg dNt_takeExponent_94 ?_
    refine a_goto 99 dNt_takeExponent_95 (by decide) ?_
    exact (k1 c1)

set_option maxRecDepth 20000 in
theorem b_Nt_takeExponent_99 {l : Launch} {G : gG} {w0 w1 : va_W} {res : Option Value} {ad_t ar_t : Nat} {t_length t_scanned t_measured t_at t_found t_wrongAt t_negative t_digitsFrom t_digitsTo t_significant t_fraction t_exponent : Int32} {t_row : Nat → Int32} {x1 : Int32} {x2 : Int32} {x3 : Int32} {v0 : Int32} (k0 : (t_at ≤ x2) → gAt l G m_Nt_takeExponent w0 res w1 115 [(0, .ref ad_t), (1, .int x1), (2, .int x2), (3, .int x3)] [.int (0 : Int32)] [oNt ad_t ar_t t_length t_scanned t_measured t_at t_found t_wrongAt t_negative t_digitsFrom t_digitsTo t_significant t_fraction v0, aC G ar_t 4096 t_row]) (k1 : (¬ t_at ≤ x2) → gAt l G m_Nt_takeExponent w0 res w1 115 [(0, .ref ad_t), (1, .int x1), (2, .int x2), (3, .int x3)] [.int (1 : Int32)] [oNt ad_t ar_t t_length t_scanned t_measured t_at t_found t_wrongAt t_negative t_digitsFrom t_digitsTo t_significant t_fraction v0, aC G ar_t 4096 t_row]) : gAt l G m_Nt_takeExponent w0 res w1 99 [(0, .ref ad_t), (1, .int x1), (2, .int x2), (3, .int x3)] [.int v0, .ref ad_t] [oNt ad_t ar_t t_length t_scanned t_measured t_at t_found t_wrongAt t_negative t_digitsFrom t_digitsTo t_significant t_fraction t_exponent, aC G ar_t 4096 t_row] := by
  refine a_put (ci := 2) (kx := 12) ty_Nt 0 [oNt ad_t ar_t t_length t_scanned t_measured t_at t_found t_wrongAt t_negative t_digitsFrom t_digitsTo t_significant t_fraction v0, aC G ar_t 4096 t_row] dNt_takeExponent_99 rfl I_Nt tyo_Nt nmo_Nt w_58 rfl (by decide) rfl rfl rfl (Nat.le_of_ble_eq_true rfl) rfl ?_
  refine a_aload_n 0 dNt_takeExponent_102 rfl ?_
  refine a_get (ci := 2) (kx := 4) 0 dNt_takeExponent_103 rfl I_Nt w_42 rfl (by decide) rfl ?_
  refine a_iload_n 2 dNt_takeExponent_106 rfl ?_
  refine a_icmp_le 114 dNt_takeExponent_107 (by decide) (fun c1 => ?_) (fun c1 => ?_)
  · refine a_iconst (0 : Int32) dNt_takeExponent_114 (by decide) ?_
    exact (k0 c1)
  · refine a_iconst (1 : Int32) dNt_takeExponent_110 (by decide) ?_
    refine a_goto 115 dNt_takeExponent_111 (by decide) ?_
    exact (k1 c1)

set_option maxRecDepth 20000 in
theorem b_Nt_takeExponent_115 {l : Launch} {G : gG} {w0 w1 : va_W} {res : Option Value} {ad_t ar_t : Nat} {t_length t_scanned t_measured t_at t_found t_wrongAt t_negative t_digitsFrom t_digitsTo t_significant t_fraction t_exponent : Int32} {t_row : Nat → Int32} {x1 : Int32} {x2 : Int32} {x3 : Int32} {v0 : Int32} (k0 : narrow .boolean (.int v0) = .int v0 ∧ res = some (.int v0) ∧ [oNt ad_t ar_t t_length t_scanned t_measured t_at t_found t_wrongAt t_negative t_digitsFrom t_digitsTo t_significant t_fraction t_exponent, aC G ar_t 4096 t_row] = w1) : gAt l G m_Nt_takeExponent w0 res w1 115 [(0, .ref ad_t), (1, .int x1), (2, .int x2), (3, .int x3)] [.int v0] [oNt ad_t ar_t t_length t_scanned t_measured t_at t_found t_wrongAt t_negative t_digitsFrom t_digitsTo t_significant t_fraction t_exponent, aC G ar_t 4096 t_row] := by
  exact a_zret (st := []) dNt_takeExponent_115 rfl k0.1 k0.2.1 k0.2.2

set_option maxRecDepth 20000 in
theorem b_Nt_skipSuffix_0 {l : Launch} {G : gG} {w0 w1 : va_W} {res : Option Value} {ad_t ar_t : Nat} {t_length t_scanned t_measured t_at t_found t_wrongAt t_negative t_digitsFrom t_digitsTo t_significant t_fraction t_exponent : Int32} {t_row : Nat → Int32}  (k0 : gAt l G m_Nt_skipSuffix w0 res w1 5 [(0, .ref ad_t)] [.int (68 : Int32), .int (100 : Int32), .ref ad_t] [oNt ad_t ar_t t_length t_scanned t_measured t_at t_found t_wrongAt t_negative t_digitsFrom t_digitsTo t_significant t_fraction t_exponent, aC G ar_t 4096 t_row]) : gAt l G m_Nt_skipSuffix w0 res w1 0 [(0, .ref ad_t)] [] [oNt ad_t ar_t t_length t_scanned t_measured t_at t_found t_wrongAt t_negative t_digitsFrom t_digitsTo t_significant t_fraction t_exponent, aC G ar_t 4096 t_row] := by
  refine a_aload_n 0 dNt_skipSuffix_0 rfl ?_
  refine a_bipush (100 : Int32) dNt_skipSuffix_1 (by decide) ?_
  refine a_bipush (68 : Int32) dNt_skipSuffix_3 (by decide) ?_
  exact k0

set_option maxRecDepth 20000 in
theorem k_Nt_skipSuffix_5 {l : Launch} {G : gG} {w0 w1 : va_W} {res : Option Value} {ad_t ar_t : Nat} {t_length t_scanned t_measured t_at t_found t_wrongAt t_negative t_digitsFrom t_digitsTo t_significant t_fraction t_exponent : Int32} {t_row : Nat → Int32} {v0 : Int32} {v1 : Int32} {r : Int32} {t_length' t_scanned' t_measured' t_at' t_found' t_wrongAt' t_negative' t_digitsFrom' t_digitsTo' t_significant' t_fraction' t_exponent' : Int32} {t_row' : Nat → Int32} (hc : gCt l G m_Nt_skipOneOf [.ref ad_t, .int v1, .int v0] [oNt ad_t ar_t t_length t_scanned t_measured t_at t_found t_wrongAt t_negative t_digitsFrom t_digitsTo t_significant t_fraction t_exponent, aC G ar_t 4096 t_row] (some (.int r)) [oNt ad_t ar_t t_length' t_scanned' t_measured' t_at' t_found' t_wrongAt' t_negative' t_digitsFrom' t_digitsTo' t_significant' t_fraction' t_exponent', aC G ar_t 4096 t_row']) (k : gAt l G m_Nt_skipSuffix w0 res w1 8 [(0, .ref ad_t)] [.int r] [oNt ad_t ar_t t_length' t_scanned' t_measured' t_at' t_found' t_wrongAt' t_negative' t_digitsFrom' t_digitsTo' t_significant' t_fraction' t_exponent', aC G ar_t 4096 t_row']) : gAt l G m_Nt_skipSuffix w0 res w1 5 [(0, .ref ad_t)] [.int v0, .int v1, .ref ad_t] [oNt ad_t ar_t t_length t_scanned t_measured t_at t_found t_wrongAt t_negative t_digitsFrom t_digitsTo t_significant t_fraction t_exponent, aC G ar_t 4096 t_row] :=
  a_callV (As := [.int v1, .int v0]) (rest := []) (wc := [oNt ad_t ar_t t_length t_scanned t_measured t_at t_found t_wrongAt t_negative t_digitsFrom t_digitsTo t_significant t_fraction t_exponent, aC G ar_t 4096 t_row]) (wr := []) (w1c := [oNt ad_t ar_t t_length' t_scanned' t_measured' t_at' t_found' t_wrongAt' t_negative' t_digitsFrom' t_digitsTo' t_significant' t_fraction' t_exponent', aC G ar_t 4096 t_row']) (r := (some (.int r))) [oNt ad_t ar_t t_length' t_scanned' t_measured' t_at' t_found' t_wrongAt' t_negative' t_digitsFrom' t_digitsTo' t_significant' t_fraction' t_exponent', aC G ar_t 4096 t_row'] [0, 1] [] [0, 1] (ci := 2) (q0 := 0) hc dNt_skipSuffix_5 rfl ok_Nt_skipOneOf ⟨Nat.le_of_ble_eq_true rfl, Nat.le_of_ble_eq_true rfl⟩ w_216 w_218 sl_6 rfl rfl rfl rfl rfl rfl (by decide) rfl rfl (Nat.le_of_ble_eq_true rfl) k

set_option maxRecDepth 20000 in
theorem b_Nt_skipSuffix_8 {l : Launch} {G : gG} {w0 w1 : va_W} {res : Option Value} {ad_t ar_t : Nat} {t_length t_scanned t_measured t_at t_found t_wrongAt t_negative t_digitsFrom t_digitsTo t_significant t_fraction t_exponent : Int32} {t_row : Nat → Int32} {v0 : Int32} (k0 : (¬ v0 = 0) → gAt l G m_Nt_skipSuffix w0 res w1 20 [(0, .ref ad_t)] [] [oNt ad_t ar_t t_length t_scanned t_measured t_at t_found t_wrongAt t_negative t_digitsFrom t_digitsTo t_significant t_fraction t_exponent, aC G ar_t 4096 t_row]) (k1 : (v0 = 0) → gAt l G m_Nt_skipSuffix w0 res w1 16 [(0, .ref ad_t)] [.int (70 : Int32), .int (102 : Int32), .ref ad_t] [oNt ad_t ar_t t_length t_scanned t_measured t_at t_found t_wrongAt t_negative t_digitsFrom t_digitsTo t_significant t_fraction t_exponent, aC G ar_t 4096 t_row]) : gAt l G m_Nt_skipSuffix w0 res w1 8 [(0, .ref ad_t)] [.int v0] [oNt ad_t ar_t t_length t_scanned t_measured t_at t_found t_wrongAt t_negative t_digitsFrom t_digitsTo t_significant t_fraction t_exponent, aC G ar_t 4096 t_row] := by
  refine a_if_ne 20 dNt_skipSuffix_8 (by decide) (fun c1 => ?_) (fun c1 => ?_)
  · exact (k0 c1)
  · refine a_aload_n 0 dNt_skipSuffix_11 rfl ?_
    refine a_bipush (102 : Int32) dNt_skipSuffix_12 (by decide) ?_
    refine a_bipush (70 : Int32) dNt_skipSuffix_14 (by decide) ?_
    exact (k1 c1)

set_option maxRecDepth 20000 in
theorem k_Nt_skipSuffix_16 {l : Launch} {G : gG} {w0 w1 : va_W} {res : Option Value} {ad_t ar_t : Nat} {t_length t_scanned t_measured t_at t_found t_wrongAt t_negative t_digitsFrom t_digitsTo t_significant t_fraction t_exponent : Int32} {t_row : Nat → Int32} {v0 : Int32} {v1 : Int32} {r : Int32} {t_length' t_scanned' t_measured' t_at' t_found' t_wrongAt' t_negative' t_digitsFrom' t_digitsTo' t_significant' t_fraction' t_exponent' : Int32} {t_row' : Nat → Int32} (hc : gCt l G m_Nt_skipOneOf [.ref ad_t, .int v1, .int v0] [oNt ad_t ar_t t_length t_scanned t_measured t_at t_found t_wrongAt t_negative t_digitsFrom t_digitsTo t_significant t_fraction t_exponent, aC G ar_t 4096 t_row] (some (.int r)) [oNt ad_t ar_t t_length' t_scanned' t_measured' t_at' t_found' t_wrongAt' t_negative' t_digitsFrom' t_digitsTo' t_significant' t_fraction' t_exponent', aC G ar_t 4096 t_row']) (k : gAt l G m_Nt_skipSuffix w0 res w1 19 [(0, .ref ad_t)] [.int r] [oNt ad_t ar_t t_length' t_scanned' t_measured' t_at' t_found' t_wrongAt' t_negative' t_digitsFrom' t_digitsTo' t_significant' t_fraction' t_exponent', aC G ar_t 4096 t_row']) : gAt l G m_Nt_skipSuffix w0 res w1 16 [(0, .ref ad_t)] [.int v0, .int v1, .ref ad_t] [oNt ad_t ar_t t_length t_scanned t_measured t_at t_found t_wrongAt t_negative t_digitsFrom t_digitsTo t_significant t_fraction t_exponent, aC G ar_t 4096 t_row] :=
  a_callV (As := [.int v1, .int v0]) (rest := []) (wc := [oNt ad_t ar_t t_length t_scanned t_measured t_at t_found t_wrongAt t_negative t_digitsFrom t_digitsTo t_significant t_fraction t_exponent, aC G ar_t 4096 t_row]) (wr := []) (w1c := [oNt ad_t ar_t t_length' t_scanned' t_measured' t_at' t_found' t_wrongAt' t_negative' t_digitsFrom' t_digitsTo' t_significant' t_fraction' t_exponent', aC G ar_t 4096 t_row']) (r := (some (.int r))) [oNt ad_t ar_t t_length' t_scanned' t_measured' t_at' t_found' t_wrongAt' t_negative' t_digitsFrom' t_digitsTo' t_significant' t_fraction' t_exponent', aC G ar_t 4096 t_row'] [0, 1] [] [0, 1] (ci := 2) (q0 := 0) hc dNt_skipSuffix_16 rfl ok_Nt_skipOneOf ⟨Nat.le_of_ble_eq_true rfl, Nat.le_of_ble_eq_true rfl⟩ w_216 w_218 sl_6 rfl rfl rfl rfl rfl rfl (by decide) rfl rfl (Nat.le_of_ble_eq_true rfl) k

set_option maxRecDepth 20000 in
theorem b_Nt_skipSuffix_19 {l : Launch} {G : gG} {w0 w1 : va_W} {res : Option Value} {ad_t ar_t : Nat} {t_length t_scanned t_measured t_at t_found t_wrongAt t_negative t_digitsFrom t_digitsTo t_significant t_fraction t_exponent : Int32} {t_row : Nat → Int32} {v0 : Int32} (k0 : gAt l G m_Nt_skipSuffix w0 res w1 20 [(0, .ref ad_t)] [] [oNt ad_t ar_t t_length t_scanned t_measured t_at t_found t_wrongAt t_negative t_digitsFrom t_digitsTo t_significant t_fraction t_exponent, aC G ar_t 4096 t_row]) : gAt l G m_Nt_skipSuffix w0 res w1 19 [(0, .ref ad_t)] [.int v0] [oNt ad_t ar_t t_length t_scanned t_measured t_at t_found t_wrongAt t_negative t_digitsFrom t_digitsTo t_significant t_fraction t_exponent, aC G ar_t 4096 t_row] := by
  refine a_pop dNt_skipSuffix_19 rfl ?_
  exact k0

set_option maxRecDepth 20000 in
theorem b_Nt_skipSuffix_20 {l : Launch} {G : gG} {w0 w1 : va_W} {res : Option Value} {ad_t ar_t : Nat} {t_length t_scanned t_measured t_at t_found t_wrongAt t_negative t_digitsFrom t_digitsTo t_significant t_fraction t_exponent : Int32} {t_row : Nat → Int32}  (k0 : res = none ∧ [oNt ad_t ar_t t_length t_scanned t_measured t_at t_found t_wrongAt t_negative t_digitsFrom t_digitsTo t_significant t_fraction t_exponent, aC G ar_t 4096 t_row] = w1) : gAt l G m_Nt_skipSuffix w0 res w1 20 [(0, .ref ad_t)] [] [oNt ad_t ar_t t_length t_scanned t_measured t_at t_found t_wrongAt t_negative t_digitsFrom t_digitsTo t_significant t_fraction t_exponent, aC G ar_t 4096 t_row] := by
  exact a_vret (st := []) dNt_skipSuffix_20 rfl k0.1 k0.2

set_option maxRecDepth 20000 in
theorem b_Nt_takeDecimal_0 {l : Launch} {G : gG} {w0 w1 : va_W} {res : Option Value} {ad_t ar_t : Nat} {t_length t_scanned t_measured t_at t_found t_wrongAt t_negative t_digitsFrom t_digitsTo t_significant t_fraction t_exponent : Int32} {t_row : Nat → Int32}  (k0 : gAt l G m_Nt_takeDecimal w0 res w1 8 [(0, .ref ad_t)] [.int (10 : Int32), .ref ad_t] [oNt ad_t ar_t t_length t_scanned t_measured t_at t_found t_wrongAt t_negative t_digitsFrom t_digitsTo t_significant t_fraction (0 : Int32), aC G ar_t 4096 t_row]) : gAt l G m_Nt_takeDecimal w0 res w1 0 [(0, .ref ad_t)] [] [oNt ad_t ar_t t_length t_scanned t_measured t_at t_found t_wrongAt t_negative t_digitsFrom t_digitsTo t_significant t_fraction t_exponent, aC G ar_t 4096 t_row] := by
  refine a_aload_n 0 dNt_takeDecimal_0 rfl ?_
  refine a_iconst (0 : Int32) dNt_takeDecimal_1 (by decide) ?_
  refine a_put (ci := 2) (kx := 12) ty_Nt 0 [oNt ad_t ar_t t_length t_scanned t_measured t_at t_found t_wrongAt t_negative t_digitsFrom t_digitsTo t_significant t_fraction (0 : Int32), aC G ar_t 4096 t_row] dNt_takeDecimal_2 rfl I_Nt tyo_Nt nmo_Nt w_58 rfl (by decide) rfl rfl rfl (Nat.le_of_ble_eq_true rfl) rfl ?_
  refine a_aload_n 0 dNt_takeDecimal_5 rfl ?_
  refine a_bipush (10 : Int32) dNt_takeDecimal_6 (by decide) ?_
  exact k0

set_option maxRecDepth 20000 in
theorem k_Nt_takeDecimal_8 {l : Launch} {G : gG} {w0 w1 : va_W} {res : Option Value} {ad_t ar_t : Nat} {t_length t_scanned t_measured t_at t_found t_wrongAt t_negative t_digitsFrom t_digitsTo t_significant t_fraction t_exponent : Int32} {t_row : Nat → Int32} {v0 : Int32} {r : Int32} {t_length' t_scanned' t_measured' t_at' t_found' t_wrongAt' t_negative' t_digitsFrom' t_digitsTo' t_significant' t_fraction' t_exponent' : Int32} {t_row' : Nat → Int32} (hc : gCt l G m_Nt_takeDigits [.ref ad_t, .int v0] [oNt ad_t ar_t t_length t_scanned t_measured t_at t_found t_wrongAt t_negative t_digitsFrom t_digitsTo t_significant t_fraction t_exponent, aC G ar_t 4096 t_row] (some (.int r)) [oNt ad_t ar_t t_length' t_scanned' t_measured' t_at' t_found' t_wrongAt' t_negative' t_digitsFrom' t_digitsTo' t_significant' t_fraction' t_exponent', aC G ar_t 4096 t_row']) (k : gAt l G m_Nt_takeDecimal w0 res w1 11 [(0, .ref ad_t)] [.int r] [oNt ad_t ar_t t_length' t_scanned' t_measured' t_at' t_found' t_wrongAt' t_negative' t_digitsFrom' t_digitsTo' t_significant' t_fraction' t_exponent', aC G ar_t 4096 t_row']) : gAt l G m_Nt_takeDecimal w0 res w1 8 [(0, .ref ad_t)] [.int v0, .ref ad_t] [oNt ad_t ar_t t_length t_scanned t_measured t_at t_found t_wrongAt t_negative t_digitsFrom t_digitsTo t_significant t_fraction t_exponent, aC G ar_t 4096 t_row] :=
  a_callV (As := [.int v0]) (rest := []) (wc := [oNt ad_t ar_t t_length t_scanned t_measured t_at t_found t_wrongAt t_negative t_digitsFrom t_digitsTo t_significant t_fraction t_exponent, aC G ar_t 4096 t_row]) (wr := []) (w1c := [oNt ad_t ar_t t_length' t_scanned' t_measured' t_at' t_found' t_wrongAt' t_negative' t_digitsFrom' t_digitsTo' t_significant' t_fraction' t_exponent', aC G ar_t 4096 t_row']) (r := (some (.int r))) [oNt ad_t ar_t t_length' t_scanned' t_measured' t_at' t_found' t_wrongAt' t_negative' t_digitsFrom' t_digitsTo' t_significant' t_fraction' t_exponent', aC G ar_t 4096 t_row'] [0, 1] [] [0, 1] (ci := 2) (q0 := 0) hc dNt_takeDecimal_8 rfl ok_Nt_takeDigits ⟨Nat.le_of_ble_eq_true rfl, Nat.le_of_ble_eq_true rfl⟩ w_286 w_288 sl_11 rfl rfl rfl rfl rfl rfl (by decide) rfl rfl (Nat.le_of_ble_eq_true rfl) k

set_option maxRecDepth 20000 in
theorem b_Nt_takeDecimal_11 {l : Launch} {G : gG} {w0 w1 : va_W} {res : Option Value} {ad_t ar_t : Nat} {t_length t_scanned t_measured t_at t_found t_wrongAt t_negative t_digitsFrom t_digitsTo t_significant t_fraction t_exponent : Int32} {t_row : Nat → Int32} {v0 : Int32} (k0 : (¬ v0 = 0) → gAt l G m_Nt_takeDecimal w0 res w1 21 [(0, .ref ad_t)] [.int (69 : Int32), .int (101 : Int32), .ref ad_t] [oNt ad_t ar_t t_length t_scanned t_measured t_at t_found t_wrongAt t_negative t_digitsFrom t_digitsTo t_significant t_fraction t_exponent, aC G ar_t 4096 t_row]) (k1 : (v0 = 0) → narrow .boolean (.int (0 : Int32)) = .int (0 : Int32) ∧ res = some (.int (0 : Int32)) ∧ [oNt ad_t ar_t t_length t_scanned t_measured t_at t_found t_wrongAt t_negative t_digitsFrom t_digitsTo t_significant t_fraction t_exponent, aC G ar_t 4096 t_row] = w1) : gAt l G m_Nt_takeDecimal w0 res w1 11 [(0, .ref ad_t)] [.int v0] [oNt ad_t ar_t t_length t_scanned t_measured t_at t_found t_wrongAt t_negative t_digitsFrom t_digitsTo t_significant t_fraction t_exponent, aC G ar_t 4096 t_row] := by
  refine a_if_ne 16 dNt_takeDecimal_11 (by decide) (fun c1 => ?_) (fun c1 => ?_)
  · refine a_aload_n 0 dNt_takeDecimal_16 rfl ?_
    refine a_bipush (101 : Int32) dNt_takeDecimal_17 (by decide) ?_
    refine a_bipush (69 : Int32) dNt_takeDecimal_19 (by decide) ?_
    exact (k0 c1)
  · refine a_iconst (0 : Int32) dNt_takeDecimal_14 (by decide) ?_
    exact a_zret (st := []) dNt_takeDecimal_15 rfl (k1 c1).1 (k1 c1).2.1 (k1 c1).2.2

set_option maxRecDepth 20000 in
theorem k_Nt_takeDecimal_21 {l : Launch} {G : gG} {w0 w1 : va_W} {res : Option Value} {ad_t ar_t : Nat} {t_length t_scanned t_measured t_at t_found t_wrongAt t_negative t_digitsFrom t_digitsTo t_significant t_fraction t_exponent : Int32} {t_row : Nat → Int32} {v0 : Int32} {v1 : Int32} {r : Int32} {t_length' t_scanned' t_measured' t_at' t_found' t_wrongAt' t_negative' t_digitsFrom' t_digitsTo' t_significant' t_fraction' t_exponent' : Int32} {t_row' : Nat → Int32} (hc : gCt l G m_Nt_skipOneOf [.ref ad_t, .int v1, .int v0] [oNt ad_t ar_t t_length t_scanned t_measured t_at t_found t_wrongAt t_negative t_digitsFrom t_digitsTo t_significant t_fraction t_exponent, aC G ar_t 4096 t_row] (some (.int r)) [oNt ad_t ar_t t_length' t_scanned' t_measured' t_at' t_found' t_wrongAt' t_negative' t_digitsFrom' t_digitsTo' t_significant' t_fraction' t_exponent', aC G ar_t 4096 t_row']) (k : gAt l G m_Nt_takeDecimal w0 res w1 24 [(0, .ref ad_t)] [.int r] [oNt ad_t ar_t t_length' t_scanned' t_measured' t_at' t_found' t_wrongAt' t_negative' t_digitsFrom' t_digitsTo' t_significant' t_fraction' t_exponent', aC G ar_t 4096 t_row']) : gAt l G m_Nt_takeDecimal w0 res w1 21 [(0, .ref ad_t)] [.int v0, .int v1, .ref ad_t] [oNt ad_t ar_t t_length t_scanned t_measured t_at t_found t_wrongAt t_negative t_digitsFrom t_digitsTo t_significant t_fraction t_exponent, aC G ar_t 4096 t_row] :=
  a_callV (As := [.int v1, .int v0]) (rest := []) (wc := [oNt ad_t ar_t t_length t_scanned t_measured t_at t_found t_wrongAt t_negative t_digitsFrom t_digitsTo t_significant t_fraction t_exponent, aC G ar_t 4096 t_row]) (wr := []) (w1c := [oNt ad_t ar_t t_length' t_scanned' t_measured' t_at' t_found' t_wrongAt' t_negative' t_digitsFrom' t_digitsTo' t_significant' t_fraction' t_exponent', aC G ar_t 4096 t_row']) (r := (some (.int r))) [oNt ad_t ar_t t_length' t_scanned' t_measured' t_at' t_found' t_wrongAt' t_negative' t_digitsFrom' t_digitsTo' t_significant' t_fraction' t_exponent', aC G ar_t 4096 t_row'] [0, 1] [] [0, 1] (ci := 2) (q0 := 0) hc dNt_takeDecimal_21 rfl ok_Nt_skipOneOf ⟨Nat.le_of_ble_eq_true rfl, Nat.le_of_ble_eq_true rfl⟩ w_216 w_218 sl_6 rfl rfl rfl rfl rfl rfl (by decide) rfl rfl (Nat.le_of_ble_eq_true rfl) k

set_option maxRecDepth 20000 in
theorem b_Nt_takeDecimal_24 {l : Launch} {G : gG} {w0 w1 : va_W} {res : Option Value} {ad_t ar_t : Nat} {t_length t_scanned t_measured t_at t_found t_wrongAt t_negative t_digitsFrom t_digitsTo t_significant t_fraction t_exponent : Int32} {t_row : Nat → Int32} {v0 : Int32} (k0 : (v0 = 0) → gAt l G m_Nt_takeDecimal w0 res w1 36 [(0, .ref ad_t)] [] [oNt ad_t ar_t t_length t_scanned t_measured t_at t_found t_wrongAt t_negative t_digitsFrom t_digitsTo t_significant t_fraction t_exponent, aC G ar_t 4096 t_row]) (k1 : (¬ v0 = 0) → gAt l G m_Nt_takeDecimal w0 res w1 28 [(0, .ref ad_t)] [.ref ad_t] [oNt ad_t ar_t t_length t_scanned t_measured t_at t_found t_wrongAt t_negative t_digitsFrom t_digitsTo t_significant t_fraction t_exponent, aC G ar_t 4096 t_row]) : gAt l G m_Nt_takeDecimal w0 res w1 24 [(0, .ref ad_t)] [.int v0] [oNt ad_t ar_t t_length t_scanned t_measured t_at t_found t_wrongAt t_negative t_digitsFrom t_digitsTo t_significant t_fraction t_exponent, aC G ar_t 4096 t_row] := by
  refine a_if_eq 36 dNt_takeDecimal_24 (by decide) (fun c1 => ?_) (fun c1 => ?_)
  · exact (k0 c1)
  · refine a_aload_n 0 dNt_takeDecimal_27 rfl ?_
    exact (k1 c1)

set_option maxRecDepth 20000 in
theorem k_Nt_takeDecimal_28 {l : Launch} {G : gG} {w0 w1 : va_W} {res : Option Value} {ad_t ar_t : Nat} {t_length t_scanned t_measured t_at t_found t_wrongAt t_negative t_digitsFrom t_digitsTo t_significant t_fraction t_exponent : Int32} {t_row : Nat → Int32}  {r : Int32} {t_length' t_scanned' t_measured' t_at' t_found' t_wrongAt' t_negative' t_digitsFrom' t_digitsTo' t_significant' t_fraction' t_exponent' : Int32} {t_row' : Nat → Int32} (hc : gCt l G m_Nt_takeExponent [.ref ad_t] [oNt ad_t ar_t t_length t_scanned t_measured t_at t_found t_wrongAt t_negative t_digitsFrom t_digitsTo t_significant t_fraction t_exponent, aC G ar_t 4096 t_row] (some (.int r)) [oNt ad_t ar_t t_length' t_scanned' t_measured' t_at' t_found' t_wrongAt' t_negative' t_digitsFrom' t_digitsTo' t_significant' t_fraction' t_exponent', aC G ar_t 4096 t_row']) (k : gAt l G m_Nt_takeDecimal w0 res w1 31 [(0, .ref ad_t)] [.int r] [oNt ad_t ar_t t_length' t_scanned' t_measured' t_at' t_found' t_wrongAt' t_negative' t_digitsFrom' t_digitsTo' t_significant' t_fraction' t_exponent', aC G ar_t 4096 t_row']) : gAt l G m_Nt_takeDecimal w0 res w1 28 [(0, .ref ad_t)] [.ref ad_t] [oNt ad_t ar_t t_length t_scanned t_measured t_at t_found t_wrongAt t_negative t_digitsFrom t_digitsTo t_significant t_fraction t_exponent, aC G ar_t 4096 t_row] :=
  a_callV (As := []) (rest := []) (wc := [oNt ad_t ar_t t_length t_scanned t_measured t_at t_found t_wrongAt t_negative t_digitsFrom t_digitsTo t_significant t_fraction t_exponent, aC G ar_t 4096 t_row]) (wr := []) (w1c := [oNt ad_t ar_t t_length' t_scanned' t_measured' t_at' t_found' t_wrongAt' t_negative' t_digitsFrom' t_digitsTo' t_significant' t_fraction' t_exponent', aC G ar_t 4096 t_row']) (r := (some (.int r))) [oNt ad_t ar_t t_length' t_scanned' t_measured' t_at' t_found' t_wrongAt' t_negative' t_digitsFrom' t_digitsTo' t_significant' t_fraction' t_exponent', aC G ar_t 4096 t_row'] [0, 1] [] [0, 1] (ci := 2) (q0 := 0) hc dNt_takeDecimal_28 rfl ok_Nt_takeExponent ⟨Nat.le_of_ble_eq_true rfl, Nat.le_of_ble_eq_true rfl⟩ w_293 w_295 sl_12 rfl rfl rfl rfl rfl rfl (by decide) rfl rfl (Nat.le_of_ble_eq_true rfl) k

set_option maxRecDepth 20000 in
theorem b_Nt_takeDecimal_31 {l : Launch} {G : gG} {w0 w1 : va_W} {res : Option Value} {ad_t ar_t : Nat} {t_length t_scanned t_measured t_at t_found t_wrongAt t_negative t_digitsFrom t_digitsTo t_significant t_fraction t_exponent : Int32} {t_row : Nat → Int32} {v0 : Int32} (k0 : (¬ v0 = 0) → gAt l G m_Nt_takeDecimal w0 res w1 36 [(0, .ref ad_t)] [] [oNt ad_t ar_t t_length t_scanned t_measured t_at t_found t_wrongAt t_negative t_digitsFrom t_digitsTo t_significant t_fraction t_exponent, aC G ar_t 4096 t_row]) (k1 : (v0 = 0) → narrow .boolean (.int (0 : Int32)) = .int (0 : Int32) ∧ res = some (.int (0 : Int32)) ∧ [oNt ad_t ar_t t_length t_scanned t_measured t_at t_found t_wrongAt t_negative t_digitsFrom t_digitsTo t_significant t_fraction t_exponent, aC G ar_t 4096 t_row] = w1) : gAt l G m_Nt_takeDecimal w0 res w1 31 [(0, .ref ad_t)] [.int v0] [oNt ad_t ar_t t_length t_scanned t_measured t_at t_found t_wrongAt t_negative t_digitsFrom t_digitsTo t_significant t_fraction t_exponent, aC G ar_t 4096 t_row] := by
  refine a_if_ne 36 dNt_takeDecimal_31 (by decide) (fun c1 => ?_) (fun c1 => ?_)
  · exact (k0 c1)
  · refine a_iconst (0 : Int32) dNt_takeDecimal_34 (by decide) ?_
    exact a_zret (st := []) dNt_takeDecimal_35 rfl (k1 c1).1 (k1 c1).2.1 (k1 c1).2.2

set_option maxRecDepth 20000 in
theorem b_Nt_takeDecimal_36 {l : Launch} {G : gG} {w0 w1 : va_W} {res : Option Value} {ad_t ar_t : Nat} {t_length t_scanned t_measured t_at t_found t_wrongAt t_negative t_digitsFrom t_digitsTo t_significant t_fraction t_exponent : Int32} {t_row : Nat → Int32}  (k0 : gAt l G m_Nt_takeDecimal w0 res w1 37 [(0, .ref ad_t)] [.ref ad_t] [oNt ad_t ar_t t_length t_scanned t_measured t_at t_found t_wrongAt t_negative t_digitsFrom t_digitsTo t_significant t_fraction t_exponent, aC G ar_t 4096 t_row]) : gAt l G m_Nt_takeDecimal w0 res w1 36 [(0, .ref ad_t)] [] [oNt ad_t ar_t t_length t_scanned t_measured t_at t_found t_wrongAt t_negative t_digitsFrom t_digitsTo t_significant t_fraction t_exponent, aC G ar_t 4096 t_row] := by
  refine a_aload_n 0 dNt_takeDecimal_36 rfl ?_
  exact k0

set_option maxRecDepth 20000 in
theorem k_Nt_takeDecimal_37 {l : Launch} {G : gG} {w0 w1 : va_W} {res : Option Value} {ad_t ar_t : Nat} {t_length t_scanned t_measured t_at t_found t_wrongAt t_negative t_digitsFrom t_digitsTo t_significant t_fraction t_exponent : Int32} {t_row : Nat → Int32}  {t_length' t_scanned' t_measured' t_at' t_found' t_wrongAt' t_negative' t_digitsFrom' t_digitsTo' t_significant' t_fraction' t_exponent' : Int32} {t_row' : Nat → Int32} (hc : gCt l G m_Nt_skipSuffix [.ref ad_t] [oNt ad_t ar_t t_length t_scanned t_measured t_at t_found t_wrongAt t_negative t_digitsFrom t_digitsTo t_significant t_fraction t_exponent, aC G ar_t 4096 t_row] none [oNt ad_t ar_t t_length' t_scanned' t_measured' t_at' t_found' t_wrongAt' t_negative' t_digitsFrom' t_digitsTo' t_significant' t_fraction' t_exponent', aC G ar_t 4096 t_row']) (k : gAt l G m_Nt_takeDecimal w0 res w1 40 [(0, .ref ad_t)] [] [oNt ad_t ar_t t_length' t_scanned' t_measured' t_at' t_found' t_wrongAt' t_negative' t_digitsFrom' t_digitsTo' t_significant' t_fraction' t_exponent', aC G ar_t 4096 t_row']) : gAt l G m_Nt_takeDecimal w0 res w1 37 [(0, .ref ad_t)] [.ref ad_t] [oNt ad_t ar_t t_length t_scanned t_measured t_at t_found t_wrongAt t_negative t_digitsFrom t_digitsTo t_significant t_fraction t_exponent, aC G ar_t 4096 t_row] :=
  a_callV (As := []) (rest := []) (wc := [oNt ad_t ar_t t_length t_scanned t_measured t_at t_found t_wrongAt t_negative t_digitsFrom t_digitsTo t_significant t_fraction t_exponent, aC G ar_t 4096 t_row]) (wr := []) (w1c := [oNt ad_t ar_t t_length' t_scanned' t_measured' t_at' t_found' t_wrongAt' t_negative' t_digitsFrom' t_digitsTo' t_significant' t_fraction' t_exponent', aC G ar_t 4096 t_row']) (r := none) [oNt ad_t ar_t t_length' t_scanned' t_measured' t_at' t_found' t_wrongAt' t_negative' t_digitsFrom' t_digitsTo' t_significant' t_fraction' t_exponent', aC G ar_t 4096 t_row'] [0, 1] [] [0, 1] (ci := 2) (q0 := 0) hc dNt_takeDecimal_37 rfl ok_Nt_skipSuffix ⟨Nat.le_of_ble_eq_true rfl, Nat.le_of_ble_eq_true rfl⟩ w_298 w_300 sl_13 rfl rfl rfl rfl rfl rfl (by decide) rfl rfl (Nat.le_of_ble_eq_true rfl) k

set_option maxRecDepth 20000 in
theorem b_Nt_takeDecimal_40 {l : Launch} {G : gG} {w0 w1 : va_W} {res : Option Value} {ad_t ar_t : Nat} {t_length t_scanned t_measured t_at t_found t_wrongAt t_negative t_digitsFrom t_digitsTo t_significant t_fraction t_exponent : Int32} {t_row : Nat → Int32}  (k0 : narrow .boolean (.int (1 : Int32)) = .int (1 : Int32) ∧ res = some (.int (1 : Int32)) ∧ [oNt ad_t ar_t t_length t_scanned t_measured t_at t_found t_wrongAt t_negative t_digitsFrom t_digitsTo t_significant t_fraction t_exponent, aC G ar_t 4096 t_row] = w1) : gAt l G m_Nt_takeDecimal w0 res w1 40 [(0, .ref ad_t)] [] [oNt ad_t ar_t t_length t_scanned t_measured t_at t_found t_wrongAt t_negative t_digitsFrom t_digitsTo t_significant t_fraction t_exponent, aC G ar_t 4096 t_row] := by
  refine a_iconst (1 : Int32) dNt_takeDecimal_40 (by decide) ?_
  exact a_zret (st := []) dNt_takeDecimal_41 rfl k0.1 k0.2.1 k0.2.2

set_option maxRecDepth 20000 in
theorem b_Nt_digitAt_0 {l : Launch} {G : gG} {w0 w1 : va_W} {res : Option Value} {ad_t ar_t : Nat} {t_length t_scanned t_measured t_at t_found t_wrongAt t_negative t_digitsFrom t_digitsTo t_significant t_fraction t_exponent : Int32} {t_row : Nat → Int32} {x1 : Int32} {x2 : Int32} (k0 : gAt l G m_Nt_digitAt w0 res w1 2 [(0, .ref ad_t), (1, .int x1), (2, .int x2)] [.int x1, .ref ad_t] [oNt ad_t ar_t t_length t_scanned t_measured t_at t_found t_wrongAt t_negative t_digitsFrom t_digitsTo t_significant t_fraction t_exponent, aC G ar_t 4096 t_row]) : gAt l G m_Nt_digitAt w0 res w1 0 [(0, .ref ad_t), (1, .int x1), (2, .int x2)] [] [oNt ad_t ar_t t_length t_scanned t_measured t_at t_found t_wrongAt t_negative t_digitsFrom t_digitsTo t_significant t_fraction t_exponent, aC G ar_t 4096 t_row] := by
  refine a_aload_n 0 dNt_digitAt_0 rfl ?_
  refine a_iload_n 1 dNt_digitAt_1 rfl ?_
  exact k0

set_option maxRecDepth 20000 in
theorem k_Nt_digitAt_2 {l : Launch} {G : gG} {w0 w1 : va_W} {res : Option Value} {ad_t ar_t : Nat} {t_length t_scanned t_measured t_at t_found t_wrongAt t_negative t_digitsFrom t_digitsTo t_significant t_fraction t_exponent : Int32} {t_row : Nat → Int32} {x1 : Int32} {x2 : Int32} {v0 : Int32} {r : Int32} {t_length' t_scanned' t_measured' t_at' t_found' t_wrongAt' t_negative' t_digitsFrom' t_digitsTo' t_significant' t_fraction' t_exponent' : Int32} {t_row' : Nat → Int32} (hc : gCt l G m_Nt_characterAt [.ref ad_t, .int v0] [oNt ad_t ar_t t_length t_scanned t_measured t_at t_found t_wrongAt t_negative t_digitsFrom t_digitsTo t_significant t_fraction t_exponent, aC G ar_t 4096 t_row] (some (.int r)) [oNt ad_t ar_t t_length' t_scanned' t_measured' t_at' t_found' t_wrongAt' t_negative' t_digitsFrom' t_digitsTo' t_significant' t_fraction' t_exponent', aC G ar_t 4096 t_row']) (k : gAt l G m_Nt_digitAt w0 res w1 5 [(0, .ref ad_t), (1, .int x1), (2, .int x2)] [.int r] [oNt ad_t ar_t t_length' t_scanned' t_measured' t_at' t_found' t_wrongAt' t_negative' t_digitsFrom' t_digitsTo' t_significant' t_fraction' t_exponent', aC G ar_t 4096 t_row']) : gAt l G m_Nt_digitAt w0 res w1 2 [(0, .ref ad_t), (1, .int x1), (2, .int x2)] [.int v0, .ref ad_t] [oNt ad_t ar_t t_length t_scanned t_measured t_at t_found t_wrongAt t_negative t_digitsFrom t_digitsTo t_significant t_fraction t_exponent, aC G ar_t 4096 t_row] :=
  a_callV (As := [.int v0]) (rest := []) (wc := [oNt ad_t ar_t t_length t_scanned t_measured t_at t_found t_wrongAt t_negative t_digitsFrom t_digitsTo t_significant t_fraction t_exponent, aC G ar_t 4096 t_row]) (wr := []) (w1c := [oNt ad_t ar_t t_length' t_scanned' t_measured' t_at' t_found' t_wrongAt' t_negative' t_digitsFrom' t_digitsTo' t_significant' t_fraction' t_exponent', aC G ar_t 4096 t_row']) (r := (some (.int r))) [oNt ad_t ar_t t_length' t_scanned' t_measured' t_at' t_found' t_wrongAt' t_negative' t_digitsFrom' t_digitsTo' t_significant' t_fraction' t_exponent', aC G ar_t 4096 t_row'] [0, 1] [] [0, 1] (ci := 2) (q0 := 0) hc dNt_digitAt_2 rfl ok_Nt_characterAt ⟨Nat.le_of_ble_eq_true rfl, Nat.le_of_ble_eq_true rfl⟩ w_278 w_280 sl_9 rfl rfl rfl rfl rfl rfl (by decide) rfl rfl (Nat.le_of_ble_eq_true rfl) k

set_option maxRecDepth 20000 in
theorem b_Nt_digitAt_5 {l : Launch} {G : gG} {w0 w1 : va_W} {res : Option Value} {ad_t ar_t : Nat} {t_length t_scanned t_measured t_at t_found t_wrongAt t_negative t_digitsFrom t_digitsTo t_significant t_fraction t_exponent : Int32} {t_row : Nat → Int32} {x1 : Int32} {x2 : Int32} {v0 : Int32} (k0 : gAt l G m_Nt_digitAt w0 res w1 6 [(0, .ref ad_t), (1, .int x1), (2, .int x2)] [.int x2, .int v0] [oNt ad_t ar_t t_length t_scanned t_measured t_at t_found t_wrongAt t_negative t_digitsFrom t_digitsTo t_significant t_fraction t_exponent, aC G ar_t 4096 t_row]) : gAt l G m_Nt_digitAt w0 res w1 5 [(0, .ref ad_t), (1, .int x1), (2, .int x2)] [.int v0] [oNt ad_t ar_t t_length t_scanned t_measured t_at t_found t_wrongAt t_negative t_digitsFrom t_digitsTo t_significant t_fraction t_exponent, aC G ar_t 4096 t_row] := by
  refine a_iload_n 2 dNt_digitAt_5 rfl ?_
  exact k0

set_option maxRecDepth 20000 in
theorem k_Nt_digitAt_6 {l : Launch} {G : gG} {w0 w1 : va_W} {res : Option Value} {ad_t ar_t : Nat} {t_length t_scanned t_measured t_at t_found t_wrongAt t_negative t_digitsFrom t_digitsTo t_significant t_fraction t_exponent : Int32} {t_row : Nat → Int32} {x1 : Int32} {x2 : Int32} {v0 : Int32} {v1 : Int32} {r : Int32} (hc : gCt l G m_Nt_digitOf [.int v1, .int v0] [] (some (.int r)) []) (k : gAt l G m_Nt_digitAt w0 res w1 9 [(0, .ref ad_t), (1, .int x1), (2, .int x2)] [.int r] [oNt ad_t ar_t t_length t_scanned t_measured t_at t_found t_wrongAt t_negative t_digitsFrom t_digitsTo t_significant t_fraction t_exponent, aC G ar_t 4096 t_row]) : gAt l G m_Nt_digitAt w0 res w1 6 [(0, .ref ad_t), (1, .int x1), (2, .int x2)] [.int v0, .int v1] [oNt ad_t ar_t t_length t_scanned t_measured t_at t_found t_wrongAt t_negative t_digitsFrom t_digitsTo t_significant t_fraction t_exponent, aC G ar_t 4096 t_row] :=
  a_callS (As := [.int v1, .int v0]) (rest := []) (wc := []) (wr := [oNt ad_t ar_t t_length t_scanned t_measured t_at t_found t_wrongAt t_negative t_digitsFrom t_digitsTo t_significant t_fraction t_exponent, aC G ar_t 4096 t_row]) (w1c := []) (r := (some (.int r))) [oNt ad_t ar_t t_length t_scanned t_measured t_at t_found t_wrongAt t_negative t_digitsFrom t_digitsTo t_significant t_fraction t_exponent, aC G ar_t 4096 t_row] [] [0, 1] [0, 1] hc dNt_digitAt_6 rfl ok_Nt_digitOf ⟨Nat.le_of_ble_eq_true rfl, Nat.le_of_ble_eq_true rfl⟩ w_290 w_291 rfl rfl rfl rfl (by decide) rfl rfl (Nat.le_of_ble_eq_true rfl) k

set_option maxRecDepth 20000 in
theorem b_Nt_digitAt_9 {l : Launch} {G : gG} {w0 w1 : va_W} {res : Option Value} {ad_t ar_t : Nat} {t_length t_scanned t_measured t_at t_found t_wrongAt t_negative t_digitsFrom t_digitsTo t_significant t_fraction t_exponent : Int32} {t_row : Nat → Int32} {x1 : Int32} {x2 : Int32} {v0 : Int32} (k0 : res = some (.int v0) ∧ [oNt ad_t ar_t t_length t_scanned t_measured t_at t_found t_wrongAt t_negative t_digitsFrom t_digitsTo t_significant t_fraction t_exponent, aC G ar_t 4096 t_row] = w1) : gAt l G m_Nt_digitAt w0 res w1 9 [(0, .ref ad_t), (1, .int x1), (2, .int x2)] [.int v0] [oNt ad_t ar_t t_length t_scanned t_measured t_at t_found t_wrongAt t_negative t_digitsFrom t_digitsTo t_significant t_fraction t_exponent, aC G ar_t 4096 t_row] := by
  exact a_iret (st := []) dNt_digitAt_9 rfl k0.1 k0.2
