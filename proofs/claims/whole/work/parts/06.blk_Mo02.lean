set_option maxRecDepth 20000 in
theorem b_Mo_sizeRead_0 {l : Launch} {G : gG} {w0 w1 : va_W} {res : Option Value} {ad_m ar_text ar_figures ar_words : Nat} {m_thrown m_length m_kind m_place m_below m_many m_point m_from m_to m_rest m_huge : Int32} {m_exponent m_whole m_scale : Int64} {m_text m_figs m_wds : Nat → Int32} {x1 : Int32} {x2 : Int32} (k0 : (m_kind ≤ (1 : Int32)) → gAt l G m_Mo_sizeRead w0 res w1 49 [(0, .ref ad_m), (1, .int x1), (2, .int x2)] [.int x2, .int x1, .ref ad_m] [oMo ad_m m_thrown ar_text m_length m_kind m_place m_below ar_figures m_many m_point m_exponent ar_words m_from m_to m_whole m_scale m_rest m_huge, aI G ar_text 4096 m_text, aI G ar_figures 4096 m_figs, aI G ar_words 800 m_wds]) (k1 : (¬ m_kind ≤ (1 : Int32)) → (¬ x1 = (53 : Int32)) → gAt l G m_Mo_sizeRead w0 res w1 23 [(0, .ref ad_m), (1, .int x1), (2, .int x2)] [.long (255 : Int64)] [oMo ad_m m_thrown ar_text m_length m_kind m_place m_below ar_figures m_many m_point m_exponent ar_words m_from m_to m_whole m_scale m_rest m_huge, aI G ar_text 4096 m_text, aI G ar_figures 4096 m_figs, aI G ar_words 800 m_wds]) (k2 : (¬ m_kind ≤ (1 : Int32)) → (x1 = (53 : Int32)) → gAt l G m_Mo_sizeRead w0 res w1 23 [(0, .ref ad_m), (1, .int x1), (2, .int x2)] [.long (2047 : Int64)] [oMo ad_m m_thrown ar_text m_length m_kind m_place m_below ar_figures m_many m_point m_exponent ar_words m_from m_to m_whole m_scale m_rest m_huge, aI G ar_text 4096 m_text, aI G ar_figures 4096 m_figs, aI G ar_words 800 m_wds]) : gAt l G m_Mo_sizeRead w0 res w1 0 [(0, .ref ad_m), (1, .int x1), (2, .int x2)] [] [oMo ad_m m_thrown ar_text m_length m_kind m_place m_below ar_figures m_many m_point m_exponent ar_words m_from m_to m_whole m_scale m_rest m_huge, aI G ar_text 4096 m_text, aI G ar_figures 4096 m_figs, aI G ar_words 800 m_wds] := by
  refine a_aload_n 0 dMo_sizeRead_0 rfl ?_
  refine a_get (ci := 6) (kx := 3) 0 dMo_sizeRead_1 rfl I_Mo w_651 rfl (by decide) rfl ?_
  refine a_iconst (1 : Int32) dMo_sizeRead_4 (by decide) ?_
  refine a_icmp_le 46 dMo_sizeRead_5 (by decide) (fun c1 => ?_) (fun c1 => ?_)
  · refine a_aload_n 0 dMo_sizeRead_46 rfl ?_
    refine a_iload_n 1 dMo_sizeRead_47 rfl ?_
    refine a_iload_n 2 dMo_sizeRead_48 rfl ?_
    exact (k0 c1)
  · refine a_iload_n 1 dMo_sizeRead_8 rfl ?_
    refine a_bipush (53 : Int32) dMo_sizeRead_9 (by decide) ?_
    refine a_icmp_ne 20 dMo_sizeRead_11 (by decide) (fun c2 => ?_) (fun c2 => ?_)
    · refine a_ldc2 (255 : Int64) dMo_sizeRead_20 w_708 ?_
      exact (k1 c1 c2)
    · refine a_ldc2 (2047 : Int64) dMo_sizeRead_14 w_780 ?_
      refine a_goto 23 dMo_sizeRead_17 (by decide) ?_
      exact (k2 c1 c2)

set_option maxRecDepth 20000 in
theorem b_Mo_sizeRead_23 {l : Launch} {G : gG} {w0 w1 : va_W} {res : Option Value} {ad_m ar_text ar_figures ar_words : Nat} {m_thrown m_length m_kind m_place m_below m_many m_point m_from m_to m_rest m_huge : Int32} {m_exponent m_whole m_scale : Int64} {m_text m_figs m_wds : Nat → Int32} {x1 : Int32} {x2 : Int32} {v0 : Int64} (k0 : (¬ m_kind = (3 : Int32)) → gAt l G m_Mo_sizeRead w0 res w1 44 [(0, .ref ad_m), (1, .int x1), (2, .int x2)] [.long (0 : Int64), .long (v0 <<< ((Int32.toInt64 (x1 - (1 : Int32))) &&& 63))] [oMo ad_m m_thrown ar_text m_length m_kind m_place m_below ar_figures m_many m_point m_exponent ar_words m_from m_to m_whole m_scale m_rest m_huge, aI G ar_text 4096 m_text, aI G ar_figures 4096 m_figs, aI G ar_words 800 m_wds]) (k1 : (m_kind = (3 : Int32)) → gAt l G m_Mo_sizeRead w0 res w1 44 [(0, .ref ad_m), (1, .int x1), (2, .int x2)] [.long ((1 : Int64) <<< ((Int32.toInt64 (x1 - (2 : Int32))) &&& 63)), .long (v0 <<< ((Int32.toInt64 (x1 - (1 : Int32))) &&& 63))] [oMo ad_m m_thrown ar_text m_length m_kind m_place m_below ar_figures m_many m_point m_exponent ar_words m_from m_to m_whole m_scale m_rest m_huge, aI G ar_text 4096 m_text, aI G ar_figures 4096 m_figs, aI G ar_words 800 m_wds]) : gAt l G m_Mo_sizeRead w0 res w1 23 [(0, .ref ad_m), (1, .int x1), (2, .int x2)] [.long v0] [oMo ad_m m_thrown ar_text m_length m_kind m_place m_below ar_figures m_many m_point m_exponent ar_words m_from m_to m_whole m_scale m_rest m_huge, aI G ar_text 4096 m_text, aI G ar_figures 4096 m_figs, aI G ar_words 800 m_wds] := by
  refine a_iload_n 1 dMo_sizeRead_23 rfl ?_
  refine a_iconst (1 : Int32) dMo_sizeRead_24 (by decide) ?_
  refine a_isub dMo_sizeRead_25 ?_
  refine a_lshl dMo_sizeRead_26 ?_
  refine a_aload_n 0 dMo_sizeRead_27 rfl ?_
  refine a_get (ci := 6) (kx := 3) 0 dMo_sizeRead_28 rfl I_Mo w_651 rfl (by decide) rfl ?_
  refine a_iconst (3 : Int32) dMo_sizeRead_31 (by decide) ?_
  refine a_icmp_ne 43 dMo_sizeRead_32 (by decide) (fun c1 => ?_) (fun c1 => ?_)
  · refine a_lconst (0 : Int64) dMo_sizeRead_43 (by decide) ?_
    exact (k0 c1)
  · refine a_lconst (1 : Int64) dMo_sizeRead_35 (by decide) ?_
    refine a_iload_n 1 dMo_sizeRead_36 rfl ?_
    refine a_iconst (2 : Int32) dMo_sizeRead_37 (by decide) ?_
    refine a_isub dMo_sizeRead_38 ?_
    refine a_lshl dMo_sizeRead_39 ?_
    refine a_goto 44 dMo_sizeRead_40 (by decide) ?_
    exact (k1 c1)

set_option maxRecDepth 20000 in
theorem b_Mo_sizeRead_44 {l : Launch} {G : gG} {w0 w1 : va_W} {res : Option Value} {ad_m ar_text ar_figures ar_words : Nat} {m_thrown m_length m_kind m_place m_below m_many m_point m_from m_to m_rest m_huge : Int32} {m_exponent m_whole m_scale : Int64} {m_text m_figs m_wds : Nat → Int32} {x1 : Int32} {x2 : Int32} {v0 : Int64} {v1 : Int64} (k0 : res = some (.long (v1 ||| v0)) ∧ [oMo ad_m m_thrown ar_text m_length m_kind m_place m_below ar_figures m_many m_point m_exponent ar_words m_from m_to m_whole m_scale m_rest m_huge, aI G ar_text 4096 m_text, aI G ar_figures 4096 m_figs, aI G ar_words 800 m_wds] = w1) : gAt l G m_Mo_sizeRead w0 res w1 44 [(0, .ref ad_m), (1, .int x1), (2, .int x2)] [.long v0, .long v1] [oMo ad_m m_thrown ar_text m_length m_kind m_place m_below ar_figures m_many m_point m_exponent ar_words m_from m_to m_whole m_scale m_rest m_huge, aI G ar_text 4096 m_text, aI G ar_figures 4096 m_figs, aI G ar_words 800 m_wds] := by
  refine a_lor dMo_sizeRead_44 ?_
  exact a_lret (st := []) dMo_sizeRead_45 rfl k0.1 k0.2

set_option maxRecDepth 20000 in
theorem k_Mo_sizeRead_49 {l : Launch} {G : gG} {w0 w1 : va_W} {res : Option Value} {ad_m ar_text ar_figures ar_words : Nat} {m_thrown m_length m_kind m_place m_below m_many m_point m_from m_to m_rest m_huge : Int32} {m_exponent m_whole m_scale : Int64} {m_text m_figs m_wds : Nat → Int32} {x1 : Int32} {x2 : Int32} {v0 : Int32} {v1 : Int32} {m_thrown' m_length' m_kind' m_place' m_below' m_many' m_point' m_from' m_to' m_rest' m_huge' : Int32} {m_exponent' m_whole' m_scale' : Int64} {m_text' m_figs' m_wds' : Nat → Int32} (hc : gCt l G m_Mo_find [.ref ad_m, .int v1, .int v0] [oMo ad_m m_thrown ar_text m_length m_kind m_place m_below ar_figures m_many m_point m_exponent ar_words m_from m_to m_whole m_scale m_rest m_huge, aI G ar_text 4096 m_text, aI G ar_figures 4096 m_figs, aI G ar_words 800 m_wds] none [oMo ad_m m_thrown' ar_text m_length' m_kind' m_place' m_below' ar_figures m_many' m_point' m_exponent' ar_words m_from' m_to' m_whole' m_scale' m_rest' m_huge', aI G ar_text 4096 m_text', aI G ar_figures 4096 m_figs', aI G ar_words 800 m_wds']) (k : gAt l G m_Mo_sizeRead w0 res w1 52 [(0, .ref ad_m), (1, .int x1), (2, .int x2)] [] [oMo ad_m m_thrown' ar_text m_length' m_kind' m_place' m_below' ar_figures m_many' m_point' m_exponent' ar_words m_from' m_to' m_whole' m_scale' m_rest' m_huge', aI G ar_text 4096 m_text', aI G ar_figures 4096 m_figs', aI G ar_words 800 m_wds']) : gAt l G m_Mo_sizeRead w0 res w1 49 [(0, .ref ad_m), (1, .int x1), (2, .int x2)] [.int v0, .int v1, .ref ad_m] [oMo ad_m m_thrown ar_text m_length m_kind m_place m_below ar_figures m_many m_point m_exponent ar_words m_from m_to m_whole m_scale m_rest m_huge, aI G ar_text 4096 m_text, aI G ar_figures 4096 m_figs, aI G ar_words 800 m_wds] :=
  a_callV (As := [.int v1, .int v0]) (rest := []) (wc := [oMo ad_m m_thrown ar_text m_length m_kind m_place m_below ar_figures m_many m_point m_exponent ar_words m_from m_to m_whole m_scale m_rest m_huge, aI G ar_text 4096 m_text, aI G ar_figures 4096 m_figs, aI G ar_words 800 m_wds]) (wr := []) (w1c := [oMo ad_m m_thrown' ar_text m_length' m_kind' m_place' m_below' ar_figures m_many' m_point' m_exponent' ar_words m_from' m_to' m_whole' m_scale' m_rest' m_huge', aI G ar_text 4096 m_text', aI G ar_figures 4096 m_figs', aI G ar_words 800 m_wds']) (r := none) [oMo ad_m m_thrown' ar_text m_length' m_kind' m_place' m_below' ar_figures m_many' m_point' m_exponent' ar_words m_from' m_to' m_whole' m_scale' m_rest' m_huge', aI G ar_text 4096 m_text', aI G ar_figures 4096 m_figs', aI G ar_words 800 m_wds'] [0, 1, 2, 3] [] [0, 1, 2, 3] (ci := 6) (q0 := 0) hc dMo_sizeRead_49 rfl ok_Mo_find ⟨Nat.le_of_ble_eq_true rfl, Nat.le_of_ble_eq_true rfl⟩ w_781 w_783 sl_63 rfl rfl rfl rfl rfl rfl (by decide) rfl rfl (Nat.le_of_ble_eq_true rfl) k

set_option maxRecDepth 20000 in
theorem b_Mo_sizeRead_52 {l : Launch} {G : gG} {w0 w1 : va_W} {res : Option Value} {ad_m ar_text ar_figures ar_words : Nat} {m_thrown m_length m_kind m_place m_below m_many m_point m_from m_to m_rest m_huge : Int32} {m_exponent m_whole m_scale : Int64} {m_text m_figs m_wds : Nat → Int32} {x1 : Int32} {x2 : Int32} (k0 : (m_huge = 0) → gAt l G m_Mo_sizeRead w0 res w1 81 [(0, .ref ad_m), (1, .int x1), (2, .int x2)] [.ref ad_m, .ref ad_m] [oMo ad_m m_thrown ar_text m_length m_kind m_place m_below ar_figures m_many m_point m_exponent ar_words m_from m_to m_whole m_scale m_rest m_huge, aI G ar_text 4096 m_text, aI G ar_figures 4096 m_figs, aI G ar_words 800 m_wds]) (k1 : (¬ m_huge = 0) → (¬ x1 = (53 : Int32)) → gAt l G m_Mo_sizeRead w0 res w1 74 [(0, .ref ad_m), (1, .int x1), (2, .int x2)] [.long (255 : Int64)] [oMo ad_m m_thrown ar_text m_length m_kind m_place m_below ar_figures m_many m_point m_exponent ar_words m_from m_to m_whole m_scale m_rest m_huge, aI G ar_text 4096 m_text, aI G ar_figures 4096 m_figs, aI G ar_words 800 m_wds]) (k2 : (¬ m_huge = 0) → (x1 = (53 : Int32)) → gAt l G m_Mo_sizeRead w0 res w1 74 [(0, .ref ad_m), (1, .int x1), (2, .int x2)] [.long (2047 : Int64)] [oMo ad_m m_thrown ar_text m_length m_kind m_place m_below ar_figures m_many m_point m_exponent ar_words m_from m_to m_whole m_scale m_rest m_huge, aI G ar_text 4096 m_text, aI G ar_figures 4096 m_figs, aI G ar_words 800 m_wds]) : gAt l G m_Mo_sizeRead w0 res w1 52 [(0, .ref ad_m), (1, .int x1), (2, .int x2)] [] [oMo ad_m m_thrown ar_text m_length m_kind m_place m_below ar_figures m_many m_point m_exponent ar_words m_from m_to m_whole m_scale m_rest m_huge, aI G ar_text 4096 m_text, aI G ar_figures 4096 m_figs, aI G ar_words 800 m_wds] := by
  refine a_aload_n 0 dMo_sizeRead_52 rfl ?_
  refine a_get (ci := 6) (kx := 16) 0 dMo_sizeRead_53 rfl I_Mo w_664 rfl (by decide) rfl ?_
  refine a_if_eq 79 dMo_sizeRead_56 (by decide) (fun c1 => ?_) (fun c1 => ?_)
  · refine a_aload_n 0 dMo_sizeRead_79 rfl ?_
    refine a_aload_n 0 dMo_sizeRead_80 rfl ?_
    exact (k0 c1)
  · refine a_iload_n 1 dMo_sizeRead_59 rfl ?_
    refine a_bipush (53 : Int32) dMo_sizeRead_60 (by decide) ?_
    refine a_icmp_ne 71 dMo_sizeRead_62 (by decide) (fun c2 => ?_) (fun c2 => ?_)
    · refine a_ldc2 (255 : Int64) dMo_sizeRead_71 w_708 ?_
      exact (k1 c1 c2)
    · refine a_ldc2 (2047 : Int64) dMo_sizeRead_65 w_780 ?_
      refine a_goto 74 dMo_sizeRead_68 (by decide) ?_
      exact (k2 c1 c2)

set_option maxRecDepth 20000 in
theorem b_Mo_sizeRead_74 {l : Launch} {G : gG} {w0 w1 : va_W} {res : Option Value} {ad_m ar_text ar_figures ar_words : Nat} {m_thrown m_length m_kind m_place m_below m_many m_point m_from m_to m_rest m_huge : Int32} {m_exponent m_whole m_scale : Int64} {m_text m_figs m_wds : Nat → Int32} {x1 : Int32} {x2 : Int32} {v0 : Int64} (k0 : res = some (.long (v0 <<< ((Int32.toInt64 (x1 - (1 : Int32))) &&& 63))) ∧ [oMo ad_m m_thrown ar_text m_length m_kind m_place m_below ar_figures m_many m_point m_exponent ar_words m_from m_to m_whole m_scale m_rest m_huge, aI G ar_text 4096 m_text, aI G ar_figures 4096 m_figs, aI G ar_words 800 m_wds] = w1) : gAt l G m_Mo_sizeRead w0 res w1 74 [(0, .ref ad_m), (1, .int x1), (2, .int x2)] [.long v0] [oMo ad_m m_thrown ar_text m_length m_kind m_place m_below ar_figures m_many m_point m_exponent ar_words m_from m_to m_whole m_scale m_rest m_huge, aI G ar_text 4096 m_text, aI G ar_figures 4096 m_figs, aI G ar_words 800 m_wds] := by
  refine a_iload_n 1 dMo_sizeRead_74 rfl ?_
  refine a_iconst (1 : Int32) dMo_sizeRead_75 (by decide) ?_
  refine a_isub dMo_sizeRead_76 ?_
  refine a_lshl dMo_sizeRead_77 ?_
  exact a_lret (st := []) dMo_sizeRead_78 rfl k0.1 k0.2

set_option maxRecDepth 20000 in
theorem k_Mo_sizeRead_81 {l : Launch} {G : gG} {w0 w1 : va_W} {res : Option Value} {ad_m ar_text ar_figures ar_words : Nat} {m_thrown m_length m_kind m_place m_below m_many m_point m_from m_to m_rest m_huge : Int32} {m_exponent m_whole m_scale : Int64} {m_text m_figs m_wds : Nat → Int32} {x1 : Int32} {x2 : Int32} {r : Int32} {m_thrown' m_length' m_kind' m_place' m_below' m_many' m_point' m_from' m_to' m_rest' m_huge' : Int32} {m_exponent' m_whole' m_scale' : Int64} {m_text' m_figs' m_wds' : Nat → Int32} (hc : gCt l G m_Mo_goesUp [.ref ad_m] [oMo ad_m m_thrown ar_text m_length m_kind m_place m_below ar_figures m_many m_point m_exponent ar_words m_from m_to m_whole m_scale m_rest m_huge, aI G ar_text 4096 m_text, aI G ar_figures 4096 m_figs, aI G ar_words 800 m_wds] (some (.int r)) [oMo ad_m m_thrown' ar_text m_length' m_kind' m_place' m_below' ar_figures m_many' m_point' m_exponent' ar_words m_from' m_to' m_whole' m_scale' m_rest' m_huge', aI G ar_text 4096 m_text', aI G ar_figures 4096 m_figs', aI G ar_words 800 m_wds']) (k : gAt l G m_Mo_sizeRead w0 res w1 84 [(0, .ref ad_m), (1, .int x1), (2, .int x2)] [.int r, .ref ad_m] [oMo ad_m m_thrown' ar_text m_length' m_kind' m_place' m_below' ar_figures m_many' m_point' m_exponent' ar_words m_from' m_to' m_whole' m_scale' m_rest' m_huge', aI G ar_text 4096 m_text', aI G ar_figures 4096 m_figs', aI G ar_words 800 m_wds']) : gAt l G m_Mo_sizeRead w0 res w1 81 [(0, .ref ad_m), (1, .int x1), (2, .int x2)] [.ref ad_m, .ref ad_m] [oMo ad_m m_thrown ar_text m_length m_kind m_place m_below ar_figures m_many m_point m_exponent ar_words m_from m_to m_whole m_scale m_rest m_huge, aI G ar_text 4096 m_text, aI G ar_figures 4096 m_figs, aI G ar_words 800 m_wds] :=
  a_callV (As := []) (rest := [.ref ad_m]) (wc := [oMo ad_m m_thrown ar_text m_length m_kind m_place m_below ar_figures m_many m_point m_exponent ar_words m_from m_to m_whole m_scale m_rest m_huge, aI G ar_text 4096 m_text, aI G ar_figures 4096 m_figs, aI G ar_words 800 m_wds]) (wr := []) (w1c := [oMo ad_m m_thrown' ar_text m_length' m_kind' m_place' m_below' ar_figures m_many' m_point' m_exponent' ar_words m_from' m_to' m_whole' m_scale' m_rest' m_huge', aI G ar_text 4096 m_text', aI G ar_figures 4096 m_figs', aI G ar_words 800 m_wds']) (r := (some (.int r))) [oMo ad_m m_thrown' ar_text m_length' m_kind' m_place' m_below' ar_figures m_many' m_point' m_exponent' ar_words m_from' m_to' m_whole' m_scale' m_rest' m_huge', aI G ar_text 4096 m_text', aI G ar_figures 4096 m_figs', aI G ar_words 800 m_wds'] [0, 1, 2, 3] [] [0, 1, 2, 3] (ci := 6) (q0 := 0) hc dMo_sizeRead_81 rfl ok_Mo_goesUp ⟨Nat.le_of_ble_eq_true rfl, Nat.le_of_ble_eq_true rfl⟩ w_825 w_827 sl_71 rfl rfl rfl rfl rfl rfl (by decide) rfl rfl (Nat.le_of_ble_eq_true rfl) k

set_option maxRecDepth 20000 in
theorem b_Mo_sizeRead_84 {l : Launch} {G : gG} {w0 w1 : va_W} {res : Option Value} {ad_m ar_text ar_figures ar_words : Nat} {m_thrown m_length m_kind m_place m_below m_many m_point m_from m_to m_rest m_huge : Int32} {m_exponent m_whole m_scale : Int64} {m_text m_figs m_wds : Nat → Int32} {x1 : Int32} {x2 : Int32} {v0 : Int32} (k0 : (v0 = 0) → gAt l G m_Mo_sizeRead w0 res w1 100 [(0, .ref ad_m), (1, .int x1), (2, .int x2)] [.long m_whole, .ref ad_m] [oMo ad_m m_thrown ar_text m_length m_kind m_place m_below ar_figures m_many m_point m_exponent ar_words m_from m_to m_whole m_scale m_rest m_huge, aI G ar_text 4096 m_text, aI G ar_figures 4096 m_figs, aI G ar_words 800 m_wds]) (k1 : (¬ v0 = 0) → gAt l G m_Mo_sizeRead w0 res w1 100 [(0, .ref ad_m), (1, .int x1), (2, .int x2)] [.long (m_whole + (1 : Int64)), .ref ad_m] [oMo ad_m m_thrown ar_text m_length m_kind m_place m_below ar_figures m_many m_point m_exponent ar_words m_from m_to m_whole m_scale m_rest m_huge, aI G ar_text 4096 m_text, aI G ar_figures 4096 m_figs, aI G ar_words 800 m_wds]) : gAt l G m_Mo_sizeRead w0 res w1 84 [(0, .ref ad_m), (1, .int x1), (2, .int x2)] [.int v0, .ref ad_m] [oMo ad_m m_thrown ar_text m_length m_kind m_place m_below ar_figures m_many m_point m_exponent ar_words m_from m_to m_whole m_scale m_rest m_huge, aI G ar_text 4096 m_text, aI G ar_figures 4096 m_figs, aI G ar_words 800 m_wds] := by
  refine a_if_eq 96 dMo_sizeRead_84 (by decide) (fun c1 => ?_) (fun c1 => ?_)
  · refine a_aload_n 0 dMo_sizeRead_96 rfl ?_
    refine a_get (ci := 6) (kx := 13) 0 dMo_sizeRead_97 rfl I_Mo w_661 rfl (by decide) rfl ?_
    exact (k0 c1)
  · refine a_aload_n 0 dMo_sizeRead_87 rfl ?_
    refine a_get (ci := 6) (kx := 13) 0 dMo_sizeRead_88 rfl I_Mo w_661 rfl (by decide) rfl ?_
    refine a_lconst (1 : Int64) dMo_sizeRead_91 (by decide) ?_
    refine a_ladd dMo_sizeRead_92 ?_
    refine a_goto 100 dMo_sizeRead_93 (by decide) ?_
    exact (k1 c1)

set_option maxRecDepth 20000 in
theorem b_Mo_sizeRead_100 {l : Launch} {G : gG} {w0 w1 : va_W} {res : Option Value} {ad_m ar_text ar_figures ar_words : Nat} {m_thrown m_length m_kind m_place m_below m_many m_point m_from m_to m_rest m_huge : Int32} {m_exponent m_whole m_scale : Int64} {m_text m_figs m_wds : Nat → Int32} {x1 : Int32} {x2 : Int32} {v0 : Int64} (k0 : gAt l G m_Mo_sizeRead w0 res w1 102 [(0, .ref ad_m), (1, .int x1), (2, .int x2)] [.int x2, .int x1, .long v0, .ref ad_m] [oMo ad_m m_thrown ar_text m_length m_kind m_place m_below ar_figures m_many m_point m_exponent ar_words m_from m_to m_whole m_scale m_rest m_huge, aI G ar_text 4096 m_text, aI G ar_figures 4096 m_figs, aI G ar_words 800 m_wds]) : gAt l G m_Mo_sizeRead w0 res w1 100 [(0, .ref ad_m), (1, .int x1), (2, .int x2)] [.long v0, .ref ad_m] [oMo ad_m m_thrown ar_text m_length m_kind m_place m_below ar_figures m_many m_point m_exponent ar_words m_from m_to m_whole m_scale m_rest m_huge, aI G ar_text 4096 m_text, aI G ar_figures 4096 m_figs, aI G ar_words 800 m_wds] := by
  refine a_iload_n 1 dMo_sizeRead_100 rfl ?_
  refine a_iload_n 2 dMo_sizeRead_101 rfl ?_
  exact k0

set_option maxRecDepth 20000 in
theorem k_Mo_sizeRead_102 {l : Launch} {G : gG} {w0 w1 : va_W} {res : Option Value} {ad_m ar_text ar_figures ar_words : Nat} {m_thrown m_length m_kind m_place m_below m_many m_point m_from m_to m_rest m_huge : Int32} {m_exponent m_whole m_scale : Int64} {m_text m_figs m_wds : Nat → Int32} {x1 : Int32} {x2 : Int32} {v0 : Int32} {v1 : Int32} {v2 : Int64} {r : Int64} {m_thrown' m_length' m_kind' m_place' m_below' m_many' m_point' m_from' m_to' m_rest' m_huge' : Int32} {m_exponent' m_whole' m_scale' : Int64} {m_text' m_figs' m_wds' : Nat → Int32} (hc : gCt l G m_Mo_pack [.ref ad_m, .long v2, .int v1, .int v0] [oMo ad_m m_thrown ar_text m_length m_kind m_place m_below ar_figures m_many m_point m_exponent ar_words m_from m_to m_whole m_scale m_rest m_huge, aI G ar_text 4096 m_text, aI G ar_figures 4096 m_figs, aI G ar_words 800 m_wds] (some (.long r)) [oMo ad_m m_thrown' ar_text m_length' m_kind' m_place' m_below' ar_figures m_many' m_point' m_exponent' ar_words m_from' m_to' m_whole' m_scale' m_rest' m_huge', aI G ar_text 4096 m_text', aI G ar_figures 4096 m_figs', aI G ar_words 800 m_wds']) (k : gAt l G m_Mo_sizeRead w0 res w1 105 [(0, .ref ad_m), (1, .int x1), (2, .int x2)] [.long r] [oMo ad_m m_thrown' ar_text m_length' m_kind' m_place' m_below' ar_figures m_many' m_point' m_exponent' ar_words m_from' m_to' m_whole' m_scale' m_rest' m_huge', aI G ar_text 4096 m_text', aI G ar_figures 4096 m_figs', aI G ar_words 800 m_wds']) : gAt l G m_Mo_sizeRead w0 res w1 102 [(0, .ref ad_m), (1, .int x1), (2, .int x2)] [.int v0, .int v1, .long v2, .ref ad_m] [oMo ad_m m_thrown ar_text m_length m_kind m_place m_below ar_figures m_many m_point m_exponent ar_words m_from m_to m_whole m_scale m_rest m_huge, aI G ar_text 4096 m_text, aI G ar_figures 4096 m_figs, aI G ar_words 800 m_wds] :=
  a_callV (As := [.long v2, .int v1, .int v0]) (rest := []) (wc := [oMo ad_m m_thrown ar_text m_length m_kind m_place m_below ar_figures m_many m_point m_exponent ar_words m_from m_to m_whole m_scale m_rest m_huge, aI G ar_text 4096 m_text, aI G ar_figures 4096 m_figs, aI G ar_words 800 m_wds]) (wr := []) (w1c := [oMo ad_m m_thrown' ar_text m_length' m_kind' m_place' m_below' ar_figures m_many' m_point' m_exponent' ar_words m_from' m_to' m_whole' m_scale' m_rest' m_huge', aI G ar_text 4096 m_text', aI G ar_figures 4096 m_figs', aI G ar_words 800 m_wds']) (r := (some (.long r))) [oMo ad_m m_thrown' ar_text m_length' m_kind' m_place' m_below' ar_figures m_many' m_point' m_exponent' ar_words m_from' m_to' m_whole' m_scale' m_rest' m_huge', aI G ar_text 4096 m_text', aI G ar_figures 4096 m_figs', aI G ar_words 800 m_wds'] [0, 1, 2, 3] [] [0, 1, 2, 3] (ci := 6) (q0 := 0) hc dMo_sizeRead_102 rfl ok_Mo_pack ⟨Nat.le_of_ble_eq_true rfl, Nat.le_of_ble_eq_true rfl⟩ w_829 w_831 sl_72 rfl rfl rfl rfl rfl rfl (by decide) rfl rfl (Nat.le_of_ble_eq_true rfl) k

set_option maxRecDepth 20000 in
theorem b_Mo_sizeRead_105 {l : Launch} {G : gG} {w0 w1 : va_W} {res : Option Value} {ad_m ar_text ar_figures ar_words : Nat} {m_thrown m_length m_kind m_place m_below m_many m_point m_from m_to m_rest m_huge : Int32} {m_exponent m_whole m_scale : Int64} {m_text m_figs m_wds : Nat → Int32} {x1 : Int32} {x2 : Int32} {v0 : Int64} (k0 : res = some (.long v0) ∧ [oMo ad_m m_thrown ar_text m_length m_kind m_place m_below ar_figures m_many m_point m_exponent ar_words m_from m_to m_whole m_scale m_rest m_huge, aI G ar_text 4096 m_text, aI G ar_figures 4096 m_figs, aI G ar_words 800 m_wds] = w1) : gAt l G m_Mo_sizeRead w0 res w1 105 [(0, .ref ad_m), (1, .int x1), (2, .int x2)] [.long v0] [oMo ad_m m_thrown ar_text m_length m_kind m_place m_below ar_figures m_many m_point m_exponent ar_words m_from m_to m_whole m_scale m_rest m_huge, aI G ar_text 4096 m_text, aI G ar_figures 4096 m_figs, aI G ar_words 800 m_wds] := by
  exact a_lret (st := []) dMo_sizeRead_105 rfl k0.1 k0.2

set_option maxRecDepth 20000 in
theorem b_Mo_find_0 {l : Launch} {G : gG} {w0 w1 : va_W} {res : Option Value} {ad_m ar_text ar_figures ar_words : Nat} {m_thrown m_length m_kind m_place m_below m_many m_point m_from m_to m_rest m_huge : Int32} {m_exponent m_whole m_scale : Int64} {m_text m_figs m_wds : Nat → Int32} {x1 : Int32} {x2 : Int32} (k0 : gAt l G m_Mo_find w0 res w1 2 [(0, .ref ad_m), (1, .int x1), (2, .int x2), (3, .int (0 : Int32))] [] [oMo ad_m m_thrown ar_text m_length m_kind m_place m_below ar_figures m_many m_point m_exponent ar_words m_from m_to m_whole m_scale m_rest m_huge, aI G ar_text 4096 m_text, aI G ar_figures 4096 m_figs, aI G ar_words 800 m_wds]) : gAt l G m_Mo_find w0 res w1 0 [(0, .ref ad_m), (1, .int x1), (2, .int x2)] [] [oMo ad_m m_thrown ar_text m_length m_kind m_place m_below ar_figures m_many m_point m_exponent ar_words m_from m_to m_whole m_scale m_rest m_huge, aI G ar_text 4096 m_text, aI G ar_figures 4096 m_figs, aI G ar_words 800 m_wds] := by
  refine a_iconst (0 : Int32) dMo_find_0 (by decide) ?_
  refine a_istore_n [(3, .int (0 : Int32)), (0, .ref ad_m), (1, .int x1), (2, .int x2)] dMo_find_1 rfl (by decide) rfl ?_
  refine a_lv [(0, .ref ad_m), (1, .int x1), (2, .int x2), (3, .int (0 : Int32))] [1, 2, 3, 0] rfl ?_
  exact k0

set_option maxRecDepth 20000 in
theorem b_Mo_find_2 {l : Launch} {G : gG} {w0 w1 : va_W} {res : Option Value} {ad_m ar_text ar_figures ar_words : Nat} {m_thrown m_length m_kind m_place m_below m_many m_point m_from m_to m_rest m_huge : Int32} {m_exponent m_whole m_scale : Int64} {m_text m_figs m_wds : Nat → Int32} {x1 : Int32} {x2 : Int32} {x3 : Int32} (k0 : (m_many ≤ x3) → gAt l G m_Mo_find w0 res w1 25 [(0, .ref ad_m), (1, .int x1), (2, .int x2), (3, .int x3)] [] [oMo ad_m m_thrown ar_text m_length m_kind m_place m_below ar_figures m_many m_point m_exponent ar_words m_from m_to m_whole m_scale m_rest m_huge, aI G ar_text 4096 m_text, aI G ar_figures 4096 m_figs, aI G ar_words 800 m_wds]) (s1 : (¬ m_many ≤ x3) → vp_in x3 4096) (k2 : (¬ m_many ≤ x3) → (¬ (m_figs (Int32.toNatClampNeg x3)) = 0) → gAt l G m_Mo_find w0 res w1 25 [(0, .ref ad_m), (1, .int x1), (2, .int x2), (3, .int x3)] [] [oMo ad_m m_thrown ar_text m_length m_kind m_place m_below ar_figures m_many m_point m_exponent ar_words m_from m_to m_whole m_scale m_rest m_huge, aI G ar_text 4096 m_text, aI G ar_figures 4096 m_figs, aI G ar_words 800 m_wds]) (k3 : (¬ m_many ≤ x3) → ((m_figs (Int32.toNatClampNeg x3)) = 0) → gAt l G m_Mo_find w0 res w1 2 [(0, .ref ad_m), (1, .int x1), (2, .int x2), (3, .int (x3 + 1))] [] [oMo ad_m m_thrown ar_text m_length m_kind m_place m_below ar_figures m_many m_point m_exponent ar_words m_from m_to m_whole m_scale m_rest m_huge, aI G ar_text 4096 m_text, aI G ar_figures 4096 m_figs, aI G ar_words 800 m_wds]) : gAt l G m_Mo_find w0 res w1 2 [(0, .ref ad_m), (1, .int x1), (2, .int x2), (3, .int x3)] [] [oMo ad_m m_thrown ar_text m_length m_kind m_place m_below ar_figures m_many m_point m_exponent ar_words m_from m_to m_whole m_scale m_rest m_huge, aI G ar_text 4096 m_text, aI G ar_figures 4096 m_figs, aI G ar_words 800 m_wds] := by
  refine a_iload_n 3 dMo_find_2 rfl ?_
  refine a_aload_n 0 dMo_find_3 rfl ?_
  refine a_get (ci := 6) (kx := 7) 0 dMo_find_4 rfl I_Mo w_655 rfl (by decide) rfl ?_
  refine a_icmp_ge 25 dMo_find_7 (by decide) (fun c1 => ?_) (fun c1 => ?_)
  · exact (k0 c1)
  · refine a_aload_n 0 dMo_find_10 rfl ?_
    refine a_get (ci := 6) (kx := 6) 0 dMo_find_11 rfl I_Mo w_654 rfl (by decide) rfl ?_
    refine a_iload_n 3 dMo_find_14 rfl ?_
    refine a_iald 2 dMo_find_15 rfl (s1 c1) ?_
    refine a_if_ne 25 dMo_find_16 (by decide) (fun c2 => ?_) (fun c2 => ?_)
    · exact (k2 c1 c2)
    · refine a_iinc 3 (x3 + 1) [(3, .int (x3 + 1)), (0, .ref ad_m), (1, .int x1), (2, .int x2)] dMo_find_19 rfl rfl (by decide) rfl ?_
      refine a_goto 2 dMo_find_22 (by decide) ?_
      refine a_lv [(0, .ref ad_m), (1, .int x1), (2, .int x2), (3, .int (x3 + 1))] [1, 2, 3, 0] rfl ?_
      exact (k3 c1 c2)

set_option maxRecDepth 20000 in
theorem b_Mo_find_25 {l : Launch} {G : gG} {w0 w1 : va_W} {res : Option Value} {ad_m ar_text ar_figures ar_words : Nat} {m_thrown m_length m_kind m_place m_below m_many m_point m_from m_to m_rest m_huge : Int32} {m_exponent m_whole m_scale : Int64} {m_text m_figs m_wds : Nat → Int32} {x1 : Int32} {x2 : Int32} {x3 : Int32} (k0 : (¬ x3 = m_many) → (¬ m_kind = 0) → gAt l G m_Mo_find w0 res w1 78 [(0, .ref ad_m), (1, .int x1), (2, .int x2), (3, .int x3)] [.int x2, .int x1, .int x3, .ref ad_m] [oMo ad_m m_thrown ar_text m_length m_kind m_place m_below ar_figures m_many m_point m_exponent ar_words m_from m_to m_whole m_scale m_rest m_huge, aI G ar_text 4096 m_text, aI G ar_figures 4096 m_figs, aI G ar_words 800 m_wds]) (k1 : (¬ x3 = m_many) → (m_kind = 0) → gAt l G m_Mo_find w0 res w1 68 [(0, .ref ad_m), (1, .int x1), (2, .int x2), (3, .int x3)] [.int x2, .int x1, .int x3, .ref ad_m] [oMo ad_m m_thrown ar_text m_length m_kind m_place m_below ar_figures m_many m_point m_exponent ar_words m_from m_to m_whole m_scale m_rest m_huge, aI G ar_text 4096 m_text, aI G ar_figures 4096 m_figs, aI G ar_words 800 m_wds]) (k2 : (x3 = m_many) → gAt l G m_Mo_find w0 res w1 81 [(0, .ref ad_m), (1, .int x1), (2, .int x2), (3, .int x3)] [] [oMo ad_m m_thrown ar_text m_length m_kind m_place m_below ar_figures m_many m_point m_exponent ar_words m_from m_to (0 : Int64) (Int32.toInt64 x2) (0 : Int32) (0 : Int32), aI G ar_text 4096 m_text, aI G ar_figures 4096 m_figs, aI G ar_words 800 m_wds]) : gAt l G m_Mo_find w0 res w1 25 [(0, .ref ad_m), (1, .int x1), (2, .int x2), (3, .int x3)] [] [oMo ad_m m_thrown ar_text m_length m_kind m_place m_below ar_figures m_many m_point m_exponent ar_words m_from m_to m_whole m_scale m_rest m_huge, aI G ar_text 4096 m_text, aI G ar_figures 4096 m_figs, aI G ar_words 800 m_wds] := by
  refine a_iload_n 3 dMo_find_25 rfl ?_
  refine a_aload_n 0 dMo_find_26 rfl ?_
  refine a_get (ci := 6) (kx := 7) 0 dMo_find_27 rfl I_Mo w_655 rfl (by decide) rfl ?_
  refine a_icmp_ne 57 dMo_find_30 (by decide) (fun c1 => ?_) (fun c1 => ?_)
  · refine a_aload_n 0 dMo_find_57 rfl ?_
    refine a_get (ci := 6) (kx := 3) 0 dMo_find_58 rfl I_Mo w_651 rfl (by decide) rfl ?_
    refine a_if_ne 74 dMo_find_61 (by decide) (fun c2 => ?_) (fun c2 => ?_)
    · refine a_aload_n 0 dMo_find_74 rfl ?_
      refine a_iload_n 3 dMo_find_75 rfl ?_
      refine a_iload_n 1 dMo_find_76 rfl ?_
      refine a_iload_n 2 dMo_find_77 rfl ?_
      exact (k0 c1 c2)
    · refine a_aload_n 0 dMo_find_64 rfl ?_
      refine a_iload_n 3 dMo_find_65 rfl ?_
      refine a_iload_n 1 dMo_find_66 rfl ?_
      refine a_iload_n 2 dMo_find_67 rfl ?_
      exact (k1 c1 c2)
  · refine a_aload_n 0 dMo_find_33 rfl ?_
    refine a_iconst (0 : Int32) dMo_find_34 (by decide) ?_
    refine a_put (ci := 6) (kx := 16) ty_Mo 0 [oMo ad_m m_thrown ar_text m_length m_kind m_place m_below ar_figures m_many m_point m_exponent ar_words m_from m_to m_whole m_scale m_rest (0 : Int32), aI G ar_text 4096 m_text, aI G ar_figures 4096 m_figs, aI G ar_words 800 m_wds] dMo_find_35 rfl I_Mo tyo_Mo nmo_Mo w_664 rfl (by decide) rfl (by decide) (by decide) (Nat.le_of_ble_eq_true rfl) rfl ?_
    refine a_aload_n 0 dMo_find_38 rfl ?_
    refine a_lconst (0 : Int64) dMo_find_39 (by decide) ?_
    refine a_put (ci := 6) (kx := 13) ty_Mo 0 [oMo ad_m m_thrown ar_text m_length m_kind m_place m_below ar_figures m_many m_point m_exponent ar_words m_from m_to (0 : Int64) m_scale m_rest (0 : Int32), aI G ar_text 4096 m_text, aI G ar_figures 4096 m_figs, aI G ar_words 800 m_wds] dMo_find_40 rfl I_Mo tyo_Mo nmo_Mo w_661 rfl (by decide) rfl rfl rfl (Nat.le_of_ble_eq_true rfl) rfl ?_
    refine a_aload_n 0 dMo_find_43 rfl ?_
    refine a_iload_n 2 dMo_find_44 rfl ?_
    refine a_i2l dMo_find_45 ?_
    refine a_put (ci := 6) (kx := 14) ty_Mo 0 [oMo ad_m m_thrown ar_text m_length m_kind m_place m_below ar_figures m_many m_point m_exponent ar_words m_from m_to (0 : Int64) (Int32.toInt64 x2) m_rest (0 : Int32), aI G ar_text 4096 m_text, aI G ar_figures 4096 m_figs, aI G ar_words 800 m_wds] dMo_find_46 rfl I_Mo tyo_Mo nmo_Mo w_662 rfl (by decide) rfl rfl rfl (Nat.le_of_ble_eq_true rfl) rfl ?_
    refine a_aload_n 0 dMo_find_49 rfl ?_
    refine a_iconst (0 : Int32) dMo_find_50 (by decide) ?_
    refine a_put (ci := 6) (kx := 15) ty_Mo 0 [oMo ad_m m_thrown ar_text m_length m_kind m_place m_below ar_figures m_many m_point m_exponent ar_words m_from m_to (0 : Int64) (Int32.toInt64 x2) (0 : Int32) (0 : Int32), aI G ar_text 4096 m_text, aI G ar_figures 4096 m_figs, aI G ar_words 800 m_wds] dMo_find_51 rfl I_Mo tyo_Mo nmo_Mo w_663 rfl (by decide) rfl rfl rfl (Nat.le_of_ble_eq_true rfl) rfl ?_
    refine a_goto 81 dMo_find_54 (by decide) ?_
    exact (k2 c1)

set_option maxRecDepth 20000 in
theorem k_Mo_find_68 {l : Launch} {G : gG} {w0 w1 : va_W} {res : Option Value} {ad_m ar_text ar_figures ar_words : Nat} {m_thrown m_length m_kind m_place m_below m_many m_point m_from m_to m_rest m_huge : Int32} {m_exponent m_whole m_scale : Int64} {m_text m_figs m_wds : Nat → Int32} {x1 : Int32} {x2 : Int32} {x3 : Int32} {v0 : Int32} {v1 : Int32} {v2 : Int32} {m_thrown' m_length' m_kind' m_place' m_below' m_many' m_point' m_from' m_to' m_rest' m_huge' : Int32} {m_exponent' m_whole' m_scale' : Int64} {m_text' m_figs' m_wds' : Nat → Int32} (hc : gCt l G m_Mo_findDecimal [.ref ad_m, .int v2, .int v1, .int v0] [oMo ad_m m_thrown ar_text m_length m_kind m_place m_below ar_figures m_many m_point m_exponent ar_words m_from m_to m_whole m_scale m_rest m_huge, aI G ar_text 4096 m_text, aI G ar_figures 4096 m_figs, aI G ar_words 800 m_wds] none [oMo ad_m m_thrown' ar_text m_length' m_kind' m_place' m_below' ar_figures m_many' m_point' m_exponent' ar_words m_from' m_to' m_whole' m_scale' m_rest' m_huge', aI G ar_text 4096 m_text', aI G ar_figures 4096 m_figs', aI G ar_words 800 m_wds']) (k : gAt l G m_Mo_find w0 res w1 71 [(0, .ref ad_m), (1, .int x1), (2, .int x2), (3, .int x3)] [] [oMo ad_m m_thrown' ar_text m_length' m_kind' m_place' m_below' ar_figures m_many' m_point' m_exponent' ar_words m_from' m_to' m_whole' m_scale' m_rest' m_huge', aI G ar_text 4096 m_text', aI G ar_figures 4096 m_figs', aI G ar_words 800 m_wds']) : gAt l G m_Mo_find w0 res w1 68 [(0, .ref ad_m), (1, .int x1), (2, .int x2), (3, .int x3)] [.int v0, .int v1, .int v2, .ref ad_m] [oMo ad_m m_thrown ar_text m_length m_kind m_place m_below ar_figures m_many m_point m_exponent ar_words m_from m_to m_whole m_scale m_rest m_huge, aI G ar_text 4096 m_text, aI G ar_figures 4096 m_figs, aI G ar_words 800 m_wds] :=
  a_callV (As := [.int v2, .int v1, .int v0]) (rest := []) (wc := [oMo ad_m m_thrown ar_text m_length m_kind m_place m_below ar_figures m_many m_point m_exponent ar_words m_from m_to m_whole m_scale m_rest m_huge, aI G ar_text 4096 m_text, aI G ar_figures 4096 m_figs, aI G ar_words 800 m_wds]) (wr := []) (w1c := [oMo ad_m m_thrown' ar_text m_length' m_kind' m_place' m_below' ar_figures m_many' m_point' m_exponent' ar_words m_from' m_to' m_whole' m_scale' m_rest' m_huge', aI G ar_text 4096 m_text', aI G ar_figures 4096 m_figs', aI G ar_words 800 m_wds']) (r := none) [oMo ad_m m_thrown' ar_text m_length' m_kind' m_place' m_below' ar_figures m_many' m_point' m_exponent' ar_words m_from' m_to' m_whole' m_scale' m_rest' m_huge', aI G ar_text 4096 m_text', aI G ar_figures 4096 m_figs', aI G ar_words 800 m_wds'] [0, 1, 2, 3] [] [0, 1, 2, 3] (ci := 6) (q0 := 0) hc dMo_find_68 rfl ok_Mo_findDecimal ⟨Nat.le_of_ble_eq_true rfl, Nat.le_of_ble_eq_true rfl⟩ w_785 w_787 sl_64 rfl rfl rfl rfl rfl rfl (by decide) rfl rfl (Nat.le_of_ble_eq_true rfl) k

set_option maxRecDepth 20000 in
theorem b_Mo_find_71 {l : Launch} {G : gG} {w0 w1 : va_W} {res : Option Value} {ad_m ar_text ar_figures ar_words : Nat} {m_thrown m_length m_kind m_place m_below m_many m_point m_from m_to m_rest m_huge : Int32} {m_exponent m_whole m_scale : Int64} {m_text m_figs m_wds : Nat → Int32} {x1 : Int32} {x2 : Int32} {x3 : Int32} (k0 : gAt l G m_Mo_find w0 res w1 81 [(0, .ref ad_m), (1, .int x1), (2, .int x2), (3, .int x3)] [] [oMo ad_m m_thrown ar_text m_length m_kind m_place m_below ar_figures m_many m_point m_exponent ar_words m_from m_to m_whole m_scale m_rest m_huge, aI G ar_text 4096 m_text, aI G ar_figures 4096 m_figs, aI G ar_words 800 m_wds]) : gAt l G m_Mo_find w0 res w1 71 [(0, .ref ad_m), (1, .int x1), (2, .int x2), (3, .int x3)] [] [oMo ad_m m_thrown ar_text m_length m_kind m_place m_below ar_figures m_many m_point m_exponent ar_words m_from m_to m_whole m_scale m_rest m_huge, aI G ar_text 4096 m_text, aI G ar_figures 4096 m_figs, aI G ar_words 800 m_wds] := by
  refine a_goto 81 dMo_find_71 (by decide) ?_
  exact k0

set_option maxRecDepth 20000 in
theorem k_Mo_find_78 {l : Launch} {G : gG} {w0 w1 : va_W} {res : Option Value} {ad_m ar_text ar_figures ar_words : Nat} {m_thrown m_length m_kind m_place m_below m_many m_point m_from m_to m_rest m_huge : Int32} {m_exponent m_whole m_scale : Int64} {m_text m_figs m_wds : Nat → Int32} {x1 : Int32} {x2 : Int32} {x3 : Int32} {v0 : Int32} {v1 : Int32} {v2 : Int32} {m_thrown' m_length' m_kind' m_place' m_below' m_many' m_point' m_from' m_to' m_rest' m_huge' : Int32} {m_exponent' m_whole' m_scale' : Int64} {m_text' m_figs' m_wds' : Nat → Int32} (hc : gCt l G m_Mo_findHexadecimal [.ref ad_m, .int v2, .int v1, .int v0] [oMo ad_m m_thrown ar_text m_length m_kind m_place m_below ar_figures m_many m_point m_exponent ar_words m_from m_to m_whole m_scale m_rest m_huge, aI G ar_text 4096 m_text, aI G ar_figures 4096 m_figs, aI G ar_words 800 m_wds] none [oMo ad_m m_thrown' ar_text m_length' m_kind' m_place' m_below' ar_figures m_many' m_point' m_exponent' ar_words m_from' m_to' m_whole' m_scale' m_rest' m_huge', aI G ar_text 4096 m_text', aI G ar_figures 4096 m_figs', aI G ar_words 800 m_wds']) (k : gAt l G m_Mo_find w0 res w1 81 [(0, .ref ad_m), (1, .int x1), (2, .int x2), (3, .int x3)] [] [oMo ad_m m_thrown' ar_text m_length' m_kind' m_place' m_below' ar_figures m_many' m_point' m_exponent' ar_words m_from' m_to' m_whole' m_scale' m_rest' m_huge', aI G ar_text 4096 m_text', aI G ar_figures 4096 m_figs', aI G ar_words 800 m_wds']) : gAt l G m_Mo_find w0 res w1 78 [(0, .ref ad_m), (1, .int x1), (2, .int x2), (3, .int x3)] [.int v0, .int v1, .int v2, .ref ad_m] [oMo ad_m m_thrown ar_text m_length m_kind m_place m_below ar_figures m_many m_point m_exponent ar_words m_from m_to m_whole m_scale m_rest m_huge, aI G ar_text 4096 m_text, aI G ar_figures 4096 m_figs, aI G ar_words 800 m_wds] :=
  a_callV (As := [.int v2, .int v1, .int v0]) (rest := []) (wc := [oMo ad_m m_thrown ar_text m_length m_kind m_place m_below ar_figures m_many m_point m_exponent ar_words m_from m_to m_whole m_scale m_rest m_huge, aI G ar_text 4096 m_text, aI G ar_figures 4096 m_figs, aI G ar_words 800 m_wds]) (wr := []) (w1c := [oMo ad_m m_thrown' ar_text m_length' m_kind' m_place' m_below' ar_figures m_many' m_point' m_exponent' ar_words m_from' m_to' m_whole' m_scale' m_rest' m_huge', aI G ar_text 4096 m_text', aI G ar_figures 4096 m_figs', aI G ar_words 800 m_wds']) (r := none) [oMo ad_m m_thrown' ar_text m_length' m_kind' m_place' m_below' ar_figures m_many' m_point' m_exponent' ar_words m_from' m_to' m_whole' m_scale' m_rest' m_huge', aI G ar_text 4096 m_text', aI G ar_figures 4096 m_figs', aI G ar_words 800 m_wds'] [0, 1, 2, 3] [] [0, 1, 2, 3] (ci := 6) (q0 := 0) hc dMo_find_78 rfl ok_Mo_findHexadecimal ⟨Nat.le_of_ble_eq_true rfl, Nat.le_of_ble_eq_true rfl⟩ w_811 w_813 sl_69 rfl rfl rfl rfl rfl rfl (by decide) rfl rfl (Nat.le_of_ble_eq_true rfl) k

set_option maxRecDepth 20000 in
theorem b_Mo_find_81 {l : Launch} {G : gG} {w0 w1 : va_W} {res : Option Value} {ad_m ar_text ar_figures ar_words : Nat} {m_thrown m_length m_kind m_place m_below m_many m_point m_from m_to m_rest m_huge : Int32} {m_exponent m_whole m_scale : Int64} {m_text m_figs m_wds : Nat → Int32} {x1 : Int32} {x2 : Int32} {x3 : Int32} (k0 : res = none ∧ [oMo ad_m m_thrown ar_text m_length m_kind m_place m_below ar_figures m_many m_point m_exponent ar_words m_from m_to m_whole m_scale m_rest m_huge, aI G ar_text 4096 m_text, aI G ar_figures 4096 m_figs, aI G ar_words 800 m_wds] = w1) : gAt l G m_Mo_find w0 res w1 81 [(0, .ref ad_m), (1, .int x1), (2, .int x2), (3, .int x3)] [] [oMo ad_m m_thrown ar_text m_length m_kind m_place m_below ar_figures m_many m_point m_exponent ar_words m_from m_to m_whole m_scale m_rest m_huge, aI G ar_text 4096 m_text, aI G ar_figures 4096 m_figs, aI G ar_words 800 m_wds] := by
  exact a_vret (st := []) dMo_find_81 rfl k0.1 k0.2

set_option maxRecDepth 20000 in
theorem b_Mo_findDecimal_0 {l : Launch} {G : gG} {w0 w1 : va_W} {res : Option Value} {ad_m ar_text ar_figures ar_words : Nat} {m_thrown m_length m_kind m_place m_below m_many m_point m_from m_to m_rest m_huge : Int32} {m_exponent m_whole m_scale : Int64} {m_text m_figs m_wds : Nat → Int32} {x1 : Int32} {x2 : Int32} {x3 : Int32} (k0 : ((lg_cmp ((Int32.toInt64 (m_point - x1)) + m_exponent) (400 : Int64)) ≤ 0) → gAt l G m_Mo_findDecimal w0 res w1 29 [(0, .ref ad_m), (1, .int x1), (2, .int x2), (3, .int x3), (4, .long ((Int32.toInt64 (m_point - x1)) + m_exponent))] [.int (0 : Int32), .ref ad_m] [oMo ad_m m_thrown ar_text m_length m_kind m_place m_below ar_figures m_many m_point m_exponent ar_words m_from m_to m_whole m_scale m_rest m_huge, aI G ar_text 4096 m_text, aI G ar_figures 4096 m_figs, aI G ar_words 800 m_wds]) (k1 : (¬ (lg_cmp ((Int32.toInt64 (m_point - x1)) + m_exponent) (400 : Int64)) ≤ 0) → gAt l G m_Mo_findDecimal w0 res w1 29 [(0, .ref ad_m), (1, .int x1), (2, .int x2), (3, .int x3), (4, .long ((Int32.toInt64 (m_point - x1)) + m_exponent))] [.int (1 : Int32), .ref ad_m] [oMo ad_m m_thrown ar_text m_length m_kind m_place m_below ar_figures m_many m_point m_exponent ar_words m_from m_to m_whole m_scale m_rest m_huge, aI G ar_text 4096 m_text, aI G ar_figures 4096 m_figs, aI G ar_words 800 m_wds]) : gAt l G m_Mo_findDecimal w0 res w1 0 [(0, .ref ad_m), (1, .int x1), (2, .int x2), (3, .int x3)] [] [oMo ad_m m_thrown ar_text m_length m_kind m_place m_below ar_figures m_many m_point m_exponent ar_words m_from m_to m_whole m_scale m_rest m_huge, aI G ar_text 4096 m_text, aI G ar_figures 4096 m_figs, aI G ar_words 800 m_wds] := by
  refine a_aload_n 0 dMo_findDecimal_0 rfl ?_
  refine a_get (ci := 6) (kx := 8) 0 dMo_findDecimal_1 rfl I_Mo w_656 rfl (by decide) rfl ?_
  refine a_iload_n 1 dMo_findDecimal_4 rfl ?_
  refine a_isub dMo_findDecimal_5 ?_
  refine a_i2l dMo_findDecimal_6 ?_
  refine a_aload_n 0 dMo_findDecimal_7 rfl ?_
  refine a_get (ci := 6) (kx := 9) 0 dMo_findDecimal_8 rfl I_Mo w_657 rfl (by decide) rfl ?_
  refine a_ladd dMo_findDecimal_11 ?_
  refine a_lstore [(4, .long ((Int32.toInt64 (m_point - x1)) + m_exponent)), (0, .ref ad_m), (1, .int x1), (2, .int x2), (3, .int x3)] dMo_findDecimal_12 (by decide) rfl ?_
  refine a_aload_n 1 dMo_findDecimal_14 rfl ?_
  refine a_lload 0 dMo_findDecimal_15 rfl ?_
  refine a_ldc2 (400 : Int64) dMo_findDecimal_17 w_789 ?_
  refine a_lcmp dMo_findDecimal_20 ?_
  refine a_if_le 28 dMo_findDecimal_21 (by decide) (fun c1 => ?_) (fun c1 => ?_)
  · refine a_iconst (0 : Int32) dMo_findDecimal_28 (by decide) ?_
    refine a_lv [(0, .ref ad_m), (1, .int x1), (2, .int x2), (3, .int x3), (4, .long ((Int32.toInt64 (m_point - x1)) + m_exponent))] [1, 2, 3, 4, 0] rfl ?_
    exact (k0 c1)
  · refine a_iconst (1 : Int32) dMo_findDecimal_24 (by decide) ?_
    refine a_goto 29 dMo_findDecimal_25 (by decide) ?_
    refine a_lv [(0, .ref ad_m), (1, .int x1), (2, .int x2), (3, .int x3), (4, .long ((Int32.toInt64 (m_point - x1)) + m_exponent))] [1, 2, 3, 4, 0] rfl ?_
    exact (k1 c1)

set_option maxRecDepth 20000 in
theorem b_Mo_findDecimal_29 {l : Launch} {G : gG} {w0 w1 : va_W} {res : Option Value} {ad_m ar_text ar_figures ar_words : Nat} {m_thrown m_length m_kind m_place m_below m_many m_point m_from m_to m_rest m_huge : Int32} {m_exponent m_whole m_scale : Int64} {m_text m_figs m_wds : Nat → Int32} {x1 : Int32} {x2 : Int32} {x3 : Int32} {x4 : Int64} {v0 : Int32} (s0 : narrow .boolean (.int v0) = .int v0 ∧ fits .boolean (.int v0) = true) (k1 : (¬ v0 = 0) → gAt l G m_Mo_findDecimal w0 res w1 48 [(0, .ref ad_m), (1, .int x1), (2, .int x2), (3, .int x3), (4, .long x4)] [] [oMo ad_m m_thrown ar_text m_length m_kind m_place m_below ar_figures m_many m_point m_exponent ar_words m_from m_to m_whole m_scale m_rest v0, aI G ar_text 4096 m_text, aI G ar_figures 4096 m_figs, aI G ar_words 800 m_wds]) (k2 : (v0 = 0) → (0 ≤ (lg_cmp x4 (-400 : Int64))) → gAt l G m_Mo_findDecimal w0 res w1 70 [(0, .ref ad_m), (1, .int x1), (2, .int x2), (3, .int x3), (4, .long x4)] [.int (Int64.toInt32 x4), .int x1, .ref ad_m] [oMo ad_m m_thrown ar_text m_length m_kind m_place m_below ar_figures m_many m_point m_exponent ar_words m_from m_to m_whole m_scale m_rest v0, aI G ar_text 4096 m_text, aI G ar_figures 4096 m_figs, aI G ar_words 800 m_wds]) (k3 : (v0 = 0) → (¬ 0 ≤ (lg_cmp x4 (-400 : Int64))) → gAt l G m_Mo_findDecimal w0 res w1 48 [(0, .ref ad_m), (1, .int x1), (2, .int x2), (3, .int x3), (4, .long x4)] [] [oMo ad_m m_thrown ar_text m_length m_kind m_place m_below ar_figures m_many m_point m_exponent ar_words m_from m_to m_whole m_scale m_rest v0, aI G ar_text 4096 m_text, aI G ar_figures 4096 m_figs, aI G ar_words 800 m_wds]) : gAt l G m_Mo_findDecimal w0 res w1 29 [(0, .ref ad_m), (1, .int x1), (2, .int x2), (3, .int x3), (4, .long x4)] [.int v0, .ref ad_m] [oMo ad_m m_thrown ar_text m_length m_kind m_place m_below ar_figures m_many m_point m_exponent ar_words m_from m_to m_whole m_scale m_rest m_huge, aI G ar_text 4096 m_text, aI G ar_figures 4096 m_figs, aI G ar_words 800 m_wds] := by
  refine a_put (ci := 6) (kx := 16) ty_Mo 0 [oMo ad_m m_thrown ar_text m_length m_kind m_place m_below ar_figures m_many m_point m_exponent ar_words m_from m_to m_whole m_scale m_rest v0, aI G ar_text 4096 m_text, aI G ar_figures 4096 m_figs, aI G ar_words 800 m_wds] dMo_findDecimal_29 rfl I_Mo tyo_Mo nmo_Mo w_664 rfl (by decide) rfl s0.1 s0.2 (Nat.le_of_ble_eq_true rfl) rfl ?_
  refine a_aload_n 0 dMo_findDecimal_32 rfl ?_
  refine a_get (ci := 6) (kx := 16) 0 dMo_findDecimal_33 rfl I_Mo w_664 rfl (by decide) rfl ?_
  refine a_if_ne 48 dMo_findDecimal_36 (by decide) (fun c1 => ?_) (fun c1 => ?_)
  · exact (k1 c1)
  · refine a_lload 4 dMo_findDecimal_39 rfl ?_
    refine a_ldc2 (-400 : Int64) dMo_findDecimal_41 w_790 ?_
    refine a_lcmp dMo_findDecimal_44 ?_
    refine a_if_ge 65 dMo_findDecimal_45 (by decide) (fun c2 => ?_) (fun c2 => ?_)
    · refine a_aload_n 0 dMo_findDecimal_65 rfl ?_
      refine a_iload_n 1 dMo_findDecimal_66 rfl ?_
      refine a_lload 4 dMo_findDecimal_67 rfl ?_
      refine a_l2i dMo_findDecimal_69 ?_
      exact (k2 c1 c2)
    · exact (k3 c1 c2)

set_option maxRecDepth 20000 in
theorem b_Mo_findDecimal_48 {l : Launch} {G : gG} {w0 w1 : va_W} {res : Option Value} {ad_m ar_text ar_figures ar_words : Nat} {m_thrown m_length m_kind m_place m_below m_many m_point m_from m_to m_rest m_huge : Int32} {m_exponent m_whole m_scale : Int64} {m_text m_figs m_wds : Nat → Int32} {x1 : Int32} {x2 : Int32} {x3 : Int32} {x4 : Int64} (k0 : res = none ∧ [oMo ad_m m_thrown ar_text m_length m_kind m_place m_below ar_figures m_many m_point m_exponent ar_words m_from m_to (0 : Int64) (Int32.toInt64 x3) (1 : Int32) m_huge, aI G ar_text 4096 m_text, aI G ar_figures 4096 m_figs, aI G ar_words 800 m_wds] = w1) : gAt l G m_Mo_findDecimal w0 res w1 48 [(0, .ref ad_m), (1, .int x1), (2, .int x2), (3, .int x3), (4, .long x4)] [] [oMo ad_m m_thrown ar_text m_length m_kind m_place m_below ar_figures m_many m_point m_exponent ar_words m_from m_to m_whole m_scale m_rest m_huge, aI G ar_text 4096 m_text, aI G ar_figures 4096 m_figs, aI G ar_words 800 m_wds] := by
  refine a_aload_n 0 dMo_findDecimal_48 rfl ?_
  refine a_lconst (0 : Int64) dMo_findDecimal_49 (by decide) ?_
  refine a_put (ci := 6) (kx := 13) ty_Mo 0 [oMo ad_m m_thrown ar_text m_length m_kind m_place m_below ar_figures m_many m_point m_exponent ar_words m_from m_to (0 : Int64) m_scale m_rest m_huge, aI G ar_text 4096 m_text, aI G ar_figures 4096 m_figs, aI G ar_words 800 m_wds] dMo_findDecimal_50 rfl I_Mo tyo_Mo nmo_Mo w_661 rfl (by decide) rfl rfl rfl (Nat.le_of_ble_eq_true rfl) rfl ?_
  refine a_aload_n 0 dMo_findDecimal_53 rfl ?_
  refine a_iload_n 3 dMo_findDecimal_54 rfl ?_
  refine a_i2l dMo_findDecimal_55 ?_
  refine a_put (ci := 6) (kx := 14) ty_Mo 0 [oMo ad_m m_thrown ar_text m_length m_kind m_place m_below ar_figures m_many m_point m_exponent ar_words m_from m_to (0 : Int64) (Int32.toInt64 x3) m_rest m_huge, aI G ar_text 4096 m_text, aI G ar_figures 4096 m_figs, aI G ar_words 800 m_wds] dMo_findDecimal_56 rfl I_Mo tyo_Mo nmo_Mo w_662 rfl (by decide) rfl rfl rfl (Nat.le_of_ble_eq_true rfl) rfl ?_
  refine a_aload_n 0 dMo_findDecimal_59 rfl ?_
  refine a_iconst (1 : Int32) dMo_findDecimal_60 (by decide) ?_
  refine a_put (ci := 6) (kx := 15) ty_Mo 0 [oMo ad_m m_thrown ar_text m_length m_kind m_place m_below ar_figures m_many m_point m_exponent ar_words m_from m_to (0 : Int64) (Int32.toInt64 x3) (1 : Int32) m_huge, aI G ar_text 4096 m_text, aI G ar_figures 4096 m_figs, aI G ar_words 800 m_wds] dMo_findDecimal_61 rfl I_Mo tyo_Mo nmo_Mo w_663 rfl (by decide) rfl rfl rfl (Nat.le_of_ble_eq_true rfl) rfl ?_
  exact a_vret (st := []) dMo_findDecimal_64 rfl k0.1 k0.2

set_option maxRecDepth 20000 in
theorem k_Mo_findDecimal_70 {l : Launch} {G : gG} {w0 w1 : va_W} {res : Option Value} {ad_m ar_text ar_figures ar_words : Nat} {m_thrown m_length m_kind m_place m_below m_many m_point m_from m_to m_rest m_huge : Int32} {m_exponent m_whole m_scale : Int64} {m_text m_figs m_wds : Nat → Int32} {x1 : Int32} {x2 : Int32} {x3 : Int32} {x4 : Int64} {v0 : Int32} {v1 : Int32} {m_thrown' m_length' m_kind' m_place' m_below' m_many' m_point' m_from' m_to' m_rest' m_huge' : Int32} {m_exponent' m_whole' m_scale' : Int64} {m_text' m_figs' m_wds' : Nat → Int32} (hc : gCt l G m_Mo_writeOut [.ref ad_m, .int v1, .int v0] [oMo ad_m m_thrown ar_text m_length m_kind m_place m_below ar_figures m_many m_point m_exponent ar_words m_from m_to m_whole m_scale m_rest m_huge, aI G ar_text 4096 m_text, aI G ar_figures 4096 m_figs, aI G ar_words 800 m_wds] none [oMo ad_m m_thrown' ar_text m_length' m_kind' m_place' m_below' ar_figures m_many' m_point' m_exponent' ar_words m_from' m_to' m_whole' m_scale' m_rest' m_huge', aI G ar_text 4096 m_text', aI G ar_figures 4096 m_figs', aI G ar_words 800 m_wds']) (k : gAt l G m_Mo_findDecimal w0 res w1 73 [(0, .ref ad_m), (1, .int x1), (2, .int x2), (3, .int x3), (4, .long x4)] [] [oMo ad_m m_thrown' ar_text m_length' m_kind' m_place' m_below' ar_figures m_many' m_point' m_exponent' ar_words m_from' m_to' m_whole' m_scale' m_rest' m_huge', aI G ar_text 4096 m_text', aI G ar_figures 4096 m_figs', aI G ar_words 800 m_wds']) : gAt l G m_Mo_findDecimal w0 res w1 70 [(0, .ref ad_m), (1, .int x1), (2, .int x2), (3, .int x3), (4, .long x4)] [.int v0, .int v1, .ref ad_m] [oMo ad_m m_thrown ar_text m_length m_kind m_place m_below ar_figures m_many m_point m_exponent ar_words m_from m_to m_whole m_scale m_rest m_huge, aI G ar_text 4096 m_text, aI G ar_figures 4096 m_figs, aI G ar_words 800 m_wds] :=
  a_callV (As := [.int v1, .int v0]) (rest := []) (wc := [oMo ad_m m_thrown ar_text m_length m_kind m_place m_below ar_figures m_many m_point m_exponent ar_words m_from m_to m_whole m_scale m_rest m_huge, aI G ar_text 4096 m_text, aI G ar_figures 4096 m_figs, aI G ar_words 800 m_wds]) (wr := []) (w1c := [oMo ad_m m_thrown' ar_text m_length' m_kind' m_place' m_below' ar_figures m_many' m_point' m_exponent' ar_words m_from' m_to' m_whole' m_scale' m_rest' m_huge', aI G ar_text 4096 m_text', aI G ar_figures 4096 m_figs', aI G ar_words 800 m_wds']) (r := none) [oMo ad_m m_thrown' ar_text m_length' m_kind' m_place' m_below' ar_figures m_many' m_point' m_exponent' ar_words m_from' m_to' m_whole' m_scale' m_rest' m_huge', aI G ar_text 4096 m_text', aI G ar_figures 4096 m_figs', aI G ar_words 800 m_wds'] [0, 1, 2, 3] [] [0, 1, 2, 3] (ci := 6) (q0 := 0) hc dMo_findDecimal_70 rfl ok_Mo_writeOut ⟨Nat.le_of_ble_eq_true rfl, Nat.le_of_ble_eq_true rfl⟩ w_791 w_793 sl_65 rfl rfl rfl rfl rfl rfl (by decide) rfl rfl (Nat.le_of_ble_eq_true rfl) k

set_option maxRecDepth 20000 in
theorem b_Mo_findDecimal_73 {l : Launch} {G : gG} {w0 w1 : va_W} {res : Option Value} {ad_m ar_text ar_figures ar_words : Nat} {m_thrown m_length m_kind m_place m_below m_many m_point m_from m_to m_rest m_huge : Int32} {m_exponent m_whole m_scale : Int64} {m_text m_figs m_wds : Nat → Int32} {x1 : Int32} {x2 : Int32} {x3 : Int32} {x4 : Int64} (k0 : gAt l G m_Mo_findDecimal w0 res w1 78 [(0, .ref ad_m), (1, .int x1), (2, .int x2), (3, .int x3), (4, .long x4)] [] [oMo ad_m m_thrown ar_text m_length m_kind m_place m_below ar_figures m_many m_point m_exponent ar_words m_from m_to m_whole (0 : Int64) m_rest m_huge, aI G ar_text 4096 m_text, aI G ar_figures 4096 m_figs, aI G ar_words 800 m_wds]) : gAt l G m_Mo_findDecimal w0 res w1 73 [(0, .ref ad_m), (1, .int x1), (2, .int x2), (3, .int x3), (4, .long x4)] [] [oMo ad_m m_thrown ar_text m_length m_kind m_place m_below ar_figures m_many m_point m_exponent ar_words m_from m_to m_whole m_scale m_rest m_huge, aI G ar_text 4096 m_text, aI G ar_figures 4096 m_figs, aI G ar_words 800 m_wds] := by
  refine a_aload_n 0 dMo_findDecimal_73 rfl ?_
  refine a_lconst (0 : Int64) dMo_findDecimal_74 (by decide) ?_
  refine a_put (ci := 6) (kx := 14) ty_Mo 0 [oMo ad_m m_thrown ar_text m_length m_kind m_place m_below ar_figures m_many m_point m_exponent ar_words m_from m_to m_whole (0 : Int64) m_rest m_huge, aI G ar_text 4096 m_text, aI G ar_figures 4096 m_figs, aI G ar_words 800 m_wds] dMo_findDecimal_75 rfl I_Mo tyo_Mo nmo_Mo w_662 rfl (by decide) rfl rfl rfl (Nat.le_of_ble_eq_true rfl) rfl ?_
  exact k0

set_option maxRecDepth 20000 in
theorem b_Mo_findDecimal_78 {l : Launch} {G : gG} {w0 w1 : va_W} {res : Option Value} {ad_m ar_text ar_figures ar_words : Nat} {m_thrown m_length m_kind m_place m_below m_many m_point m_from m_to m_rest m_huge : Int32} {m_exponent m_whole m_scale : Int64} {m_text m_figs m_wds : Nat → Int32} {x1 : Int32} {x2 : Int32} {x3 : Int32} {x4 : Int64} (k0 : gAt l G m_Mo_findDecimal w0 res w1 79 [(0, .ref ad_m), (1, .int x1), (2, .int x2), (3, .int x3), (4, .long x4)] [.ref ad_m] [oMo ad_m m_thrown ar_text m_length m_kind m_place m_below ar_figures m_many m_point m_exponent ar_words m_from m_to m_whole m_scale m_rest m_huge, aI G ar_text 4096 m_text, aI G ar_figures 4096 m_figs, aI G ar_words 800 m_wds]) : gAt l G m_Mo_findDecimal w0 res w1 78 [(0, .ref ad_m), (1, .int x1), (2, .int x2), (3, .int x3), (4, .long x4)] [] [oMo ad_m m_thrown ar_text m_length m_kind m_place m_below ar_figures m_many m_point m_exponent ar_words m_from m_to m_whole m_scale m_rest m_huge, aI G ar_text 4096 m_text, aI G ar_figures 4096 m_figs, aI G ar_words 800 m_wds] := by
  refine a_aload_n 0 dMo_findDecimal_78 rfl ?_
  exact k0

set_option maxRecDepth 20000 in
theorem k_Mo_findDecimal_79 {l : Launch} {G : gG} {w0 w1 : va_W} {res : Option Value} {ad_m ar_text ar_figures ar_words : Nat} {m_thrown m_length m_kind m_place m_below m_many m_point m_from m_to m_rest m_huge : Int32} {m_exponent m_whole m_scale : Int64} {m_text m_figs m_wds : Nat → Int32} {x1 : Int32} {x2 : Int32} {x3 : Int32} {x4 : Int64} {r : Int64} {m_thrown' m_length' m_kind' m_place' m_below' m_many' m_point' m_from' m_to' m_rest' m_huge' : Int32} {m_exponent' m_whole' m_scale' : Int64} {m_text' m_figs' m_wds' : Nat → Int32} (hc : gCt l G m_Mo_wholePart [.ref ad_m] [oMo ad_m m_thrown ar_text m_length m_kind m_place m_below ar_figures m_many m_point m_exponent ar_words m_from m_to m_whole m_scale m_rest m_huge, aI G ar_text 4096 m_text, aI G ar_figures 4096 m_figs, aI G ar_words 800 m_wds] (some (.long r)) [oMo ad_m m_thrown' ar_text m_length' m_kind' m_place' m_below' ar_figures m_many' m_point' m_exponent' ar_words m_from' m_to' m_whole' m_scale' m_rest' m_huge', aI G ar_text 4096 m_text', aI G ar_figures 4096 m_figs', aI G ar_words 800 m_wds']) (k : gAt l G m_Mo_findDecimal w0 res w1 82 [(0, .ref ad_m), (1, .int x1), (2, .int x2), (3, .int x3), (4, .long x4)] [.long r] [oMo ad_m m_thrown' ar_text m_length' m_kind' m_place' m_below' ar_figures m_many' m_point' m_exponent' ar_words m_from' m_to' m_whole' m_scale' m_rest' m_huge', aI G ar_text 4096 m_text', aI G ar_figures 4096 m_figs', aI G ar_words 800 m_wds']) : gAt l G m_Mo_findDecimal w0 res w1 79 [(0, .ref ad_m), (1, .int x1), (2, .int x2), (3, .int x3), (4, .long x4)] [.ref ad_m] [oMo ad_m m_thrown ar_text m_length m_kind m_place m_below ar_figures m_many m_point m_exponent ar_words m_from m_to m_whole m_scale m_rest m_huge, aI G ar_text 4096 m_text, aI G ar_figures 4096 m_figs, aI G ar_words 800 m_wds] :=
  a_callV (As := []) (rest := []) (wc := [oMo ad_m m_thrown ar_text m_length m_kind m_place m_below ar_figures m_many m_point m_exponent ar_words m_from m_to m_whole m_scale m_rest m_huge, aI G ar_text 4096 m_text, aI G ar_figures 4096 m_figs, aI G ar_words 800 m_wds]) (wr := []) (w1c := [oMo ad_m m_thrown' ar_text m_length' m_kind' m_place' m_below' ar_figures m_many' m_point' m_exponent' ar_words m_from' m_to' m_whole' m_scale' m_rest' m_huge', aI G ar_text 4096 m_text', aI G ar_figures 4096 m_figs', aI G ar_words 800 m_wds']) (r := (some (.long r))) [oMo ad_m m_thrown' ar_text m_length' m_kind' m_place' m_below' ar_figures m_many' m_point' m_exponent' ar_words m_from' m_to' m_whole' m_scale' m_rest' m_huge', aI G ar_text 4096 m_text', aI G ar_figures 4096 m_figs', aI G ar_words 800 m_wds'] [0, 1, 2, 3] [] [0, 1, 2, 3] (ci := 6) (q0 := 0) hc dMo_findDecimal_79 rfl ok_Mo_wholePart ⟨Nat.le_of_ble_eq_true rfl, Nat.le_of_ble_eq_true rfl⟩ w_795 w_797 sl_66 rfl rfl rfl rfl rfl rfl (by decide) rfl rfl (Nat.le_of_ble_eq_true rfl) k

set_option maxRecDepth 20000 in
theorem b_Mo_findDecimal_82 {l : Launch} {G : gG} {w0 w1 : va_W} {res : Option Value} {ad_m ar_text ar_figures ar_words : Nat} {m_thrown m_length m_kind m_place m_below m_many m_point m_from m_to m_rest m_huge : Int32} {m_exponent m_whole m_scale : Int64} {m_text m_figs m_wds : Nat → Int32} {x1 : Int32} {x2 : Int32} {x3 : Int32} {x4 : Int64} {v0 : Int64} (k0 : ((lg_cmp v0 ((1 : Int64) <<< ((Int32.toInt64 x2) &&& 63))) < 0) → gAt l G m_Mo_findDecimal w0 res w1 106 [(0, .ref ad_m), (1, .int x1), (2, .int x2), (3, .int x3), (4, .long x4)] [] [oMo ad_m m_thrown ar_text m_length m_kind m_place m_below ar_figures m_many m_point m_exponent ar_words m_from m_to m_whole m_scale m_rest m_huge, aI G ar_text 4096 m_text, aI G ar_figures 4096 m_figs, aI G ar_words 800 m_wds]) (k1 : (¬ (lg_cmp v0 ((1 : Int64) <<< ((Int32.toInt64 x2) &&& 63))) < 0) → gAt l G m_Mo_findDecimal w0 res w1 90 [(0, .ref ad_m), (1, .int x1), (2, .int x2), (3, .int x3), (4, .long x4)] [.ref ad_m] [oMo ad_m m_thrown ar_text m_length m_kind m_place m_below ar_figures m_many m_point m_exponent ar_words m_from m_to m_whole m_scale m_rest m_huge, aI G ar_text 4096 m_text, aI G ar_figures 4096 m_figs, aI G ar_words 800 m_wds]) : gAt l G m_Mo_findDecimal w0 res w1 82 [(0, .ref ad_m), (1, .int x1), (2, .int x2), (3, .int x3), (4, .long x4)] [.long v0] [oMo ad_m m_thrown ar_text m_length m_kind m_place m_below ar_figures m_many m_point m_exponent ar_words m_from m_to m_whole m_scale m_rest m_huge, aI G ar_text 4096 m_text, aI G ar_figures 4096 m_figs, aI G ar_words 800 m_wds] := by
  refine a_lconst (1 : Int64) dMo_findDecimal_82 (by decide) ?_
  refine a_iload_n 2 dMo_findDecimal_83 rfl ?_
  refine a_lshl dMo_findDecimal_84 ?_
  refine a_lcmp dMo_findDecimal_85 ?_
  refine a_if_lt 106 dMo_findDecimal_86 (by decide) (fun c1 => ?_) (fun c1 => ?_)
  · exact (k0 c1)
  · refine a_aload_n 0 dMo_findDecimal_89 rfl ?_
    exact (k1 c1)

set_option maxRecDepth 20000 in
theorem k_Mo_findDecimal_90 {l : Launch} {G : gG} {w0 w1 : va_W} {res : Option Value} {ad_m ar_text ar_figures ar_words : Nat} {m_thrown m_length m_kind m_place m_below m_many m_point m_from m_to m_rest m_huge : Int32} {m_exponent m_whole m_scale : Int64} {m_text m_figs m_wds : Nat → Int32} {x1 : Int32} {x2 : Int32} {x3 : Int32} {x4 : Int64} {m_thrown' m_length' m_kind' m_place' m_below' m_many' m_point' m_from' m_to' m_rest' m_huge' : Int32} {m_exponent' m_whole' m_scale' : Int64} {m_text' m_figs' m_wds' : Nat → Int32} (hc : gCt l G m_Mo_half [.ref ad_m] [oMo ad_m m_thrown ar_text m_length m_kind m_place m_below ar_figures m_many m_point m_exponent ar_words m_from m_to m_whole m_scale m_rest m_huge, aI G ar_text 4096 m_text, aI G ar_figures 4096 m_figs, aI G ar_words 800 m_wds] none [oMo ad_m m_thrown' ar_text m_length' m_kind' m_place' m_below' ar_figures m_many' m_point' m_exponent' ar_words m_from' m_to' m_whole' m_scale' m_rest' m_huge', aI G ar_text 4096 m_text', aI G ar_figures 4096 m_figs', aI G ar_words 800 m_wds']) (k : gAt l G m_Mo_findDecimal w0 res w1 93 [(0, .ref ad_m), (1, .int x1), (2, .int x2), (3, .int x3), (4, .long x4)] [] [oMo ad_m m_thrown' ar_text m_length' m_kind' m_place' m_below' ar_figures m_many' m_point' m_exponent' ar_words m_from' m_to' m_whole' m_scale' m_rest' m_huge', aI G ar_text 4096 m_text', aI G ar_figures 4096 m_figs', aI G ar_words 800 m_wds']) : gAt l G m_Mo_findDecimal w0 res w1 90 [(0, .ref ad_m), (1, .int x1), (2, .int x2), (3, .int x3), (4, .long x4)] [.ref ad_m] [oMo ad_m m_thrown ar_text m_length m_kind m_place m_below ar_figures m_many m_point m_exponent ar_words m_from m_to m_whole m_scale m_rest m_huge, aI G ar_text 4096 m_text, aI G ar_figures 4096 m_figs, aI G ar_words 800 m_wds] :=
  a_callV (As := []) (rest := []) (wc := [oMo ad_m m_thrown ar_text m_length m_kind m_place m_below ar_figures m_many m_point m_exponent ar_words m_from m_to m_whole m_scale m_rest m_huge, aI G ar_text 4096 m_text, aI G ar_figures 4096 m_figs, aI G ar_words 800 m_wds]) (wr := []) (w1c := [oMo ad_m m_thrown' ar_text m_length' m_kind' m_place' m_below' ar_figures m_many' m_point' m_exponent' ar_words m_from' m_to' m_whole' m_scale' m_rest' m_huge', aI G ar_text 4096 m_text', aI G ar_figures 4096 m_figs', aI G ar_words 800 m_wds']) (r := none) [oMo ad_m m_thrown' ar_text m_length' m_kind' m_place' m_below' ar_figures m_many' m_point' m_exponent' ar_words m_from' m_to' m_whole' m_scale' m_rest' m_huge', aI G ar_text 4096 m_text', aI G ar_figures 4096 m_figs', aI G ar_words 800 m_wds'] [0, 1, 2, 3] [] [0, 1, 2, 3] (ci := 6) (q0 := 0) hc dMo_findDecimal_90 rfl ok_Mo_half ⟨Nat.le_of_ble_eq_true rfl, Nat.le_of_ble_eq_true rfl⟩ w_801 w_803 sl_67 rfl rfl rfl rfl rfl rfl (by decide) rfl rfl (Nat.le_of_ble_eq_true rfl) k

set_option maxRecDepth 20000 in
theorem b_Mo_findDecimal_93 {l : Launch} {G : gG} {w0 w1 : va_W} {res : Option Value} {ad_m ar_text ar_figures ar_words : Nat} {m_thrown m_length m_kind m_place m_below m_many m_point m_from m_to m_rest m_huge : Int32} {m_exponent m_whole m_scale : Int64} {m_text m_figs m_wds : Nat → Int32} {x1 : Int32} {x2 : Int32} {x3 : Int32} {x4 : Int64} (k0 : gAt l G m_Mo_findDecimal w0 res w1 78 [(0, .ref ad_m), (1, .int x1), (2, .int x2), (3, .int x3), (4, .long x4)] [] [oMo ad_m m_thrown ar_text m_length m_kind m_place m_below ar_figures m_many m_point m_exponent ar_words m_from m_to m_whole (m_scale + (1 : Int64)) m_rest m_huge, aI G ar_text 4096 m_text, aI G ar_figures 4096 m_figs, aI G ar_words 800 m_wds]) : gAt l G m_Mo_findDecimal w0 res w1 93 [(0, .ref ad_m), (1, .int x1), (2, .int x2), (3, .int x3), (4, .long x4)] [] [oMo ad_m m_thrown ar_text m_length m_kind m_place m_below ar_figures m_many m_point m_exponent ar_words m_from m_to m_whole m_scale m_rest m_huge, aI G ar_text 4096 m_text, aI G ar_figures 4096 m_figs, aI G ar_words 800 m_wds] := by
  refine a_aload_n 0 dMo_findDecimal_93 rfl ?_
  refine a_dup dMo_findDecimal_94 rfl ?_
  refine a_get (ci := 6) (kx := 14) 0 dMo_findDecimal_95 rfl I_Mo w_662 rfl (by decide) rfl ?_
  refine a_lconst (1 : Int64) dMo_findDecimal_98 (by decide) ?_
  refine a_ladd dMo_findDecimal_99 ?_
  refine a_put (ci := 6) (kx := 14) ty_Mo 0 [oMo ad_m m_thrown ar_text m_length m_kind m_place m_below ar_figures m_many m_point m_exponent ar_words m_from m_to m_whole (m_scale + (1 : Int64)) m_rest m_huge, aI G ar_text 4096 m_text, aI G ar_figures 4096 m_figs, aI G ar_words 800 m_wds] dMo_findDecimal_100 rfl I_Mo tyo_Mo nmo_Mo w_662 rfl (by decide) rfl rfl rfl (Nat.le_of_ble_eq_true rfl) rfl ?_
  refine a_goto 78 dMo_findDecimal_103 (by decide) ?_
  exact k0

set_option maxRecDepth 20000 in
theorem b_Mo_findDecimal_106 {l : Launch} {G : gG} {w0 w1 : va_W} {res : Option Value} {ad_m ar_text ar_figures ar_words : Nat} {m_thrown m_length m_kind m_place m_below m_many m_point m_from m_to m_rest m_huge : Int32} {m_exponent m_whole m_scale : Int64} {m_text m_figs m_wds : Nat → Int32} {x1 : Int32} {x2 : Int32} {x3 : Int32} {x4 : Int64} (k0 : gAt l G m_Mo_findDecimal w0 res w1 107 [(0, .ref ad_m), (1, .int x1), (2, .int x2), (3, .int x3), (4, .long x4)] [.ref ad_m] [oMo ad_m m_thrown ar_text m_length m_kind m_place m_below ar_figures m_many m_point m_exponent ar_words m_from m_to m_whole m_scale m_rest m_huge, aI G ar_text 4096 m_text, aI G ar_figures 4096 m_figs, aI G ar_words 800 m_wds]) : gAt l G m_Mo_findDecimal w0 res w1 106 [(0, .ref ad_m), (1, .int x1), (2, .int x2), (3, .int x3), (4, .long x4)] [] [oMo ad_m m_thrown ar_text m_length m_kind m_place m_below ar_figures m_many m_point m_exponent ar_words m_from m_to m_whole m_scale m_rest m_huge, aI G ar_text 4096 m_text, aI G ar_figures 4096 m_figs, aI G ar_words 800 m_wds] := by
  refine a_aload_n 0 dMo_findDecimal_106 rfl ?_
  exact k0

set_option maxRecDepth 20000 in
theorem k_Mo_findDecimal_107 {l : Launch} {G : gG} {w0 w1 : va_W} {res : Option Value} {ad_m ar_text ar_figures ar_words : Nat} {m_thrown m_length m_kind m_place m_below m_many m_point m_from m_to m_rest m_huge : Int32} {m_exponent m_whole m_scale : Int64} {m_text m_figs m_wds : Nat → Int32} {x1 : Int32} {x2 : Int32} {x3 : Int32} {x4 : Int64} {r : Int64} {m_thrown' m_length' m_kind' m_place' m_below' m_many' m_point' m_from' m_to' m_rest' m_huge' : Int32} {m_exponent' m_whole' m_scale' : Int64} {m_text' m_figs' m_wds' : Nat → Int32} (hc : gCt l G m_Mo_wholePart [.ref ad_m] [oMo ad_m m_thrown ar_text m_length m_kind m_place m_below ar_figures m_many m_point m_exponent ar_words m_from m_to m_whole m_scale m_rest m_huge, aI G ar_text 4096 m_text, aI G ar_figures 4096 m_figs, aI G ar_words 800 m_wds] (some (.long r)) [oMo ad_m m_thrown' ar_text m_length' m_kind' m_place' m_below' ar_figures m_many' m_point' m_exponent' ar_words m_from' m_to' m_whole' m_scale' m_rest' m_huge', aI G ar_text 4096 m_text', aI G ar_figures 4096 m_figs', aI G ar_words 800 m_wds']) (k : gAt l G m_Mo_findDecimal w0 res w1 110 [(0, .ref ad_m), (1, .int x1), (2, .int x2), (3, .int x3), (4, .long x4)] [.long r] [oMo ad_m m_thrown' ar_text m_length' m_kind' m_place' m_below' ar_figures m_many' m_point' m_exponent' ar_words m_from' m_to' m_whole' m_scale' m_rest' m_huge', aI G ar_text 4096 m_text', aI G ar_figures 4096 m_figs', aI G ar_words 800 m_wds']) : gAt l G m_Mo_findDecimal w0 res w1 107 [(0, .ref ad_m), (1, .int x1), (2, .int x2), (3, .int x3), (4, .long x4)] [.ref ad_m] [oMo ad_m m_thrown ar_text m_length m_kind m_place m_below ar_figures m_many m_point m_exponent ar_words m_from m_to m_whole m_scale m_rest m_huge, aI G ar_text 4096 m_text, aI G ar_figures 4096 m_figs, aI G ar_words 800 m_wds] :=
  a_callV (As := []) (rest := []) (wc := [oMo ad_m m_thrown ar_text m_length m_kind m_place m_below ar_figures m_many m_point m_exponent ar_words m_from m_to m_whole m_scale m_rest m_huge, aI G ar_text 4096 m_text, aI G ar_figures 4096 m_figs, aI G ar_words 800 m_wds]) (wr := []) (w1c := [oMo ad_m m_thrown' ar_text m_length' m_kind' m_place' m_below' ar_figures m_many' m_point' m_exponent' ar_words m_from' m_to' m_whole' m_scale' m_rest' m_huge', aI G ar_text 4096 m_text', aI G ar_figures 4096 m_figs', aI G ar_words 800 m_wds']) (r := (some (.long r))) [oMo ad_m m_thrown' ar_text m_length' m_kind' m_place' m_below' ar_figures m_many' m_point' m_exponent' ar_words m_from' m_to' m_whole' m_scale' m_rest' m_huge', aI G ar_text 4096 m_text', aI G ar_figures 4096 m_figs', aI G ar_words 800 m_wds'] [0, 1, 2, 3] [] [0, 1, 2, 3] (ci := 6) (q0 := 0) hc dMo_findDecimal_107 rfl ok_Mo_wholePart ⟨Nat.le_of_ble_eq_true rfl, Nat.le_of_ble_eq_true rfl⟩ w_795 w_797 sl_66 rfl rfl rfl rfl rfl rfl (by decide) rfl rfl (Nat.le_of_ble_eq_true rfl) k

set_option maxRecDepth 20000 in
theorem b_Mo_findDecimal_110 {l : Launch} {G : gG} {w0 w1 : va_W} {res : Option Value} {ad_m ar_text ar_figures ar_words : Nat} {m_thrown m_length m_kind m_place m_below m_many m_point m_from m_to m_rest m_huge : Int32} {m_exponent m_whole m_scale : Int64} {m_text m_figs m_wds : Nat → Int32} {x1 : Int32} {x2 : Int32} {x3 : Int32} {x4 : Int64} {v0 : Int64} (k0 : (0 ≤ (lg_cmp v0 ((1 : Int64) <<< ((Int32.toInt64 (x2 - (1 : Int32))) &&& 63)))) → gAt l G m_Mo_findDecimal w0 res w1 146 [(0, .ref ad_m), (1, .int x1), (2, .int x2), (3, .int x3), (4, .long x4)] [] [oMo ad_m m_thrown ar_text m_length m_kind m_place m_below ar_figures m_many m_point m_exponent ar_words m_from m_to m_whole m_scale m_rest m_huge, aI G ar_text 4096 m_text, aI G ar_figures 4096 m_figs, aI G ar_words 800 m_wds]) (k1 : (¬ 0 ≤ (lg_cmp v0 ((1 : Int64) <<< ((Int32.toInt64 (x2 - (1 : Int32))) &&& 63)))) → ((lg_cmp m_scale (Int32.toInt64 x3)) ≤ 0) → gAt l G m_Mo_findDecimal w0 res w1 146 [(0, .ref ad_m), (1, .int x1), (2, .int x2), (3, .int x3), (4, .long x4)] [] [oMo ad_m m_thrown ar_text m_length m_kind m_place m_below ar_figures m_many m_point m_exponent ar_words m_from m_to m_whole m_scale m_rest m_huge, aI G ar_text 4096 m_text, aI G ar_figures 4096 m_figs, aI G ar_words 800 m_wds]) (k2 : (¬ 0 ≤ (lg_cmp v0 ((1 : Int64) <<< ((Int32.toInt64 (x2 - (1 : Int32))) &&& 63)))) → (¬ (lg_cmp m_scale (Int32.toInt64 x3)) ≤ 0) → gAt l G m_Mo_findDecimal w0 res w1 130 [(0, .ref ad_m), (1, .int x1), (2, .int x2), (3, .int x3), (4, .long x4)] [.ref ad_m] [oMo ad_m m_thrown ar_text m_length m_kind m_place m_below ar_figures m_many m_point m_exponent ar_words m_from m_to m_whole m_scale m_rest m_huge, aI G ar_text 4096 m_text, aI G ar_figures 4096 m_figs, aI G ar_words 800 m_wds]) : gAt l G m_Mo_findDecimal w0 res w1 110 [(0, .ref ad_m), (1, .int x1), (2, .int x2), (3, .int x3), (4, .long x4)] [.long v0] [oMo ad_m m_thrown ar_text m_length m_kind m_place m_below ar_figures m_many m_point m_exponent ar_words m_from m_to m_whole m_scale m_rest m_huge, aI G ar_text 4096 m_text, aI G ar_figures 4096 m_figs, aI G ar_words 800 m_wds] := by
  refine a_lconst (1 : Int64) dMo_findDecimal_110 (by decide) ?_
  refine a_iload_n 2 dMo_findDecimal_111 rfl ?_
  refine a_iconst (1 : Int32) dMo_findDecimal_112 (by decide) ?_
  refine a_isub dMo_findDecimal_113 ?_
  refine a_lshl dMo_findDecimal_114 ?_
  refine a_lcmp dMo_findDecimal_115 ?_
  refine a_if_ge 146 dMo_findDecimal_116 (by decide) (fun c1 => ?_) (fun c1 => ?_)
  · exact (k0 c1)
  · refine a_aload_n 0 dMo_findDecimal_119 rfl ?_
    refine a_get (ci := 6) (kx := 14) 0 dMo_findDecimal_120 rfl I_Mo w_662 rfl (by decide) rfl ?_
    refine a_iload_n 3 dMo_findDecimal_123 rfl ?_
    refine a_i2l dMo_findDecimal_124 ?_
    refine a_lcmp dMo_findDecimal_125 ?_
    refine a_if_le 146 dMo_findDecimal_126 (by decide) (fun c2 => ?_) (fun c2 => ?_)
    · exact (k1 c1 c2)
    · refine a_aload_n 0 dMo_findDecimal_129 rfl ?_
      exact (k2 c1 c2)

set_option maxRecDepth 20000 in
theorem k_Mo_findDecimal_130 {l : Launch} {G : gG} {w0 w1 : va_W} {res : Option Value} {ad_m ar_text ar_figures ar_words : Nat} {m_thrown m_length m_kind m_place m_below m_many m_point m_from m_to m_rest m_huge : Int32} {m_exponent m_whole m_scale : Int64} {m_text m_figs m_wds : Nat → Int32} {x1 : Int32} {x2 : Int32} {x3 : Int32} {x4 : Int64} {m_thrown' m_length' m_kind' m_place' m_below' m_many' m_point' m_from' m_to' m_rest' m_huge' : Int32} {m_exponent' m_whole' m_scale' : Int64} {m_text' m_figs' m_wds' : Nat → Int32} (hc : gCt l G m_Mo_twice [.ref ad_m] [oMo ad_m m_thrown ar_text m_length m_kind m_place m_below ar_figures m_many m_point m_exponent ar_words m_from m_to m_whole m_scale m_rest m_huge, aI G ar_text 4096 m_text, aI G ar_figures 4096 m_figs, aI G ar_words 800 m_wds] none [oMo ad_m m_thrown' ar_text m_length' m_kind' m_place' m_below' ar_figures m_many' m_point' m_exponent' ar_words m_from' m_to' m_whole' m_scale' m_rest' m_huge', aI G ar_text 4096 m_text', aI G ar_figures 4096 m_figs', aI G ar_words 800 m_wds']) (k : gAt l G m_Mo_findDecimal w0 res w1 133 [(0, .ref ad_m), (1, .int x1), (2, .int x2), (3, .int x3), (4, .long x4)] [] [oMo ad_m m_thrown' ar_text m_length' m_kind' m_place' m_below' ar_figures m_many' m_point' m_exponent' ar_words m_from' m_to' m_whole' m_scale' m_rest' m_huge', aI G ar_text 4096 m_text', aI G ar_figures 4096 m_figs', aI G ar_words 800 m_wds']) : gAt l G m_Mo_findDecimal w0 res w1 130 [(0, .ref ad_m), (1, .int x1), (2, .int x2), (3, .int x3), (4, .long x4)] [.ref ad_m] [oMo ad_m m_thrown ar_text m_length m_kind m_place m_below ar_figures m_many m_point m_exponent ar_words m_from m_to m_whole m_scale m_rest m_huge, aI G ar_text 4096 m_text, aI G ar_figures 4096 m_figs, aI G ar_words 800 m_wds] :=
  a_callV (As := []) (rest := []) (wc := [oMo ad_m m_thrown ar_text m_length m_kind m_place m_below ar_figures m_many m_point m_exponent ar_words m_from m_to m_whole m_scale m_rest m_huge, aI G ar_text 4096 m_text, aI G ar_figures 4096 m_figs, aI G ar_words 800 m_wds]) (wr := []) (w1c := [oMo ad_m m_thrown' ar_text m_length' m_kind' m_place' m_below' ar_figures m_many' m_point' m_exponent' ar_words m_from' m_to' m_whole' m_scale' m_rest' m_huge', aI G ar_text 4096 m_text', aI G ar_figures 4096 m_figs', aI G ar_words 800 m_wds']) (r := none) [oMo ad_m m_thrown' ar_text m_length' m_kind' m_place' m_below' ar_figures m_many' m_point' m_exponent' ar_words m_from' m_to' m_whole' m_scale' m_rest' m_huge', aI G ar_text 4096 m_text', aI G ar_figures 4096 m_figs', aI G ar_words 800 m_wds'] [0, 1, 2, 3] [] [0, 1, 2, 3] (ci := 6) (q0 := 0) hc dMo_findDecimal_130 rfl ok_Mo_twice ⟨Nat.le_of_ble_eq_true rfl, Nat.le_of_ble_eq_true rfl⟩ w_807 w_809 sl_68 rfl rfl rfl rfl rfl rfl (by decide) rfl rfl (Nat.le_of_ble_eq_true rfl) k

set_option maxRecDepth 20000 in
theorem b_Mo_findDecimal_133 {l : Launch} {G : gG} {w0 w1 : va_W} {res : Option Value} {ad_m ar_text ar_figures ar_words : Nat} {m_thrown m_length m_kind m_place m_below m_many m_point m_from m_to m_rest m_huge : Int32} {m_exponent m_whole m_scale : Int64} {m_text m_figs m_wds : Nat → Int32} {x1 : Int32} {x2 : Int32} {x3 : Int32} {x4 : Int64} (k0 : gAt l G m_Mo_findDecimal w0 res w1 106 [(0, .ref ad_m), (1, .int x1), (2, .int x2), (3, .int x3), (4, .long x4)] [] [oMo ad_m m_thrown ar_text m_length m_kind m_place m_below ar_figures m_many m_point m_exponent ar_words m_from m_to m_whole (m_scale - (1 : Int64)) m_rest m_huge, aI G ar_text 4096 m_text, aI G ar_figures 4096 m_figs, aI G ar_words 800 m_wds]) : gAt l G m_Mo_findDecimal w0 res w1 133 [(0, .ref ad_m), (1, .int x1), (2, .int x2), (3, .int x3), (4, .long x4)] [] [oMo ad_m m_thrown ar_text m_length m_kind m_place m_below ar_figures m_many m_point m_exponent ar_words m_from m_to m_whole m_scale m_rest m_huge, aI G ar_text 4096 m_text, aI G ar_figures 4096 m_figs, aI G ar_words 800 m_wds] := by
  refine a_aload_n 0 dMo_findDecimal_133 rfl ?_
  refine a_dup dMo_findDecimal_134 rfl ?_
  refine a_get (ci := 6) (kx := 14) 0 dMo_findDecimal_135 rfl I_Mo w_662 rfl (by decide) rfl ?_
  refine a_lconst (1 : Int64) dMo_findDecimal_138 (by decide) ?_
  refine a_lsub dMo_findDecimal_139 ?_
  refine a_put (ci := 6) (kx := 14) ty_Mo 0 [oMo ad_m m_thrown ar_text m_length m_kind m_place m_below ar_figures m_many m_point m_exponent ar_words m_from m_to m_whole (m_scale - (1 : Int64)) m_rest m_huge, aI G ar_text 4096 m_text, aI G ar_figures 4096 m_figs, aI G ar_words 800 m_wds] dMo_findDecimal_140 rfl I_Mo tyo_Mo nmo_Mo w_662 rfl (by decide) rfl rfl rfl (Nat.le_of_ble_eq_true rfl) rfl ?_
  refine a_goto 106 dMo_findDecimal_143 (by decide) ?_
  exact k0

set_option maxRecDepth 20000 in
theorem b_Mo_findDecimal_146 {l : Launch} {G : gG} {w0 w1 : va_W} {res : Option Value} {ad_m ar_text ar_figures ar_words : Nat} {m_thrown m_length m_kind m_place m_below m_many m_point m_from m_to m_rest m_huge : Int32} {m_exponent m_whole m_scale : Int64} {m_text m_figs m_wds : Nat → Int32} {x1 : Int32} {x2 : Int32} {x3 : Int32} {x4 : Int64} (k0 : gAt l G m_Mo_findDecimal w0 res w1 148 [(0, .ref ad_m), (1, .int x1), (2, .int x2), (3, .int x3), (4, .long x4)] [.ref ad_m, .ref ad_m] [oMo ad_m m_thrown ar_text m_length m_kind m_place m_below ar_figures m_many m_point m_exponent ar_words m_from m_to m_whole m_scale m_rest m_huge, aI G ar_text 4096 m_text, aI G ar_figures 4096 m_figs, aI G ar_words 800 m_wds]) : gAt l G m_Mo_findDecimal w0 res w1 146 [(0, .ref ad_m), (1, .int x1), (2, .int x2), (3, .int x3), (4, .long x4)] [] [oMo ad_m m_thrown ar_text m_length m_kind m_place m_below ar_figures m_many m_point m_exponent ar_words m_from m_to m_whole m_scale m_rest m_huge, aI G ar_text 4096 m_text, aI G ar_figures 4096 m_figs, aI G ar_words 800 m_wds] := by
  refine a_aload_n 0 dMo_findDecimal_146 rfl ?_
  refine a_aload_n 0 dMo_findDecimal_147 rfl ?_
  exact k0

set_option maxRecDepth 20000 in
theorem k_Mo_findDecimal_148 {l : Launch} {G : gG} {w0 w1 : va_W} {res : Option Value} {ad_m ar_text ar_figures ar_words : Nat} {m_thrown m_length m_kind m_place m_below m_many m_point m_from m_to m_rest m_huge : Int32} {m_exponent m_whole m_scale : Int64} {m_text m_figs m_wds : Nat → Int32} {x1 : Int32} {x2 : Int32} {x3 : Int32} {x4 : Int64} {r : Int64} {m_thrown' m_length' m_kind' m_place' m_below' m_many' m_point' m_from' m_to' m_rest' m_huge' : Int32} {m_exponent' m_whole' m_scale' : Int64} {m_text' m_figs' m_wds' : Nat → Int32} (hc : gCt l G m_Mo_wholePart [.ref ad_m] [oMo ad_m m_thrown ar_text m_length m_kind m_place m_below ar_figures m_many m_point m_exponent ar_words m_from m_to m_whole m_scale m_rest m_huge, aI G ar_text 4096 m_text, aI G ar_figures 4096 m_figs, aI G ar_words 800 m_wds] (some (.long r)) [oMo ad_m m_thrown' ar_text m_length' m_kind' m_place' m_below' ar_figures m_many' m_point' m_exponent' ar_words m_from' m_to' m_whole' m_scale' m_rest' m_huge', aI G ar_text 4096 m_text', aI G ar_figures 4096 m_figs', aI G ar_words 800 m_wds']) (k : gAt l G m_Mo_findDecimal w0 res w1 151 [(0, .ref ad_m), (1, .int x1), (2, .int x2), (3, .int x3), (4, .long x4)] [.long r, .ref ad_m] [oMo ad_m m_thrown' ar_text m_length' m_kind' m_place' m_below' ar_figures m_many' m_point' m_exponent' ar_words m_from' m_to' m_whole' m_scale' m_rest' m_huge', aI G ar_text 4096 m_text', aI G ar_figures 4096 m_figs', aI G ar_words 800 m_wds']) : gAt l G m_Mo_findDecimal w0 res w1 148 [(0, .ref ad_m), (1, .int x1), (2, .int x2), (3, .int x3), (4, .long x4)] [.ref ad_m, .ref ad_m] [oMo ad_m m_thrown ar_text m_length m_kind m_place m_below ar_figures m_many m_point m_exponent ar_words m_from m_to m_whole m_scale m_rest m_huge, aI G ar_text 4096 m_text, aI G ar_figures 4096 m_figs, aI G ar_words 800 m_wds] :=
  a_callV (As := []) (rest := [.ref ad_m]) (wc := [oMo ad_m m_thrown ar_text m_length m_kind m_place m_below ar_figures m_many m_point m_exponent ar_words m_from m_to m_whole m_scale m_rest m_huge, aI G ar_text 4096 m_text, aI G ar_figures 4096 m_figs, aI G ar_words 800 m_wds]) (wr := []) (w1c := [oMo ad_m m_thrown' ar_text m_length' m_kind' m_place' m_below' ar_figures m_many' m_point' m_exponent' ar_words m_from' m_to' m_whole' m_scale' m_rest' m_huge', aI G ar_text 4096 m_text', aI G ar_figures 4096 m_figs', aI G ar_words 800 m_wds']) (r := (some (.long r))) [oMo ad_m m_thrown' ar_text m_length' m_kind' m_place' m_below' ar_figures m_many' m_point' m_exponent' ar_words m_from' m_to' m_whole' m_scale' m_rest' m_huge', aI G ar_text 4096 m_text', aI G ar_figures 4096 m_figs', aI G ar_words 800 m_wds'] [0, 1, 2, 3] [] [0, 1, 2, 3] (ci := 6) (q0 := 0) hc dMo_findDecimal_148 rfl ok_Mo_wholePart ⟨Nat.le_of_ble_eq_true rfl, Nat.le_of_ble_eq_true rfl⟩ w_795 w_797 sl_66 rfl rfl rfl rfl rfl rfl (by decide) rfl rfl (Nat.le_of_ble_eq_true rfl) k

set_option maxRecDepth 20000 in
theorem b_Mo_findDecimal_151 {l : Launch} {G : gG} {w0 w1 : va_W} {res : Option Value} {ad_m ar_text ar_figures ar_words : Nat} {m_thrown m_length m_kind m_place m_below m_many m_point m_from m_to m_rest m_huge : Int32} {m_exponent m_whole m_scale : Int64} {m_text m_figs m_wds : Nat → Int32} {x1 : Int32} {x2 : Int32} {x3 : Int32} {x4 : Int64} {v0 : Int64} (k0 : (m_to ≤ (54 : Int32)) → gAt l G m_Mo_findDecimal w0 res w1 174 [(0, .ref ad_m), (1, .int x1), (2, .int x2), (3, .int x3), (4, .long x4)] [.int (0 : Int32)] [oMo ad_m m_thrown ar_text m_length m_kind m_place m_below ar_figures m_many m_point m_exponent ar_words m_from m_to v0 m_scale m_rest m_huge, aI G ar_text 4096 m_text, aI G ar_figures 4096 m_figs, aI G ar_words 800 m_wds]) (s1 : (¬ m_to ≤ (54 : Int32)) → vp_in (55 : Int32) 800) (k2 : (¬ m_to ≤ (54 : Int32)) → gAt l G m_Mo_findDecimal w0 res w1 174 [(0, .ref ad_m), (1, .int x1), (2, .int x2), (3, .int x3), (4, .long x4)] [.int (m_wds (Int32.toNatClampNeg (55 : Int32)))] [oMo ad_m m_thrown ar_text m_length m_kind m_place m_below ar_figures m_many m_point m_exponent ar_words m_from m_to v0 m_scale m_rest m_huge, aI G ar_text 4096 m_text, aI G ar_figures 4096 m_figs, aI G ar_words 800 m_wds]) : gAt l G m_Mo_findDecimal w0 res w1 151 [(0, .ref ad_m), (1, .int x1), (2, .int x2), (3, .int x3), (4, .long x4)] [.long v0, .ref ad_m] [oMo ad_m m_thrown ar_text m_length m_kind m_place m_below ar_figures m_many m_point m_exponent ar_words m_from m_to m_whole m_scale m_rest m_huge, aI G ar_text 4096 m_text, aI G ar_figures 4096 m_figs, aI G ar_words 800 m_wds] := by
  refine a_put (ci := 6) (kx := 13) ty_Mo 0 [oMo ad_m m_thrown ar_text m_length m_kind m_place m_below ar_figures m_many m_point m_exponent ar_words m_from m_to v0 m_scale m_rest m_huge, aI G ar_text 4096 m_text, aI G ar_figures 4096 m_figs, aI G ar_words 800 m_wds] dMo_findDecimal_151 rfl I_Mo tyo_Mo nmo_Mo w_661 rfl (by decide) rfl rfl rfl (Nat.le_of_ble_eq_true rfl) rfl ?_
  refine a_aload_n 0 dMo_findDecimal_154 rfl ?_
  refine a_get (ci := 6) (kx := 12) 0 dMo_findDecimal_155 rfl I_Mo w_660 rfl (by decide) rfl ?_
  refine a_bipush (54 : Int32) dMo_findDecimal_158 (by decide) ?_
  refine a_icmp_le 173 dMo_findDecimal_160 (by decide) (fun c1 => ?_) (fun c1 => ?_)
  · refine a_iconst (0 : Int32) dMo_findDecimal_173 (by decide) ?_
    exact (k0 c1)
  · refine a_aload_n 0 dMo_findDecimal_163 rfl ?_
    refine a_get (ci := 6) (kx := 10) 0 dMo_findDecimal_164 rfl I_Mo w_658 rfl (by decide) rfl ?_
    refine a_bipush (55 : Int32) dMo_findDecimal_167 (by decide) ?_
    refine a_iald 3 dMo_findDecimal_169 rfl (s1 c1) ?_
    refine a_goto 174 dMo_findDecimal_170 (by decide) ?_
    exact (k2 c1)

set_option maxRecDepth 20000 in
theorem b_Mo_findDecimal_174 {l : Launch} {G : gG} {w0 w1 : va_W} {res : Option Value} {ad_m ar_text ar_figures ar_words : Nat} {m_thrown m_length m_kind m_place m_below m_many m_point m_from m_to m_rest m_huge : Int32} {m_exponent m_whole m_scale : Int64} {m_text m_figs m_wds : Nat → Int32} {x1 : Int32} {x2 : Int32} {x3 : Int32} {x4 : Int64} {v0 : Int32} (k0 : (m_to ≤ (55 : Int32)) → gAt l G m_Mo_findDecimal w0 res w1 190 [(0, .ref ad_m), (1, .int x1), (2, .int x2), (3, .int x3), (4, .long x4), (6, .int v0)] [.int (0 : Int32)] [oMo ad_m m_thrown ar_text m_length m_kind m_place m_below ar_figures m_many m_point m_exponent ar_words m_from m_to m_whole m_scale m_rest m_huge, aI G ar_text 4096 m_text, aI G ar_figures 4096 m_figs, aI G ar_words 800 m_wds]) (k1 : (¬ m_to ≤ (55 : Int32)) → gAt l G m_Mo_findDecimal w0 res w1 190 [(0, .ref ad_m), (1, .int x1), (2, .int x2), (3, .int x3), (4, .long x4), (6, .int v0)] [.int (1 : Int32)] [oMo ad_m m_thrown ar_text m_length m_kind m_place m_below ar_figures m_many m_point m_exponent ar_words m_from m_to m_whole m_scale m_rest m_huge, aI G ar_text 4096 m_text, aI G ar_figures 4096 m_figs, aI G ar_words 800 m_wds]) : gAt l G m_Mo_findDecimal w0 res w1 174 [(0, .ref ad_m), (1, .int x1), (2, .int x2), (3, .int x3), (4, .long x4)] [.int v0] [oMo ad_m m_thrown ar_text m_length m_kind m_place m_below ar_figures m_many m_point m_exponent ar_words m_from m_to m_whole m_scale m_rest m_huge, aI G ar_text 4096 m_text, aI G ar_figures 4096 m_figs, aI G ar_words 800 m_wds] := by
  refine a_istore [(6, .int v0), (0, .ref ad_m), (1, .int x1), (2, .int x2), (3, .int x3), (4, .long x4)] dMo_findDecimal_174 (by decide) rfl ?_
  refine a_aload_n 1 dMo_findDecimal_176 rfl ?_
  refine a_get (ci := 6) (kx := 12) 0 dMo_findDecimal_177 rfl I_Mo w_660 rfl (by decide) rfl ?_
  refine a_bipush (55 : Int32) dMo_findDecimal_180 (by decide) ?_
  refine a_icmp_le 189 dMo_findDecimal_182 (by decide) (fun c1 => ?_) (fun c1 => ?_)
  · refine a_iconst (0 : Int32) dMo_findDecimal_189 (by decide) ?_
    refine a_lv [(0, .ref ad_m), (1, .int x1), (2, .int x2), (3, .int x3), (4, .long x4), (6, .int v0)] [1, 2, 3, 4, 5, 0] rfl ?_
    exact (k0 c1)
  · refine a_iconst (1 : Int32) dMo_findDecimal_185 (by decide) ?_
    refine a_goto 190 dMo_findDecimal_186 (by decide) ?_
    refine a_lv [(0, .ref ad_m), (1, .int x1), (2, .int x2), (3, .int x3), (4, .long x4), (6, .int v0)] [1, 2, 3, 4, 5, 0] rfl ?_
    exact (k1 c1)

set_option maxRecDepth 20000 in
theorem b_Mo_findDecimal_190 {l : Launch} {G : gG} {w0 w1 : va_W} {res : Option Value} {ad_m ar_text ar_figures ar_words : Nat} {m_thrown m_length m_kind m_place m_below m_many m_point m_from m_to m_rest m_huge : Int32} {m_exponent m_whole m_scale : Int64} {m_text m_figs m_wds : Nat → Int32} {x1 : Int32} {x2 : Int32} {x3 : Int32} {x4 : Int64} {x6 : Int32} {v0 : Int32} (k0 : (¬ m_to = (54 : Int32)) → ((50000000 : Int32) ≤ x6) → ((50000000 : Int32) < x6) → gAt l G m_Mo_findDecimal w0 res w1 229 [(0, .ref ad_m), (1, .int x1), (2, .int x2), (3, .int x3), (4, .long x4), (6, .int x6), (7, .int v0)] [.ref ad_m] [oMo ad_m m_thrown ar_text m_length m_kind m_place m_below ar_figures m_many m_point m_exponent ar_words m_from m_to m_whole m_scale m_rest m_huge, aI G ar_text 4096 m_text, aI G ar_figures 4096 m_figs, aI G ar_words 800 m_wds]) (k1 : (¬ m_to = (54 : Int32)) → ((50000000 : Int32) ≤ x6) → (¬ (50000000 : Int32) < x6) → (v0 = 0) → gAt l G m_Mo_findDecimal w0 res w1 234 [(0, .ref ad_m), (1, .int x1), (2, .int x2), (3, .int x3), (4, .long x4), (6, .int x6), (7, .int v0)] [.int (2 : Int32), .ref ad_m] [oMo ad_m m_thrown ar_text m_length m_kind m_place m_below ar_figures m_many m_point m_exponent ar_words m_from m_to m_whole m_scale m_rest m_huge, aI G ar_text 4096 m_text, aI G ar_figures 4096 m_figs, aI G ar_words 800 m_wds]) (k2 : (¬ m_to = (54 : Int32)) → ((50000000 : Int32) ≤ x6) → (¬ (50000000 : Int32) < x6) → (¬ v0 = 0) → gAt l G m_Mo_findDecimal w0 res w1 229 [(0, .ref ad_m), (1, .int x1), (2, .int x2), (3, .int x3), (4, .long x4), (6, .int x6), (7, .int v0)] [.ref ad_m] [oMo ad_m m_thrown ar_text m_length m_kind m_place m_below ar_figures m_many m_point m_exponent ar_words m_from m_to m_whole m_scale m_rest m_huge, aI G ar_text 4096 m_text, aI G ar_figures 4096 m_figs, aI G ar_words 800 m_wds]) (k3 : (¬ m_to = (54 : Int32)) → (¬ (50000000 : Int32) ≤ x6) → gAt l G m_Mo_findDecimal w0 res w1 234 [(0, .ref ad_m), (1, .int x1), (2, .int x2), (3, .int x3), (4, .long x4), (6, .int x6), (7, .int v0)] [.int (1 : Int32), .ref ad_m] [oMo ad_m m_thrown ar_text m_length m_kind m_place m_below ar_figures m_many m_point m_exponent ar_words m_from m_to m_whole m_scale m_rest m_huge, aI G ar_text 4096 m_text, aI G ar_figures 4096 m_figs, aI G ar_words 800 m_wds]) (k4 : (m_to = (54 : Int32)) → gAt l G m_Mo_findDecimal w0 res w1 234 [(0, .ref ad_m), (1, .int x1), (2, .int x2), (3, .int x3), (4, .long x4), (6, .int x6), (7, .int v0)] [.int (0 : Int32), .ref ad_m] [oMo ad_m m_thrown ar_text m_length m_kind m_place m_below ar_figures m_many m_point m_exponent ar_words m_from m_to m_whole m_scale m_rest m_huge, aI G ar_text 4096 m_text, aI G ar_figures 4096 m_figs, aI G ar_words 800 m_wds]) : gAt l G m_Mo_findDecimal w0 res w1 190 [(0, .ref ad_m), (1, .int x1), (2, .int x2), (3, .int x3), (4, .long x4), (6, .int x6)] [.int v0] [oMo ad_m m_thrown ar_text m_length m_kind m_place m_below ar_figures m_many m_point m_exponent ar_words m_from m_to m_whole m_scale m_rest m_huge, aI G ar_text 4096 m_text, aI G ar_figures 4096 m_figs, aI G ar_words 800 m_wds] := by
  refine a_istore [(7, .int v0), (0, .ref ad_m), (1, .int x1), (2, .int x2), (3, .int x3), (4, .long x4), (6, .int x6)] dMo_findDecimal_190 (by decide) rfl ?_
  refine a_aload_n 1 dMo_findDecimal_192 rfl ?_
  refine a_aload_n 1 dMo_findDecimal_193 rfl ?_
  refine a_get (ci := 6) (kx := 12) 0 dMo_findDecimal_194 rfl I_Mo w_660 rfl (by decide) rfl ?_
  refine a_bipush (54 : Int32) dMo_findDecimal_197 (by decide) ?_
  refine a_icmp_ne 206 dMo_findDecimal_199 (by decide) (fun c1 => ?_) (fun c1 => ?_)
  · refine a_iload 6 dMo_findDecimal_206 rfl ?_
    refine a_ldc (50000000 : Int32) dMo_findDecimal_208 w_806 ?_
    refine a_icmp_ge 217 dMo_findDecimal_210 (by decide) (fun c2 => ?_) (fun c2 => ?_)
    · refine a_iload 6 dMo_findDecimal_217 rfl ?_
      refine a_ldc (50000000 : Int32) dMo_findDecimal_219 w_806 ?_
      refine a_icmp_gt 229 dMo_findDecimal_221 (by decide) (fun c3 => ?_) (fun c3 => ?_)
      · refine a_lv [(0, .ref ad_m), (1, .int x1), (2, .int x2), (3, .int x3), (4, .long x4), (6, .int x6), (7, .int v0)] [1, 2, 3, 4, 5, 6, 0] rfl ?_
        exact (k0 c1 c2 c3)
      · refine a_iload 0 dMo_findDecimal_224 rfl ?_
        refine a_if_eq 233 dMo_findDecimal_226 (by decide) (fun c4 => ?_) (fun c4 => ?_)
        · refine a_iconst (2 : Int32) dMo_findDecimal_233 (by decide) ?_
          refine a_lv [(0, .ref ad_m), (1, .int x1), (2, .int x2), (3, .int x3), (4, .long x4), (6, .int x6), (7, .int v0)] [1, 2, 3, 4, 5, 6, 0] rfl ?_
          exact (k1 c1 c2 c3 c4)
        · refine a_lv [(0, .ref ad_m), (1, .int x1), (2, .int x2), (3, .int x3), (4, .long x4), (6, .int x6), (7, .int v0)] [1, 2, 3, 4, 5, 6, 0] rfl ?_
          exact (k2 c1 c2 c3 c4)
    · refine a_iconst (1 : Int32) dMo_findDecimal_213 (by decide) ?_
      refine a_goto 234 dMo_findDecimal_214 (by decide) ?_
      refine a_lv [(0, .ref ad_m), (1, .int x1), (2, .int x2), (3, .int x3), (4, .long x4), (6, .int x6), (7, .int v0)] [1, 2, 3, 4, 5, 6, 0] rfl ?_
      exact (k3 c1 c2)
  · refine a_iconst (0 : Int32) dMo_findDecimal_202 (by decide) ?_
    refine a_goto 234 dMo_findDecimal_203 (by decide) ?_
    refine a_lv [(0, .ref ad_m), (1, .int x1), (2, .int x2), (3, .int x3), (4, .long x4), (6, .int x6), (7, .int v0)] [1, 2, 3, 4, 5, 6, 0] rfl ?_
    exact (k4 c1)

set_option maxRecDepth 20000 in
theorem b_Mo_findDecimal_229 {l : Launch} {G : gG} {w0 w1 : va_W} {res : Option Value} {ad_m ar_text ar_figures ar_words : Nat} {m_thrown m_length m_kind m_place m_below m_many m_point m_from m_to m_rest m_huge : Int32} {m_exponent m_whole m_scale : Int64} {m_text m_figs m_wds : Nat → Int32} {x1 : Int32} {x2 : Int32} {x3 : Int32} {x4 : Int64} {x6 : Int32} {x7 : Int32} (k0 : gAt l G m_Mo_findDecimal w0 res w1 234 [(0, .ref ad_m), (1, .int x1), (2, .int x2), (3, .int x3), (4, .long x4), (6, .int x6), (7, .int x7)] [.int (3 : Int32), .ref ad_m] [oMo ad_m m_thrown ar_text m_length m_kind m_place m_below ar_figures m_many m_point m_exponent ar_words m_from m_to m_whole m_scale m_rest m_huge, aI G ar_text 4096 m_text, aI G ar_figures 4096 m_figs, aI G ar_words 800 m_wds]) : gAt l G m_Mo_findDecimal w0 res w1 229 [(0, .ref ad_m), (1, .int x1), (2, .int x2), (3, .int x3), (4, .long x4), (6, .int x6), (7, .int x7)] [.ref ad_m] [oMo ad_m m_thrown ar_text m_length m_kind m_place m_below ar_figures m_many m_point m_exponent ar_words m_from m_to m_whole m_scale m_rest m_huge, aI G ar_text 4096 m_text, aI G ar_figures 4096 m_figs, aI G ar_words 800 m_wds] := by
  refine a_iconst (3 : Int32) dMo_findDecimal_229 (by decide) ?_
  refine a_goto 234 dMo_findDecimal_230 (by decide) ?_
  exact k0

set_option maxRecDepth 20000 in
theorem b_Mo_findDecimal_234 {l : Launch} {G : gG} {w0 w1 : va_W} {res : Option Value} {ad_m ar_text ar_figures ar_words : Nat} {m_thrown m_length m_kind m_place m_below m_many m_point m_from m_to m_rest m_huge : Int32} {m_exponent m_whole m_scale : Int64} {m_text m_figs m_wds : Nat → Int32} {x1 : Int32} {x2 : Int32} {x3 : Int32} {x4 : Int64} {x6 : Int32} {x7 : Int32} {v0 : Int32} (k0 : res = none ∧ [oMo ad_m m_thrown ar_text m_length m_kind m_place m_below ar_figures m_many m_point m_exponent ar_words m_from m_to m_whole m_scale v0 m_huge, aI G ar_text 4096 m_text, aI G ar_figures 4096 m_figs, aI G ar_words 800 m_wds] = w1) : gAt l G m_Mo_findDecimal w0 res w1 234 [(0, .ref ad_m), (1, .int x1), (2, .int x2), (3, .int x3), (4, .long x4), (6, .int x6), (7, .int x7)] [.int v0, .ref ad_m] [oMo ad_m m_thrown ar_text m_length m_kind m_place m_below ar_figures m_many m_point m_exponent ar_words m_from m_to m_whole m_scale m_rest m_huge, aI G ar_text 4096 m_text, aI G ar_figures 4096 m_figs, aI G ar_words 800 m_wds] := by
  refine a_put (ci := 6) (kx := 15) ty_Mo 0 [oMo ad_m m_thrown ar_text m_length m_kind m_place m_below ar_figures m_many m_point m_exponent ar_words m_from m_to m_whole m_scale v0 m_huge, aI G ar_text 4096 m_text, aI G ar_figures 4096 m_figs, aI G ar_words 800 m_wds] dMo_findDecimal_234 rfl I_Mo tyo_Mo nmo_Mo w_663 rfl (by decide) rfl rfl rfl (Nat.le_of_ble_eq_true rfl) rfl ?_
  exact a_vret (st := []) dMo_findDecimal_237 rfl k0.1 k0.2

set_option maxRecDepth 20000 in
theorem b_Mo_writeOut_0 {l : Launch} {G : gG} {w0 w1 : va_W} {res : Option Value} {ad_m ar_text ar_figures ar_words : Nat} {m_thrown m_length m_kind m_place m_below m_many m_point m_from m_to m_rest m_huge : Int32} {m_exponent m_whole m_scale : Int64} {m_text m_figs m_wds : Nat → Int32} {x1 : Int32} {x2 : Int32} (k0 : gAt l G m_Mo_writeOut w0 res w1 2 [(0, .ref ad_m), (1, .int x1), (2, .int x2), (3, .int (0 : Int32))] [] [oMo ad_m m_thrown ar_text m_length m_kind m_place m_below ar_figures m_many m_point m_exponent ar_words m_from m_to m_whole m_scale m_rest m_huge, aI G ar_text 4096 m_text, aI G ar_figures 4096 m_figs, aI G ar_words 800 m_wds]) : gAt l G m_Mo_writeOut w0 res w1 0 [(0, .ref ad_m), (1, .int x1), (2, .int x2)] [] [oMo ad_m m_thrown ar_text m_length m_kind m_place m_below ar_figures m_many m_point m_exponent ar_words m_from m_to m_whole m_scale m_rest m_huge, aI G ar_text 4096 m_text, aI G ar_figures 4096 m_figs, aI G ar_words 800 m_wds] := by
  refine a_iconst (0 : Int32) dMo_writeOut_0 (by decide) ?_
  refine a_istore_n [(3, .int (0 : Int32)), (0, .ref ad_m), (1, .int x1), (2, .int x2)] dMo_writeOut_1 rfl (by decide) rfl ?_
  refine a_lv [(0, .ref ad_m), (1, .int x1), (2, .int x2), (3, .int (0 : Int32))] [1, 2, 3, 0] rfl ?_
  exact k0

set_option maxRecDepth 20000 in
theorem b_Mo_writeOut_2 {l : Launch} {G : gG} {w0 w1 : va_W} {res : Option Value} {ad_m ar_text ar_figures ar_words : Nat} {m_thrown m_length m_kind m_place m_below m_many m_point m_from m_to m_rest m_huge : Int32} {m_exponent m_whole m_scale : Int64} {m_text m_figs m_wds : Nat → Int32} {x1 : Int32} {x2 : Int32} {x3 : Int32} (k0 : ((800 : Int32) ≤ x3) → gAt l G m_Mo_writeOut w0 res w1 29 [(0, .ref ad_m), (1, .int x1), (2, .int x2), (3, .int (439 : Int32)), (4, .int x1)] [] [oMo ad_m m_thrown ar_text m_length m_kind m_place m_below ar_figures m_many m_point m_exponent ar_words m_from m_to m_whole m_scale m_rest m_huge, aI G ar_text 4096 m_text, aI G ar_figures 4096 m_figs, aI G ar_words 800 m_wds]) (s1 : (¬ (800 : Int32) ≤ x3) → vp_in x3 800) (k2 : (¬ (800 : Int32) ≤ x3) → gAt l G m_Mo_writeOut w0 res w1 2 [(0, .ref ad_m), (1, .int x1), (2, .int x2), (3, .int (x3 + 1))] [] [oMo ad_m m_thrown ar_text m_length m_kind m_place m_below ar_figures m_many m_point m_exponent ar_words m_from m_to m_whole m_scale m_rest m_huge, aI G ar_text 4096 m_text, aI G ar_figures 4096 m_figs, aI G ar_words 800 (upd m_wds (Int32.toNatClampNeg x3) (0 : Int32))]) : gAt l G m_Mo_writeOut w0 res w1 2 [(0, .ref ad_m), (1, .int x1), (2, .int x2), (3, .int x3)] [] [oMo ad_m m_thrown ar_text m_length m_kind m_place m_below ar_figures m_many m_point m_exponent ar_words m_from m_to m_whole m_scale m_rest m_huge, aI G ar_text 4096 m_text, aI G ar_figures 4096 m_figs, aI G ar_words 800 m_wds] := by
  refine a_iload_n 3 dMo_writeOut_2 rfl ?_
  refine a_sipush (800 : Int32) dMo_writeOut_3 (by decide) ?_
  refine a_icmp_ge 22 dMo_writeOut_6 (by decide) (fun c1 => ?_) (fun c1 => ?_)
  · refine a_sipush (439 : Int32) dMo_writeOut_22 (by decide) ?_
    refine a_istore_n [(3, .int (439 : Int32)), (0, .ref ad_m), (1, .int x1), (2, .int x2)] dMo_writeOut_25 rfl (by decide) rfl ?_
    refine a_iload_n 2 dMo_writeOut_26 rfl ?_
    refine a_istore [(4, .int x1), (3, .int (439 : Int32)), (0, .ref ad_m), (1, .int x1), (2, .int x2)] dMo_writeOut_27 (by decide) rfl ?_
    refine a_lv [(0, .ref ad_m), (1, .int x1), (2, .int x2), (3, .int (439 : Int32)), (4, .int x1)] [2, 3, 4, 1, 0] rfl ?_
    exact (k0 c1)
  · refine a_aload_n 0 dMo_writeOut_9 rfl ?_
    refine a_get (ci := 6) (kx := 10) 0 dMo_writeOut_10 rfl I_Mo w_658 rfl (by decide) rfl ?_
    refine a_iload_n 3 dMo_writeOut_13 rfl ?_
    refine a_iconst (0 : Int32) dMo_writeOut_14 (by decide) ?_
    refine a_iast 3 [oMo ad_m m_thrown ar_text m_length m_kind m_place m_below ar_figures m_many m_point m_exponent ar_words m_from m_to m_whole m_scale m_rest m_huge, aI G ar_text 4096 m_text, aI G ar_figures 4096 m_figs, aI G ar_words 800 (upd m_wds (Int32.toNatClampNeg x3) (0 : Int32))] dMo_writeOut_15 rfl (s1 c1) rfl ?_
    refine a_iinc 3 (x3 + 1) [(3, .int (x3 + 1)), (0, .ref ad_m), (1, .int x1), (2, .int x2)] dMo_writeOut_16 rfl rfl (by decide) rfl ?_
    refine a_goto 2 dMo_writeOut_19 (by decide) ?_
    refine a_lv [(0, .ref ad_m), (1, .int x1), (2, .int x2), (3, .int (x3 + 1))] [1, 2, 3, 0] rfl ?_
    exact (k2 c1)

set_option maxRecDepth 20000 in
theorem b_Mo_writeOut_29 {l : Launch} {G : gG} {w0 w1 : va_W} {res : Option Value} {ad_m ar_text ar_figures ar_words : Nat} {m_thrown m_length m_kind m_place m_below m_many m_point m_from m_to m_rest m_huge : Int32} {m_exponent m_whole m_scale : Int64} {m_text m_figs m_wds : Nat → Int32} {x1 : Int32} {x2 : Int32} {x3 : Int32} {x4 : Int32} (k0 : (m_many ≤ x4) → gAt l G m_Mo_writeOut w0 res w1 130 [(0, .ref ad_m), (1, .int x1), (2, .int x2), (3, .int x3), (4, .int x4)] [] [oMo ad_m m_thrown ar_text m_length m_kind m_place m_below ar_figures m_many m_point m_exponent ar_words (0 : Int32) (799 : Int32) m_whole m_scale m_rest m_huge, aI G ar_text 4096 m_text, aI G ar_figures 4096 m_figs, aI G ar_words 800 m_wds]) (k1 : (¬ m_many ≤ x4) → gAt l G m_Mo_writeOut w0 res w1 67 [(0, .ref ad_m), (1, .int x1), (2, .int x2), (3, .int x3), (4, .int x4), (5, .int ((((x3 - x2) + (1 : Int32)) + x4) - x1)), (6, .int (((((x3 - x2) + (1 : Int32)) + x4) - x1) / (8 : Int32))), (7, .int (1 : Int32)), (8, .int (((((x3 - x2) + (1 : Int32)) + x4) - x1) - ((((x3 - x2) + (1 : Int32)) + x4) - x1) / (8 : Int32) * (8 : Int32)))] [] [oMo ad_m m_thrown ar_text m_length m_kind m_place m_below ar_figures m_many m_point m_exponent ar_words m_from m_to m_whole m_scale m_rest m_huge, aI G ar_text 4096 m_text, aI G ar_figures 4096 m_figs, aI G ar_words 800 m_wds]) : gAt l G m_Mo_writeOut w0 res w1 29 [(0, .ref ad_m), (1, .int x1), (2, .int x2), (3, .int x3), (4, .int x4)] [] [oMo ad_m m_thrown ar_text m_length m_kind m_place m_below ar_figures m_many m_point m_exponent ar_words m_from m_to m_whole m_scale m_rest m_huge, aI G ar_text 4096 m_text, aI G ar_figures 4096 m_figs, aI G ar_words 800 m_wds] := by
  refine a_iload 4 dMo_writeOut_29 rfl ?_
  refine a_aload_n 0 dMo_writeOut_31 rfl ?_
  refine a_get (ci := 6) (kx := 7) 0 dMo_writeOut_32 rfl I_Mo w_655 rfl (by decide) rfl ?_
  refine a_icmp_ge 118 dMo_writeOut_35 (by decide) (fun c1 => ?_) (fun c1 => ?_)
  · refine a_aload_n 0 dMo_writeOut_118 rfl ?_
    refine a_iconst (0 : Int32) dMo_writeOut_119 (by decide) ?_
    refine a_put (ci := 6) (kx := 11) ty_Mo 0 [oMo ad_m m_thrown ar_text m_length m_kind m_place m_below ar_figures m_many m_point m_exponent ar_words (0 : Int32) m_to m_whole m_scale m_rest m_huge, aI G ar_text 4096 m_text, aI G ar_figures 4096 m_figs, aI G ar_words 800 m_wds] dMo_writeOut_120 rfl I_Mo tyo_Mo nmo_Mo w_659 rfl (by decide) rfl rfl rfl (Nat.le_of_ble_eq_true rfl) rfl ?_
    refine a_aload_n 0 dMo_writeOut_123 rfl ?_
    refine a_sipush (799 : Int32) dMo_writeOut_124 (by decide) ?_
    refine a_put (ci := 6) (kx := 12) ty_Mo 0 [oMo ad_m m_thrown ar_text m_length m_kind m_place m_below ar_figures m_many m_point m_exponent ar_words (0 : Int32) (799 : Int32) m_whole m_scale m_rest m_huge, aI G ar_text 4096 m_text, aI G ar_figures 4096 m_figs, aI G ar_words 800 m_wds] dMo_writeOut_127 rfl I_Mo tyo_Mo nmo_Mo w_660 rfl (by decide) rfl rfl rfl (Nat.le_of_ble_eq_true rfl) rfl ?_
    exact (k0 c1)
  · refine a_iload_n 3 dMo_writeOut_38 rfl ?_
    refine a_iload_n 2 dMo_writeOut_39 rfl ?_
    refine a_isub dMo_writeOut_40 ?_
    refine a_iconst (1 : Int32) dMo_writeOut_41 (by decide) ?_
    refine a_iadd dMo_writeOut_42 ?_
    refine a_iload 4 dMo_writeOut_43 rfl ?_
    refine a_iadd dMo_writeOut_45 ?_
    refine a_iload_n 1 dMo_writeOut_46 rfl ?_
    refine a_isub dMo_writeOut_47 ?_
    refine a_istore [(5, .int ((((x3 - x2) + (1 : Int32)) + x4) - x1)), (0, .ref ad_m), (1, .int x1), (2, .int x2), (3, .int x3), (4, .int x4)] dMo_writeOut_48 (by decide) rfl ?_
    refine a_iload 0 dMo_writeOut_50 rfl ?_
    refine a_bipush (8 : Int32) dMo_writeOut_52 (by decide) ?_
    refine a_idiv dMo_writeOut_54 (by decide) ?_
    refine a_istore [(6, .int (((((x3 - x2) + (1 : Int32)) + x4) - x1) / (8 : Int32))), (5, .int ((((x3 - x2) + (1 : Int32)) + x4) - x1)), (0, .ref ad_m), (1, .int x1), (2, .int x2), (3, .int x3), (4, .int x4)] dMo_writeOut_55 (by decide) rfl ?_
    refine a_iconst (1 : Int32) dMo_writeOut_57 (by decide) ?_
    refine a_istore [(7, .int (1 : Int32)), (6, .int (((((x3 - x2) + (1 : Int32)) + x4) - x1) / (8 : Int32))), (5, .int ((((x3 - x2) + (1 : Int32)) + x4) - x1)), (0, .ref ad_m), (1, .int x1), (2, .int x2), (3, .int x3), (4, .int x4)] dMo_writeOut_58 (by decide) rfl ?_
    refine a_iload 2 dMo_writeOut_60 rfl ?_
    refine a_bipush (8 : Int32) dMo_writeOut_62 (by decide) ?_
    refine a_irem dMo_writeOut_64 (by decide) ?_
    refine a_istore [(8, .int (((((x3 - x2) + (1 : Int32)) + x4) - x1) - ((((x3 - x2) + (1 : Int32)) + x4) - x1) / (8 : Int32) * (8 : Int32))), (7, .int (1 : Int32)), (6, .int (((((x3 - x2) + (1 : Int32)) + x4) - x1) / (8 : Int32))), (5, .int ((((x3 - x2) + (1 : Int32)) + x4) - x1)), (0, .ref ad_m), (1, .int x1), (2, .int x2), (3, .int x3), (4, .int x4)] dMo_writeOut_65 (by decide) rfl ?_
    refine a_lv [(0, .ref ad_m), (1, .int x1), (2, .int x2), (3, .int x3), (4, .int x4), (5, .int ((((x3 - x2) + (1 : Int32)) + x4) - x1)), (6, .int (((((x3 - x2) + (1 : Int32)) + x4) - x1) / (8 : Int32))), (7, .int (1 : Int32)), (8, .int (((((x3 - x2) + (1 : Int32)) + x4) - x1) - ((((x3 - x2) + (1 : Int32)) + x4) - x1) / (8 : Int32) * (8 : Int32)))] [4, 5, 6, 7, 8, 3, 2, 1, 0] rfl ?_
    exact (k1 c1)

set_option maxRecDepth 20000 in
theorem b_Mo_writeOut_67 {l : Launch} {G : gG} {w0 w1 : va_W} {res : Option Value} {ad_m ar_text ar_figures ar_words : Nat} {m_thrown m_length m_kind m_place m_below m_many m_point m_from m_to m_rest m_huge : Int32} {m_exponent m_whole m_scale : Int64} {m_text m_figs m_wds : Nat → Int32} {x1 : Int32} {x2 : Int32} {x3 : Int32} {x4 : Int32} {x5 : Int32} {x6 : Int32} {x7 : Int32} {x8 : Int32} (s0 : ((7 : Int32) ≤ x8) → vp_in x6 800) (s1 : ((7 : Int32) ≤ x8) → vp_in x4 4096) (s2 : ((7 : Int32) ≤ x8) → vp_in x6 800) (k3 : ((7 : Int32) ≤ x8) → gAt l G m_Mo_writeOut w0 res w1 29 [(0, .ref ad_m), (1, .int x1), (2, .int x2), (3, .int x3), (4, .int (x4 + 1))] [] [oMo ad_m m_thrown ar_text m_length m_kind m_place m_below ar_figures m_many m_point m_exponent ar_words m_from m_to m_whole m_scale m_rest m_huge, aI G ar_text 4096 m_text, aI G ar_figures 4096 m_figs, aI G ar_words 800 (upd m_wds (Int32.toNatClampNeg x6) ((m_wds (Int32.toNatClampNeg x6)) + ((m_figs (Int32.toNatClampNeg x4)) * x7)))]) (k4 : (¬ (7 : Int32) ≤ x8) → gAt l G m_Mo_writeOut w0 res w1 67 [(0, .ref ad_m), (1, .int x1), (2, .int x2), (3, .int x3), (4, .int x4), (5, .int x5), (6, .int x6), (7, .int (x7 * (10 : Int32))), (8, .int (x8 + 1))] [] [oMo ad_m m_thrown ar_text m_length m_kind m_place m_below ar_figures m_many m_point m_exponent ar_words m_from m_to m_whole m_scale m_rest m_huge, aI G ar_text 4096 m_text, aI G ar_figures 4096 m_figs, aI G ar_words 800 m_wds]) : gAt l G m_Mo_writeOut w0 res w1 67 [(0, .ref ad_m), (1, .int x1), (2, .int x2), (3, .int x3), (4, .int x4), (5, .int x5), (6, .int x6), (7, .int x7), (8, .int x8)] [] [oMo ad_m m_thrown ar_text m_length m_kind m_place m_below ar_figures m_many m_point m_exponent ar_words m_from m_to m_whole m_scale m_rest m_huge, aI G ar_text 4096 m_text, aI G ar_figures 4096 m_figs, aI G ar_words 800 m_wds] := by
  refine a_iload 8 dMo_writeOut_67 rfl ?_
  refine a_bipush (7 : Int32) dMo_writeOut_69 (by decide) ?_
  refine a_icmp_ge 87 dMo_writeOut_71 (by decide) (fun c1 => ?_) (fun c1 => ?_)
  · refine a_aload_n 0 dMo_writeOut_87 rfl ?_
    refine a_get (ci := 6) (kx := 10) 0 dMo_writeOut_88 rfl I_Mo w_658 rfl (by decide) rfl ?_
    refine a_iload 6 dMo_writeOut_91 rfl ?_
    refine a_aload_n 0 dMo_writeOut_93 rfl ?_
    refine a_get (ci := 6) (kx := 10) 0 dMo_writeOut_94 rfl I_Mo w_658 rfl (by decide) rfl ?_
    refine a_iload 6 dMo_writeOut_97 rfl ?_
    refine a_iald 3 dMo_writeOut_99 rfl (s0 c1) ?_
    refine a_aload_n 0 dMo_writeOut_100 rfl ?_
    refine a_get (ci := 6) (kx := 6) 0 dMo_writeOut_101 rfl I_Mo w_654 rfl (by decide) rfl ?_
    refine a_iload 4 dMo_writeOut_104 rfl ?_
    refine a_iald 2 dMo_writeOut_106 rfl (s1 c1) ?_
    refine a_iload 7 dMo_writeOut_107 rfl ?_
    refine a_imul dMo_writeOut_109 ?_
    refine a_iadd dMo_writeOut_110 ?_
    refine a_iast 3 [oMo ad_m m_thrown ar_text m_length m_kind m_place m_below ar_figures m_many m_point m_exponent ar_words m_from m_to m_whole m_scale m_rest m_huge, aI G ar_text 4096 m_text, aI G ar_figures 4096 m_figs, aI G ar_words 800 (upd m_wds (Int32.toNatClampNeg x6) ((m_wds (Int32.toNatClampNeg x6)) + ((m_figs (Int32.toNatClampNeg x4)) * x7)))] dMo_writeOut_111 rfl (s2 c1) rfl ?_
    refine a_iinc 4 (x4 + 1) [(4, .int (x4 + 1)), (0, .ref ad_m), (1, .int x1), (2, .int x2), (3, .int x3), (5, .int x5), (6, .int x6), (7, .int x7), (8, .int x8)] dMo_writeOut_112 rfl rfl (by decide) rfl ?_
    refine a_goto 29 dMo_writeOut_115 (by decide) ?_
    refine a_lv [(0, .ref ad_m), (1, .int x1), (2, .int x2), (3, .int x3), (4, .int (x4 + 1))] [1, 2, 3, 4, 0] rfl ?_
    exact (k3 c1)
  · refine a_iload 7 dMo_writeOut_74 rfl ?_
    refine a_bipush (10 : Int32) dMo_writeOut_76 (by decide) ?_
    refine a_imul dMo_writeOut_78 ?_
    refine a_istore [(7, .int (x7 * (10 : Int32))), (0, .ref ad_m), (1, .int x1), (2, .int x2), (3, .int x3), (4, .int x4), (5, .int x5), (6, .int x6), (8, .int x8)] dMo_writeOut_79 (by decide) rfl ?_
    refine a_iinc 8 (x8 + 1) [(8, .int (x8 + 1)), (7, .int (x7 * (10 : Int32))), (0, .ref ad_m), (1, .int x1), (2, .int x2), (3, .int x3), (4, .int x4), (5, .int x5), (6, .int x6)] dMo_writeOut_81 rfl rfl (by decide) rfl ?_
    refine a_goto 67 dMo_writeOut_84 (by decide) ?_
    refine a_lv [(0, .ref ad_m), (1, .int x1), (2, .int x2), (3, .int x3), (4, .int x4), (5, .int x5), (6, .int x6), (7, .int (x7 * (10 : Int32))), (8, .int (x8 + 1))] [2, 3, 4, 5, 6, 7, 8, 1, 0] rfl ?_
    exact (k4 c1)

set_option maxRecDepth 20000 in
theorem b_Mo_writeOut_130 {l : Launch} {G : gG} {w0 w1 : va_W} {res : Option Value} {ad_m ar_text ar_figures ar_words : Nat} {m_thrown m_length m_kind m_place m_below m_many m_point m_from m_to m_rest m_huge : Int32} {m_exponent m_whole m_scale : Int64} {m_text m_figs m_wds : Nat → Int32} {x1 : Int32} {x2 : Int32} {x3 : Int32} {x4 : Int32} (k0 : ((54 : Int32) ≤ m_from) → gAt l G m_Mo_writeOut w0 res w1 164 [(0, .ref ad_m), (1, .int x1), (2, .int x2), (3, .int x3), (4, .int x4)] [] [oMo ad_m m_thrown ar_text m_length m_kind m_place m_below ar_figures m_many m_point m_exponent ar_words m_from m_to m_whole m_scale m_rest m_huge, aI G ar_text 4096 m_text, aI G ar_figures 4096 m_figs, aI G ar_words 800 m_wds]) (s1 : (¬ (54 : Int32) ≤ m_from) → vp_in m_from 800) (k2 : (¬ (54 : Int32) ≤ m_from) → (¬ (m_wds (Int32.toNatClampNeg m_from)) = 0) → gAt l G m_Mo_writeOut w0 res w1 164 [(0, .ref ad_m), (1, .int x1), (2, .int x2), (3, .int x3), (4, .int x4)] [] [oMo ad_m m_thrown ar_text m_length m_kind m_place m_below ar_figures m_many m_point m_exponent ar_words m_from m_to m_whole m_scale m_rest m_huge, aI G ar_text 4096 m_text, aI G ar_figures 4096 m_figs, aI G ar_words 800 m_wds]) (k3 : (¬ (54 : Int32) ≤ m_from) → ((m_wds (Int32.toNatClampNeg m_from)) = 0) → gAt l G m_Mo_writeOut w0 res w1 130 [(0, .ref ad_m), (1, .int x1), (2, .int x2), (3, .int x3), (4, .int x4)] [] [oMo ad_m m_thrown ar_text m_length m_kind m_place m_below ar_figures m_many m_point m_exponent ar_words (m_from + (1 : Int32)) m_to m_whole m_scale m_rest m_huge, aI G ar_text 4096 m_text, aI G ar_figures 4096 m_figs, aI G ar_words 800 m_wds]) : gAt l G m_Mo_writeOut w0 res w1 130 [(0, .ref ad_m), (1, .int x1), (2, .int x2), (3, .int x3), (4, .int x4)] [] [oMo ad_m m_thrown ar_text m_length m_kind m_place m_below ar_figures m_many m_point m_exponent ar_words m_from m_to m_whole m_scale m_rest m_huge, aI G ar_text 4096 m_text, aI G ar_figures 4096 m_figs, aI G ar_words 800 m_wds] := by
  refine a_aload_n 0 dMo_writeOut_130 rfl ?_
  refine a_get (ci := 6) (kx := 11) 0 dMo_writeOut_131 rfl I_Mo w_659 rfl (by decide) rfl ?_
  refine a_bipush (54 : Int32) dMo_writeOut_134 (by decide) ?_
  refine a_icmp_ge 164 dMo_writeOut_136 (by decide) (fun c1 => ?_) (fun c1 => ?_)
  · exact (k0 c1)
  · refine a_aload_n 0 dMo_writeOut_139 rfl ?_
    refine a_get (ci := 6) (kx := 10) 0 dMo_writeOut_140 rfl I_Mo w_658 rfl (by decide) rfl ?_
    refine a_aload_n 0 dMo_writeOut_143 rfl ?_
    refine a_get (ci := 6) (kx := 11) 0 dMo_writeOut_144 rfl I_Mo w_659 rfl (by decide) rfl ?_
    refine a_iald 3 dMo_writeOut_147 rfl (s1 c1) ?_
    refine a_if_ne 164 dMo_writeOut_148 (by decide) (fun c2 => ?_) (fun c2 => ?_)
    · exact (k2 c1 c2)
    · refine a_aload_n 0 dMo_writeOut_151 rfl ?_
      refine a_dup dMo_writeOut_152 rfl ?_
      refine a_get (ci := 6) (kx := 11) 0 dMo_writeOut_153 rfl I_Mo w_659 rfl (by decide) rfl ?_
      refine a_iconst (1 : Int32) dMo_writeOut_156 (by decide) ?_
      refine a_iadd dMo_writeOut_157 ?_
      refine a_put (ci := 6) (kx := 11) ty_Mo 0 [oMo ad_m m_thrown ar_text m_length m_kind m_place m_below ar_figures m_many m_point m_exponent ar_words (m_from + (1 : Int32)) m_to m_whole m_scale m_rest m_huge, aI G ar_text 4096 m_text, aI G ar_figures 4096 m_figs, aI G ar_words 800 m_wds] dMo_writeOut_158 rfl I_Mo tyo_Mo nmo_Mo w_659 rfl (by decide) rfl rfl rfl (Nat.le_of_ble_eq_true rfl) rfl ?_
      refine a_goto 130 dMo_writeOut_161 (by decide) ?_
      exact (k3 c1 c2)

set_option maxRecDepth 20000 in
theorem b_Mo_writeOut_164 {l : Launch} {G : gG} {w0 w1 : va_W} {res : Option Value} {ad_m ar_text ar_figures ar_words : Nat} {m_thrown m_length m_kind m_place m_below m_many m_point m_from m_to m_rest m_huge : Int32} {m_exponent m_whole m_scale : Int64} {m_text m_figs m_wds : Nat → Int32} {x1 : Int32} {x2 : Int32} {x3 : Int32} {x4 : Int32} (k0 : (m_to ≤ (54 : Int32)) → gAt l G m_Mo_writeOut w0 res w1 198 [(0, .ref ad_m), (1, .int x1), (2, .int x2), (3, .int x3), (4, .int x4)] [] [oMo ad_m m_thrown ar_text m_length m_kind m_place m_below ar_figures m_many m_point m_exponent ar_words m_from m_to m_whole m_scale m_rest m_huge, aI G ar_text 4096 m_text, aI G ar_figures 4096 m_figs, aI G ar_words 800 m_wds]) (s1 : (¬ m_to ≤ (54 : Int32)) → vp_in m_to 800) (k2 : (¬ m_to ≤ (54 : Int32)) → (¬ (m_wds (Int32.toNatClampNeg m_to)) = 0) → gAt l G m_Mo_writeOut w0 res w1 198 [(0, .ref ad_m), (1, .int x1), (2, .int x2), (3, .int x3), (4, .int x4)] [] [oMo ad_m m_thrown ar_text m_length m_kind m_place m_below ar_figures m_many m_point m_exponent ar_words m_from m_to m_whole m_scale m_rest m_huge, aI G ar_text 4096 m_text, aI G ar_figures 4096 m_figs, aI G ar_words 800 m_wds]) (k3 : (¬ m_to ≤ (54 : Int32)) → ((m_wds (Int32.toNatClampNeg m_to)) = 0) → gAt l G m_Mo_writeOut w0 res w1 164 [(0, .ref ad_m), (1, .int x1), (2, .int x2), (3, .int x3), (4, .int x4)] [] [oMo ad_m m_thrown ar_text m_length m_kind m_place m_below ar_figures m_many m_point m_exponent ar_words m_from (m_to - (1 : Int32)) m_whole m_scale m_rest m_huge, aI G ar_text 4096 m_text, aI G ar_figures 4096 m_figs, aI G ar_words 800 m_wds]) : gAt l G m_Mo_writeOut w0 res w1 164 [(0, .ref ad_m), (1, .int x1), (2, .int x2), (3, .int x3), (4, .int x4)] [] [oMo ad_m m_thrown ar_text m_length m_kind m_place m_below ar_figures m_many m_point m_exponent ar_words m_from m_to m_whole m_scale m_rest m_huge, aI G ar_text 4096 m_text, aI G ar_figures 4096 m_figs, aI G ar_words 800 m_wds] := by
  refine a_aload_n 0 dMo_writeOut_164 rfl ?_
  refine a_get (ci := 6) (kx := 12) 0 dMo_writeOut_165 rfl I_Mo w_660 rfl (by decide) rfl ?_
  refine a_bipush (54 : Int32) dMo_writeOut_168 (by decide) ?_
  refine a_icmp_le 198 dMo_writeOut_170 (by decide) (fun c1 => ?_) (fun c1 => ?_)
  · exact (k0 c1)
  · refine a_aload_n 0 dMo_writeOut_173 rfl ?_
    refine a_get (ci := 6) (kx := 10) 0 dMo_writeOut_174 rfl I_Mo w_658 rfl (by decide) rfl ?_
    refine a_aload_n 0 dMo_writeOut_177 rfl ?_
    refine a_get (ci := 6) (kx := 12) 0 dMo_writeOut_178 rfl I_Mo w_660 rfl (by decide) rfl ?_
    refine a_iald 3 dMo_writeOut_181 rfl (s1 c1) ?_
    refine a_if_ne 198 dMo_writeOut_182 (by decide) (fun c2 => ?_) (fun c2 => ?_)
    · exact (k2 c1 c2)
    · refine a_aload_n 0 dMo_writeOut_185 rfl ?_
      refine a_dup dMo_writeOut_186 rfl ?_
      refine a_get (ci := 6) (kx := 12) 0 dMo_writeOut_187 rfl I_Mo w_660 rfl (by decide) rfl ?_
      refine a_iconst (1 : Int32) dMo_writeOut_190 (by decide) ?_
      refine a_isub dMo_writeOut_191 ?_
      refine a_put (ci := 6) (kx := 12) ty_Mo 0 [oMo ad_m m_thrown ar_text m_length m_kind m_place m_below ar_figures m_many m_point m_exponent ar_words m_from (m_to - (1 : Int32)) m_whole m_scale m_rest m_huge, aI G ar_text 4096 m_text, aI G ar_figures 4096 m_figs, aI G ar_words 800 m_wds] dMo_writeOut_192 rfl I_Mo tyo_Mo nmo_Mo w_660 rfl (by decide) rfl rfl rfl (Nat.le_of_ble_eq_true rfl) rfl ?_
      refine a_goto 164 dMo_writeOut_195 (by decide) ?_
      exact (k3 c1 c2)

set_option maxRecDepth 20000 in
theorem b_Mo_writeOut_198 {l : Launch} {G : gG} {w0 w1 : va_W} {res : Option Value} {ad_m ar_text ar_figures ar_words : Nat} {m_thrown m_length m_kind m_place m_below m_many m_point m_from m_to m_rest m_huge : Int32} {m_exponent m_whole m_scale : Int64} {m_text m_figs m_wds : Nat → Int32} {x1 : Int32} {x2 : Int32} {x3 : Int32} {x4 : Int32} (k0 : res = none ∧ [oMo ad_m m_thrown ar_text m_length m_kind m_place m_below ar_figures m_many m_point m_exponent ar_words m_from m_to m_whole m_scale m_rest m_huge, aI G ar_text 4096 m_text, aI G ar_figures 4096 m_figs, aI G ar_words 800 m_wds] = w1) : gAt l G m_Mo_writeOut w0 res w1 198 [(0, .ref ad_m), (1, .int x1), (2, .int x2), (3, .int x3), (4, .int x4)] [] [oMo ad_m m_thrown ar_text m_length m_kind m_place m_below ar_figures m_many m_point m_exponent ar_words m_from m_to m_whole m_scale m_rest m_huge, aI G ar_text 4096 m_text, aI G ar_figures 4096 m_figs, aI G ar_words 800 m_wds] := by
  exact a_vret (st := []) dMo_writeOut_198 rfl k0.1 k0.2

set_option maxRecDepth 20000 in
theorem b_Mo_wholePart_0 {l : Launch} {G : gG} {w0 w1 : va_W} {res : Option Value} {ad_m ar_text ar_figures ar_words : Nat} {m_thrown m_length m_kind m_place m_below m_many m_point m_from m_to m_rest m_huge : Int32} {m_exponent m_whole m_scale : Int64} {m_text m_figs m_wds : Nat → Int32}  (k0 : ((53 : Int32) ≤ m_from) → gAt l G m_Mo_wholePart w0 res w1 16 [(0, .ref ad_m)] [.long (0 : Int64)] [oMo ad_m m_thrown ar_text m_length m_kind m_place m_below ar_figures m_many m_point m_exponent ar_words m_from m_to m_whole m_scale m_rest m_huge, aI G ar_text 4096 m_text, aI G ar_figures 4096 m_figs, aI G ar_words 800 m_wds]) (k1 : (¬ (53 : Int32) ≤ m_from) → gAt l G m_Mo_wholePart w0 res w1 16 [(0, .ref ad_m)] [.long (10000000000000000 : Int64)] [oMo ad_m m_thrown ar_text m_length m_kind m_place m_below ar_figures m_many m_point m_exponent ar_words m_from m_to m_whole m_scale m_rest m_huge, aI G ar_text 4096 m_text, aI G ar_figures 4096 m_figs, aI G ar_words 800 m_wds]) : gAt l G m_Mo_wholePart w0 res w1 0 [(0, .ref ad_m)] [] [oMo ad_m m_thrown ar_text m_length m_kind m_place m_below ar_figures m_many m_point m_exponent ar_words m_from m_to m_whole m_scale m_rest m_huge, aI G ar_text 4096 m_text, aI G ar_figures 4096 m_figs, aI G ar_words 800 m_wds] := by
  refine a_aload_n 0 dMo_wholePart_0 rfl ?_
  refine a_get (ci := 6) (kx := 11) 0 dMo_wholePart_1 rfl I_Mo w_659 rfl (by decide) rfl ?_
  refine a_bipush (53 : Int32) dMo_wholePart_4 (by decide) ?_
  refine a_icmp_ge 15 dMo_wholePart_6 (by decide) (fun c1 => ?_) (fun c1 => ?_)
  · refine a_lconst (0 : Int64) dMo_wholePart_15 (by decide) ?_
    exact (k0 c1)
  · refine a_ldc2 (10000000000000000 : Int64) dMo_wholePart_9 w_799 ?_
    refine a_goto 16 dMo_wholePart_12 (by decide) ?_
    exact (k1 c1)

set_option maxRecDepth 20000 in
theorem b_Mo_wholePart_16 {l : Launch} {G : gG} {w0 w1 : va_W} {res : Option Value} {ad_m ar_text ar_figures ar_words : Nat} {m_thrown m_length m_kind m_place m_below m_many m_point m_from m_to m_rest m_huge : Int32} {m_exponent m_whole m_scale : Int64} {m_text m_figs m_wds : Nat → Int32} {v0 : Int64} (k0 : ((lg_cmp v0 (0 : Int64)) ≤ 0) → ((54 : Int32) ≤ m_from) → gAt l G m_Mo_wholePart w0 res w1 52 [(0, .ref ad_m), (1, .long v0)] [.long (0 : Int64)] [oMo ad_m m_thrown ar_text m_length m_kind m_place m_below ar_figures m_many m_point m_exponent ar_words m_from m_to m_whole m_scale m_rest m_huge, aI G ar_text 4096 m_text, aI G ar_figures 4096 m_figs, aI G ar_words 800 m_wds]) (s1 : ((lg_cmp v0 (0 : Int64)) ≤ 0) → (¬ (54 : Int32) ≤ m_from) → vp_in (53 : Int32) 800) (k2 : ((lg_cmp v0 (0 : Int64)) ≤ 0) → (¬ (54 : Int32) ≤ m_from) → gAt l G m_Mo_wholePart w0 res w1 52 [(0, .ref ad_m), (1, .long v0)] [.long ((100000000 : Int64) * (Int32.toInt64 (m_wds (Int32.toNatClampNeg (53 : Int32)))))] [oMo ad_m m_thrown ar_text m_length m_kind m_place m_below ar_figures m_many m_point m_exponent ar_words m_from m_to m_whole m_scale m_rest m_huge, aI G ar_text 4096 m_text, aI G ar_figures 4096 m_figs, aI G ar_words 800 m_wds]) (k3 : (¬ (lg_cmp v0 (0 : Int64)) ≤ 0) → gAt l G m_Mo_wholePart w0 res w1 61 [(0, .ref ad_m), (1, .long v0)] [.long v0] [oMo ad_m m_thrown ar_text m_length m_kind m_place m_below ar_figures m_many m_point m_exponent ar_words m_from m_to m_whole m_scale m_rest m_huge, aI G ar_text 4096 m_text, aI G ar_figures 4096 m_figs, aI G ar_words 800 m_wds]) : gAt l G m_Mo_wholePart w0 res w1 16 [(0, .ref ad_m)] [.long v0] [oMo ad_m m_thrown ar_text m_length m_kind m_place m_below ar_figures m_many m_point m_exponent ar_words m_from m_to m_whole m_scale m_rest m_huge, aI G ar_text 4096 m_text, aI G ar_figures 4096 m_figs, aI G ar_words 800 m_wds] := by
  refine a_lstore_n [(1, .long v0), (0, .ref ad_m)] dMo_wholePart_16 rfl (by decide) rfl ?_
  refine a_lload_n 0 dMo_wholePart_17 rfl ?_
  refine a_lconst (0 : Int64) dMo_wholePart_18 (by decide) ?_
  refine a_lcmp dMo_wholePart_19 ?_
  refine a_if_le 27 dMo_wholePart_20 (by decide) (fun c1 => ?_) (fun c1 => ?_)
  · refine a_aload_n 1 dMo_wholePart_27 rfl ?_
    refine a_get (ci := 6) (kx := 11) 0 dMo_wholePart_28 rfl I_Mo w_659 rfl (by decide) rfl ?_
    refine a_bipush (54 : Int32) dMo_wholePart_31 (by decide) ?_
    refine a_icmp_ge 51 dMo_wholePart_33 (by decide) (fun c2 => ?_) (fun c2 => ?_)
    · refine a_lconst (0 : Int64) dMo_wholePart_51 (by decide) ?_
      refine a_lv [(0, .ref ad_m), (1, .long v0)] [1, 0] rfl ?_
      exact (k0 c1 c2)
    · refine a_ldc2 (100000000 : Int64) dMo_wholePart_36 w_800 ?_
      refine a_aload_n 1 dMo_wholePart_39 rfl ?_
      refine a_get (ci := 6) (kx := 10) 0 dMo_wholePart_40 rfl I_Mo w_658 rfl (by decide) rfl ?_
      refine a_bipush (53 : Int32) dMo_wholePart_43 (by decide) ?_
      refine a_iald 3 dMo_wholePart_45 rfl (s1 c1 c2) ?_
      refine a_i2l dMo_wholePart_46 ?_
      refine a_lmul dMo_wholePart_47 ?_
      refine a_goto 52 dMo_wholePart_48 (by decide) ?_
      refine a_lv [(0, .ref ad_m), (1, .long v0)] [1, 0] rfl ?_
      exact (k2 c1 c2)
  · refine a_lload_n 0 dMo_wholePart_23 rfl ?_
    refine a_goto 61 dMo_wholePart_24 (by decide) ?_
    refine a_lv [(0, .ref ad_m), (1, .long v0)] [1, 0] rfl ?_
    exact (k3 c1)

set_option maxRecDepth 20000 in
theorem b_Mo_wholePart_52 {l : Launch} {G : gG} {w0 w1 : va_W} {res : Option Value} {ad_m ar_text ar_figures ar_words : Nat} {m_thrown m_length m_kind m_place m_below m_many m_point m_from m_to m_rest m_huge : Int32} {m_exponent m_whole m_scale : Int64} {m_text m_figs m_wds : Nat → Int32} {x1 : Int64} {v0 : Int64} (s0 : vp_in (54 : Int32) 800) (k1 : gAt l G m_Mo_wholePart w0 res w1 61 [(0, .ref ad_m), (1, .long x1)] [.long (v0 + (Int32.toInt64 (m_wds (Int32.toNatClampNeg (54 : Int32)))))] [oMo ad_m m_thrown ar_text m_length m_kind m_place m_below ar_figures m_many m_point m_exponent ar_words m_from m_to m_whole m_scale m_rest m_huge, aI G ar_text 4096 m_text, aI G ar_figures 4096 m_figs, aI G ar_words 800 m_wds]) : gAt l G m_Mo_wholePart w0 res w1 52 [(0, .ref ad_m), (1, .long x1)] [.long v0] [oMo ad_m m_thrown ar_text m_length m_kind m_place m_below ar_figures m_many m_point m_exponent ar_words m_from m_to m_whole m_scale m_rest m_huge, aI G ar_text 4096 m_text, aI G ar_figures 4096 m_figs, aI G ar_words 800 m_wds] := by
  refine a_aload_n 0 dMo_wholePart_52 rfl ?_
  refine a_get (ci := 6) (kx := 10) 0 dMo_wholePart_53 rfl I_Mo w_658 rfl (by decide) rfl ?_
  refine a_bipush (54 : Int32) dMo_wholePart_56 (by decide) ?_
  refine a_iald 3 dMo_wholePart_58 rfl s0 ?_
  refine a_i2l dMo_wholePart_59 ?_
  refine a_ladd dMo_wholePart_60 ?_
  exact k1

set_option maxRecDepth 20000 in
theorem b_Mo_wholePart_61 {l : Launch} {G : gG} {w0 w1 : va_W} {res : Option Value} {ad_m ar_text ar_figures ar_words : Nat} {m_thrown m_length m_kind m_place m_below m_many m_point m_from m_to m_rest m_huge : Int32} {m_exponent m_whole m_scale : Int64} {m_text m_figs m_wds : Nat → Int32} {x1 : Int64} {v0 : Int64} (k0 : res = some (.long v0) ∧ [oMo ad_m m_thrown ar_text m_length m_kind m_place m_below ar_figures m_many m_point m_exponent ar_words m_from m_to m_whole m_scale m_rest m_huge, aI G ar_text 4096 m_text, aI G ar_figures 4096 m_figs, aI G ar_words 800 m_wds] = w1) : gAt l G m_Mo_wholePart w0 res w1 61 [(0, .ref ad_m), (1, .long x1)] [.long v0] [oMo ad_m m_thrown ar_text m_length m_kind m_place m_below ar_figures m_many m_point m_exponent ar_words m_from m_to m_whole m_scale m_rest m_huge, aI G ar_text 4096 m_text, aI G ar_figures 4096 m_figs, aI G ar_words 800 m_wds] := by
  exact a_lret (st := []) dMo_wholePart_61 rfl k0.1 k0.2

set_option maxRecDepth 20000 in
theorem b_Mo_half_0 {l : Launch} {G : gG} {w0 w1 : va_W} {res : Option Value} {ad_m ar_text ar_figures ar_words : Nat} {m_thrown m_length m_kind m_place m_below m_many m_point m_from m_to m_rest m_huge : Int32} {m_exponent m_whole m_scale : Int64} {m_text m_figs m_wds : Nat → Int32}  (k0 : gAt l G m_Mo_half w0 res w1 7 [(0, .ref ad_m), (1, .int (0 : Int32)), (2, .int m_from)] [] [oMo ad_m m_thrown ar_text m_length m_kind m_place m_below ar_figures m_many m_point m_exponent ar_words m_from m_to m_whole m_scale m_rest m_huge, aI G ar_text 4096 m_text, aI G ar_figures 4096 m_figs, aI G ar_words 800 m_wds]) : gAt l G m_Mo_half w0 res w1 0 [(0, .ref ad_m)] [] [oMo ad_m m_thrown ar_text m_length m_kind m_place m_below ar_figures m_many m_point m_exponent ar_words m_from m_to m_whole m_scale m_rest m_huge, aI G ar_text 4096 m_text, aI G ar_figures 4096 m_figs, aI G ar_words 800 m_wds] := by
  refine a_iconst (0 : Int32) dMo_half_0 (by decide) ?_
  refine a_istore_n [(1, .int (0 : Int32)), (0, .ref ad_m)] dMo_half_1 rfl (by decide) rfl ?_
  refine a_aload_n 1 dMo_half_2 rfl ?_
  refine a_get (ci := 6) (kx := 11) 0 dMo_half_3 rfl I_Mo w_659 rfl (by decide) rfl ?_
  refine a_istore_n [(2, .int m_from), (1, .int (0 : Int32)), (0, .ref ad_m)] dMo_half_6 rfl (by decide) rfl ?_
  refine a_lv [(0, .ref ad_m), (1, .int (0 : Int32)), (2, .int m_from)] [2, 1, 0] rfl ?_
  exact k0

set_option maxRecDepth 20000 in
theorem b_Mo_half_7 {l : Launch} {G : gG} {w0 w1 : va_W} {res : Option Value} {ad_m ar_text ar_figures ar_words : Nat} {m_thrown m_length m_kind m_place m_below m_many m_point m_from m_to m_rest m_huge : Int32} {m_exponent m_whole m_scale : Int64} {m_text m_figs m_wds : Nat → Int32} {x1 : Int32} {x2 : Int32} (k0 : (m_to < x2) → (x1 ≤ 0) → gAt l G m_Mo_half w0 res w1 71 [(0, .ref ad_m), (1, .int x1), (2, .int x2)] [] [oMo ad_m m_thrown ar_text m_length m_kind m_place m_below ar_figures m_many m_point m_exponent ar_words m_from m_to m_whole m_scale m_rest m_huge, aI G ar_text 4096 m_text, aI G ar_figures 4096 m_figs, aI G ar_words 800 m_wds]) (s1 : (m_to < x2) → (¬ x1 ≤ 0) → vp_in (m_to + (1 : Int32)) 800) (k2 : (m_to < x2) → (¬ x1 ≤ 0) → gAt l G m_Mo_half w0 res w1 71 [(0, .ref ad_m), (1, .int x1), (2, .int x2)] [] [oMo ad_m m_thrown ar_text m_length m_kind m_place m_below ar_figures m_many m_point m_exponent ar_words m_from (m_to + (1 : Int32)) m_whole m_scale m_rest m_huge, aI G ar_text 4096 m_text, aI G ar_figures 4096 m_figs, aI G ar_words 800 (upd m_wds (Int32.toNatClampNeg (m_to + (1 : Int32))) (50000000 : Int32))]) (s3 : (¬ m_to < x2) → vp_in x2 800) (s4 : (¬ m_to < x2) → vp_in x2 800) (k5 : (¬ m_to < x2) → gAt l G m_Mo_half w0 res w1 7 [(0, .ref ad_m), (1, .int (((m_wds (Int32.toNatClampNeg x2)) + (x1 * (100000000 : Int32))) - ((m_wds (Int32.toNatClampNeg x2)) + (x1 * (100000000 : Int32))) / (2 : Int32) * (2 : Int32))), (2, .int (x2 + 1))] [] [oMo ad_m m_thrown ar_text m_length m_kind m_place m_below ar_figures m_many m_point m_exponent ar_words m_from m_to m_whole m_scale m_rest m_huge, aI G ar_text 4096 m_text, aI G ar_figures 4096 m_figs, aI G ar_words 800 (upd m_wds (Int32.toNatClampNeg x2) (((m_wds (Int32.toNatClampNeg x2)) + (x1 * (100000000 : Int32))) / (2 : Int32)))]) : gAt l G m_Mo_half w0 res w1 7 [(0, .ref ad_m), (1, .int x1), (2, .int x2)] [] [oMo ad_m m_thrown ar_text m_length m_kind m_place m_below ar_figures m_many m_point m_exponent ar_words m_from m_to m_whole m_scale m_rest m_huge, aI G ar_text 4096 m_text, aI G ar_figures 4096 m_figs, aI G ar_words 800 m_wds] := by
  refine a_iload_n 2 dMo_half_7 rfl ?_
  refine a_aload_n 0 dMo_half_8 rfl ?_
  refine a_get (ci := 6) (kx := 12) 0 dMo_half_9 rfl I_Mo w_660 rfl (by decide) rfl ?_
  refine a_icmp_gt 46 dMo_half_12 (by decide) (fun c1 => ?_) (fun c1 => ?_)
  · refine a_iload_n 1 dMo_half_46 rfl ?_
    refine a_if_le 71 dMo_half_47 (by decide) (fun c2 => ?_) (fun c2 => ?_)
    · exact (k0 c1 c2)
    · refine a_aload_n 0 dMo_half_50 rfl ?_
      refine a_dup dMo_half_51 rfl ?_
      refine a_get (ci := 6) (kx := 12) 0 dMo_half_52 rfl I_Mo w_660 rfl (by decide) rfl ?_
      refine a_iconst (1 : Int32) dMo_half_55 (by decide) ?_
      refine a_iadd dMo_half_56 ?_
      refine a_put (ci := 6) (kx := 12) ty_Mo 0 [oMo ad_m m_thrown ar_text m_length m_kind m_place m_below ar_figures m_many m_point m_exponent ar_words m_from (m_to + (1 : Int32)) m_whole m_scale m_rest m_huge, aI G ar_text 4096 m_text, aI G ar_figures 4096 m_figs, aI G ar_words 800 m_wds] dMo_half_57 rfl I_Mo tyo_Mo nmo_Mo w_660 rfl (by decide) rfl rfl rfl (Nat.le_of_ble_eq_true rfl) rfl ?_
      refine a_aload_n 0 dMo_half_60 rfl ?_
      refine a_get (ci := 6) (kx := 10) 0 dMo_half_61 rfl I_Mo w_658 rfl (by decide) rfl ?_
      refine a_aload_n 0 dMo_half_64 rfl ?_
      refine a_get (ci := 6) (kx := 12) 0 dMo_half_65 rfl I_Mo w_660 rfl (by decide) rfl ?_
      refine a_ldc (50000000 : Int32) dMo_half_68 w_806 ?_
      refine a_iast 3 [oMo ad_m m_thrown ar_text m_length m_kind m_place m_below ar_figures m_many m_point m_exponent ar_words m_from (m_to + (1 : Int32)) m_whole m_scale m_rest m_huge, aI G ar_text 4096 m_text, aI G ar_figures 4096 m_figs, aI G ar_words 800 (upd m_wds (Int32.toNatClampNeg (m_to + (1 : Int32))) (50000000 : Int32))] dMo_half_70 rfl (s1 c1 c2) rfl ?_
      exact (k2 c1 c2)
  · refine a_aload_n 0 dMo_half_15 rfl ?_
    refine a_get (ci := 6) (kx := 10) 0 dMo_half_16 rfl I_Mo w_658 rfl (by decide) rfl ?_
    refine a_iload_n 2 dMo_half_19 rfl ?_
    refine a_iald 3 dMo_half_20 rfl (s3 c1) ?_
    refine a_iload_n 1 dMo_half_21 rfl ?_
    refine a_ldc (100000000 : Int32) dMo_half_22 w_805 ?_
    refine a_imul dMo_half_24 ?_
    refine a_iadd dMo_half_25 ?_
    refine a_istore_n [(3, .int ((m_wds (Int32.toNatClampNeg x2)) + (x1 * (100000000 : Int32)))), (0, .ref ad_m), (1, .int x1), (2, .int x2)] dMo_half_26 rfl (by decide) rfl ?_
    refine a_aload_n 1 dMo_half_27 rfl ?_
    refine a_get (ci := 6) (kx := 10) 0 dMo_half_28 rfl I_Mo w_658 rfl (by decide) rfl ?_
    refine a_iload_n 3 dMo_half_31 rfl ?_
    refine a_iload_n 0 dMo_half_32 rfl ?_
    refine a_iconst (2 : Int32) dMo_half_33 (by decide) ?_
    refine a_idiv dMo_half_34 (by decide) ?_
    refine a_iast 3 [oMo ad_m m_thrown ar_text m_length m_kind m_place m_below ar_figures m_many m_point m_exponent ar_words m_from m_to m_whole m_scale m_rest m_huge, aI G ar_text 4096 m_text, aI G ar_figures 4096 m_figs, aI G ar_words 800 (upd m_wds (Int32.toNatClampNeg x2) (((m_wds (Int32.toNatClampNeg x2)) + (x1 * (100000000 : Int32))) / (2 : Int32)))] dMo_half_35 rfl (s4 c1) rfl ?_
    refine a_iload_n 0 dMo_half_36 rfl ?_
    refine a_iconst (2 : Int32) dMo_half_37 (by decide) ?_
    refine a_irem dMo_half_38 (by decide) ?_
    refine a_istore_n [(1, .int (((m_wds (Int32.toNatClampNeg x2)) + (x1 * (100000000 : Int32))) - ((m_wds (Int32.toNatClampNeg x2)) + (x1 * (100000000 : Int32))) / (2 : Int32) * (2 : Int32))), (3, .int ((m_wds (Int32.toNatClampNeg x2)) + (x1 * (100000000 : Int32)))), (0, .ref ad_m), (2, .int x2)] dMo_half_39 rfl (by decide) rfl ?_
    refine a_iinc 3 (x2 + 1) [(2, .int (x2 + 1)), (1, .int (((m_wds (Int32.toNatClampNeg x2)) + (x1 * (100000000 : Int32))) - ((m_wds (Int32.toNatClampNeg x2)) + (x1 * (100000000 : Int32))) / (2 : Int32) * (2 : Int32))), (3, .int ((m_wds (Int32.toNatClampNeg x2)) + (x1 * (100000000 : Int32)))), (0, .ref ad_m)] dMo_half_40 rfl rfl (by decide) rfl ?_
    refine a_goto 7 dMo_half_43 (by decide) ?_
    refine a_lv [(0, .ref ad_m), (1, .int (((m_wds (Int32.toNatClampNeg x2)) + (x1 * (100000000 : Int32))) - ((m_wds (Int32.toNatClampNeg x2)) + (x1 * (100000000 : Int32))) / (2 : Int32) * (2 : Int32))), (2, .int (x2 + 1))] [3, 1, 0] rfl ?_
    exact (k5 c1)

set_option maxRecDepth 20000 in
theorem b_Mo_half_71 {l : Launch} {G : gG} {w0 w1 : va_W} {res : Option Value} {ad_m ar_text ar_figures ar_words : Nat} {m_thrown m_length m_kind m_place m_below m_many m_point m_from m_to m_rest m_huge : Int32} {m_exponent m_whole m_scale : Int64} {m_text m_figs m_wds : Nat → Int32} {x1 : Int32} {x2 : Int32} (k0 : ((54 : Int32) ≤ m_from) → gAt l G m_Mo_half w0 res w1 105 [(0, .ref ad_m), (1, .int x1), (2, .int x2)] [] [oMo ad_m m_thrown ar_text m_length m_kind m_place m_below ar_figures m_many m_point m_exponent ar_words m_from m_to m_whole m_scale m_rest m_huge, aI G ar_text 4096 m_text, aI G ar_figures 4096 m_figs, aI G ar_words 800 m_wds]) (s1 : (¬ (54 : Int32) ≤ m_from) → vp_in m_from 800) (k2 : (¬ (54 : Int32) ≤ m_from) → (¬ (m_wds (Int32.toNatClampNeg m_from)) = 0) → gAt l G m_Mo_half w0 res w1 105 [(0, .ref ad_m), (1, .int x1), (2, .int x2)] [] [oMo ad_m m_thrown ar_text m_length m_kind m_place m_below ar_figures m_many m_point m_exponent ar_words m_from m_to m_whole m_scale m_rest m_huge, aI G ar_text 4096 m_text, aI G ar_figures 4096 m_figs, aI G ar_words 800 m_wds]) (k3 : (¬ (54 : Int32) ≤ m_from) → ((m_wds (Int32.toNatClampNeg m_from)) = 0) → gAt l G m_Mo_half w0 res w1 71 [(0, .ref ad_m), (1, .int x1), (2, .int x2)] [] [oMo ad_m m_thrown ar_text m_length m_kind m_place m_below ar_figures m_many m_point m_exponent ar_words (m_from + (1 : Int32)) m_to m_whole m_scale m_rest m_huge, aI G ar_text 4096 m_text, aI G ar_figures 4096 m_figs, aI G ar_words 800 m_wds]) : gAt l G m_Mo_half w0 res w1 71 [(0, .ref ad_m), (1, .int x1), (2, .int x2)] [] [oMo ad_m m_thrown ar_text m_length m_kind m_place m_below ar_figures m_many m_point m_exponent ar_words m_from m_to m_whole m_scale m_rest m_huge, aI G ar_text 4096 m_text, aI G ar_figures 4096 m_figs, aI G ar_words 800 m_wds] := by
  refine a_aload_n 0 dMo_half_71 rfl ?_
  refine a_get (ci := 6) (kx := 11) 0 dMo_half_72 rfl I_Mo w_659 rfl (by decide) rfl ?_
  refine a_bipush (54 : Int32) dMo_half_75 (by decide) ?_
  refine a_icmp_ge 105 dMo_half_77 (by decide) (fun c1 => ?_) (fun c1 => ?_)
  · exact (k0 c1)
  · refine a_aload_n 0 dMo_half_80 rfl ?_
    refine a_get (ci := 6) (kx := 10) 0 dMo_half_81 rfl I_Mo w_658 rfl (by decide) rfl ?_
    refine a_aload_n 0 dMo_half_84 rfl ?_
    refine a_get (ci := 6) (kx := 11) 0 dMo_half_85 rfl I_Mo w_659 rfl (by decide) rfl ?_
    refine a_iald 3 dMo_half_88 rfl (s1 c1) ?_
    refine a_if_ne 105 dMo_half_89 (by decide) (fun c2 => ?_) (fun c2 => ?_)
    · exact (k2 c1 c2)
    · refine a_aload_n 0 dMo_half_92 rfl ?_
      refine a_dup dMo_half_93 rfl ?_
      refine a_get (ci := 6) (kx := 11) 0 dMo_half_94 rfl I_Mo w_659 rfl (by decide) rfl ?_
      refine a_iconst (1 : Int32) dMo_half_97 (by decide) ?_
      refine a_iadd dMo_half_98 ?_
      refine a_put (ci := 6) (kx := 11) ty_Mo 0 [oMo ad_m m_thrown ar_text m_length m_kind m_place m_below ar_figures m_many m_point m_exponent ar_words (m_from + (1 : Int32)) m_to m_whole m_scale m_rest m_huge, aI G ar_text 4096 m_text, aI G ar_figures 4096 m_figs, aI G ar_words 800 m_wds] dMo_half_99 rfl I_Mo tyo_Mo nmo_Mo w_659 rfl (by decide) rfl rfl rfl (Nat.le_of_ble_eq_true rfl) rfl ?_
      refine a_goto 71 dMo_half_102 (by decide) ?_
      exact (k3 c1 c2)

set_option maxRecDepth 20000 in
theorem b_Mo_half_105 {l : Launch} {G : gG} {w0 w1 : va_W} {res : Option Value} {ad_m ar_text ar_figures ar_words : Nat} {m_thrown m_length m_kind m_place m_below m_many m_point m_from m_to m_rest m_huge : Int32} {m_exponent m_whole m_scale : Int64} {m_text m_figs m_wds : Nat → Int32} {x1 : Int32} {x2 : Int32} (k0 : res = none ∧ [oMo ad_m m_thrown ar_text m_length m_kind m_place m_below ar_figures m_many m_point m_exponent ar_words m_from m_to m_whole m_scale m_rest m_huge, aI G ar_text 4096 m_text, aI G ar_figures 4096 m_figs, aI G ar_words 800 m_wds] = w1) : gAt l G m_Mo_half w0 res w1 105 [(0, .ref ad_m), (1, .int x1), (2, .int x2)] [] [oMo ad_m m_thrown ar_text m_length m_kind m_place m_below ar_figures m_many m_point m_exponent ar_words m_from m_to m_whole m_scale m_rest m_huge, aI G ar_text 4096 m_text, aI G ar_figures 4096 m_figs, aI G ar_words 800 m_wds] := by
  exact a_vret (st := []) dMo_half_105 rfl k0.1 k0.2

set_option maxRecDepth 20000 in
theorem b_Mo_twice_0 {l : Launch} {G : gG} {w0 w1 : va_W} {res : Option Value} {ad_m ar_text ar_figures ar_words : Nat} {m_thrown m_length m_kind m_place m_below m_many m_point m_from m_to m_rest m_huge : Int32} {m_exponent m_whole m_scale : Int64} {m_text m_figs m_wds : Nat → Int32}  (k0 : gAt l G m_Mo_twice w0 res w1 7 [(0, .ref ad_m), (1, .int (0 : Int32)), (2, .int m_to)] [] [oMo ad_m m_thrown ar_text m_length m_kind m_place m_below ar_figures m_many m_point m_exponent ar_words m_from m_to m_whole m_scale m_rest m_huge, aI G ar_text 4096 m_text, aI G ar_figures 4096 m_figs, aI G ar_words 800 m_wds]) : gAt l G m_Mo_twice w0 res w1 0 [(0, .ref ad_m)] [] [oMo ad_m m_thrown ar_text m_length m_kind m_place m_below ar_figures m_many m_point m_exponent ar_words m_from m_to m_whole m_scale m_rest m_huge, aI G ar_text 4096 m_text, aI G ar_figures 4096 m_figs, aI G ar_words 800 m_wds] := by
  refine a_iconst (0 : Int32) dMo_twice_0 (by decide) ?_
  refine a_istore_n [(1, .int (0 : Int32)), (0, .ref ad_m)] dMo_twice_1 rfl (by decide) rfl ?_
  refine a_aload_n 1 dMo_twice_2 rfl ?_
  refine a_get (ci := 6) (kx := 12) 0 dMo_twice_3 rfl I_Mo w_660 rfl (by decide) rfl ?_
  refine a_istore_n [(2, .int m_to), (1, .int (0 : Int32)), (0, .ref ad_m)] dMo_twice_6 rfl (by decide) rfl ?_
  refine a_lv [(0, .ref ad_m), (1, .int (0 : Int32)), (2, .int m_to)] [2, 1, 0] rfl ?_
  exact k0

set_option maxRecDepth 20000 in
theorem b_Mo_twice_7 {l : Launch} {G : gG} {w0 w1 : va_W} {res : Option Value} {ad_m ar_text ar_figures ar_words : Nat} {m_thrown m_length m_kind m_place m_below m_many m_point m_from m_to m_rest m_huge : Int32} {m_exponent m_whole m_scale : Int64} {m_text m_figs m_wds : Nat → Int32} {x1 : Int32} {x2 : Int32} (k0 : (x2 < m_from) → (x1 ≤ 0) → gAt l G m_Mo_twice w0 res w1 71 [(0, .ref ad_m), (1, .int x1), (2, .int x2)] [] [oMo ad_m m_thrown ar_text m_length m_kind m_place m_below ar_figures m_many m_point m_exponent ar_words m_from m_to m_whole m_scale m_rest m_huge, aI G ar_text 4096 m_text, aI G ar_figures 4096 m_figs, aI G ar_words 800 m_wds]) (s1 : (x2 < m_from) → (¬ x1 ≤ 0) → vp_in (m_from - (1 : Int32)) 800) (k2 : (x2 < m_from) → (¬ x1 ≤ 0) → gAt l G m_Mo_twice w0 res w1 71 [(0, .ref ad_m), (1, .int x1), (2, .int x2)] [] [oMo ad_m m_thrown ar_text m_length m_kind m_place m_below ar_figures m_many m_point m_exponent ar_words (m_from - (1 : Int32)) m_to m_whole m_scale m_rest m_huge, aI G ar_text 4096 m_text, aI G ar_figures 4096 m_figs, aI G ar_words 800 (upd m_wds (Int32.toNatClampNeg (m_from - (1 : Int32))) x1)]) (s3 : (¬ x2 < m_from) → vp_in x2 800) (s4 : (¬ x2 < m_from) → vp_in x2 800) (k5 : (¬ x2 < m_from) → gAt l G m_Mo_twice w0 res w1 7 [(0, .ref ad_m), (1, .int ((((2 : Int32) * (m_wds (Int32.toNatClampNeg x2))) + x1) / (100000000 : Int32))), (2, .int (x2 + (-1 : Int32)))] [] [oMo ad_m m_thrown ar_text m_length m_kind m_place m_below ar_figures m_many m_point m_exponent ar_words m_from m_to m_whole m_scale m_rest m_huge, aI G ar_text 4096 m_text, aI G ar_figures 4096 m_figs, aI G ar_words 800 (upd m_wds (Int32.toNatClampNeg x2) ((((2 : Int32) * (m_wds (Int32.toNatClampNeg x2))) + x1) - (((2 : Int32) * (m_wds (Int32.toNatClampNeg x2))) + x1) / (100000000 : Int32) * (100000000 : Int32)))]) : gAt l G m_Mo_twice w0 res w1 7 [(0, .ref ad_m), (1, .int x1), (2, .int x2)] [] [oMo ad_m m_thrown ar_text m_length m_kind m_place m_below ar_figures m_many m_point m_exponent ar_words m_from m_to m_whole m_scale m_rest m_huge, aI G ar_text 4096 m_text, aI G ar_figures 4096 m_figs, aI G ar_words 800 m_wds] := by
  refine a_iload_n 2 dMo_twice_7 rfl ?_
  refine a_aload_n 0 dMo_twice_8 rfl ?_
  refine a_get (ci := 6) (kx := 11) 0 dMo_twice_9 rfl I_Mo w_659 rfl (by decide) rfl ?_
  refine a_icmp_lt 47 dMo_twice_12 (by decide) (fun c1 => ?_) (fun c1 => ?_)
  · refine a_iload_n 1 dMo_twice_47 rfl ?_
    refine a_if_le 71 dMo_twice_48 (by decide) (fun c2 => ?_) (fun c2 => ?_)
    · exact (k0 c1 c2)
    · refine a_aload_n 0 dMo_twice_51 rfl ?_
      refine a_dup dMo_twice_52 rfl ?_
      refine a_get (ci := 6) (kx := 11) 0 dMo_twice_53 rfl I_Mo w_659 rfl (by decide) rfl ?_
      refine a_iconst (1 : Int32) dMo_twice_56 (by decide) ?_
      refine a_isub dMo_twice_57 ?_
      refine a_put (ci := 6) (kx := 11) ty_Mo 0 [oMo ad_m m_thrown ar_text m_length m_kind m_place m_below ar_figures m_many m_point m_exponent ar_words (m_from - (1 : Int32)) m_to m_whole m_scale m_rest m_huge, aI G ar_text 4096 m_text, aI G ar_figures 4096 m_figs, aI G ar_words 800 m_wds] dMo_twice_58 rfl I_Mo tyo_Mo nmo_Mo w_659 rfl (by decide) rfl rfl rfl (Nat.le_of_ble_eq_true rfl) rfl ?_
      refine a_aload_n 0 dMo_twice_61 rfl ?_
      refine a_get (ci := 6) (kx := 10) 0 dMo_twice_62 rfl I_Mo w_658 rfl (by decide) rfl ?_
      refine a_aload_n 0 dMo_twice_65 rfl ?_
      refine a_get (ci := 6) (kx := 11) 0 dMo_twice_66 rfl I_Mo w_659 rfl (by decide) rfl ?_
      refine a_iload_n 1 dMo_twice_69 rfl ?_
      refine a_iast 3 [oMo ad_m m_thrown ar_text m_length m_kind m_place m_below ar_figures m_many m_point m_exponent ar_words (m_from - (1 : Int32)) m_to m_whole m_scale m_rest m_huge, aI G ar_text 4096 m_text, aI G ar_figures 4096 m_figs, aI G ar_words 800 (upd m_wds (Int32.toNatClampNeg (m_from - (1 : Int32))) x1)] dMo_twice_70 rfl (s1 c1 c2) rfl ?_
      exact (k2 c1 c2)
  · refine a_iconst (2 : Int32) dMo_twice_15 (by decide) ?_
    refine a_aload_n 0 dMo_twice_16 rfl ?_
    refine a_get (ci := 6) (kx := 10) 0 dMo_twice_17 rfl I_Mo w_658 rfl (by decide) rfl ?_
    refine a_iload_n 2 dMo_twice_20 rfl ?_
    refine a_iald 3 dMo_twice_21 rfl (s3 c1) ?_
    refine a_imul dMo_twice_22 ?_
    refine a_iload_n 1 dMo_twice_23 rfl ?_
    refine a_iadd dMo_twice_24 ?_
    refine a_istore_n [(3, .int (((2 : Int32) * (m_wds (Int32.toNatClampNeg x2))) + x1)), (0, .ref ad_m), (1, .int x1), (2, .int x2)] dMo_twice_25 rfl (by decide) rfl ?_
    refine a_aload_n 1 dMo_twice_26 rfl ?_
    refine a_get (ci := 6) (kx := 10) 0 dMo_twice_27 rfl I_Mo w_658 rfl (by decide) rfl ?_
    refine a_iload_n 3 dMo_twice_30 rfl ?_
    refine a_iload_n 0 dMo_twice_31 rfl ?_
    refine a_ldc (100000000 : Int32) dMo_twice_32 w_805 ?_
    refine a_irem dMo_twice_34 (by decide) ?_
    refine a_iast 3 [oMo ad_m m_thrown ar_text m_length m_kind m_place m_below ar_figures m_many m_point m_exponent ar_words m_from m_to m_whole m_scale m_rest m_huge, aI G ar_text 4096 m_text, aI G ar_figures 4096 m_figs, aI G ar_words 800 (upd m_wds (Int32.toNatClampNeg x2) ((((2 : Int32) * (m_wds (Int32.toNatClampNeg x2))) + x1) - (((2 : Int32) * (m_wds (Int32.toNatClampNeg x2))) + x1) / (100000000 : Int32) * (100000000 : Int32)))] dMo_twice_35 rfl (s4 c1) rfl ?_
    refine a_iload_n 0 dMo_twice_36 rfl ?_
    refine a_ldc (100000000 : Int32) dMo_twice_37 w_805 ?_
    refine a_idiv dMo_twice_39 (by decide) ?_
    refine a_istore_n [(1, .int ((((2 : Int32) * (m_wds (Int32.toNatClampNeg x2))) + x1) / (100000000 : Int32))), (3, .int (((2 : Int32) * (m_wds (Int32.toNatClampNeg x2))) + x1)), (0, .ref ad_m), (2, .int x2)] dMo_twice_40 rfl (by decide) rfl ?_
    refine a_iinc 3 (x2 + (-1 : Int32)) [(2, .int (x2 + (-1 : Int32))), (1, .int ((((2 : Int32) * (m_wds (Int32.toNatClampNeg x2))) + x1) / (100000000 : Int32))), (3, .int (((2 : Int32) * (m_wds (Int32.toNatClampNeg x2))) + x1)), (0, .ref ad_m)] dMo_twice_41 rfl rfl (by decide) rfl ?_
    refine a_goto 7 dMo_twice_44 (by decide) ?_
    refine a_lv [(0, .ref ad_m), (1, .int ((((2 : Int32) * (m_wds (Int32.toNatClampNeg x2))) + x1) / (100000000 : Int32))), (2, .int (x2 + (-1 : Int32)))] [3, 1, 0] rfl ?_
    exact (k5 c1)

set_option maxRecDepth 20000 in
theorem b_Mo_twice_71 {l : Launch} {G : gG} {w0 w1 : va_W} {res : Option Value} {ad_m ar_text ar_figures ar_words : Nat} {m_thrown m_length m_kind m_place m_below m_many m_point m_from m_to m_rest m_huge : Int32} {m_exponent m_whole m_scale : Int64} {m_text m_figs m_wds : Nat → Int32} {x1 : Int32} {x2 : Int32} (k0 : (m_to ≤ (54 : Int32)) → gAt l G m_Mo_twice w0 res w1 105 [(0, .ref ad_m), (1, .int x1), (2, .int x2)] [] [oMo ad_m m_thrown ar_text m_length m_kind m_place m_below ar_figures m_many m_point m_exponent ar_words m_from m_to m_whole m_scale m_rest m_huge, aI G ar_text 4096 m_text, aI G ar_figures 4096 m_figs, aI G ar_words 800 m_wds]) (s1 : (¬ m_to ≤ (54 : Int32)) → vp_in m_to 800) (k2 : (¬ m_to ≤ (54 : Int32)) → (¬ (m_wds (Int32.toNatClampNeg m_to)) = 0) → gAt l G m_Mo_twice w0 res w1 105 [(0, .ref ad_m), (1, .int x1), (2, .int x2)] [] [oMo ad_m m_thrown ar_text m_length m_kind m_place m_below ar_figures m_many m_point m_exponent ar_words m_from m_to m_whole m_scale m_rest m_huge, aI G ar_text 4096 m_text, aI G ar_figures 4096 m_figs, aI G ar_words 800 m_wds]) (k3 : (¬ m_to ≤ (54 : Int32)) → ((m_wds (Int32.toNatClampNeg m_to)) = 0) → gAt l G m_Mo_twice w0 res w1 71 [(0, .ref ad_m), (1, .int x1), (2, .int x2)] [] [oMo ad_m m_thrown ar_text m_length m_kind m_place m_below ar_figures m_many m_point m_exponent ar_words m_from (m_to - (1 : Int32)) m_whole m_scale m_rest m_huge, aI G ar_text 4096 m_text, aI G ar_figures 4096 m_figs, aI G ar_words 800 m_wds]) : gAt l G m_Mo_twice w0 res w1 71 [(0, .ref ad_m), (1, .int x1), (2, .int x2)] [] [oMo ad_m m_thrown ar_text m_length m_kind m_place m_below ar_figures m_many m_point m_exponent ar_words m_from m_to m_whole m_scale m_rest m_huge, aI G ar_text 4096 m_text, aI G ar_figures 4096 m_figs, aI G ar_words 800 m_wds] := by
  refine a_aload_n 0 dMo_twice_71 rfl ?_
  refine a_get (ci := 6) (kx := 12) 0 dMo_twice_72 rfl I_Mo w_660 rfl (by decide) rfl ?_
  refine a_bipush (54 : Int32) dMo_twice_75 (by decide) ?_
  refine a_icmp_le 105 dMo_twice_77 (by decide) (fun c1 => ?_) (fun c1 => ?_)
  · exact (k0 c1)
  · refine a_aload_n 0 dMo_twice_80 rfl ?_
    refine a_get (ci := 6) (kx := 10) 0 dMo_twice_81 rfl I_Mo w_658 rfl (by decide) rfl ?_
    refine a_aload_n 0 dMo_twice_84 rfl ?_
    refine a_get (ci := 6) (kx := 12) 0 dMo_twice_85 rfl I_Mo w_660 rfl (by decide) rfl ?_
    refine a_iald 3 dMo_twice_88 rfl (s1 c1) ?_
    refine a_if_ne 105 dMo_twice_89 (by decide) (fun c2 => ?_) (fun c2 => ?_)
    · exact (k2 c1 c2)
    · refine a_aload_n 0 dMo_twice_92 rfl ?_
      refine a_dup dMo_twice_93 rfl ?_
      refine a_get (ci := 6) (kx := 12) 0 dMo_twice_94 rfl I_Mo w_660 rfl (by decide) rfl ?_
      refine a_iconst (1 : Int32) dMo_twice_97 (by decide) ?_
      refine a_isub dMo_twice_98 ?_
      refine a_put (ci := 6) (kx := 12) ty_Mo 0 [oMo ad_m m_thrown ar_text m_length m_kind m_place m_below ar_figures m_many m_point m_exponent ar_words m_from (m_to - (1 : Int32)) m_whole m_scale m_rest m_huge, aI G ar_text 4096 m_text, aI G ar_figures 4096 m_figs, aI G ar_words 800 m_wds] dMo_twice_99 rfl I_Mo tyo_Mo nmo_Mo w_660 rfl (by decide) rfl rfl rfl (Nat.le_of_ble_eq_true rfl) rfl ?_
      refine a_goto 71 dMo_twice_102 (by decide) ?_
      exact (k3 c1 c2)

set_option maxRecDepth 20000 in
theorem b_Mo_twice_105 {l : Launch} {G : gG} {w0 w1 : va_W} {res : Option Value} {ad_m ar_text ar_figures ar_words : Nat} {m_thrown m_length m_kind m_place m_below m_many m_point m_from m_to m_rest m_huge : Int32} {m_exponent m_whole m_scale : Int64} {m_text m_figs m_wds : Nat → Int32} {x1 : Int32} {x2 : Int32} (k0 : res = none ∧ [oMo ad_m m_thrown ar_text m_length m_kind m_place m_below ar_figures m_many m_point m_exponent ar_words m_from m_to m_whole m_scale m_rest m_huge, aI G ar_text 4096 m_text, aI G ar_figures 4096 m_figs, aI G ar_words 800 m_wds] = w1) : gAt l G m_Mo_twice w0 res w1 105 [(0, .ref ad_m), (1, .int x1), (2, .int x2)] [] [oMo ad_m m_thrown ar_text m_length m_kind m_place m_below ar_figures m_many m_point m_exponent ar_words m_from m_to m_whole m_scale m_rest m_huge, aI G ar_text 4096 m_text, aI G ar_figures 4096 m_figs, aI G ar_words 800 m_wds] := by
  exact a_vret (st := []) dMo_twice_105 rfl k0.1 k0.2

set_option maxRecDepth 20000 in
theorem b_Mo_findHexadecimal_0 {l : Launch} {G : gG} {w0 w1 : va_W} {res : Option Value} {ad_m ar_text ar_figures ar_words : Nat} {m_thrown m_length m_kind m_place m_below m_many m_point m_from m_to m_rest m_huge : Int32} {m_exponent m_whole m_scale : Int64} {m_text m_figs m_wds : Nat → Int32} {x1 : Int32} {x2 : Int32} {x3 : Int32} (s0 : vp_in x1 4096) (s1 : ((m_figs (Int32.toNatClampNeg x1)) < (8 : Int32)) → vp_in x1 4096) (s2 : ((m_figs (Int32.toNatClampNeg x1)) < (8 : Int32)) → ((m_figs (Int32.toNatClampNeg x1)) < (4 : Int32)) → vp_in x1 4096) (k3 : ((m_figs (Int32.toNatClampNeg x1)) < (8 : Int32)) → ((m_figs (Int32.toNatClampNeg x1)) < (4 : Int32)) → ((m_figs (Int32.toNatClampNeg x1)) < (2 : Int32)) → gAt l G m_Mo_findHexadecimal w0 res w1 44 [(0, .ref ad_m), (1, .int x1), (2, .int x2), (3, .int x3)] [.int (1 : Int32)] [oMo ad_m m_thrown ar_text m_length m_kind m_place m_below ar_figures m_many m_point m_exponent ar_words m_from m_to m_whole m_scale m_rest m_huge, aI G ar_text 4096 m_text, aI G ar_figures 4096 m_figs, aI G ar_words 800 m_wds]) (k4 : ((m_figs (Int32.toNatClampNeg x1)) < (8 : Int32)) → ((m_figs (Int32.toNatClampNeg x1)) < (4 : Int32)) → (¬ (m_figs (Int32.toNatClampNeg x1)) < (2 : Int32)) → gAt l G m_Mo_findHexadecimal w0 res w1 44 [(0, .ref ad_m), (1, .int x1), (2, .int x2), (3, .int x3)] [.int (2 : Int32)] [oMo ad_m m_thrown ar_text m_length m_kind m_place m_below ar_figures m_many m_point m_exponent ar_words m_from m_to m_whole m_scale m_rest m_huge, aI G ar_text 4096 m_text, aI G ar_figures 4096 m_figs, aI G ar_words 800 m_wds]) (k5 : ((m_figs (Int32.toNatClampNeg x1)) < (8 : Int32)) → (¬ (m_figs (Int32.toNatClampNeg x1)) < (4 : Int32)) → gAt l G m_Mo_findHexadecimal w0 res w1 44 [(0, .ref ad_m), (1, .int x1), (2, .int x2), (3, .int x3)] [.int (3 : Int32)] [oMo ad_m m_thrown ar_text m_length m_kind m_place m_below ar_figures m_many m_point m_exponent ar_words m_from m_to m_whole m_scale m_rest m_huge, aI G ar_text 4096 m_text, aI G ar_figures 4096 m_figs, aI G ar_words 800 m_wds]) (k6 : (¬ (m_figs (Int32.toNatClampNeg x1)) < (8 : Int32)) → gAt l G m_Mo_findHexadecimal w0 res w1 44 [(0, .ref ad_m), (1, .int x1), (2, .int x2), (3, .int x3)] [.int (4 : Int32)] [oMo ad_m m_thrown ar_text m_length m_kind m_place m_below ar_figures m_many m_point m_exponent ar_words m_from m_to m_whole m_scale m_rest m_huge, aI G ar_text 4096 m_text, aI G ar_figures 4096 m_figs, aI G ar_words 800 m_wds]) : gAt l G m_Mo_findHexadecimal w0 res w1 0 [(0, .ref ad_m), (1, .int x1), (2, .int x2), (3, .int x3)] [] [oMo ad_m m_thrown ar_text m_length m_kind m_place m_below ar_figures m_many m_point m_exponent ar_words m_from m_to m_whole m_scale m_rest m_huge, aI G ar_text 4096 m_text, aI G ar_figures 4096 m_figs, aI G ar_words 800 m_wds] := by
  refine a_aload_n 0 dMo_findHexadecimal_0 rfl ?_
  refine a_get (ci := 6) (kx := 6) 0 dMo_findHexadecimal_1 rfl I_Mo w_654 rfl (by decide) rfl ?_
  refine a_iload_n 1 dMo_findHexadecimal_4 rfl ?_
  refine a_iald 2 dMo_findHexadecimal_5 rfl s0 ?_
  refine a_bipush (8 : Int32) dMo_findHexadecimal_6 (by decide) ?_
  refine a_icmp_lt 15 dMo_findHexadecimal_8 (by decide) (fun c1 => ?_) (fun c1 => ?_)
  · refine a_aload_n 0 dMo_findHexadecimal_15 rfl ?_
    refine a_get (ci := 6) (kx := 6) 0 dMo_findHexadecimal_16 rfl I_Mo w_654 rfl (by decide) rfl ?_
    refine a_iload_n 1 dMo_findHexadecimal_19 rfl ?_
    refine a_iald 2 dMo_findHexadecimal_20 rfl (s1 c1) ?_
    refine a_iconst (4 : Int32) dMo_findHexadecimal_21 (by decide) ?_
    refine a_icmp_lt 29 dMo_findHexadecimal_22 (by decide) (fun c2 => ?_) (fun c2 => ?_)
    · refine a_aload_n 0 dMo_findHexadecimal_29 rfl ?_
      refine a_get (ci := 6) (kx := 6) 0 dMo_findHexadecimal_30 rfl I_Mo w_654 rfl (by decide) rfl ?_
      refine a_iload_n 1 dMo_findHexadecimal_33 rfl ?_
      refine a_iald 2 dMo_findHexadecimal_34 rfl (s2 c1 c2) ?_
      refine a_iconst (2 : Int32) dMo_findHexadecimal_35 (by decide) ?_
      refine a_icmp_lt 43 dMo_findHexadecimal_36 (by decide) (fun c3 => ?_) (fun c3 => ?_)
      · refine a_iconst (1 : Int32) dMo_findHexadecimal_43 (by decide) ?_
        exact (k3 c1 c2 c3)
      · refine a_iconst (2 : Int32) dMo_findHexadecimal_39 (by decide) ?_
        refine a_goto 44 dMo_findHexadecimal_40 (by decide) ?_
        exact (k4 c1 c2 c3)
    · refine a_iconst (3 : Int32) dMo_findHexadecimal_25 (by decide) ?_
      refine a_goto 44 dMo_findHexadecimal_26 (by decide) ?_
      exact (k5 c1 c2)
  · refine a_iconst (4 : Int32) dMo_findHexadecimal_11 (by decide) ?_
    refine a_goto 44 dMo_findHexadecimal_12 (by decide) ?_
    exact (k6 c1)

set_option maxRecDepth 20000 in
theorem b_Mo_findHexadecimal_44 {l : Launch} {G : gG} {w0 w1 : va_W} {res : Option Value} {ad_m ar_text ar_figures ar_words : Nat} {m_thrown m_length m_kind m_place m_below m_many m_point m_from m_to m_rest m_huge : Int32} {m_exponent m_whole m_scale : Int64} {m_text m_figs m_wds : Nat → Int32} {x1 : Int32} {x2 : Int32} {x3 : Int32} {v0 : Int32} (k0 : ((lg_cmp (((((4 : Int64) * (Int32.toInt64 (m_point - x1))) - (5 : Int64)) + (Int32.toInt64 v0)) + m_exponent) (2000 : Int64)) ≤ 0) → gAt l G m_Mo_findHexadecimal w0 res w1 87 [(0, .ref ad_m), (1, .int x1), (2, .int x2), (3, .int x3), (4, .int v0), (5, .long (((((4 : Int64) * (Int32.toInt64 (m_point - x1))) - (5 : Int64)) + (Int32.toInt64 v0)) + m_exponent))] [.int (0 : Int32), .ref ad_m] [oMo ad_m m_thrown ar_text m_length m_kind m_place m_below ar_figures m_many m_point m_exponent ar_words m_from m_to m_whole m_scale m_rest m_huge, aI G ar_text 4096 m_text, aI G ar_figures 4096 m_figs, aI G ar_words 800 m_wds]) (k1 : (¬ (lg_cmp (((((4 : Int64) * (Int32.toInt64 (m_point - x1))) - (5 : Int64)) + (Int32.toInt64 v0)) + m_exponent) (2000 : Int64)) ≤ 0) → gAt l G m_Mo_findHexadecimal w0 res w1 87 [(0, .ref ad_m), (1, .int x1), (2, .int x2), (3, .int x3), (4, .int v0), (5, .long (((((4 : Int64) * (Int32.toInt64 (m_point - x1))) - (5 : Int64)) + (Int32.toInt64 v0)) + m_exponent))] [.int (1 : Int32), .ref ad_m] [oMo ad_m m_thrown ar_text m_length m_kind m_place m_below ar_figures m_many m_point m_exponent ar_words m_from m_to m_whole m_scale m_rest m_huge, aI G ar_text 4096 m_text, aI G ar_figures 4096 m_figs, aI G ar_words 800 m_wds]) : gAt l G m_Mo_findHexadecimal w0 res w1 44 [(0, .ref ad_m), (1, .int x1), (2, .int x2), (3, .int x3)] [.int v0] [oMo ad_m m_thrown ar_text m_length m_kind m_place m_below ar_figures m_many m_point m_exponent ar_words m_from m_to m_whole m_scale m_rest m_huge, aI G ar_text 4096 m_text, aI G ar_figures 4096 m_figs, aI G ar_words 800 m_wds] := by
  refine a_istore [(4, .int v0), (0, .ref ad_m), (1, .int x1), (2, .int x2), (3, .int x3)] dMo_findHexadecimal_44 (by decide) rfl ?_
  refine a_ldc2 (4 : Int64) dMo_findHexadecimal_46 w_815 ?_
  refine a_aload_n 1 dMo_findHexadecimal_49 rfl ?_
  refine a_get (ci := 6) (kx := 8) 0 dMo_findHexadecimal_50 rfl I_Mo w_656 rfl (by decide) rfl ?_
  refine a_iload_n 2 dMo_findHexadecimal_53 rfl ?_
  refine a_isub dMo_findHexadecimal_54 ?_
  refine a_i2l dMo_findHexadecimal_55 ?_
  refine a_lmul dMo_findHexadecimal_56 ?_
  refine a_ldc2 (5 : Int64) dMo_findHexadecimal_57 w_816 ?_
  refine a_lsub dMo_findHexadecimal_60 ?_
  refine a_iload 0 dMo_findHexadecimal_61 rfl ?_
  refine a_i2l dMo_findHexadecimal_63 ?_
  refine a_ladd dMo_findHexadecimal_64 ?_
  refine a_aload_n 1 dMo_findHexadecimal_65 rfl ?_
  refine a_get (ci := 6) (kx := 9) 0 dMo_findHexadecimal_66 rfl I_Mo w_657 rfl (by decide) rfl ?_
  refine a_ladd dMo_findHexadecimal_69 ?_
  refine a_lstore [(5, .long (((((4 : Int64) * (Int32.toInt64 (m_point - x1))) - (5 : Int64)) + (Int32.toInt64 v0)) + m_exponent)), (4, .int v0), (0, .ref ad_m), (1, .int x1), (2, .int x2), (3, .int x3)] dMo_findHexadecimal_70 (by decide) rfl ?_
  refine a_aload_n 2 dMo_findHexadecimal_72 rfl ?_
  refine a_lload 0 dMo_findHexadecimal_73 rfl ?_
  refine a_ldc2 (2000 : Int64) dMo_findHexadecimal_75 w_817 ?_
  refine a_lcmp dMo_findHexadecimal_78 ?_
  refine a_if_le 86 dMo_findHexadecimal_79 (by decide) (fun c1 => ?_) (fun c1 => ?_)
  · refine a_iconst (0 : Int32) dMo_findHexadecimal_86 (by decide) ?_
    refine a_lv [(0, .ref ad_m), (1, .int x1), (2, .int x2), (3, .int x3), (4, .int v0), (5, .long (((((4 : Int64) * (Int32.toInt64 (m_point - x1))) - (5 : Int64)) + (Int32.toInt64 v0)) + m_exponent))] [2, 3, 4, 5, 1, 0] rfl ?_
    exact (k0 c1)
  · refine a_iconst (1 : Int32) dMo_findHexadecimal_82 (by decide) ?_
    refine a_goto 87 dMo_findHexadecimal_83 (by decide) ?_
    refine a_lv [(0, .ref ad_m), (1, .int x1), (2, .int x2), (3, .int x3), (4, .int v0), (5, .long (((((4 : Int64) * (Int32.toInt64 (m_point - x1))) - (5 : Int64)) + (Int32.toInt64 v0)) + m_exponent))] [2, 3, 4, 5, 1, 0] rfl ?_
    exact (k1 c1)

set_option maxRecDepth 20000 in
theorem b_Mo_findHexadecimal_87 {l : Launch} {G : gG} {w0 w1 : va_W} {res : Option Value} {ad_m ar_text ar_figures ar_words : Nat} {m_thrown m_length m_kind m_place m_below m_many m_point m_from m_to m_rest m_huge : Int32} {m_exponent m_whole m_scale : Int64} {m_text m_figs m_wds : Nat → Int32} {x1 : Int32} {x2 : Int32} {x3 : Int32} {x4 : Int32} {x5 : Int64} {v0 : Int32} (s0 : narrow .boolean (.int v0) = .int v0 ∧ fits .boolean (.int v0) = true) (k1 : (¬ v0 = 0) → gAt l G m_Mo_findHexadecimal w0 res w1 122 [(0, .ref ad_m), (1, .int x1), (2, .int x2), (3, .int x3), (4, .int x4), (5, .long x5)] [] [oMo ad_m m_thrown ar_text m_length m_kind m_place m_below ar_figures m_many m_point m_exponent ar_words m_from m_to (0 : Int64) (Int32.toInt64 x3) (1 : Int32) v0, aI G ar_text 4096 m_text, aI G ar_figures 4096 m_figs, aI G ar_words 800 m_wds]) (k2 : (v0 = 0) → (0 ≤ (lg_cmp x5 (-2000 : Int64))) → ((lg_cmp ((x5 - (Int32.toInt64 x2)) + (1 : Int64)) (Int32.toInt64 x3)) ≤ 0) → gAt l G m_Mo_findHexadecimal w0 res w1 149 [(0, .ref ad_m), (1, .int x1), (2, .int x2), (3, .int x3), (4, .int x4), (5, .long x5)] [.long (Int32.toInt64 x3), .ref ad_m] [oMo ad_m m_thrown ar_text m_length m_kind m_place m_below ar_figures m_many m_point m_exponent ar_words m_from m_to (0 : Int64) (Int32.toInt64 x3) (1 : Int32) v0, aI G ar_text 4096 m_text, aI G ar_figures 4096 m_figs, aI G ar_words 800 m_wds]) (k3 : (v0 = 0) → (0 ≤ (lg_cmp x5 (-2000 : Int64))) → (¬ (lg_cmp ((x5 - (Int32.toInt64 x2)) + (1 : Int64)) (Int32.toInt64 x3)) ≤ 0) → gAt l G m_Mo_findHexadecimal w0 res w1 149 [(0, .ref ad_m), (1, .int x1), (2, .int x2), (3, .int x3), (4, .int x4), (5, .long x5)] [.long ((x5 - (Int32.toInt64 x2)) + (1 : Int64)), .ref ad_m] [oMo ad_m m_thrown ar_text m_length m_kind m_place m_below ar_figures m_many m_point m_exponent ar_words m_from m_to (0 : Int64) (Int32.toInt64 x3) (1 : Int32) v0, aI G ar_text 4096 m_text, aI G ar_figures 4096 m_figs, aI G ar_words 800 m_wds]) (k4 : (v0 = 0) → (¬ 0 ≤ (lg_cmp x5 (-2000 : Int64))) → gAt l G m_Mo_findHexadecimal w0 res w1 122 [(0, .ref ad_m), (1, .int x1), (2, .int x2), (3, .int x3), (4, .int x4), (5, .long x5)] [] [oMo ad_m m_thrown ar_text m_length m_kind m_place m_below ar_figures m_many m_point m_exponent ar_words m_from m_to (0 : Int64) (Int32.toInt64 x3) (1 : Int32) v0, aI G ar_text 4096 m_text, aI G ar_figures 4096 m_figs, aI G ar_words 800 m_wds]) : gAt l G m_Mo_findHexadecimal w0 res w1 87 [(0, .ref ad_m), (1, .int x1), (2, .int x2), (3, .int x3), (4, .int x4), (5, .long x5)] [.int v0, .ref ad_m] [oMo ad_m m_thrown ar_text m_length m_kind m_place m_below ar_figures m_many m_point m_exponent ar_words m_from m_to m_whole m_scale m_rest m_huge, aI G ar_text 4096 m_text, aI G ar_figures 4096 m_figs, aI G ar_words 800 m_wds] := by
  refine a_put (ci := 6) (kx := 16) ty_Mo 0 [oMo ad_m m_thrown ar_text m_length m_kind m_place m_below ar_figures m_many m_point m_exponent ar_words m_from m_to m_whole m_scale m_rest v0, aI G ar_text 4096 m_text, aI G ar_figures 4096 m_figs, aI G ar_words 800 m_wds] dMo_findHexadecimal_87 rfl I_Mo tyo_Mo nmo_Mo w_664 rfl (by decide) rfl s0.1 s0.2 (Nat.le_of_ble_eq_true rfl) rfl ?_
  refine a_aload_n 0 dMo_findHexadecimal_90 rfl ?_
  refine a_lconst (0 : Int64) dMo_findHexadecimal_91 (by decide) ?_
  refine a_put (ci := 6) (kx := 13) ty_Mo 0 [oMo ad_m m_thrown ar_text m_length m_kind m_place m_below ar_figures m_many m_point m_exponent ar_words m_from m_to (0 : Int64) m_scale m_rest v0, aI G ar_text 4096 m_text, aI G ar_figures 4096 m_figs, aI G ar_words 800 m_wds] dMo_findHexadecimal_92 rfl I_Mo tyo_Mo nmo_Mo w_661 rfl (by decide) rfl rfl rfl (Nat.le_of_ble_eq_true rfl) rfl ?_
  refine a_aload_n 0 dMo_findHexadecimal_95 rfl ?_
  refine a_iload_n 3 dMo_findHexadecimal_96 rfl ?_
  refine a_i2l dMo_findHexadecimal_97 ?_
  refine a_put (ci := 6) (kx := 14) ty_Mo 0 [oMo ad_m m_thrown ar_text m_length m_kind m_place m_below ar_figures m_many m_point m_exponent ar_words m_from m_to (0 : Int64) (Int32.toInt64 x3) m_rest v0, aI G ar_text 4096 m_text, aI G ar_figures 4096 m_figs, aI G ar_words 800 m_wds] dMo_findHexadecimal_98 rfl I_Mo tyo_Mo nmo_Mo w_662 rfl (by decide) rfl rfl rfl (Nat.le_of_ble_eq_true rfl) rfl ?_
  refine a_aload_n 0 dMo_findHexadecimal_101 rfl ?_
  refine a_iconst (1 : Int32) dMo_findHexadecimal_102 (by decide) ?_
  refine a_put (ci := 6) (kx := 15) ty_Mo 0 [oMo ad_m m_thrown ar_text m_length m_kind m_place m_below ar_figures m_many m_point m_exponent ar_words m_from m_to (0 : Int64) (Int32.toInt64 x3) (1 : Int32) v0, aI G ar_text 4096 m_text, aI G ar_figures 4096 m_figs, aI G ar_words 800 m_wds] dMo_findHexadecimal_103 rfl I_Mo tyo_Mo nmo_Mo w_663 rfl (by decide) rfl rfl rfl (Nat.le_of_ble_eq_true rfl) rfl ?_
  refine a_aload_n 0 dMo_findHexadecimal_106 rfl ?_
  refine a_get (ci := 6) (kx := 16) 0 dMo_findHexadecimal_107 rfl I_Mo w_664 rfl (by decide) rfl ?_
  refine a_if_ne 122 dMo_findHexadecimal_110 (by decide) (fun c1 => ?_) (fun c1 => ?_)
  · exact (k1 c1)
  · refine a_lload 5 dMo_findHexadecimal_113 rfl ?_
    refine a_ldc2 (-2000 : Int64) dMo_findHexadecimal_115 w_818 ?_
    refine a_lcmp dMo_findHexadecimal_118 ?_
    refine a_if_ge 123 dMo_findHexadecimal_119 (by decide) (fun c2 => ?_) (fun c2 => ?_)
    · refine a_aload_n 0 dMo_findHexadecimal_123 rfl ?_
      refine a_lload 5 dMo_findHexadecimal_124 rfl ?_
      refine a_iload_n 2 dMo_findHexadecimal_126 rfl ?_
      refine a_i2l dMo_findHexadecimal_127 ?_
      refine a_lsub dMo_findHexadecimal_128 ?_
      refine a_lconst (1 : Int64) dMo_findHexadecimal_129 (by decide) ?_
      refine a_ladd dMo_findHexadecimal_130 ?_
      refine a_iload_n 3 dMo_findHexadecimal_131 rfl ?_
      refine a_i2l dMo_findHexadecimal_132 ?_
      refine a_lcmp dMo_findHexadecimal_133 ?_
      refine a_if_le 147 dMo_findHexadecimal_134 (by decide) (fun c3 => ?_) (fun c3 => ?_)
      · refine a_iload_n 3 dMo_findHexadecimal_147 rfl ?_
        refine a_i2l dMo_findHexadecimal_148 ?_
        exact (k2 c1 c2 c3)
      · refine a_lload 5 dMo_findHexadecimal_137 rfl ?_
        refine a_iload_n 2 dMo_findHexadecimal_139 rfl ?_
        refine a_i2l dMo_findHexadecimal_140 ?_
        refine a_lsub dMo_findHexadecimal_141 ?_
        refine a_lconst (1 : Int64) dMo_findHexadecimal_142 (by decide) ?_
        refine a_ladd dMo_findHexadecimal_143 ?_
        refine a_goto 149 dMo_findHexadecimal_144 (by decide) ?_
        exact (k3 c1 c2 c3)
    · exact (k4 c1 c2)

set_option maxRecDepth 20000 in
theorem b_Mo_findHexadecimal_122 {l : Launch} {G : gG} {w0 w1 : va_W} {res : Option Value} {ad_m ar_text ar_figures ar_words : Nat} {m_thrown m_length m_kind m_place m_below m_many m_point m_from m_to m_rest m_huge : Int32} {m_exponent m_whole m_scale : Int64} {m_text m_figs m_wds : Nat → Int32} {x1 : Int32} {x2 : Int32} {x3 : Int32} {x4 : Int32} {x5 : Int64} (k0 : res = none ∧ [oMo ad_m m_thrown ar_text m_length m_kind m_place m_below ar_figures m_many m_point m_exponent ar_words m_from m_to m_whole m_scale m_rest m_huge, aI G ar_text 4096 m_text, aI G ar_figures 4096 m_figs, aI G ar_words 800 m_wds] = w1) : gAt l G m_Mo_findHexadecimal w0 res w1 122 [(0, .ref ad_m), (1, .int x1), (2, .int x2), (3, .int x3), (4, .int x4), (5, .long x5)] [] [oMo ad_m m_thrown ar_text m_length m_kind m_place m_below ar_figures m_many m_point m_exponent ar_words m_from m_to m_whole m_scale m_rest m_huge, aI G ar_text 4096 m_text, aI G ar_figures 4096 m_figs, aI G ar_words 800 m_wds] := by
  exact a_vret (st := []) dMo_findHexadecimal_122 rfl k0.1 k0.2

set_option maxRecDepth 20000 in
theorem b_Mo_findHexadecimal_149 {l : Launch} {G : gG} {w0 w1 : va_W} {res : Option Value} {ad_m ar_text ar_figures ar_words : Nat} {m_thrown m_length m_kind m_place m_below m_many m_point m_from m_to m_rest m_huge : Int32} {m_exponent m_whole m_scale : Int64} {m_text m_figs m_wds : Nat → Int32} {x1 : Int32} {x2 : Int32} {x3 : Int32} {x4 : Int32} {x5 : Int64} {v0 : Int64} (k0 : gAt l G m_Mo_findHexadecimal w0 res w1 156 [(0, .ref ad_m), (1, .int x1), (2, .int x2), (3, .int x3), (4, .int x4), (5, .long x5), (7, .long x5)] [] [oMo ad_m m_thrown ar_text m_length m_kind m_place m_below ar_figures m_many m_point m_exponent ar_words m_from m_to m_whole v0 m_rest m_huge, aI G ar_text 4096 m_text, aI G ar_figures 4096 m_figs, aI G ar_words 800 m_wds]) : gAt l G m_Mo_findHexadecimal w0 res w1 149 [(0, .ref ad_m), (1, .int x1), (2, .int x2), (3, .int x3), (4, .int x4), (5, .long x5)] [.long v0, .ref ad_m] [oMo ad_m m_thrown ar_text m_length m_kind m_place m_below ar_figures m_many m_point m_exponent ar_words m_from m_to m_whole m_scale m_rest m_huge, aI G ar_text 4096 m_text, aI G ar_figures 4096 m_figs, aI G ar_words 800 m_wds] := by
  refine a_put (ci := 6) (kx := 14) ty_Mo 0 [oMo ad_m m_thrown ar_text m_length m_kind m_place m_below ar_figures m_many m_point m_exponent ar_words m_from m_to m_whole v0 m_rest m_huge, aI G ar_text 4096 m_text, aI G ar_figures 4096 m_figs, aI G ar_words 800 m_wds] dMo_findHexadecimal_149 rfl I_Mo tyo_Mo nmo_Mo w_662 rfl (by decide) rfl rfl rfl (Nat.le_of_ble_eq_true rfl) rfl ?_
  refine a_lload 5 dMo_findHexadecimal_152 rfl ?_
  refine a_lstore [(7, .long x5), (0, .ref ad_m), (1, .int x1), (2, .int x2), (3, .int x3), (4, .int x4), (5, .long x5)] dMo_findHexadecimal_154 (by decide) rfl ?_
  refine a_lv [(0, .ref ad_m), (1, .int x1), (2, .int x2), (3, .int x3), (4, .int x4), (5, .long x5), (7, .long x5)] [1, 2, 3, 4, 5, 6, 0] rfl ?_
  exact k0

set_option maxRecDepth 20000 in
theorem b_Mo_findHexadecimal_156 {l : Launch} {G : gG} {w0 w1 : va_W} {res : Option Value} {ad_m ar_text ar_figures ar_words : Nat} {m_thrown m_length m_kind m_place m_below m_many m_point m_from m_to m_rest m_huge : Int32} {m_exponent m_whole m_scale : Int64} {m_text m_figs m_wds : Nat → Int32} {x1 : Int32} {x2 : Int32} {x3 : Int32} {x4 : Int32} {x5 : Int64} {x7 : Int64} (k0 : ((lg_cmp x7 m_scale) < 0) → gAt l G m_Mo_findHexadecimal w0 res w1 229 [(0, .ref ad_m), (1, .int x1), (2, .int x2), (3, .int x3), (4, .int x4), (5, .long x5), (7, .int (0 : Int32)), (8, .long (((4 : Int64) * (Int32.toInt64 (m_point - m_many))) + m_exponent)), (10, .long (m_scale - (2 : Int64)))] [] [oMo ad_m m_thrown ar_text m_length m_kind m_place m_below ar_figures m_many m_point m_exponent ar_words m_from m_to m_whole m_scale m_rest m_huge, aI G ar_text 4096 m_text, aI G ar_figures 4096 m_figs, aI G ar_words 800 m_wds]) (k1 : (¬ (lg_cmp x7 m_scale) < 0) → gAt l G m_Mo_findHexadecimal w0 res w1 178 [(0, .ref ad_m), (1, .int x1), (2, .int x2), (3, .int x3), (4, .int x4), (5, .long x5), (7, .long x7)] [.long x7, .ref ad_m, .long ((2 : Int64) * m_whole), .ref ad_m] [oMo ad_m m_thrown ar_text m_length m_kind m_place m_below ar_figures m_many m_point m_exponent ar_words m_from m_to m_whole m_scale m_rest m_huge, aI G ar_text 4096 m_text, aI G ar_figures 4096 m_figs, aI G ar_words 800 m_wds]) : gAt l G m_Mo_findHexadecimal w0 res w1 156 [(0, .ref ad_m), (1, .int x1), (2, .int x2), (3, .int x3), (4, .int x4), (5, .long x5), (7, .long x7)] [] [oMo ad_m m_thrown ar_text m_length m_kind m_place m_below ar_figures m_many m_point m_exponent ar_words m_from m_to m_whole m_scale m_rest m_huge, aI G ar_text 4096 m_text, aI G ar_figures 4096 m_figs, aI G ar_words 800 m_wds] := by
  refine a_lload 6 dMo_findHexadecimal_156 rfl ?_
  refine a_aload_n 0 dMo_findHexadecimal_158 rfl ?_
  refine a_get (ci := 6) (kx := 14) 0 dMo_findHexadecimal_159 rfl I_Mo w_662 rfl (by decide) rfl ?_
  refine a_lcmp dMo_findHexadecimal_162 ?_
  refine a_if_lt 195 dMo_findHexadecimal_163 (by decide) (fun c1 => ?_) (fun c1 => ?_)
  · refine a_iconst (0 : Int32) dMo_findHexadecimal_195 (by decide) ?_
    refine a_istore [(7, .int (0 : Int32)), (0, .ref ad_m), (1, .int x1), (2, .int x2), (3, .int x3), (4, .int x4), (5, .long x5)] dMo_findHexadecimal_196 (by decide) rfl ?_
    refine a_ldc2 (4 : Int64) dMo_findHexadecimal_198 w_815 ?_
    refine a_aload_n 1 dMo_findHexadecimal_201 rfl ?_
    refine a_get (ci := 6) (kx := 8) 0 dMo_findHexadecimal_202 rfl I_Mo w_656 rfl (by decide) rfl ?_
    refine a_aload_n 1 dMo_findHexadecimal_205 rfl ?_
    refine a_get (ci := 6) (kx := 7) 0 dMo_findHexadecimal_206 rfl I_Mo w_655 rfl (by decide) rfl ?_
    refine a_isub dMo_findHexadecimal_209 ?_
    refine a_i2l dMo_findHexadecimal_210 ?_
    refine a_lmul dMo_findHexadecimal_211 ?_
    refine a_aload_n 1 dMo_findHexadecimal_212 rfl ?_
    refine a_get (ci := 6) (kx := 9) 0 dMo_findHexadecimal_213 rfl I_Mo w_657 rfl (by decide) rfl ?_
    refine a_ladd dMo_findHexadecimal_216 ?_
    refine a_lstore [(8, .long (((4 : Int64) * (Int32.toInt64 (m_point - m_many))) + m_exponent)), (7, .int (0 : Int32)), (0, .ref ad_m), (1, .int x1), (2, .int x2), (3, .int x3), (4, .int x4), (5, .long x5)] dMo_findHexadecimal_217 (by decide) rfl ?_
    refine a_aload_n 2 dMo_findHexadecimal_219 rfl ?_
    refine a_get (ci := 6) (kx := 14) 0 dMo_findHexadecimal_220 rfl I_Mo w_662 rfl (by decide) rfl ?_
    refine a_ldc2 (2 : Int64) dMo_findHexadecimal_223 w_819 ?_
    refine a_lsub dMo_findHexadecimal_226 ?_
    refine a_lstore [(10, .long (m_scale - (2 : Int64))), (8, .long (((4 : Int64) * (Int32.toInt64 (m_point - m_many))) + m_exponent)), (7, .int (0 : Int32)), (0, .ref ad_m), (1, .int x1), (2, .int x2), (3, .int x3), (4, .int x4), (5, .long x5)] dMo_findHexadecimal_227 (by decide) rfl ?_
    refine a_lv [(0, .ref ad_m), (1, .int x1), (2, .int x2), (3, .int x3), (4, .int x4), (5, .long x5), (7, .int (0 : Int32)), (8, .long (((4 : Int64) * (Int32.toInt64 (m_point - m_many))) + m_exponent)), (10, .long (m_scale - (2 : Int64)))] [3, 4, 5, 6, 7, 8, 2, 1, 0] rfl ?_
    exact (k0 c1)
  · refine a_aload_n 0 dMo_findHexadecimal_166 rfl ?_
    refine a_ldc2 (2 : Int64) dMo_findHexadecimal_167 w_819 ?_
    refine a_aload_n 0 dMo_findHexadecimal_170 rfl ?_
    refine a_get (ci := 6) (kx := 13) 0 dMo_findHexadecimal_171 rfl I_Mo w_661 rfl (by decide) rfl ?_
    refine a_lmul dMo_findHexadecimal_174 ?_
    refine a_aload_n 0 dMo_findHexadecimal_175 rfl ?_
    refine a_lload 6 dMo_findHexadecimal_176 rfl ?_
    exact (k1 c1)

set_option maxRecDepth 20000 in
theorem k_Mo_findHexadecimal_178 {l : Launch} {G : gG} {w0 w1 : va_W} {res : Option Value} {ad_m ar_text ar_figures ar_words : Nat} {m_thrown m_length m_kind m_place m_below m_many m_point m_from m_to m_rest m_huge : Int32} {m_exponent m_whole m_scale : Int64} {m_text m_figs m_wds : Nat → Int32} {x1 : Int32} {x2 : Int32} {x3 : Int32} {x4 : Int32} {x5 : Int64} {x7 : Int64} {v0 : Int64} {v2 : Int64} {r : Int32} {m_thrown' m_length' m_kind' m_place' m_below' m_many' m_point' m_from' m_to' m_rest' m_huge' : Int32} {m_exponent' m_whole' m_scale' : Int64} {m_text' m_figs' m_wds' : Nat → Int32} (hc : gCt l G m_Mo_bitAt [.ref ad_m, .long v0] [oMo ad_m m_thrown ar_text m_length m_kind m_place m_below ar_figures m_many m_point m_exponent ar_words m_from m_to m_whole m_scale m_rest m_huge, aI G ar_text 4096 m_text, aI G ar_figures 4096 m_figs, aI G ar_words 800 m_wds] (some (.int r)) [oMo ad_m m_thrown' ar_text m_length' m_kind' m_place' m_below' ar_figures m_many' m_point' m_exponent' ar_words m_from' m_to' m_whole' m_scale' m_rest' m_huge', aI G ar_text 4096 m_text', aI G ar_figures 4096 m_figs', aI G ar_words 800 m_wds']) (k : gAt l G m_Mo_findHexadecimal w0 res w1 181 [(0, .ref ad_m), (1, .int x1), (2, .int x2), (3, .int x3), (4, .int x4), (5, .long x5), (7, .long x7)] [.int r, .long v2, .ref ad_m] [oMo ad_m m_thrown' ar_text m_length' m_kind' m_place' m_below' ar_figures m_many' m_point' m_exponent' ar_words m_from' m_to' m_whole' m_scale' m_rest' m_huge', aI G ar_text 4096 m_text', aI G ar_figures 4096 m_figs', aI G ar_words 800 m_wds']) : gAt l G m_Mo_findHexadecimal w0 res w1 178 [(0, .ref ad_m), (1, .int x1), (2, .int x2), (3, .int x3), (4, .int x4), (5, .long x5), (7, .long x7)] [.long v0, .ref ad_m, .long v2, .ref ad_m] [oMo ad_m m_thrown ar_text m_length m_kind m_place m_below ar_figures m_many m_point m_exponent ar_words m_from m_to m_whole m_scale m_rest m_huge, aI G ar_text 4096 m_text, aI G ar_figures 4096 m_figs, aI G ar_words 800 m_wds] :=
  a_callV (As := [.long v0]) (rest := [.long v2, .ref ad_m]) (wc := [oMo ad_m m_thrown ar_text m_length m_kind m_place m_below ar_figures m_many m_point m_exponent ar_words m_from m_to m_whole m_scale m_rest m_huge, aI G ar_text 4096 m_text, aI G ar_figures 4096 m_figs, aI G ar_words 800 m_wds]) (wr := []) (w1c := [oMo ad_m m_thrown' ar_text m_length' m_kind' m_place' m_below' ar_figures m_many' m_point' m_exponent' ar_words m_from' m_to' m_whole' m_scale' m_rest' m_huge', aI G ar_text 4096 m_text', aI G ar_figures 4096 m_figs', aI G ar_words 800 m_wds']) (r := (some (.int r))) [oMo ad_m m_thrown' ar_text m_length' m_kind' m_place' m_below' ar_figures m_many' m_point' m_exponent' ar_words m_from' m_to' m_whole' m_scale' m_rest' m_huge', aI G ar_text 4096 m_text', aI G ar_figures 4096 m_figs', aI G ar_words 800 m_wds'] [0, 1, 2, 3] [] [0, 1, 2, 3] (ci := 6) (q0 := 0) hc dMo_findHexadecimal_178 rfl ok_Mo_bitAt ⟨Nat.le_of_ble_eq_true rfl, Nat.le_of_ble_eq_true rfl⟩ w_820 w_822 sl_70 rfl rfl rfl rfl rfl rfl (by decide) rfl rfl (Nat.le_of_ble_eq_true rfl) k

set_option maxRecDepth 20000 in
theorem b_Mo_findHexadecimal_181 {l : Launch} {G : gG} {w0 w1 : va_W} {res : Option Value} {ad_m ar_text ar_figures ar_words : Nat} {m_thrown m_length m_kind m_place m_below m_many m_point m_from m_to m_rest m_huge : Int32} {m_exponent m_whole m_scale : Int64} {m_text m_figs m_wds : Nat → Int32} {x1 : Int32} {x2 : Int32} {x3 : Int32} {x4 : Int32} {x5 : Int64} {x7 : Int64} {v0 : Int32} {v1 : Int64} (k0 : gAt l G m_Mo_findHexadecimal w0 res w1 156 [(0, .ref ad_m), (1, .int x1), (2, .int x2), (3, .int x3), (4, .int x4), (5, .long x5), (7, .long (x7 - (1 : Int64)))] [] [oMo ad_m m_thrown ar_text m_length m_kind m_place m_below ar_figures m_many m_point m_exponent ar_words m_from m_to (v1 + (Int32.toInt64 v0)) m_scale m_rest m_huge, aI G ar_text 4096 m_text, aI G ar_figures 4096 m_figs, aI G ar_words 800 m_wds]) : gAt l G m_Mo_findHexadecimal w0 res w1 181 [(0, .ref ad_m), (1, .int x1), (2, .int x2), (3, .int x3), (4, .int x4), (5, .long x5), (7, .long x7)] [.int v0, .long v1, .ref ad_m] [oMo ad_m m_thrown ar_text m_length m_kind m_place m_below ar_figures m_many m_point m_exponent ar_words m_from m_to m_whole m_scale m_rest m_huge, aI G ar_text 4096 m_text, aI G ar_figures 4096 m_figs, aI G ar_words 800 m_wds] := by
  refine a_i2l dMo_findHexadecimal_181 ?_
  refine a_ladd dMo_findHexadecimal_182 ?_
  refine a_put (ci := 6) (kx := 13) ty_Mo 0 [oMo ad_m m_thrown ar_text m_length m_kind m_place m_below ar_figures m_many m_point m_exponent ar_words m_from m_to (v1 + (Int32.toInt64 v0)) m_scale m_rest m_huge, aI G ar_text 4096 m_text, aI G ar_figures 4096 m_figs, aI G ar_words 800 m_wds] dMo_findHexadecimal_183 rfl I_Mo tyo_Mo nmo_Mo w_661 rfl (by decide) rfl rfl rfl (Nat.le_of_ble_eq_true rfl) rfl ?_
  refine a_lload 6 dMo_findHexadecimal_186 rfl ?_
  refine a_lconst (1 : Int64) dMo_findHexadecimal_188 (by decide) ?_
  refine a_lsub dMo_findHexadecimal_189 ?_
  refine a_lstore [(7, .long (x7 - (1 : Int64))), (0, .ref ad_m), (1, .int x1), (2, .int x2), (3, .int x3), (4, .int x4), (5, .long x5)] dMo_findHexadecimal_190 (by decide) rfl ?_
  refine a_goto 156 dMo_findHexadecimal_192 (by decide) ?_
  refine a_lv [(0, .ref ad_m), (1, .int x1), (2, .int x2), (3, .int x3), (4, .int x4), (5, .long x5), (7, .long (x7 - (1 : Int64)))] [1, 2, 3, 4, 5, 6, 0] rfl ?_
  exact k0

set_option maxRecDepth 20000 in
theorem b_Mo_findHexadecimal_229 {l : Launch} {G : gG} {w0 w1 : va_W} {res : Option Value} {ad_m ar_text ar_figures ar_words : Nat} {m_thrown m_length m_kind m_place m_below m_many m_point m_from m_to m_rest m_huge : Int32} {m_exponent m_whole m_scale : Int64} {m_text m_figs m_wds : Nat → Int32} {x1 : Int32} {x2 : Int32} {x3 : Int32} {x4 : Int32} {x5 : Int64} {x7 : Int32} {x8 : Int64} {x10 : Int64} (k0 : ((lg_cmp x10 x8) < 0) → gAt l G m_Mo_findHexadecimal w0 res w1 268 [(0, .ref ad_m), (1, .int x1), (2, .int x2), (3, .int x3), (4, .int x4), (5, .long x5), (7, .int x7), (8, .long x8), (10, .long x10)] [] [oMo ad_m m_thrown ar_text m_length m_kind m_place m_below ar_figures m_many m_point m_exponent ar_words m_from m_to m_whole m_scale m_rest m_huge, aI G ar_text 4096 m_text, aI G ar_figures 4096 m_figs, aI G ar_words 800 m_wds]) (k1 : (¬ (lg_cmp x10 x8) < 0) → (¬ x7 = 0) → gAt l G m_Mo_findHexadecimal w0 res w1 268 [(0, .ref ad_m), (1, .int x1), (2, .int x2), (3, .int x3), (4, .int x4), (5, .long x5), (7, .int x7), (8, .long x8), (10, .long x10)] [] [oMo ad_m m_thrown ar_text m_length m_kind m_place m_below ar_figures m_many m_point m_exponent ar_words m_from m_to m_whole m_scale m_rest m_huge, aI G ar_text 4096 m_text, aI G ar_figures 4096 m_figs, aI G ar_words 800 m_wds]) (k2 : (¬ (lg_cmp x10 x8) < 0) → (x7 = 0) → gAt l G m_Mo_findHexadecimal w0 res w1 245 [(0, .ref ad_m), (1, .int x1), (2, .int x2), (3, .int x3), (4, .int x4), (5, .long x5), (7, .int x7), (8, .long x8), (10, .long x10)] [.long x10, .ref ad_m] [oMo ad_m m_thrown ar_text m_length m_kind m_place m_below ar_figures m_many m_point m_exponent ar_words m_from m_to m_whole m_scale m_rest m_huge, aI G ar_text 4096 m_text, aI G ar_figures 4096 m_figs, aI G ar_words 800 m_wds]) : gAt l G m_Mo_findHexadecimal w0 res w1 229 [(0, .ref ad_m), (1, .int x1), (2, .int x2), (3, .int x3), (4, .int x4), (5, .long x5), (7, .int x7), (8, .long x8), (10, .long x10)] [] [oMo ad_m m_thrown ar_text m_length m_kind m_place m_below ar_figures m_many m_point m_exponent ar_words m_from m_to m_whole m_scale m_rest m_huge, aI G ar_text 4096 m_text, aI G ar_figures 4096 m_figs, aI G ar_words 800 m_wds] := by
  refine a_lload 8 dMo_findHexadecimal_229 rfl ?_
  refine a_lload 7 dMo_findHexadecimal_231 rfl ?_
  refine a_lcmp dMo_findHexadecimal_233 ?_
  refine a_if_lt 268 dMo_findHexadecimal_234 (by decide) (fun c1 => ?_) (fun c1 => ?_)
  · exact (k0 c1)
  · refine a_iload 6 dMo_findHexadecimal_237 rfl ?_
    refine a_if_ne 268 dMo_findHexadecimal_239 (by decide) (fun c2 => ?_) (fun c2 => ?_)
    · exact (k1 c1 c2)
    · refine a_aload_n 0 dMo_findHexadecimal_242 rfl ?_
      refine a_lload 8 dMo_findHexadecimal_243 rfl ?_
      exact (k2 c1 c2)

set_option maxRecDepth 20000 in
theorem k_Mo_findHexadecimal_245 {l : Launch} {G : gG} {w0 w1 : va_W} {res : Option Value} {ad_m ar_text ar_figures ar_words : Nat} {m_thrown m_length m_kind m_place m_below m_many m_point m_from m_to m_rest m_huge : Int32} {m_exponent m_whole m_scale : Int64} {m_text m_figs m_wds : Nat → Int32} {x1 : Int32} {x2 : Int32} {x3 : Int32} {x4 : Int32} {x5 : Int64} {x7 : Int32} {x8 : Int64} {x10 : Int64} {v0 : Int64} {r : Int32} {m_thrown' m_length' m_kind' m_place' m_below' m_many' m_point' m_from' m_to' m_rest' m_huge' : Int32} {m_exponent' m_whole' m_scale' : Int64} {m_text' m_figs' m_wds' : Nat → Int32} (hc : gCt l G m_Mo_bitAt [.ref ad_m, .long v0] [oMo ad_m m_thrown ar_text m_length m_kind m_place m_below ar_figures m_many m_point m_exponent ar_words m_from m_to m_whole m_scale m_rest m_huge, aI G ar_text 4096 m_text, aI G ar_figures 4096 m_figs, aI G ar_words 800 m_wds] (some (.int r)) [oMo ad_m m_thrown' ar_text m_length' m_kind' m_place' m_below' ar_figures m_many' m_point' m_exponent' ar_words m_from' m_to' m_whole' m_scale' m_rest' m_huge', aI G ar_text 4096 m_text', aI G ar_figures 4096 m_figs', aI G ar_words 800 m_wds']) (k : gAt l G m_Mo_findHexadecimal w0 res w1 248 [(0, .ref ad_m), (1, .int x1), (2, .int x2), (3, .int x3), (4, .int x4), (5, .long x5), (7, .int x7), (8, .long x8), (10, .long x10)] [.int r] [oMo ad_m m_thrown' ar_text m_length' m_kind' m_place' m_below' ar_figures m_many' m_point' m_exponent' ar_words m_from' m_to' m_whole' m_scale' m_rest' m_huge', aI G ar_text 4096 m_text', aI G ar_figures 4096 m_figs', aI G ar_words 800 m_wds']) : gAt l G m_Mo_findHexadecimal w0 res w1 245 [(0, .ref ad_m), (1, .int x1), (2, .int x2), (3, .int x3), (4, .int x4), (5, .long x5), (7, .int x7), (8, .long x8), (10, .long x10)] [.long v0, .ref ad_m] [oMo ad_m m_thrown ar_text m_length m_kind m_place m_below ar_figures m_many m_point m_exponent ar_words m_from m_to m_whole m_scale m_rest m_huge, aI G ar_text 4096 m_text, aI G ar_figures 4096 m_figs, aI G ar_words 800 m_wds] :=
  a_callV (As := [.long v0]) (rest := []) (wc := [oMo ad_m m_thrown ar_text m_length m_kind m_place m_below ar_figures m_many m_point m_exponent ar_words m_from m_to m_whole m_scale m_rest m_huge, aI G ar_text 4096 m_text, aI G ar_figures 4096 m_figs, aI G ar_words 800 m_wds]) (wr := []) (w1c := [oMo ad_m m_thrown' ar_text m_length' m_kind' m_place' m_below' ar_figures m_many' m_point' m_exponent' ar_words m_from' m_to' m_whole' m_scale' m_rest' m_huge', aI G ar_text 4096 m_text', aI G ar_figures 4096 m_figs', aI G ar_words 800 m_wds']) (r := (some (.int r))) [oMo ad_m m_thrown' ar_text m_length' m_kind' m_place' m_below' ar_figures m_many' m_point' m_exponent' ar_words m_from' m_to' m_whole' m_scale' m_rest' m_huge', aI G ar_text 4096 m_text', aI G ar_figures 4096 m_figs', aI G ar_words 800 m_wds'] [0, 1, 2, 3] [] [0, 1, 2, 3] (ci := 6) (q0 := 0) hc dMo_findHexadecimal_245 rfl ok_Mo_bitAt ⟨Nat.le_of_ble_eq_true rfl, Nat.le_of_ble_eq_true rfl⟩ w_820 w_822 sl_70 rfl rfl rfl rfl rfl rfl (by decide) rfl rfl (Nat.le_of_ble_eq_true rfl) k

set_option maxRecDepth 20000 in
theorem b_Mo_findHexadecimal_248 {l : Launch} {G : gG} {w0 w1 : va_W} {res : Option Value} {ad_m ar_text ar_figures ar_words : Nat} {m_thrown m_length m_kind m_place m_below m_many m_point m_from m_to m_rest m_huge : Int32} {m_exponent m_whole m_scale : Int64} {m_text m_figs m_wds : Nat → Int32} {x1 : Int32} {x2 : Int32} {x3 : Int32} {x4 : Int32} {x5 : Int64} {x7 : Int32} {x8 : Int64} {x10 : Int64} {v0 : Int32} (k0 : (¬ v0 = (1 : Int32)) → gAt l G m_Mo_findHexadecimal w0 res w1 257 [(0, .ref ad_m), (1, .int x1), (2, .int x2), (3, .int x3), (4, .int x4), (5, .long x5), (7, .int x7), (8, .long x8), (10, .long x10)] [.int (0 : Int32)] [oMo ad_m m_thrown ar_text m_length m_kind m_place m_below ar_figures m_many m_point m_exponent ar_words m_from m_to m_whole m_scale m_rest m_huge, aI G ar_text 4096 m_text, aI G ar_figures 4096 m_figs, aI G ar_words 800 m_wds]) (k1 : (v0 = (1 : Int32)) → gAt l G m_Mo_findHexadecimal w0 res w1 257 [(0, .ref ad_m), (1, .int x1), (2, .int x2), (3, .int x3), (4, .int x4), (5, .long x5), (7, .int x7), (8, .long x8), (10, .long x10)] [.int (1 : Int32)] [oMo ad_m m_thrown ar_text m_length m_kind m_place m_below ar_figures m_many m_point m_exponent ar_words m_from m_to m_whole m_scale m_rest m_huge, aI G ar_text 4096 m_text, aI G ar_figures 4096 m_figs, aI G ar_words 800 m_wds]) : gAt l G m_Mo_findHexadecimal w0 res w1 248 [(0, .ref ad_m), (1, .int x1), (2, .int x2), (3, .int x3), (4, .int x4), (5, .long x5), (7, .int x7), (8, .long x8), (10, .long x10)] [.int v0] [oMo ad_m m_thrown ar_text m_length m_kind m_place m_below ar_figures m_many m_point m_exponent ar_words m_from m_to m_whole m_scale m_rest m_huge, aI G ar_text 4096 m_text, aI G ar_figures 4096 m_figs, aI G ar_words 800 m_wds] := by
  refine a_iconst (1 : Int32) dMo_findHexadecimal_248 (by decide) ?_
  refine a_icmp_ne 256 dMo_findHexadecimal_249 (by decide) (fun c1 => ?_) (fun c1 => ?_)
  · refine a_iconst (0 : Int32) dMo_findHexadecimal_256 (by decide) ?_
    exact (k0 c1)
  · refine a_iconst (1 : Int32) dMo_findHexadecimal_252 (by decide) ?_
    refine a_goto 257 dMo_findHexadecimal_253 (by decide) ?_
    exact (k1 c1)

