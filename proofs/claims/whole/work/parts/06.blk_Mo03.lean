set_option maxRecDepth 20000 in
theorem b_Mo_findHexadecimal_257 {l : Launch} {G : gG} {w0 w1 : va_W} {res : Option Value} {ad_m ar_text ar_figures ar_words : Nat} {m_thrown m_length m_kind m_place m_below m_many m_point m_from m_to m_rest m_huge : Int32} {m_exponent m_whole m_scale : Int64} {m_text m_figs m_wds : Nat → Int32} {x1 : Int32} {x2 : Int32} {x3 : Int32} {x4 : Int32} {x5 : Int64} {x7 : Int32} {x8 : Int64} {x10 : Int64} {v0 : Int32} (k0 : gAt l G m_Mo_findHexadecimal w0 res w1 229 [(0, .ref ad_m), (1, .int x1), (2, .int x2), (3, .int x3), (4, .int x4), (5, .long x5), (7, .int v0), (8, .long x8), (10, .long (x10 - (1 : Int64)))] [] [oMo ad_m m_thrown ar_text m_length m_kind m_place m_below ar_figures m_many m_point m_exponent ar_words m_from m_to m_whole m_scale m_rest m_huge, aI G ar_text 4096 m_text, aI G ar_figures 4096 m_figs, aI G ar_words 800 m_wds]) : gAt l G m_Mo_findHexadecimal w0 res w1 257 [(0, .ref ad_m), (1, .int x1), (2, .int x2), (3, .int x3), (4, .int x4), (5, .long x5), (7, .int x7), (8, .long x8), (10, .long x10)] [.int v0] [oMo ad_m m_thrown ar_text m_length m_kind m_place m_below ar_figures m_many m_point m_exponent ar_words m_from m_to m_whole m_scale m_rest m_huge, aI G ar_text 4096 m_text, aI G ar_figures 4096 m_figs, aI G ar_words 800 m_wds] := by
  refine a_istore [(7, .int v0), (0, .ref ad_m), (1, .int x1), (2, .int x2), (3, .int x3), (4, .int x4), (5, .long x5), (8, .long x8), (10, .long x10)] dMo_findHexadecimal_257 (by decide) rfl ?_
  refine a_lload 8 dMo_findHexadecimal_259 rfl ?_
  refine a_lconst (1 : Int64) dMo_findHexadecimal_261 (by decide) ?_
  refine a_lsub dMo_findHexadecimal_262 ?_
  refine a_lstore [(10, .long (x10 - (1 : Int64))), (7, .int v0), (0, .ref ad_m), (1, .int x1), (2, .int x2), (3, .int x3), (4, .int x4), (5, .long x5), (8, .long x8)] dMo_findHexadecimal_263 (by decide) rfl ?_
  refine a_goto 229 dMo_findHexadecimal_265 (by decide) ?_
  refine a_lv [(0, .ref ad_m), (1, .int x1), (2, .int x2), (3, .int x3), (4, .int x4), (5, .long x5), (7, .int v0), (8, .long x8), (10, .long (x10 - (1 : Int64)))] [2, 3, 4, 5, 6, 7, 1, 8, 0] rfl ?_
  exact k0

set_option maxRecDepth 20000 in
theorem b_Mo_findHexadecimal_268 {l : Launch} {G : gG} {w0 w1 : va_W} {res : Option Value} {ad_m ar_text ar_figures ar_words : Nat} {m_thrown m_length m_kind m_place m_below m_many m_point m_from m_to m_rest m_huge : Int32} {m_exponent m_whole m_scale : Int64} {m_text m_figs m_wds : Nat → Int32} {x1 : Int32} {x2 : Int32} {x3 : Int32} {x4 : Int32} {x5 : Int64} {x7 : Int32} {x8 : Int64} {x10 : Int64} (k0 : gAt l G m_Mo_findHexadecimal w0 res w1 276 [(0, .ref ad_m), (1, .int x1), (2, .int x2), (3, .int x3), (4, .int x4), (5, .long x5), (7, .int x7), (8, .long x8), (10, .long x10)] [.long (m_scale - (1 : Int64)), .ref ad_m, .ref ad_m] [oMo ad_m m_thrown ar_text m_length m_kind m_place m_below ar_figures m_many m_point m_exponent ar_words m_from m_to m_whole m_scale m_rest m_huge, aI G ar_text 4096 m_text, aI G ar_figures 4096 m_figs, aI G ar_words 800 m_wds]) : gAt l G m_Mo_findHexadecimal w0 res w1 268 [(0, .ref ad_m), (1, .int x1), (2, .int x2), (3, .int x3), (4, .int x4), (5, .long x5), (7, .int x7), (8, .long x8), (10, .long x10)] [] [oMo ad_m m_thrown ar_text m_length m_kind m_place m_below ar_figures m_many m_point m_exponent ar_words m_from m_to m_whole m_scale m_rest m_huge, aI G ar_text 4096 m_text, aI G ar_figures 4096 m_figs, aI G ar_words 800 m_wds] := by
  refine a_aload_n 0 dMo_findHexadecimal_268 rfl ?_
  refine a_aload_n 0 dMo_findHexadecimal_269 rfl ?_
  refine a_aload_n 0 dMo_findHexadecimal_270 rfl ?_
  refine a_get (ci := 6) (kx := 14) 0 dMo_findHexadecimal_271 rfl I_Mo w_662 rfl (by decide) rfl ?_
  refine a_lconst (1 : Int64) dMo_findHexadecimal_274 (by decide) ?_
  refine a_lsub dMo_findHexadecimal_275 ?_
  exact k0

set_option maxRecDepth 20000 in
theorem k_Mo_findHexadecimal_276 {l : Launch} {G : gG} {w0 w1 : va_W} {res : Option Value} {ad_m ar_text ar_figures ar_words : Nat} {m_thrown m_length m_kind m_place m_below m_many m_point m_from m_to m_rest m_huge : Int32} {m_exponent m_whole m_scale : Int64} {m_text m_figs m_wds : Nat → Int32} {x1 : Int32} {x2 : Int32} {x3 : Int32} {x4 : Int32} {x5 : Int64} {x7 : Int32} {x8 : Int64} {x10 : Int64} {v0 : Int64} {r : Int32} {m_thrown' m_length' m_kind' m_place' m_below' m_many' m_point' m_from' m_to' m_rest' m_huge' : Int32} {m_exponent' m_whole' m_scale' : Int64} {m_text' m_figs' m_wds' : Nat → Int32} (hc : gCt l G m_Mo_bitAt [.ref ad_m, .long v0] [oMo ad_m m_thrown ar_text m_length m_kind m_place m_below ar_figures m_many m_point m_exponent ar_words m_from m_to m_whole m_scale m_rest m_huge, aI G ar_text 4096 m_text, aI G ar_figures 4096 m_figs, aI G ar_words 800 m_wds] (some (.int r)) [oMo ad_m m_thrown' ar_text m_length' m_kind' m_place' m_below' ar_figures m_many' m_point' m_exponent' ar_words m_from' m_to' m_whole' m_scale' m_rest' m_huge', aI G ar_text 4096 m_text', aI G ar_figures 4096 m_figs', aI G ar_words 800 m_wds']) (k : gAt l G m_Mo_findHexadecimal w0 res w1 279 [(0, .ref ad_m), (1, .int x1), (2, .int x2), (3, .int x3), (4, .int x4), (5, .long x5), (7, .int x7), (8, .long x8), (10, .long x10)] [.int r, .ref ad_m] [oMo ad_m m_thrown' ar_text m_length' m_kind' m_place' m_below' ar_figures m_many' m_point' m_exponent' ar_words m_from' m_to' m_whole' m_scale' m_rest' m_huge', aI G ar_text 4096 m_text', aI G ar_figures 4096 m_figs', aI G ar_words 800 m_wds']) : gAt l G m_Mo_findHexadecimal w0 res w1 276 [(0, .ref ad_m), (1, .int x1), (2, .int x2), (3, .int x3), (4, .int x4), (5, .long x5), (7, .int x7), (8, .long x8), (10, .long x10)] [.long v0, .ref ad_m, .ref ad_m] [oMo ad_m m_thrown ar_text m_length m_kind m_place m_below ar_figures m_many m_point m_exponent ar_words m_from m_to m_whole m_scale m_rest m_huge, aI G ar_text 4096 m_text, aI G ar_figures 4096 m_figs, aI G ar_words 800 m_wds] :=
  a_callV (As := [.long v0]) (rest := [.ref ad_m]) (wc := [oMo ad_m m_thrown ar_text m_length m_kind m_place m_below ar_figures m_many m_point m_exponent ar_words m_from m_to m_whole m_scale m_rest m_huge, aI G ar_text 4096 m_text, aI G ar_figures 4096 m_figs, aI G ar_words 800 m_wds]) (wr := []) (w1c := [oMo ad_m m_thrown' ar_text m_length' m_kind' m_place' m_below' ar_figures m_many' m_point' m_exponent' ar_words m_from' m_to' m_whole' m_scale' m_rest' m_huge', aI G ar_text 4096 m_text', aI G ar_figures 4096 m_figs', aI G ar_words 800 m_wds']) (r := (some (.int r))) [oMo ad_m m_thrown' ar_text m_length' m_kind' m_place' m_below' ar_figures m_many' m_point' m_exponent' ar_words m_from' m_to' m_whole' m_scale' m_rest' m_huge', aI G ar_text 4096 m_text', aI G ar_figures 4096 m_figs', aI G ar_words 800 m_wds'] [0, 1, 2, 3] [] [0, 1, 2, 3] (ci := 6) (q0 := 0) hc dMo_findHexadecimal_276 rfl ok_Mo_bitAt ⟨Nat.le_of_ble_eq_true rfl, Nat.le_of_ble_eq_true rfl⟩ w_820 w_822 sl_70 rfl rfl rfl rfl rfl rfl (by decide) rfl rfl (Nat.le_of_ble_eq_true rfl) k

set_option maxRecDepth 20000 in
theorem b_Mo_findHexadecimal_279 {l : Launch} {G : gG} {w0 w1 : va_W} {res : Option Value} {ad_m ar_text ar_figures ar_words : Nat} {m_thrown m_length m_kind m_place m_below m_many m_point m_from m_to m_rest m_huge : Int32} {m_exponent m_whole m_scale : Int64} {m_text m_figs m_wds : Nat → Int32} {x1 : Int32} {x2 : Int32} {x3 : Int32} {x4 : Int32} {x5 : Int64} {x7 : Int32} {x8 : Int64} {x10 : Int64} {v0 : Int32} (k0 : (¬ v0 = (1 : Int32)) → (x7 = 0) → gAt l G m_Mo_findHexadecimal w0 res w1 306 [(0, .ref ad_m), (1, .int x1), (2, .int x2), (3, .int x3), (4, .int x4), (5, .long x5), (7, .int x7), (8, .long x8), (10, .long x10)] [.int (0 : Int32), .ref ad_m] [oMo ad_m m_thrown ar_text m_length m_kind m_place m_below ar_figures m_many m_point m_exponent ar_words m_from m_to m_whole m_scale m_rest m_huge, aI G ar_text 4096 m_text, aI G ar_figures 4096 m_figs, aI G ar_words 800 m_wds]) (k1 : (¬ v0 = (1 : Int32)) → (¬ x7 = 0) → gAt l G m_Mo_findHexadecimal w0 res w1 306 [(0, .ref ad_m), (1, .int x1), (2, .int x2), (3, .int x3), (4, .int x4), (5, .long x5), (7, .int x7), (8, .long x8), (10, .long x10)] [.int (1 : Int32), .ref ad_m] [oMo ad_m m_thrown ar_text m_length m_kind m_place m_below ar_figures m_many m_point m_exponent ar_words m_from m_to m_whole m_scale m_rest m_huge, aI G ar_text 4096 m_text, aI G ar_figures 4096 m_figs, aI G ar_words 800 m_wds]) (k2 : (v0 = (1 : Int32)) → (x7 = 0) → gAt l G m_Mo_findHexadecimal w0 res w1 306 [(0, .ref ad_m), (1, .int x1), (2, .int x2), (3, .int x3), (4, .int x4), (5, .long x5), (7, .int x7), (8, .long x8), (10, .long x10)] [.int (2 : Int32), .ref ad_m] [oMo ad_m m_thrown ar_text m_length m_kind m_place m_below ar_figures m_many m_point m_exponent ar_words m_from m_to m_whole m_scale m_rest m_huge, aI G ar_text 4096 m_text, aI G ar_figures 4096 m_figs, aI G ar_words 800 m_wds]) (k3 : (v0 = (1 : Int32)) → (¬ x7 = 0) → gAt l G m_Mo_findHexadecimal w0 res w1 306 [(0, .ref ad_m), (1, .int x1), (2, .int x2), (3, .int x3), (4, .int x4), (5, .long x5), (7, .int x7), (8, .long x8), (10, .long x10)] [.int (3 : Int32), .ref ad_m] [oMo ad_m m_thrown ar_text m_length m_kind m_place m_below ar_figures m_many m_point m_exponent ar_words m_from m_to m_whole m_scale m_rest m_huge, aI G ar_text 4096 m_text, aI G ar_figures 4096 m_figs, aI G ar_words 800 m_wds]) : gAt l G m_Mo_findHexadecimal w0 res w1 279 [(0, .ref ad_m), (1, .int x1), (2, .int x2), (3, .int x3), (4, .int x4), (5, .long x5), (7, .int x7), (8, .long x8), (10, .long x10)] [.int v0, .ref ad_m] [oMo ad_m m_thrown ar_text m_length m_kind m_place m_below ar_figures m_many m_point m_exponent ar_words m_from m_to m_whole m_scale m_rest m_huge, aI G ar_text 4096 m_text, aI G ar_figures 4096 m_figs, aI G ar_words 800 m_wds] := by
  refine a_iconst (1 : Int32) dMo_findHexadecimal_279 (by decide) ?_
  refine a_icmp_ne 296 dMo_findHexadecimal_280 (by decide) (fun c1 => ?_) (fun c1 => ?_)
  · refine a_iload 6 dMo_findHexadecimal_296 rfl ?_
    refine a_if_eq 305 dMo_findHexadecimal_298 (by decide) (fun c2 => ?_) (fun c2 => ?_)
    · refine a_iconst (0 : Int32) dMo_findHexadecimal_305 (by decide) ?_
      exact (k0 c1 c2)
    · refine a_iconst (1 : Int32) dMo_findHexadecimal_301 (by decide) ?_
      refine a_goto 306 dMo_findHexadecimal_302 (by decide) ?_
      exact (k1 c1 c2)
  · refine a_iload 6 dMo_findHexadecimal_283 rfl ?_
    refine a_if_eq 292 dMo_findHexadecimal_285 (by decide) (fun c3 => ?_) (fun c3 => ?_)
    · refine a_iconst (2 : Int32) dMo_findHexadecimal_292 (by decide) ?_
      refine a_goto 306 dMo_findHexadecimal_293 (by decide) ?_
      exact (k2 c1 c3)
    · refine a_iconst (3 : Int32) dMo_findHexadecimal_288 (by decide) ?_
      refine a_goto 306 dMo_findHexadecimal_289 (by decide) ?_
      exact (k3 c1 c3)

set_option maxRecDepth 20000 in
theorem b_Mo_findHexadecimal_306 {l : Launch} {G : gG} {w0 w1 : va_W} {res : Option Value} {ad_m ar_text ar_figures ar_words : Nat} {m_thrown m_length m_kind m_place m_below m_many m_point m_from m_to m_rest m_huge : Int32} {m_exponent m_whole m_scale : Int64} {m_text m_figs m_wds : Nat → Int32} {x1 : Int32} {x2 : Int32} {x3 : Int32} {x4 : Int32} {x5 : Int64} {x7 : Int32} {x8 : Int64} {x10 : Int64} {v0 : Int32} (k0 : res = none ∧ [oMo ad_m m_thrown ar_text m_length m_kind m_place m_below ar_figures m_many m_point m_exponent ar_words m_from m_to m_whole m_scale v0 m_huge, aI G ar_text 4096 m_text, aI G ar_figures 4096 m_figs, aI G ar_words 800 m_wds] = w1) : gAt l G m_Mo_findHexadecimal w0 res w1 306 [(0, .ref ad_m), (1, .int x1), (2, .int x2), (3, .int x3), (4, .int x4), (5, .long x5), (7, .int x7), (8, .long x8), (10, .long x10)] [.int v0, .ref ad_m] [oMo ad_m m_thrown ar_text m_length m_kind m_place m_below ar_figures m_many m_point m_exponent ar_words m_from m_to m_whole m_scale m_rest m_huge, aI G ar_text 4096 m_text, aI G ar_figures 4096 m_figs, aI G ar_words 800 m_wds] := by
  refine a_put (ci := 6) (kx := 15) ty_Mo 0 [oMo ad_m m_thrown ar_text m_length m_kind m_place m_below ar_figures m_many m_point m_exponent ar_words m_from m_to m_whole m_scale v0 m_huge, aI G ar_text 4096 m_text, aI G ar_figures 4096 m_figs, aI G ar_words 800 m_wds] dMo_findHexadecimal_306 rfl I_Mo tyo_Mo nmo_Mo w_663 rfl (by decide) rfl rfl rfl (Nat.le_of_ble_eq_true rfl) rfl ?_
  exact a_vret (st := []) dMo_findHexadecimal_309 rfl k0.1 k0.2

set_option maxRecDepth 20000 in
theorem b_Mo_bitAt_0 {l : Launch} {G : gG} {w0 w1 : va_W} {res : Option Value} {ad_m ar_text ar_figures ar_words : Nat} {m_thrown m_length m_kind m_place m_below m_many m_point m_from m_to m_rest m_huge : Int32} {m_exponent m_whole m_scale : Int64} {m_text m_figs m_wds : Nat → Int32} {x1 : Int64} (k0 : ((lg_cmp (x1 - m_exponent) (0 : Int64)) < 0) → gAt l G m_Mo_bitAt w0 res w1 31 [(0, .ref ad_m), (1, .long x1), (3, .long (x1 - m_exponent))] [.long (-(((3 : Int64) - (x1 - m_exponent)) / (4 : Int64)))] [oMo ad_m m_thrown ar_text m_length m_kind m_place m_below ar_figures m_many m_point m_exponent ar_words m_from m_to m_whole m_scale m_rest m_huge, aI G ar_text 4096 m_text, aI G ar_figures 4096 m_figs, aI G ar_words 800 m_wds]) (k1 : (¬ (lg_cmp (x1 - m_exponent) (0 : Int64)) < 0) → gAt l G m_Mo_bitAt w0 res w1 31 [(0, .ref ad_m), (1, .long x1), (3, .long (x1 - m_exponent))] [.long ((x1 - m_exponent) / (4 : Int64))] [oMo ad_m m_thrown ar_text m_length m_kind m_place m_below ar_figures m_many m_point m_exponent ar_words m_from m_to m_whole m_scale m_rest m_huge, aI G ar_text 4096 m_text, aI G ar_figures 4096 m_figs, aI G ar_words 800 m_wds]) : gAt l G m_Mo_bitAt w0 res w1 0 [(0, .ref ad_m), (1, .long x1)] [] [oMo ad_m m_thrown ar_text m_length m_kind m_place m_below ar_figures m_many m_point m_exponent ar_words m_from m_to m_whole m_scale m_rest m_huge, aI G ar_text 4096 m_text, aI G ar_figures 4096 m_figs, aI G ar_words 800 m_wds] := by
  refine a_lload_n 1 dMo_bitAt_0 rfl ?_
  refine a_aload_n 0 dMo_bitAt_1 rfl ?_
  refine a_get (ci := 6) (kx := 9) 0 dMo_bitAt_2 rfl I_Mo w_657 rfl (by decide) rfl ?_
  refine a_lsub dMo_bitAt_5 ?_
  refine a_lstore_n [(3, .long (x1 - m_exponent)), (0, .ref ad_m), (1, .long x1)] dMo_bitAt_6 rfl (by decide) rfl ?_
  refine a_lload_n 0 dMo_bitAt_7 rfl ?_
  refine a_lconst (0 : Int64) dMo_bitAt_8 (by decide) ?_
  refine a_lcmp dMo_bitAt_9 ?_
  refine a_if_lt 21 dMo_bitAt_10 (by decide) (fun c1 => ?_) (fun c1 => ?_)
  · refine a_ldc2 (3 : Int64) dMo_bitAt_21 w_824 ?_
    refine a_lload_n 0 dMo_bitAt_24 rfl ?_
    refine a_lsub dMo_bitAt_25 ?_
    refine a_ldc2 (4 : Int64) dMo_bitAt_26 w_815 ?_
    refine a_ldiv dMo_bitAt_29 (by decide) ?_
    refine a_lneg dMo_bitAt_30 ?_
    refine a_lv [(0, .ref ad_m), (1, .long x1), (3, .long (x1 - m_exponent))] [1, 2, 0] rfl ?_
    exact (k0 c1)
  · refine a_lload_n 0 dMo_bitAt_13 rfl ?_
    refine a_ldc2 (4 : Int64) dMo_bitAt_14 w_815 ?_
    refine a_ldiv dMo_bitAt_17 (by decide) ?_
    refine a_goto 31 dMo_bitAt_18 (by decide) ?_
    refine a_lv [(0, .ref ad_m), (1, .long x1), (3, .long (x1 - m_exponent))] [1, 2, 0] rfl ?_
    exact (k1 c1)

set_option maxRecDepth 20000 in
theorem b_Mo_bitAt_31 {l : Launch} {G : gG} {w0 w1 : va_W} {res : Option Value} {ad_m ar_text ar_figures ar_words : Nat} {m_thrown m_length m_kind m_place m_below m_many m_point m_from m_to m_rest m_huge : Int32} {m_exponent m_whole m_scale : Int64} {m_text m_figs m_wds : Nat → Int32} {x1 : Int64} {x3 : Int64} {v0 : Int64} (k0 : ((lg_cmp (((Int32.toInt64 m_point) - (1 : Int64)) - v0) (0 : Int64)) < 0) → gAt l G m_Mo_bitAt w0 res w1 63 [(0, .ref ad_m), (1, .long x1), (3, .long x3), (5, .long v0), (7, .long (((Int32.toInt64 m_point) - (1 : Int64)) - v0))] [] [oMo ad_m m_thrown ar_text m_length m_kind m_place m_below ar_figures m_many m_point m_exponent ar_words m_from m_to m_whole m_scale m_rest m_huge, aI G ar_text 4096 m_text, aI G ar_figures 4096 m_figs, aI G ar_words 800 m_wds]) (s1 : (¬ (lg_cmp (((Int32.toInt64 m_point) - (1 : Int64)) - v0) (0 : Int64)) < 0) → ((lg_cmp (((Int32.toInt64 m_point) - (1 : Int64)) - v0) (Int32.toInt64 m_many)) < 0) → vp_in (Int64.toInt32 (((Int32.toInt64 m_point) - (1 : Int64)) - v0)) 4096) (k2 : (¬ (lg_cmp (((Int32.toInt64 m_point) - (1 : Int64)) - v0) (0 : Int64)) < 0) → ((lg_cmp (((Int32.toInt64 m_point) - (1 : Int64)) - v0) (Int32.toInt64 m_many)) < 0) → gAt l G m_Mo_bitAt w0 res w1 87 [(0, .ref ad_m), (1, .long x1), (3, .long x3), (5, .long v0), (7, .long (((Int32.toInt64 m_point) - (1 : Int64)) - v0))] [.int (((m_figs (Int32.toNatClampNeg (Int64.toInt32 (((Int32.toInt64 m_point) - (1 : Int64)) - v0)))) >>> ((Int64.toInt32 (x3 - ((4 : Int64) * v0))) &&& 31)) &&& (1 : Int32))] [oMo ad_m m_thrown ar_text m_length m_kind m_place m_below ar_figures m_many m_point m_exponent ar_words m_from m_to m_whole m_scale m_rest m_huge, aI G ar_text 4096 m_text, aI G ar_figures 4096 m_figs, aI G ar_words 800 m_wds]) (k3 : (¬ (lg_cmp (((Int32.toInt64 m_point) - (1 : Int64)) - v0) (0 : Int64)) < 0) → (¬ (lg_cmp (((Int32.toInt64 m_point) - (1 : Int64)) - v0) (Int32.toInt64 m_many)) < 0) → gAt l G m_Mo_bitAt w0 res w1 63 [(0, .ref ad_m), (1, .long x1), (3, .long x3), (5, .long v0), (7, .long (((Int32.toInt64 m_point) - (1 : Int64)) - v0))] [] [oMo ad_m m_thrown ar_text m_length m_kind m_place m_below ar_figures m_many m_point m_exponent ar_words m_from m_to m_whole m_scale m_rest m_huge, aI G ar_text 4096 m_text, aI G ar_figures 4096 m_figs, aI G ar_words 800 m_wds]) : gAt l G m_Mo_bitAt w0 res w1 31 [(0, .ref ad_m), (1, .long x1), (3, .long x3)] [.long v0] [oMo ad_m m_thrown ar_text m_length m_kind m_place m_below ar_figures m_many m_point m_exponent ar_words m_from m_to m_whole m_scale m_rest m_huge, aI G ar_text 4096 m_text, aI G ar_figures 4096 m_figs, aI G ar_words 800 m_wds] := by
  refine a_lstore [(5, .long v0), (0, .ref ad_m), (1, .long x1), (3, .long x3)] dMo_bitAt_31 (by decide) rfl ?_
  refine a_aload_n 1 dMo_bitAt_33 rfl ?_
  refine a_get (ci := 6) (kx := 8) 0 dMo_bitAt_34 rfl I_Mo w_656 rfl (by decide) rfl ?_
  refine a_i2l dMo_bitAt_37 ?_
  refine a_lconst (1 : Int64) dMo_bitAt_38 (by decide) ?_
  refine a_lsub dMo_bitAt_39 ?_
  refine a_lload 0 dMo_bitAt_40 rfl ?_
  refine a_lsub dMo_bitAt_42 ?_
  refine a_lstore [(7, .long (((Int32.toInt64 m_point) - (1 : Int64)) - v0)), (5, .long v0), (0, .ref ad_m), (1, .long x1), (3, .long x3)] dMo_bitAt_43 (by decide) rfl ?_
  refine a_lload 0 dMo_bitAt_45 rfl ?_
  refine a_lconst (0 : Int64) dMo_bitAt_47 (by decide) ?_
  refine a_lcmp dMo_bitAt_48 ?_
  refine a_if_lt 63 dMo_bitAt_49 (by decide) (fun c1 => ?_) (fun c1 => ?_)
  · refine a_lv [(0, .ref ad_m), (1, .long x1), (3, .long x3), (5, .long v0), (7, .long (((Int32.toInt64 m_point) - (1 : Int64)) - v0))] [2, 3, 4, 1, 0] rfl ?_
    exact (k0 c1)
  · refine a_lload 0 dMo_bitAt_52 rfl ?_
    refine a_aload_n 2 dMo_bitAt_54 rfl ?_
    refine a_get (ci := 6) (kx := 7) 0 dMo_bitAt_55 rfl I_Mo w_655 rfl (by decide) rfl ?_
    refine a_i2l dMo_bitAt_58 ?_
    refine a_lcmp dMo_bitAt_59 ?_
    refine a_if_lt 67 dMo_bitAt_60 (by decide) (fun c2 => ?_) (fun c2 => ?_)
    · refine a_aload_n 2 dMo_bitAt_67 rfl ?_
      refine a_get (ci := 6) (kx := 6) 0 dMo_bitAt_68 rfl I_Mo w_654 rfl (by decide) rfl ?_
      refine a_lload 0 dMo_bitAt_71 rfl ?_
      refine a_l2i dMo_bitAt_73 ?_
      refine a_iald 2 dMo_bitAt_74 rfl (s1 c1 c2) ?_
      refine a_lload_n 4 dMo_bitAt_75 rfl ?_
      refine a_ldc2 (4 : Int64) dMo_bitAt_76 w_815 ?_
      refine a_lload 1 dMo_bitAt_79 rfl ?_
      refine a_lmul dMo_bitAt_81 ?_
      refine a_lsub dMo_bitAt_82 ?_
      refine a_l2i dMo_bitAt_83 ?_
      refine a_ishr dMo_bitAt_84 ?_
      refine a_iconst (1 : Int32) dMo_bitAt_85 (by decide) ?_
      refine a_iand dMo_bitAt_86 ?_
      refine a_lv [(0, .ref ad_m), (1, .long x1), (3, .long x3), (5, .long v0), (7, .long (((Int32.toInt64 m_point) - (1 : Int64)) - v0))] [2, 3, 4, 1, 0] rfl ?_
      exact (k2 c1 c2)
    · refine a_lv [(0, .ref ad_m), (1, .long x1), (3, .long x3), (5, .long v0), (7, .long (((Int32.toInt64 m_point) - (1 : Int64)) - v0))] [2, 3, 4, 1, 0] rfl ?_
      exact (k3 c1 c2)

set_option maxRecDepth 20000 in
theorem b_Mo_bitAt_63 {l : Launch} {G : gG} {w0 w1 : va_W} {res : Option Value} {ad_m ar_text ar_figures ar_words : Nat} {m_thrown m_length m_kind m_place m_below m_many m_point m_from m_to m_rest m_huge : Int32} {m_exponent m_whole m_scale : Int64} {m_text m_figs m_wds : Nat → Int32} {x1 : Int64} {x3 : Int64} {x5 : Int64} {x7 : Int64} (k0 : gAt l G m_Mo_bitAt w0 res w1 87 [(0, .ref ad_m), (1, .long x1), (3, .long x3), (5, .long x5), (7, .long x7)] [.int (0 : Int32)] [oMo ad_m m_thrown ar_text m_length m_kind m_place m_below ar_figures m_many m_point m_exponent ar_words m_from m_to m_whole m_scale m_rest m_huge, aI G ar_text 4096 m_text, aI G ar_figures 4096 m_figs, aI G ar_words 800 m_wds]) : gAt l G m_Mo_bitAt w0 res w1 63 [(0, .ref ad_m), (1, .long x1), (3, .long x3), (5, .long x5), (7, .long x7)] [] [oMo ad_m m_thrown ar_text m_length m_kind m_place m_below ar_figures m_many m_point m_exponent ar_words m_from m_to m_whole m_scale m_rest m_huge, aI G ar_text 4096 m_text, aI G ar_figures 4096 m_figs, aI G ar_words 800 m_wds] := by
  refine a_iconst (0 : Int32) dMo_bitAt_63 (by decide) ?_
  refine a_goto 87 dMo_bitAt_64 (by decide) ?_
  exact k0

set_option maxRecDepth 20000 in
theorem b_Mo_bitAt_87 {l : Launch} {G : gG} {w0 w1 : va_W} {res : Option Value} {ad_m ar_text ar_figures ar_words : Nat} {m_thrown m_length m_kind m_place m_below m_many m_point m_from m_to m_rest m_huge : Int32} {m_exponent m_whole m_scale : Int64} {m_text m_figs m_wds : Nat → Int32} {x1 : Int64} {x3 : Int64} {x5 : Int64} {x7 : Int64} {v0 : Int32} (k0 : res = some (.int v0) ∧ [oMo ad_m m_thrown ar_text m_length m_kind m_place m_below ar_figures m_many m_point m_exponent ar_words m_from m_to m_whole m_scale m_rest m_huge, aI G ar_text 4096 m_text, aI G ar_figures 4096 m_figs, aI G ar_words 800 m_wds] = w1) : gAt l G m_Mo_bitAt w0 res w1 87 [(0, .ref ad_m), (1, .long x1), (3, .long x3), (5, .long x5), (7, .long x7)] [.int v0] [oMo ad_m m_thrown ar_text m_length m_kind m_place m_below ar_figures m_many m_point m_exponent ar_words m_from m_to m_whole m_scale m_rest m_huge, aI G ar_text 4096 m_text, aI G ar_figures 4096 m_figs, aI G ar_words 800 m_wds] := by
  exact a_iret (st := []) dMo_bitAt_87 rfl k0.1 k0.2

set_option maxRecDepth 20000 in
theorem b_Mo_goesUp_0 {l : Launch} {G : gG} {w0 w1 : va_W} {res : Option Value} {ad_m ar_text ar_figures ar_words : Nat} {m_thrown m_length m_kind m_place m_below m_many m_point m_from m_to m_rest m_huge : Int32} {m_exponent m_whole m_scale : Int64} {m_text m_figs m_wds : Nat → Int32}  (k0 : (m_rest = (3 : Int32)) → gAt l G m_Mo_goesUp w0 res w1 29 [(0, .ref ad_m)] [] [oMo ad_m m_thrown ar_text m_length m_kind m_place m_below ar_figures m_many m_point m_exponent ar_words m_from m_to m_whole m_scale m_rest m_huge, aI G ar_text 4096 m_text, aI G ar_figures 4096 m_figs, aI G ar_words 800 m_wds]) (k1 : (¬ m_rest = (3 : Int32)) → (¬ m_rest = (2 : Int32)) → gAt l G m_Mo_goesUp w0 res w1 33 [(0, .ref ad_m)] [] [oMo ad_m m_thrown ar_text m_length m_kind m_place m_below ar_figures m_many m_point m_exponent ar_words m_from m_to m_whole m_scale m_rest m_huge, aI G ar_text 4096 m_text, aI G ar_figures 4096 m_figs, aI G ar_words 800 m_wds]) (k2 : (¬ m_rest = (3 : Int32)) → (m_rest = (2 : Int32)) → (¬ (lg_cmp (m_whole - m_whole / (2 : Int64) * (2 : Int64)) (1 : Int64)) = 0) → gAt l G m_Mo_goesUp w0 res w1 33 [(0, .ref ad_m)] [] [oMo ad_m m_thrown ar_text m_length m_kind m_place m_below ar_figures m_many m_point m_exponent ar_words m_from m_to m_whole m_scale m_rest m_huge, aI G ar_text 4096 m_text, aI G ar_figures 4096 m_figs, aI G ar_words 800 m_wds]) (k3 : (¬ m_rest = (3 : Int32)) → (m_rest = (2 : Int32)) → ((lg_cmp (m_whole - m_whole / (2 : Int64) * (2 : Int64)) (1 : Int64)) = 0) → gAt l G m_Mo_goesUp w0 res w1 29 [(0, .ref ad_m)] [] [oMo ad_m m_thrown ar_text m_length m_kind m_place m_below ar_figures m_many m_point m_exponent ar_words m_from m_to m_whole m_scale m_rest m_huge, aI G ar_text 4096 m_text, aI G ar_figures 4096 m_figs, aI G ar_words 800 m_wds]) : gAt l G m_Mo_goesUp w0 res w1 0 [(0, .ref ad_m)] [] [oMo ad_m m_thrown ar_text m_length m_kind m_place m_below ar_figures m_many m_point m_exponent ar_words m_from m_to m_whole m_scale m_rest m_huge, aI G ar_text 4096 m_text, aI G ar_figures 4096 m_figs, aI G ar_words 800 m_wds] := by
  refine a_aload_n 0 dMo_goesUp_0 rfl ?_
  refine a_get (ci := 6) (kx := 15) 0 dMo_goesUp_1 rfl I_Mo w_663 rfl (by decide) rfl ?_
  refine a_iconst (3 : Int32) dMo_goesUp_4 (by decide) ?_
  refine a_icmp_eq 29 dMo_goesUp_5 (by decide) (fun c1 => ?_) (fun c1 => ?_)
  · exact (k0 c1)
  · refine a_aload_n 0 dMo_goesUp_8 rfl ?_
    refine a_get (ci := 6) (kx := 15) 0 dMo_goesUp_9 rfl I_Mo w_663 rfl (by decide) rfl ?_
    refine a_iconst (2 : Int32) dMo_goesUp_12 (by decide) ?_
    refine a_icmp_ne 33 dMo_goesUp_13 (by decide) (fun c2 => ?_) (fun c2 => ?_)
    · exact (k1 c1 c2)
    · refine a_aload_n 0 dMo_goesUp_16 rfl ?_
      refine a_get (ci := 6) (kx := 13) 0 dMo_goesUp_17 rfl I_Mo w_661 rfl (by decide) rfl ?_
      refine a_ldc2 (2 : Int64) dMo_goesUp_20 w_819 ?_
      refine a_lrem dMo_goesUp_23 (by decide) ?_
      refine a_lconst (1 : Int64) dMo_goesUp_24 (by decide) ?_
      refine a_lcmp dMo_goesUp_25 ?_
      refine a_if_ne 33 dMo_goesUp_26 (by decide) (fun c3 => ?_) (fun c3 => ?_)
      · exact (k2 c1 c2 c3)
      · exact (k3 c1 c2 c3)

set_option maxRecDepth 20000 in
theorem b_Mo_goesUp_29 {l : Launch} {G : gG} {w0 w1 : va_W} {res : Option Value} {ad_m ar_text ar_figures ar_words : Nat} {m_thrown m_length m_kind m_place m_below m_many m_point m_from m_to m_rest m_huge : Int32} {m_exponent m_whole m_scale : Int64} {m_text m_figs m_wds : Nat → Int32}  (k0 : gAt l G m_Mo_goesUp w0 res w1 34 [(0, .ref ad_m)] [.int (1 : Int32)] [oMo ad_m m_thrown ar_text m_length m_kind m_place m_below ar_figures m_many m_point m_exponent ar_words m_from m_to m_whole m_scale m_rest m_huge, aI G ar_text 4096 m_text, aI G ar_figures 4096 m_figs, aI G ar_words 800 m_wds]) : gAt l G m_Mo_goesUp w0 res w1 29 [(0, .ref ad_m)] [] [oMo ad_m m_thrown ar_text m_length m_kind m_place m_below ar_figures m_many m_point m_exponent ar_words m_from m_to m_whole m_scale m_rest m_huge, aI G ar_text 4096 m_text, aI G ar_figures 4096 m_figs, aI G ar_words 800 m_wds] := by
  refine a_iconst (1 : Int32) dMo_goesUp_29 (by decide) ?_
  refine a_goto 34 dMo_goesUp_30 (by decide) ?_
  exact k0

set_option maxRecDepth 20000 in
theorem b_Mo_goesUp_33 {l : Launch} {G : gG} {w0 w1 : va_W} {res : Option Value} {ad_m ar_text ar_figures ar_words : Nat} {m_thrown m_length m_kind m_place m_below m_many m_point m_from m_to m_rest m_huge : Int32} {m_exponent m_whole m_scale : Int64} {m_text m_figs m_wds : Nat → Int32}  (k0 : gAt l G m_Mo_goesUp w0 res w1 34 [(0, .ref ad_m)] [.int (0 : Int32)] [oMo ad_m m_thrown ar_text m_length m_kind m_place m_below ar_figures m_many m_point m_exponent ar_words m_from m_to m_whole m_scale m_rest m_huge, aI G ar_text 4096 m_text, aI G ar_figures 4096 m_figs, aI G ar_words 800 m_wds]) : gAt l G m_Mo_goesUp w0 res w1 33 [(0, .ref ad_m)] [] [oMo ad_m m_thrown ar_text m_length m_kind m_place m_below ar_figures m_many m_point m_exponent ar_words m_from m_to m_whole m_scale m_rest m_huge, aI G ar_text 4096 m_text, aI G ar_figures 4096 m_figs, aI G ar_words 800 m_wds] := by
  refine a_iconst (0 : Int32) dMo_goesUp_33 (by decide) ?_
  exact k0

set_option maxRecDepth 20000 in
theorem b_Mo_goesUp_34 {l : Launch} {G : gG} {w0 w1 : va_W} {res : Option Value} {ad_m ar_text ar_figures ar_words : Nat} {m_thrown m_length m_kind m_place m_below m_many m_point m_from m_to m_rest m_huge : Int32} {m_exponent m_whole m_scale : Int64} {m_text m_figs m_wds : Nat → Int32} {v0 : Int32} (k0 : narrow .boolean (.int v0) = .int v0 ∧ res = some (.int v0) ∧ [oMo ad_m m_thrown ar_text m_length m_kind m_place m_below ar_figures m_many m_point m_exponent ar_words m_from m_to m_whole m_scale m_rest m_huge, aI G ar_text 4096 m_text, aI G ar_figures 4096 m_figs, aI G ar_words 800 m_wds] = w1) : gAt l G m_Mo_goesUp w0 res w1 34 [(0, .ref ad_m)] [.int v0] [oMo ad_m m_thrown ar_text m_length m_kind m_place m_below ar_figures m_many m_point m_exponent ar_words m_from m_to m_whole m_scale m_rest m_huge, aI G ar_text 4096 m_text, aI G ar_figures 4096 m_figs, aI G ar_words 800 m_wds] := by
  exact a_zret (st := []) dMo_goesUp_34 rfl k0.1 k0.2.1 k0.2.2

set_option maxRecDepth 20000 in
theorem b_Mo_pack_0 {l : Launch} {G : gG} {w0 w1 : va_W} {res : Option Value} {ad_m ar_text ar_figures ar_words : Nat} {m_thrown m_length m_kind m_place m_below m_many m_point m_from m_to m_rest m_huge : Int32} {m_exponent m_whole m_scale : Int64} {m_text m_figs m_wds : Nat → Int32} {x1 : Int64} {x3 : Int32} {x4 : Int32} (k0 : (¬ x3 = (53 : Int32)) → gAt l G m_Mo_pack w0 res w1 15 [(0, .ref ad_m), (1, .long x1), (3, .int x3), (4, .int x4)] [.long (255 : Int64)] [oMo ad_m m_thrown ar_text m_length m_kind m_place m_below ar_figures m_many m_point m_exponent ar_words m_from m_to m_whole m_scale m_rest m_huge, aI G ar_text 4096 m_text, aI G ar_figures 4096 m_figs, aI G ar_words 800 m_wds]) (k1 : (x3 = (53 : Int32)) → gAt l G m_Mo_pack w0 res w1 15 [(0, .ref ad_m), (1, .long x1), (3, .int x3), (4, .int x4)] [.long (2047 : Int64)] [oMo ad_m m_thrown ar_text m_length m_kind m_place m_below ar_figures m_many m_point m_exponent ar_words m_from m_to m_whole m_scale m_rest m_huge, aI G ar_text 4096 m_text, aI G ar_figures 4096 m_figs, aI G ar_words 800 m_wds]) : gAt l G m_Mo_pack w0 res w1 0 [(0, .ref ad_m), (1, .long x1), (3, .int x3), (4, .int x4)] [] [oMo ad_m m_thrown ar_text m_length m_kind m_place m_below ar_figures m_many m_point m_exponent ar_words m_from m_to m_whole m_scale m_rest m_huge, aI G ar_text 4096 m_text, aI G ar_figures 4096 m_figs, aI G ar_words 800 m_wds] := by
  refine a_iload_n 2 dMo_pack_0 rfl ?_
  refine a_bipush (53 : Int32) dMo_pack_1 (by decide) ?_
  refine a_icmp_ne 12 dMo_pack_3 (by decide) (fun c1 => ?_) (fun c1 => ?_)
  · refine a_ldc2 (255 : Int64) dMo_pack_12 w_708 ?_
    exact (k0 c1)
  · refine a_ldc2 (2047 : Int64) dMo_pack_6 w_780 ?_
    refine a_goto 15 dMo_pack_9 (by decide) ?_
    exact (k1 c1)

set_option maxRecDepth 20000 in
theorem b_Mo_pack_15 {l : Launch} {G : gG} {w0 w1 : va_W} {res : Option Value} {ad_m ar_text ar_figures ar_words : Nat} {m_thrown m_length m_kind m_place m_below m_many m_point m_from m_to m_rest m_huge : Int32} {m_exponent m_whole m_scale : Int64} {m_text m_figs m_wds : Nat → Int32} {x1 : Int64} {x3 : Int32} {x4 : Int32} {v0 : Int64} (k0 : (0 ≤ (lg_cmp x1 ((1 : Int64) <<< ((Int32.toInt64 (x3 - (1 : Int32))) &&& 63)))) → (¬ m_huge = 0) → gAt l G m_Mo_pack w0 res w1 61 [(0, .ref ad_m), (1, .long x1), (3, .int x3), (4, .int x4), (5, .long (v0 <<< ((Int32.toInt64 (x3 - (1 : Int32))) &&& 63))), (7, .long ((m_scale - (Int32.toInt64 x4)) + (1 : Int64)))] [] [oMo ad_m m_thrown ar_text m_length m_kind m_place m_below ar_figures m_many m_point m_exponent ar_words m_from m_to m_whole m_scale m_rest m_huge, aI G ar_text 4096 m_text, aI G ar_figures 4096 m_figs, aI G ar_words 800 m_wds]) (k1 : (0 ≤ (lg_cmp x1 ((1 : Int64) <<< ((Int32.toInt64 (x3 - (1 : Int32))) &&& 63)))) → (m_huge = 0) → ((lg_cmp ((m_scale - (Int32.toInt64 x4)) + (1 : Int64)) (2047 : Int64)) ≤ 0) → ((lg_cmp ((((m_scale - (Int32.toInt64 x4)) + (1 : Int64)) <<< ((Int32.toInt64 (x3 - (1 : Int32))) &&& 63)) + (x1 - ((1 : Int64) <<< ((Int32.toInt64 (x3 - (1 : Int32))) &&& 63)))) (0 : Int64)) < 0) → gAt l G m_Mo_pack w0 res w1 95 [(0, .ref ad_m), (1, .long x1), (3, .int x3), (4, .int x4), (5, .long (v0 <<< ((Int32.toInt64 (x3 - (1 : Int32))) &&& 63))), (7, .long ((m_scale - (Int32.toInt64 x4)) + (1 : Int64))), (9, .long ((((m_scale - (Int32.toInt64 x4)) + (1 : Int64)) <<< ((Int32.toInt64 (x3 - (1 : Int32))) &&& 63)) + (x1 - ((1 : Int64) <<< ((Int32.toInt64 (x3 - (1 : Int32))) &&& 63)))))] [] [oMo ad_m m_thrown ar_text m_length m_kind m_place m_below ar_figures m_many m_point m_exponent ar_words m_from m_to m_whole m_scale m_rest m_huge, aI G ar_text 4096 m_text, aI G ar_figures 4096 m_figs, aI G ar_words 800 m_wds]) (k2 : (0 ≤ (lg_cmp x1 ((1 : Int64) <<< ((Int32.toInt64 (x3 - (1 : Int32))) &&& 63)))) → (m_huge = 0) → ((lg_cmp ((m_scale - (Int32.toInt64 x4)) + (1 : Int64)) (2047 : Int64)) ≤ 0) → (¬ (lg_cmp ((((m_scale - (Int32.toInt64 x4)) + (1 : Int64)) <<< ((Int32.toInt64 (x3 - (1 : Int32))) &&& 63)) + (x1 - ((1 : Int64) <<< ((Int32.toInt64 (x3 - (1 : Int32))) &&& 63)))) (0 : Int64)) < 0) → ((lg_cmp ((((m_scale - (Int32.toInt64 x4)) + (1 : Int64)) <<< ((Int32.toInt64 (x3 - (1 : Int32))) &&& 63)) + (x1 - ((1 : Int64) <<< ((Int32.toInt64 (x3 - (1 : Int32))) &&& 63)))) (v0 <<< ((Int32.toInt64 (x3 - (1 : Int32))) &&& 63))) ≤ 0) → gAt l G m_Mo_pack w0 res w1 102 [(0, .ref ad_m), (1, .long x1), (3, .int x3), (4, .int x4), (5, .long (v0 <<< ((Int32.toInt64 (x3 - (1 : Int32))) &&& 63))), (7, .long ((m_scale - (Int32.toInt64 x4)) + (1 : Int64))), (9, .long ((((m_scale - (Int32.toInt64 x4)) + (1 : Int64)) <<< ((Int32.toInt64 (x3 - (1 : Int32))) &&& 63)) + (x1 - ((1 : Int64) <<< ((Int32.toInt64 (x3 - (1 : Int32))) &&& 63)))))] [.long ((((m_scale - (Int32.toInt64 x4)) + (1 : Int64)) <<< ((Int32.toInt64 (x3 - (1 : Int32))) &&& 63)) + (x1 - ((1 : Int64) <<< ((Int32.toInt64 (x3 - (1 : Int32))) &&& 63))))] [oMo ad_m m_thrown ar_text m_length m_kind m_place m_below ar_figures m_many m_point m_exponent ar_words m_from m_to m_whole m_scale m_rest m_huge, aI G ar_text 4096 m_text, aI G ar_figures 4096 m_figs, aI G ar_words 800 m_wds]) (k3 : (0 ≤ (lg_cmp x1 ((1 : Int64) <<< ((Int32.toInt64 (x3 - (1 : Int32))) &&& 63)))) → (m_huge = 0) → ((lg_cmp ((m_scale - (Int32.toInt64 x4)) + (1 : Int64)) (2047 : Int64)) ≤ 0) → (¬ (lg_cmp ((((m_scale - (Int32.toInt64 x4)) + (1 : Int64)) <<< ((Int32.toInt64 (x3 - (1 : Int32))) &&& 63)) + (x1 - ((1 : Int64) <<< ((Int32.toInt64 (x3 - (1 : Int32))) &&& 63)))) (0 : Int64)) < 0) → (¬ (lg_cmp ((((m_scale - (Int32.toInt64 x4)) + (1 : Int64)) <<< ((Int32.toInt64 (x3 - (1 : Int32))) &&& 63)) + (x1 - ((1 : Int64) <<< ((Int32.toInt64 (x3 - (1 : Int32))) &&& 63)))) (v0 <<< ((Int32.toInt64 (x3 - (1 : Int32))) &&& 63))) ≤ 0) → gAt l G m_Mo_pack w0 res w1 95 [(0, .ref ad_m), (1, .long x1), (3, .int x3), (4, .int x4), (5, .long (v0 <<< ((Int32.toInt64 (x3 - (1 : Int32))) &&& 63))), (7, .long ((m_scale - (Int32.toInt64 x4)) + (1 : Int64))), (9, .long ((((m_scale - (Int32.toInt64 x4)) + (1 : Int64)) <<< ((Int32.toInt64 (x3 - (1 : Int32))) &&& 63)) + (x1 - ((1 : Int64) <<< ((Int32.toInt64 (x3 - (1 : Int32))) &&& 63)))))] [] [oMo ad_m m_thrown ar_text m_length m_kind m_place m_below ar_figures m_many m_point m_exponent ar_words m_from m_to m_whole m_scale m_rest m_huge, aI G ar_text 4096 m_text, aI G ar_figures 4096 m_figs, aI G ar_words 800 m_wds]) (k4 : (0 ≤ (lg_cmp x1 ((1 : Int64) <<< ((Int32.toInt64 (x3 - (1 : Int32))) &&& 63)))) → (m_huge = 0) → (¬ (lg_cmp ((m_scale - (Int32.toInt64 x4)) + (1 : Int64)) (2047 : Int64)) ≤ 0) → gAt l G m_Mo_pack w0 res w1 61 [(0, .ref ad_m), (1, .long x1), (3, .int x3), (4, .int x4), (5, .long (v0 <<< ((Int32.toInt64 (x3 - (1 : Int32))) &&& 63))), (7, .long ((m_scale - (Int32.toInt64 x4)) + (1 : Int64)))] [] [oMo ad_m m_thrown ar_text m_length m_kind m_place m_below ar_figures m_many m_point m_exponent ar_words m_from m_to m_whole m_scale m_rest m_huge, aI G ar_text 4096 m_text, aI G ar_figures 4096 m_figs, aI G ar_words 800 m_wds]) (k5 : (¬ 0 ≤ (lg_cmp x1 ((1 : Int64) <<< ((Int32.toInt64 (x3 - (1 : Int32))) &&& 63)))) → res = some (.long x1) ∧ [oMo ad_m m_thrown ar_text m_length m_kind m_place m_below ar_figures m_many m_point m_exponent ar_words m_from m_to m_whole m_scale m_rest m_huge, aI G ar_text 4096 m_text, aI G ar_figures 4096 m_figs, aI G ar_words 800 m_wds] = w1) : gAt l G m_Mo_pack w0 res w1 15 [(0, .ref ad_m), (1, .long x1), (3, .int x3), (4, .int x4)] [.long v0] [oMo ad_m m_thrown ar_text m_length m_kind m_place m_below ar_figures m_many m_point m_exponent ar_words m_from m_to m_whole m_scale m_rest m_huge, aI G ar_text 4096 m_text, aI G ar_figures 4096 m_figs, aI G ar_words 800 m_wds] := by
  refine a_iload_n 2 dMo_pack_15 rfl ?_
  refine a_iconst (1 : Int32) dMo_pack_16 (by decide) ?_
  refine a_isub dMo_pack_17 ?_
  refine a_lshl dMo_pack_18 ?_
  refine a_lstore [(5, .long (v0 <<< ((Int32.toInt64 (x3 - (1 : Int32))) &&& 63))), (0, .ref ad_m), (1, .long x1), (3, .int x3), (4, .int x4)] dMo_pack_19 (by decide) rfl ?_
  refine a_lload_n 2 dMo_pack_21 rfl ?_
  refine a_lconst (1 : Int64) dMo_pack_22 (by decide) ?_
  refine a_iload_n 3 dMo_pack_23 rfl ?_
  refine a_iconst (1 : Int32) dMo_pack_24 (by decide) ?_
  refine a_isub dMo_pack_25 ?_
  refine a_lshl dMo_pack_26 ?_
  refine a_lcmp dMo_pack_27 ?_
  refine a_if_ge 33 dMo_pack_28 (by decide) (fun c1 => ?_) (fun c1 => ?_)
  · refine a_aload_n 1 dMo_pack_33 rfl ?_
    refine a_get (ci := 6) (kx := 14) 0 dMo_pack_34 rfl I_Mo w_662 rfl (by decide) rfl ?_
    refine a_iload 4 dMo_pack_37 rfl ?_
    refine a_i2l dMo_pack_39 ?_
    refine a_lsub dMo_pack_40 ?_
    refine a_lconst (1 : Int64) dMo_pack_41 (by decide) ?_
    refine a_ladd dMo_pack_42 ?_
    refine a_lstore [(7, .long ((m_scale - (Int32.toInt64 x4)) + (1 : Int64))), (5, .long (v0 <<< ((Int32.toInt64 (x3 - (1 : Int32))) &&& 63))), (0, .ref ad_m), (1, .long x1), (3, .int x3), (4, .int x4)] dMo_pack_43 (by decide) rfl ?_
    refine a_aload_n 2 dMo_pack_45 rfl ?_
    refine a_get (ci := 6) (kx := 16) 0 dMo_pack_46 rfl I_Mo w_664 rfl (by decide) rfl ?_
    refine a_if_ne 61 dMo_pack_49 (by decide) (fun c2 => ?_) (fun c2 => ?_)
    · refine a_lv [(0, .ref ad_m), (1, .long x1), (3, .int x3), (4, .int x4), (5, .long (v0 <<< ((Int32.toInt64 (x3 - (1 : Int32))) &&& 63))), (7, .long ((m_scale - (Int32.toInt64 x4)) + (1 : Int64)))] [2, 3, 4, 5, 1, 0] rfl ?_
      exact (k0 c1 c2)
    · refine a_lload 0 dMo_pack_52 rfl ?_
      refine a_ldc2 (2047 : Int64) dMo_pack_54 w_780 ?_
      refine a_lcmp dMo_pack_57 ?_
      refine a_if_le 64 dMo_pack_58 (by decide) (fun c3 => ?_) (fun c3 => ?_)
      · refine a_lload 0 dMo_pack_64 rfl ?_
        refine a_iload_n 4 dMo_pack_66 rfl ?_
        refine a_iconst (1 : Int32) dMo_pack_67 (by decide) ?_
        refine a_isub dMo_pack_68 ?_
        refine a_lshl dMo_pack_69 ?_
        refine a_lload_n 3 dMo_pack_70 rfl ?_
        refine a_lconst (1 : Int64) dMo_pack_71 (by decide) ?_
        refine a_iload_n 4 dMo_pack_72 rfl ?_
        refine a_iconst (1 : Int32) dMo_pack_73 (by decide) ?_
        refine a_isub dMo_pack_74 ?_
        refine a_lshl dMo_pack_75 ?_
        refine a_lsub dMo_pack_76 ?_
        refine a_ladd dMo_pack_77 ?_
        refine a_lstore [(9, .long ((((m_scale - (Int32.toInt64 x4)) + (1 : Int64)) <<< ((Int32.toInt64 (x3 - (1 : Int32))) &&& 63)) + (x1 - ((1 : Int64) <<< ((Int32.toInt64 (x3 - (1 : Int32))) &&& 63))))), (7, .long ((m_scale - (Int32.toInt64 x4)) + (1 : Int64))), (5, .long (v0 <<< ((Int32.toInt64 (x3 - (1 : Int32))) &&& 63))), (0, .ref ad_m), (1, .long x1), (3, .int x3), (4, .int x4)] dMo_pack_78 (by decide) rfl ?_
        refine a_lload 0 dMo_pack_80 rfl ?_
        refine a_lconst (0 : Int64) dMo_pack_82 (by decide) ?_
        refine a_lcmp dMo_pack_83 ?_
        refine a_if_lt 95 dMo_pack_84 (by decide) (fun c4 => ?_) (fun c4 => ?_)
        · refine a_lv [(0, .ref ad_m), (1, .long x1), (3, .int x3), (4, .int x4), (5, .long (v0 <<< ((Int32.toInt64 (x3 - (1 : Int32))) &&& 63))), (7, .long ((m_scale - (Int32.toInt64 x4)) + (1 : Int64))), (9, .long ((((m_scale - (Int32.toInt64 x4)) + (1 : Int64)) <<< ((Int32.toInt64 (x3 - (1 : Int32))) &&& 63)) + (x1 - ((1 : Int64) <<< ((Int32.toInt64 (x3 - (1 : Int32))) &&& 63)))))] [3, 4, 5, 6, 2, 1, 0] rfl ?_
          exact (k1 c1 c2 c3 c4)
        · refine a_lload 0 dMo_pack_87 rfl ?_
          refine a_lload 2 dMo_pack_89 rfl ?_
          refine a_lcmp dMo_pack_91 ?_
          refine a_if_le 100 dMo_pack_92 (by decide) (fun c5 => ?_) (fun c5 => ?_)
          · refine a_lload 0 dMo_pack_100 rfl ?_
            refine a_lv [(0, .ref ad_m), (1, .long x1), (3, .int x3), (4, .int x4), (5, .long (v0 <<< ((Int32.toInt64 (x3 - (1 : Int32))) &&& 63))), (7, .long ((m_scale - (Int32.toInt64 x4)) + (1 : Int64))), (9, .long ((((m_scale - (Int32.toInt64 x4)) + (1 : Int64)) <<< ((Int32.toInt64 (x3 - (1 : Int32))) &&& 63)) + (x1 - ((1 : Int64) <<< ((Int32.toInt64 (x3 - (1 : Int32))) &&& 63)))))] [3, 4, 5, 6, 2, 1, 0] rfl ?_
            exact (k2 c1 c2 c3 c4 c5)
          · refine a_lv [(0, .ref ad_m), (1, .long x1), (3, .int x3), (4, .int x4), (5, .long (v0 <<< ((Int32.toInt64 (x3 - (1 : Int32))) &&& 63))), (7, .long ((m_scale - (Int32.toInt64 x4)) + (1 : Int64))), (9, .long ((((m_scale - (Int32.toInt64 x4)) + (1 : Int64)) <<< ((Int32.toInt64 (x3 - (1 : Int32))) &&& 63)) + (x1 - ((1 : Int64) <<< ((Int32.toInt64 (x3 - (1 : Int32))) &&& 63)))))] [3, 4, 5, 6, 2, 1, 0] rfl ?_
            exact (k3 c1 c2 c3 c4 c5)
      · refine a_lv [(0, .ref ad_m), (1, .long x1), (3, .int x3), (4, .int x4), (5, .long (v0 <<< ((Int32.toInt64 (x3 - (1 : Int32))) &&& 63))), (7, .long ((m_scale - (Int32.toInt64 x4)) + (1 : Int64)))] [2, 3, 4, 5, 1, 0] rfl ?_
        exact (k4 c1 c2 c3)
  · refine a_lload_n 2 dMo_pack_31 rfl ?_
    exact a_lret (st := []) dMo_pack_32 rfl (k5 c1).1 (k5 c1).2

set_option maxRecDepth 20000 in
theorem b_Mo_pack_61 {l : Launch} {G : gG} {w0 w1 : va_W} {res : Option Value} {ad_m ar_text ar_figures ar_words : Nat} {m_thrown m_length m_kind m_place m_below m_many m_point m_from m_to m_rest m_huge : Int32} {m_exponent m_whole m_scale : Int64} {m_text m_figs m_wds : Nat → Int32} {x1 : Int64} {x3 : Int32} {x4 : Int32} {x5 : Int64} {x7 : Int64} (k0 : res = some (.long x5) ∧ [oMo ad_m m_thrown ar_text m_length m_kind m_place m_below ar_figures m_many m_point m_exponent ar_words m_from m_to m_whole m_scale m_rest m_huge, aI G ar_text 4096 m_text, aI G ar_figures 4096 m_figs, aI G ar_words 800 m_wds] = w1) : gAt l G m_Mo_pack w0 res w1 61 [(0, .ref ad_m), (1, .long x1), (3, .int x3), (4, .int x4), (5, .long x5), (7, .long x7)] [] [oMo ad_m m_thrown ar_text m_length m_kind m_place m_below ar_figures m_many m_point m_exponent ar_words m_from m_to m_whole m_scale m_rest m_huge, aI G ar_text 4096 m_text, aI G ar_figures 4096 m_figs, aI G ar_words 800 m_wds] := by
  refine a_lload 4 dMo_pack_61 rfl ?_
  exact a_lret (st := []) dMo_pack_63 rfl k0.1 k0.2

set_option maxRecDepth 20000 in
theorem b_Mo_pack_95 {l : Launch} {G : gG} {w0 w1 : va_W} {res : Option Value} {ad_m ar_text ar_figures ar_words : Nat} {m_thrown m_length m_kind m_place m_below m_many m_point m_from m_to m_rest m_huge : Int32} {m_exponent m_whole m_scale : Int64} {m_text m_figs m_wds : Nat → Int32} {x1 : Int64} {x3 : Int32} {x4 : Int32} {x5 : Int64} {x7 : Int64} {x9 : Int64} (k0 : gAt l G m_Mo_pack w0 res w1 102 [(0, .ref ad_m), (1, .long x1), (3, .int x3), (4, .int x4), (5, .long x5), (7, .long x7), (9, .long x9)] [.long x5] [oMo ad_m m_thrown ar_text m_length m_kind m_place m_below ar_figures m_many m_point m_exponent ar_words m_from m_to m_whole m_scale m_rest m_huge, aI G ar_text 4096 m_text, aI G ar_figures 4096 m_figs, aI G ar_words 800 m_wds]) : gAt l G m_Mo_pack w0 res w1 95 [(0, .ref ad_m), (1, .long x1), (3, .int x3), (4, .int x4), (5, .long x5), (7, .long x7), (9, .long x9)] [] [oMo ad_m m_thrown ar_text m_length m_kind m_place m_below ar_figures m_many m_point m_exponent ar_words m_from m_to m_whole m_scale m_rest m_huge, aI G ar_text 4096 m_text, aI G ar_figures 4096 m_figs, aI G ar_words 800 m_wds] := by
  refine a_lload 4 dMo_pack_95 rfl ?_
  refine a_goto 102 dMo_pack_97 (by decide) ?_
  exact k0

set_option maxRecDepth 20000 in
theorem b_Mo_pack_102 {l : Launch} {G : gG} {w0 w1 : va_W} {res : Option Value} {ad_m ar_text ar_figures ar_words : Nat} {m_thrown m_length m_kind m_place m_below m_many m_point m_from m_to m_rest m_huge : Int32} {m_exponent m_whole m_scale : Int64} {m_text m_figs m_wds : Nat → Int32} {x1 : Int64} {x3 : Int32} {x4 : Int32} {x5 : Int64} {x7 : Int64} {x9 : Int64} {v0 : Int64} (k0 : res = some (.long v0) ∧ [oMo ad_m m_thrown ar_text m_length m_kind m_place m_below ar_figures m_many m_point m_exponent ar_words m_from m_to m_whole m_scale m_rest m_huge, aI G ar_text 4096 m_text, aI G ar_figures 4096 m_figs, aI G ar_words 800 m_wds] = w1) : gAt l G m_Mo_pack w0 res w1 102 [(0, .ref ad_m), (1, .long x1), (3, .int x3), (4, .int x4), (5, .long x5), (7, .long x7), (9, .long x9)] [.long v0] [oMo ad_m m_thrown ar_text m_length m_kind m_place m_below ar_figures m_many m_point m_exponent ar_words m_from m_to m_whole m_scale m_rest m_huge, aI G ar_text 4096 m_text, aI G ar_figures 4096 m_figs, aI G ar_words 800 m_wds] := by
  exact a_lret (st := []) dMo_pack_102 rfl k0.1 k0.2

set_option maxRecDepth 20000 in
theorem b_Mo_floatBits_0 {l : Launch} {G : gG} {w0 w1 : va_W} {res : Option Value} {ad_m ar_text ar_figures ar_words : Nat} {m_thrown m_length m_kind m_place m_below m_many m_point m_from m_to m_rest m_huge : Int32} {m_exponent m_whole m_scale : Int64} {m_text m_figs m_wds : Nat → Int32}  (k0 : gAt l G m_Mo_floatBits w0 res w1 2 [(0, .ref ad_m)] [.ref ad_m, .ref ad_m] [oMo ad_m m_thrown ar_text m_length m_kind m_place m_below ar_figures m_many m_point m_exponent ar_words m_from m_to m_whole m_scale m_rest m_huge, aI G ar_text 4096 m_text, aI G ar_figures 4096 m_figs, aI G ar_words 800 m_wds]) : gAt l G m_Mo_floatBits w0 res w1 0 [(0, .ref ad_m)] [] [oMo ad_m m_thrown ar_text m_length m_kind m_place m_below ar_figures m_many m_point m_exponent ar_words m_from m_to m_whole m_scale m_rest m_huge, aI G ar_text 4096 m_text, aI G ar_figures 4096 m_figs, aI G ar_words 800 m_wds] := by
  refine a_aload_n 0 dMo_floatBits_0 rfl ?_
  refine a_aload_n 0 dMo_floatBits_1 rfl ?_
  exact k0

set_option maxRecDepth 20000 in
theorem k_Mo_floatBits_2 {l : Launch} {G : gG} {w0 w1 : va_W} {res : Option Value} {ad_m ar_text ar_figures ar_words : Nat} {m_thrown m_length m_kind m_place m_below m_many m_point m_from m_to m_rest m_huge : Int32} {m_exponent m_whole m_scale : Int64} {m_text m_figs m_wds : Nat → Int32}  {r : Int32} {m_thrown' m_length' m_kind' m_place' m_below' m_many' m_point' m_from' m_to' m_rest' m_huge' : Int32} {m_exponent' m_whole' m_scale' : Int64} {m_text' m_figs' m_wds' : Nat → Int32} (hc : gCt l G m_Mo_scan [.ref ad_m] [oMo ad_m m_thrown ar_text m_length m_kind m_place m_below ar_figures m_many m_point m_exponent ar_words m_from m_to m_whole m_scale m_rest m_huge, aI G ar_text 4096 m_text, aI G ar_figures 4096 m_figs, aI G ar_words 800 m_wds] (some (.int r)) [oMo ad_m m_thrown' ar_text m_length' m_kind' m_place' m_below' ar_figures m_many' m_point' m_exponent' ar_words m_from' m_to' m_whole' m_scale' m_rest' m_huge', aI G ar_text 4096 m_text', aI G ar_figures 4096 m_figs', aI G ar_words 800 m_wds']) (k : gAt l G m_Mo_floatBits w0 res w1 5 [(0, .ref ad_m)] [.int r, .ref ad_m] [oMo ad_m m_thrown' ar_text m_length' m_kind' m_place' m_below' ar_figures m_many' m_point' m_exponent' ar_words m_from' m_to' m_whole' m_scale' m_rest' m_huge', aI G ar_text 4096 m_text', aI G ar_figures 4096 m_figs', aI G ar_words 800 m_wds']) : gAt l G m_Mo_floatBits w0 res w1 2 [(0, .ref ad_m)] [.ref ad_m, .ref ad_m] [oMo ad_m m_thrown ar_text m_length m_kind m_place m_below ar_figures m_many m_point m_exponent ar_words m_from m_to m_whole m_scale m_rest m_huge, aI G ar_text 4096 m_text, aI G ar_figures 4096 m_figs, aI G ar_words 800 m_wds] :=
  a_callV (As := []) (rest := [.ref ad_m]) (wc := [oMo ad_m m_thrown ar_text m_length m_kind m_place m_below ar_figures m_many m_point m_exponent ar_words m_from m_to m_whole m_scale m_rest m_huge, aI G ar_text 4096 m_text, aI G ar_figures 4096 m_figs, aI G ar_words 800 m_wds]) (wr := []) (w1c := [oMo ad_m m_thrown' ar_text m_length' m_kind' m_place' m_below' ar_figures m_many' m_point' m_exponent' ar_words m_from' m_to' m_whole' m_scale' m_rest' m_huge', aI G ar_text 4096 m_text', aI G ar_figures 4096 m_figs', aI G ar_words 800 m_wds']) (r := (some (.int r))) [oMo ad_m m_thrown' ar_text m_length' m_kind' m_place' m_below' ar_figures m_many' m_point' m_exponent' ar_words m_from' m_to' m_whole' m_scale' m_rest' m_huge', aI G ar_text 4096 m_text', aI G ar_figures 4096 m_figs', aI G ar_words 800 m_wds'] [0, 1, 2, 3] [] [0, 1, 2, 3] (ci := 6) (q0 := 0) hc dMo_floatBits_2 rfl ok_Mo_scan ⟨Nat.le_of_ble_eq_true rfl, Nat.le_of_ble_eq_true rfl⟩ w_725 w_727 sl_54 rfl rfl rfl rfl rfl rfl (by decide) rfl rfl (Nat.le_of_ble_eq_true rfl) k

set_option maxRecDepth 20000 in
theorem b_Mo_floatBits_5 {l : Launch} {G : gG} {w0 w1 : va_W} {res : Option Value} {ad_m ar_text ar_figures ar_words : Nat} {m_thrown m_length m_kind m_place m_below m_many m_point m_from m_to m_rest m_huge : Int32} {m_exponent m_whole m_scale : Int64} {m_text m_figs m_wds : Nat → Int32} {v0 : Int32} (k0 : (v0 = 0) → gAt l G m_Mo_floatBits w0 res w1 13 [(0, .ref ad_m)] [.int (1 : Int32), .ref ad_m] [oMo ad_m m_thrown ar_text m_length m_kind m_place m_below ar_figures m_many m_point m_exponent ar_words m_from m_to m_whole m_scale m_rest m_huge, aI G ar_text 4096 m_text, aI G ar_figures 4096 m_figs, aI G ar_words 800 m_wds]) (k1 : (¬ v0 = 0) → gAt l G m_Mo_floatBits w0 res w1 13 [(0, .ref ad_m)] [.int (0 : Int32), .ref ad_m] [oMo ad_m m_thrown ar_text m_length m_kind m_place m_below ar_figures m_many m_point m_exponent ar_words m_from m_to m_whole m_scale m_rest m_huge, aI G ar_text 4096 m_text, aI G ar_figures 4096 m_figs, aI G ar_words 800 m_wds]) : gAt l G m_Mo_floatBits w0 res w1 5 [(0, .ref ad_m)] [.int v0, .ref ad_m] [oMo ad_m m_thrown ar_text m_length m_kind m_place m_below ar_figures m_many m_point m_exponent ar_words m_from m_to m_whole m_scale m_rest m_huge, aI G ar_text 4096 m_text, aI G ar_figures 4096 m_figs, aI G ar_words 800 m_wds] := by
  refine a_if_eq 12 dMo_floatBits_5 (by decide) (fun c1 => ?_) (fun c1 => ?_)
  · refine a_iconst (1 : Int32) dMo_floatBits_12 (by decide) ?_
    exact (k0 c1)
  · refine a_iconst (0 : Int32) dMo_floatBits_8 (by decide) ?_
    refine a_goto 13 dMo_floatBits_9 (by decide) ?_
    exact (k1 c1)

set_option maxRecDepth 20000 in
theorem b_Mo_floatBits_13 {l : Launch} {G : gG} {w0 w1 : va_W} {res : Option Value} {ad_m ar_text ar_figures ar_words : Nat} {m_thrown m_length m_kind m_place m_below m_many m_point m_from m_to m_rest m_huge : Int32} {m_exponent m_whole m_scale : Int64} {m_text m_figs m_wds : Nat → Int32} {v0 : Int32} (k0 : (v0 ≤ 0) → gAt l G m_Mo_floatBits w0 res w1 31 [(0, .ref ad_m)] [.int (-149 : Int32), .int (24 : Int32), .ref ad_m] [oMo ad_m v0 ar_text m_length m_kind m_place m_below ar_figures m_many m_point m_exponent ar_words m_from m_to m_whole m_scale m_rest m_huge, aI G ar_text 4096 m_text, aI G ar_figures 4096 m_figs, aI G ar_words 800 m_wds]) (k1 : (¬ v0 ≤ 0) → res = some (.int (0 : Int32)) ∧ [oMo ad_m v0 ar_text m_length m_kind m_place m_below ar_figures m_many m_point m_exponent ar_words m_from m_to m_whole m_scale m_rest m_huge, aI G ar_text 4096 m_text, aI G ar_figures 4096 m_figs, aI G ar_words 800 m_wds] = w1) : gAt l G m_Mo_floatBits w0 res w1 13 [(0, .ref ad_m)] [.int v0, .ref ad_m] [oMo ad_m m_thrown ar_text m_length m_kind m_place m_below ar_figures m_many m_point m_exponent ar_words m_from m_to m_whole m_scale m_rest m_huge, aI G ar_text 4096 m_text, aI G ar_figures 4096 m_figs, aI G ar_words 800 m_wds] := by
  refine a_put (ci := 6) (kx := 0) ty_Mo 0 [oMo ad_m v0 ar_text m_length m_kind m_place m_below ar_figures m_many m_point m_exponent ar_words m_from m_to m_whole m_scale m_rest m_huge, aI G ar_text 4096 m_text, aI G ar_figures 4096 m_figs, aI G ar_words 800 m_wds] dMo_floatBits_13 rfl I_Mo tyo_Mo nmo_Mo w_648 rfl (by decide) rfl rfl rfl (Nat.le_of_ble_eq_true rfl) rfl ?_
  refine a_aload_n 0 dMo_floatBits_16 rfl ?_
  refine a_get (ci := 6) (kx := 0) 0 dMo_floatBits_17 rfl I_Mo w_648 rfl (by decide) rfl ?_
  refine a_if_le 25 dMo_floatBits_20 (by decide) (fun c1 => ?_) (fun c1 => ?_)
  · refine a_aload_n 0 dMo_floatBits_25 rfl ?_
    refine a_bipush (24 : Int32) dMo_floatBits_26 (by decide) ?_
    refine a_sipush (-149 : Int32) dMo_floatBits_28 (by decide) ?_
    exact (k0 c1)
  · refine a_iconst (0 : Int32) dMo_floatBits_23 (by decide) ?_
    exact a_iret (st := []) dMo_floatBits_24 rfl (k1 c1).1 (k1 c1).2

set_option maxRecDepth 20000 in
theorem k_Mo_floatBits_31 {l : Launch} {G : gG} {w0 w1 : va_W} {res : Option Value} {ad_m ar_text ar_figures ar_words : Nat} {m_thrown m_length m_kind m_place m_below m_many m_point m_from m_to m_rest m_huge : Int32} {m_exponent m_whole m_scale : Int64} {m_text m_figs m_wds : Nat → Int32} {v0 : Int32} {v1 : Int32} {r : Int64} {m_thrown' m_length' m_kind' m_place' m_below' m_many' m_point' m_from' m_to' m_rest' m_huge' : Int32} {m_exponent' m_whole' m_scale' : Int64} {m_text' m_figs' m_wds' : Nat → Int32} (hc : gCt l G m_Mo_sizeRead [.ref ad_m, .int v1, .int v0] [oMo ad_m m_thrown ar_text m_length m_kind m_place m_below ar_figures m_many m_point m_exponent ar_words m_from m_to m_whole m_scale m_rest m_huge, aI G ar_text 4096 m_text, aI G ar_figures 4096 m_figs, aI G ar_words 800 m_wds] (some (.long r)) [oMo ad_m m_thrown' ar_text m_length' m_kind' m_place' m_below' ar_figures m_many' m_point' m_exponent' ar_words m_from' m_to' m_whole' m_scale' m_rest' m_huge', aI G ar_text 4096 m_text', aI G ar_figures 4096 m_figs', aI G ar_words 800 m_wds']) (k : gAt l G m_Mo_floatBits w0 res w1 34 [(0, .ref ad_m)] [.long r] [oMo ad_m m_thrown' ar_text m_length' m_kind' m_place' m_below' ar_figures m_many' m_point' m_exponent' ar_words m_from' m_to' m_whole' m_scale' m_rest' m_huge', aI G ar_text 4096 m_text', aI G ar_figures 4096 m_figs', aI G ar_words 800 m_wds']) : gAt l G m_Mo_floatBits w0 res w1 31 [(0, .ref ad_m)] [.int v0, .int v1, .ref ad_m] [oMo ad_m m_thrown ar_text m_length m_kind m_place m_below ar_figures m_many m_point m_exponent ar_words m_from m_to m_whole m_scale m_rest m_huge, aI G ar_text 4096 m_text, aI G ar_figures 4096 m_figs, aI G ar_words 800 m_wds] :=
  a_callV (As := [.int v1, .int v0]) (rest := []) (wc := [oMo ad_m m_thrown ar_text m_length m_kind m_place m_below ar_figures m_many m_point m_exponent ar_words m_from m_to m_whole m_scale m_rest m_huge, aI G ar_text 4096 m_text, aI G ar_figures 4096 m_figs, aI G ar_words 800 m_wds]) (wr := []) (w1c := [oMo ad_m m_thrown' ar_text m_length' m_kind' m_place' m_below' ar_figures m_many' m_point' m_exponent' ar_words m_from' m_to' m_whole' m_scale' m_rest' m_huge', aI G ar_text 4096 m_text', aI G ar_figures 4096 m_figs', aI G ar_words 800 m_wds']) (r := (some (.long r))) [oMo ad_m m_thrown' ar_text m_length' m_kind' m_place' m_below' ar_figures m_many' m_point' m_exponent' ar_words m_from' m_to' m_whole' m_scale' m_rest' m_huge', aI G ar_text 4096 m_text', aI G ar_figures 4096 m_figs', aI G ar_words 800 m_wds'] [0, 1, 2, 3] [] [0, 1, 2, 3] (ci := 6) (q0 := 0) hc dMo_floatBits_31 rfl ok_Mo_sizeRead ⟨Nat.le_of_ble_eq_true rfl, Nat.le_of_ble_eq_true rfl⟩ w_776 w_778 sl_62 rfl rfl rfl rfl rfl rfl (by decide) rfl rfl (Nat.le_of_ble_eq_true rfl) k

set_option maxRecDepth 20000 in
theorem b_Mo_floatBits_34 {l : Launch} {G : gG} {w0 w1 : va_W} {res : Option Value} {ad_m ar_text ar_figures ar_words : Nat} {m_thrown m_length m_kind m_place m_below m_many m_point m_from m_to m_rest m_huge : Int32} {m_exponent m_whole m_scale : Int64} {m_text m_figs m_wds : Nat → Int32} {v0 : Int64} (k0 : (m_below = 0) → gAt l G m_Mo_floatBits w0 res w1 58 [(0, .ref ad_m), (1, .int (Int64.toInt32 v0))] [] [oMo ad_m m_thrown ar_text m_length m_kind m_place m_below ar_figures m_many m_point m_exponent ar_words m_from m_to m_whole m_scale m_rest m_huge, aI G ar_text 4096 m_text, aI G ar_figures 4096 m_figs, aI G ar_words 800 m_wds]) (k1 : (¬ m_below = 0) → ((3 : Int32) ≤ m_kind) → gAt l G m_Mo_floatBits w0 res w1 58 [(0, .ref ad_m), (1, .int (Int64.toInt32 v0))] [] [oMo ad_m m_thrown ar_text m_length m_kind m_place m_below ar_figures m_many m_point m_exponent ar_words m_from m_to m_whole m_scale m_rest m_huge, aI G ar_text 4096 m_text, aI G ar_figures 4096 m_figs, aI G ar_words 800 m_wds]) (k2 : (¬ m_below = 0) → (¬ (3 : Int32) ≤ m_kind) → gAt l G m_Mo_floatBits w0 res w1 59 [(0, .ref ad_m), (1, .int (Int64.toInt32 v0))] [.int ((Int64.toInt32 v0) ||| (-2147483648 : Int32))] [oMo ad_m m_thrown ar_text m_length m_kind m_place m_below ar_figures m_many m_point m_exponent ar_words m_from m_to m_whole m_scale m_rest m_huge, aI G ar_text 4096 m_text, aI G ar_figures 4096 m_figs, aI G ar_words 800 m_wds]) : gAt l G m_Mo_floatBits w0 res w1 34 [(0, .ref ad_m)] [.long v0] [oMo ad_m m_thrown ar_text m_length m_kind m_place m_below ar_figures m_many m_point m_exponent ar_words m_from m_to m_whole m_scale m_rest m_huge, aI G ar_text 4096 m_text, aI G ar_figures 4096 m_figs, aI G ar_words 800 m_wds] := by
  refine a_l2i dMo_floatBits_34 ?_
  refine a_istore_n [(1, .int (Int64.toInt32 v0)), (0, .ref ad_m)] dMo_floatBits_35 rfl (by decide) rfl ?_
  refine a_aload_n 1 dMo_floatBits_36 rfl ?_
  refine a_get (ci := 6) (kx := 5) 0 dMo_floatBits_37 rfl I_Mo w_653 rfl (by decide) rfl ?_
  refine a_if_eq 58 dMo_floatBits_40 (by decide) (fun c1 => ?_) (fun c1 => ?_)
  · refine a_lv [(0, .ref ad_m), (1, .int (Int64.toInt32 v0))] [1, 0] rfl ?_
    exact (k0 c1)
  · refine a_aload_n 1 dMo_floatBits_43 rfl ?_
    refine a_get (ci := 6) (kx := 3) 0 dMo_floatBits_44 rfl I_Mo w_651 rfl (by decide) rfl ?_
    refine a_iconst (3 : Int32) dMo_floatBits_47 (by decide) ?_
    refine a_icmp_ge 58 dMo_floatBits_48 (by decide) (fun c2 => ?_) (fun c2 => ?_)
    · refine a_lv [(0, .ref ad_m), (1, .int (Int64.toInt32 v0))] [1, 0] rfl ?_
      exact (k1 c1 c2)
    · refine a_iload_n 0 dMo_floatBits_51 rfl ?_
      refine a_ldc (-2147483648 : Int32) dMo_floatBits_52 w_838 ?_
      refine a_ior dMo_floatBits_54 ?_
      refine a_goto 59 dMo_floatBits_55 (by decide) ?_
      refine a_lv [(0, .ref ad_m), (1, .int (Int64.toInt32 v0))] [1, 0] rfl ?_
      exact (k2 c1 c2)

set_option maxRecDepth 20000 in
theorem b_Mo_floatBits_58 {l : Launch} {G : gG} {w0 w1 : va_W} {res : Option Value} {ad_m ar_text ar_figures ar_words : Nat} {m_thrown m_length m_kind m_place m_below m_many m_point m_from m_to m_rest m_huge : Int32} {m_exponent m_whole m_scale : Int64} {m_text m_figs m_wds : Nat → Int32} {x1 : Int32} (k0 : gAt l G m_Mo_floatBits w0 res w1 59 [(0, .ref ad_m), (1, .int x1)] [.int x1] [oMo ad_m m_thrown ar_text m_length m_kind m_place m_below ar_figures m_many m_point m_exponent ar_words m_from m_to m_whole m_scale m_rest m_huge, aI G ar_text 4096 m_text, aI G ar_figures 4096 m_figs, aI G ar_words 800 m_wds]) : gAt l G m_Mo_floatBits w0 res w1 58 [(0, .ref ad_m), (1, .int x1)] [] [oMo ad_m m_thrown ar_text m_length m_kind m_place m_below ar_figures m_many m_point m_exponent ar_words m_from m_to m_whole m_scale m_rest m_huge, aI G ar_text 4096 m_text, aI G ar_figures 4096 m_figs, aI G ar_words 800 m_wds] := by
  refine a_iload_n 1 dMo_floatBits_58 rfl ?_
  exact k0

set_option maxRecDepth 20000 in
theorem b_Mo_floatBits_59 {l : Launch} {G : gG} {w0 w1 : va_W} {res : Option Value} {ad_m ar_text ar_figures ar_words : Nat} {m_thrown m_length m_kind m_place m_below m_many m_point m_from m_to m_rest m_huge : Int32} {m_exponent m_whole m_scale : Int64} {m_text m_figs m_wds : Nat → Int32} {x1 : Int32} {v0 : Int32} (k0 : res = some (.int v0) ∧ [oMo ad_m m_thrown ar_text m_length m_kind m_place m_below ar_figures m_many m_point m_exponent ar_words m_from m_to m_whole m_scale m_rest m_huge, aI G ar_text 4096 m_text, aI G ar_figures 4096 m_figs, aI G ar_words 800 m_wds] = w1) : gAt l G m_Mo_floatBits w0 res w1 59 [(0, .ref ad_m), (1, .int x1)] [.int v0] [oMo ad_m m_thrown ar_text m_length m_kind m_place m_below ar_figures m_many m_point m_exponent ar_words m_from m_to m_whole m_scale m_rest m_huge, aI G ar_text 4096 m_text, aI G ar_figures 4096 m_figs, aI G ar_words 800 m_wds] := by
  exact a_iret (st := []) dMo_floatBits_59 rfl k0.1 k0.2

set_option maxRecDepth 20000 in
theorem b_Mo_side_0 {l : Launch} {G : gG} {w0 w1 : va_W} {res : Option Value} {ad_m ar_text ar_figures ar_words : Nat} {m_thrown m_length m_kind m_place m_below m_many m_point m_from m_to m_rest m_huge : Int32} {m_exponent m_whole m_scale : Int64} {m_text m_figs m_wds : Nat → Int32} {x1 : Int32} (k0 : gAt l G m_Mo_side w0 res w1 2 [(0, .ref ad_m), (1, .int x1)] [.ref ad_m, .ref ad_m] [oMo ad_m m_thrown ar_text m_length m_kind m_place m_below ar_figures m_many m_point m_exponent ar_words m_from m_to m_whole m_scale m_rest m_huge, aI G ar_text 4096 m_text, aI G ar_figures 4096 m_figs, aI G ar_words 800 m_wds]) : gAt l G m_Mo_side w0 res w1 0 [(0, .ref ad_m), (1, .int x1)] [] [oMo ad_m m_thrown ar_text m_length m_kind m_place m_below ar_figures m_many m_point m_exponent ar_words m_from m_to m_whole m_scale m_rest m_huge, aI G ar_text 4096 m_text, aI G ar_figures 4096 m_figs, aI G ar_words 800 m_wds] := by
  refine a_aload_n 0 dMo_side_0 rfl ?_
  refine a_aload_n 0 dMo_side_1 rfl ?_
  exact k0

set_option maxRecDepth 20000 in
theorem k_Mo_side_2 {l : Launch} {G : gG} {w0 w1 : va_W} {res : Option Value} {ad_m ar_text ar_figures ar_words : Nat} {m_thrown m_length m_kind m_place m_below m_many m_point m_from m_to m_rest m_huge : Int32} {m_exponent m_whole m_scale : Int64} {m_text m_figs m_wds : Nat → Int32} {x1 : Int32} {r : Int32} {m_thrown' m_length' m_kind' m_place' m_below' m_many' m_point' m_from' m_to' m_rest' m_huge' : Int32} {m_exponent' m_whole' m_scale' : Int64} {m_text' m_figs' m_wds' : Nat → Int32} (hc : gCt l G m_Mo_scan [.ref ad_m] [oMo ad_m m_thrown ar_text m_length m_kind m_place m_below ar_figures m_many m_point m_exponent ar_words m_from m_to m_whole m_scale m_rest m_huge, aI G ar_text 4096 m_text, aI G ar_figures 4096 m_figs, aI G ar_words 800 m_wds] (some (.int r)) [oMo ad_m m_thrown' ar_text m_length' m_kind' m_place' m_below' ar_figures m_many' m_point' m_exponent' ar_words m_from' m_to' m_whole' m_scale' m_rest' m_huge', aI G ar_text 4096 m_text', aI G ar_figures 4096 m_figs', aI G ar_words 800 m_wds']) (k : gAt l G m_Mo_side w0 res w1 5 [(0, .ref ad_m), (1, .int x1)] [.int r, .ref ad_m] [oMo ad_m m_thrown' ar_text m_length' m_kind' m_place' m_below' ar_figures m_many' m_point' m_exponent' ar_words m_from' m_to' m_whole' m_scale' m_rest' m_huge', aI G ar_text 4096 m_text', aI G ar_figures 4096 m_figs', aI G ar_words 800 m_wds']) : gAt l G m_Mo_side w0 res w1 2 [(0, .ref ad_m), (1, .int x1)] [.ref ad_m, .ref ad_m] [oMo ad_m m_thrown ar_text m_length m_kind m_place m_below ar_figures m_many m_point m_exponent ar_words m_from m_to m_whole m_scale m_rest m_huge, aI G ar_text 4096 m_text, aI G ar_figures 4096 m_figs, aI G ar_words 800 m_wds] :=
  a_callV (As := []) (rest := [.ref ad_m]) (wc := [oMo ad_m m_thrown ar_text m_length m_kind m_place m_below ar_figures m_many m_point m_exponent ar_words m_from m_to m_whole m_scale m_rest m_huge, aI G ar_text 4096 m_text, aI G ar_figures 4096 m_figs, aI G ar_words 800 m_wds]) (wr := []) (w1c := [oMo ad_m m_thrown' ar_text m_length' m_kind' m_place' m_below' ar_figures m_many' m_point' m_exponent' ar_words m_from' m_to' m_whole' m_scale' m_rest' m_huge', aI G ar_text 4096 m_text', aI G ar_figures 4096 m_figs', aI G ar_words 800 m_wds']) (r := (some (.int r))) [oMo ad_m m_thrown' ar_text m_length' m_kind' m_place' m_below' ar_figures m_many' m_point' m_exponent' ar_words m_from' m_to' m_whole' m_scale' m_rest' m_huge', aI G ar_text 4096 m_text', aI G ar_figures 4096 m_figs', aI G ar_words 800 m_wds'] [0, 1, 2, 3] [] [0, 1, 2, 3] (ci := 6) (q0 := 0) hc dMo_side_2 rfl ok_Mo_scan ⟨Nat.le_of_ble_eq_true rfl, Nat.le_of_ble_eq_true rfl⟩ w_725 w_727 sl_54 rfl rfl rfl rfl rfl rfl (by decide) rfl rfl (Nat.le_of_ble_eq_true rfl) k

set_option maxRecDepth 20000 in
theorem b_Mo_side_5 {l : Launch} {G : gG} {w0 w1 : va_W} {res : Option Value} {ad_m ar_text ar_figures ar_words : Nat} {m_thrown m_length m_kind m_place m_below m_many m_point m_from m_to m_rest m_huge : Int32} {m_exponent m_whole m_scale : Int64} {m_text m_figs m_wds : Nat → Int32} {x1 : Int32} {v0 : Int32} (k0 : (v0 = 0) → gAt l G m_Mo_side w0 res w1 13 [(0, .ref ad_m), (1, .int x1)] [.int (1 : Int32), .ref ad_m] [oMo ad_m m_thrown ar_text m_length m_kind m_place m_below ar_figures m_many m_point m_exponent ar_words m_from m_to m_whole m_scale m_rest m_huge, aI G ar_text 4096 m_text, aI G ar_figures 4096 m_figs, aI G ar_words 800 m_wds]) (k1 : (¬ v0 = 0) → gAt l G m_Mo_side w0 res w1 13 [(0, .ref ad_m), (1, .int x1)] [.int (0 : Int32), .ref ad_m] [oMo ad_m m_thrown ar_text m_length m_kind m_place m_below ar_figures m_many m_point m_exponent ar_words m_from m_to m_whole m_scale m_rest m_huge, aI G ar_text 4096 m_text, aI G ar_figures 4096 m_figs, aI G ar_words 800 m_wds]) : gAt l G m_Mo_side w0 res w1 5 [(0, .ref ad_m), (1, .int x1)] [.int v0, .ref ad_m] [oMo ad_m m_thrown ar_text m_length m_kind m_place m_below ar_figures m_many m_point m_exponent ar_words m_from m_to m_whole m_scale m_rest m_huge, aI G ar_text 4096 m_text, aI G ar_figures 4096 m_figs, aI G ar_words 800 m_wds] := by
  refine a_if_eq 12 dMo_side_5 (by decide) (fun c1 => ?_) (fun c1 => ?_)
  · refine a_iconst (1 : Int32) dMo_side_12 (by decide) ?_
    exact (k0 c1)
  · refine a_iconst (0 : Int32) dMo_side_8 (by decide) ?_
    refine a_goto 13 dMo_side_9 (by decide) ?_
    exact (k1 c1)

set_option maxRecDepth 20000 in
theorem b_Mo_side_13 {l : Launch} {G : gG} {w0 w1 : va_W} {res : Option Value} {ad_m ar_text ar_figures ar_words : Nat} {m_thrown m_length m_kind m_place m_below m_many m_point m_from m_to m_rest m_huge : Int32} {m_exponent m_whole m_scale : Int64} {m_text m_figs m_wds : Nat → Int32} {x1 : Int32} {v0 : Int32} (k0 : (0 < v0) → gAt l G m_Mo_side w0 res w1 31 [(0, .ref ad_m), (1, .int x1)] [] [oMo ad_m v0 ar_text m_length m_kind m_place m_below ar_figures m_many m_point m_exponent ar_words m_from m_to m_whole m_scale m_rest m_huge, aI G ar_text 4096 m_text, aI G ar_figures 4096 m_figs, aI G ar_words 800 m_wds]) (k1 : (¬ 0 < v0) → (m_kind ≤ (1 : Int32)) → (x1 = 0) → gAt l G m_Mo_side w0 res w1 44 [(0, .ref ad_m), (1, .int x1)] [.int (53 : Int32)] [oMo ad_m v0 ar_text m_length m_kind m_place m_below ar_figures m_many m_point m_exponent ar_words m_from m_to m_whole m_scale m_rest m_huge, aI G ar_text 4096 m_text, aI G ar_figures 4096 m_figs, aI G ar_words 800 m_wds]) (k2 : (¬ 0 < v0) → (m_kind ≤ (1 : Int32)) → (¬ x1 = 0) → gAt l G m_Mo_side w0 res w1 44 [(0, .ref ad_m), (1, .int x1)] [.int (24 : Int32)] [oMo ad_m v0 ar_text m_length m_kind m_place m_below ar_figures m_many m_point m_exponent ar_words m_from m_to m_whole m_scale m_rest m_huge, aI G ar_text 4096 m_text, aI G ar_figures 4096 m_figs, aI G ar_words 800 m_wds]) (k3 : (¬ 0 < v0) → (¬ m_kind ≤ (1 : Int32)) → gAt l G m_Mo_side w0 res w1 31 [(0, .ref ad_m), (1, .int x1)] [] [oMo ad_m v0 ar_text m_length m_kind m_place m_below ar_figures m_many m_point m_exponent ar_words m_from m_to m_whole m_scale m_rest m_huge, aI G ar_text 4096 m_text, aI G ar_figures 4096 m_figs, aI G ar_words 800 m_wds]) : gAt l G m_Mo_side w0 res w1 13 [(0, .ref ad_m), (1, .int x1)] [.int v0, .ref ad_m] [oMo ad_m m_thrown ar_text m_length m_kind m_place m_below ar_figures m_many m_point m_exponent ar_words m_from m_to m_whole m_scale m_rest m_huge, aI G ar_text 4096 m_text, aI G ar_figures 4096 m_figs, aI G ar_words 800 m_wds] := by
  refine a_put (ci := 6) (kx := 0) ty_Mo 0 [oMo ad_m v0 ar_text m_length m_kind m_place m_below ar_figures m_many m_point m_exponent ar_words m_from m_to m_whole m_scale m_rest m_huge, aI G ar_text 4096 m_text, aI G ar_figures 4096 m_figs, aI G ar_words 800 m_wds] dMo_side_13 rfl I_Mo tyo_Mo nmo_Mo w_648 rfl (by decide) rfl rfl rfl (Nat.le_of_ble_eq_true rfl) rfl ?_
  refine a_aload_n 0 dMo_side_16 rfl ?_
  refine a_get (ci := 6) (kx := 0) 0 dMo_side_17 rfl I_Mo w_648 rfl (by decide) rfl ?_
  refine a_if_gt 31 dMo_side_20 (by decide) (fun c1 => ?_) (fun c1 => ?_)
  · exact (k0 c1)
  · refine a_aload_n 0 dMo_side_23 rfl ?_
    refine a_get (ci := 6) (kx := 3) 0 dMo_side_24 rfl I_Mo w_651 rfl (by decide) rfl ?_
    refine a_iconst (1 : Int32) dMo_side_27 (by decide) ?_
    refine a_icmp_le 33 dMo_side_28 (by decide) (fun c2 => ?_) (fun c2 => ?_)
    · refine a_iload_n 1 dMo_side_33 rfl ?_
      refine a_if_eq 42 dMo_side_34 (by decide) (fun c3 => ?_) (fun c3 => ?_)
      · refine a_bipush (53 : Int32) dMo_side_42 (by decide) ?_
        exact (k1 c1 c2 c3)
      · refine a_bipush (24 : Int32) dMo_side_37 (by decide) ?_
        refine a_goto 44 dMo_side_39 (by decide) ?_
        exact (k2 c1 c2 c3)
    · exact (k3 c1 c2)

set_option maxRecDepth 20000 in
theorem b_Mo_side_31 {l : Launch} {G : gG} {w0 w1 : va_W} {res : Option Value} {ad_m ar_text ar_figures ar_words : Nat} {m_thrown m_length m_kind m_place m_below m_many m_point m_from m_to m_rest m_huge : Int32} {m_exponent m_whole m_scale : Int64} {m_text m_figs m_wds : Nat → Int32} {x1 : Int32} (k0 : res = some (.int (0 : Int32)) ∧ [oMo ad_m m_thrown ar_text m_length m_kind m_place m_below ar_figures m_many m_point m_exponent ar_words m_from m_to m_whole m_scale m_rest m_huge, aI G ar_text 4096 m_text, aI G ar_figures 4096 m_figs, aI G ar_words 800 m_wds] = w1) : gAt l G m_Mo_side w0 res w1 31 [(0, .ref ad_m), (1, .int x1)] [] [oMo ad_m m_thrown ar_text m_length m_kind m_place m_below ar_figures m_many m_point m_exponent ar_words m_from m_to m_whole m_scale m_rest m_huge, aI G ar_text 4096 m_text, aI G ar_figures 4096 m_figs, aI G ar_words 800 m_wds] := by
  refine a_iconst (0 : Int32) dMo_side_31 (by decide) ?_
  exact a_iret (st := []) dMo_side_32 rfl k0.1 k0.2

set_option maxRecDepth 20000 in
theorem b_Mo_side_44 {l : Launch} {G : gG} {w0 w1 : va_W} {res : Option Value} {ad_m ar_text ar_figures ar_words : Nat} {m_thrown m_length m_kind m_place m_below m_many m_point m_from m_to m_rest m_huge : Int32} {m_exponent m_whole m_scale : Int64} {m_text m_figs m_wds : Nat → Int32} {x1 : Int32} {v0 : Int32} (k0 : (x1 = 0) → gAt l G m_Mo_side w0 res w1 60 [(0, .ref ad_m), (1, .int x1), (2, .int v0)] [.int (-1074 : Int32), .int v0, .ref ad_m] [oMo ad_m m_thrown ar_text m_length m_kind m_place m_below ar_figures m_many m_point m_exponent ar_words m_from m_to m_whole m_scale m_rest m_huge, aI G ar_text 4096 m_text, aI G ar_figures 4096 m_figs, aI G ar_words 800 m_wds]) (k1 : (¬ x1 = 0) → gAt l G m_Mo_side w0 res w1 60 [(0, .ref ad_m), (1, .int x1), (2, .int v0)] [.int (-149 : Int32), .int v0, .ref ad_m] [oMo ad_m m_thrown ar_text m_length m_kind m_place m_below ar_figures m_many m_point m_exponent ar_words m_from m_to m_whole m_scale m_rest m_huge, aI G ar_text 4096 m_text, aI G ar_figures 4096 m_figs, aI G ar_words 800 m_wds]) : gAt l G m_Mo_side w0 res w1 44 [(0, .ref ad_m), (1, .int x1)] [.int v0] [oMo ad_m m_thrown ar_text m_length m_kind m_place m_below ar_figures m_many m_point m_exponent ar_words m_from m_to m_whole m_scale m_rest m_huge, aI G ar_text 4096 m_text, aI G ar_figures 4096 m_figs, aI G ar_words 800 m_wds] := by
  refine a_istore_n [(2, .int v0), (0, .ref ad_m), (1, .int x1)] dMo_side_44 rfl (by decide) rfl ?_
  refine a_aload_n 1 dMo_side_45 rfl ?_
  refine a_iload_n 0 dMo_side_46 rfl ?_
  refine a_iload_n 2 dMo_side_47 rfl ?_
  refine a_if_eq 57 dMo_side_48 (by decide) (fun c1 => ?_) (fun c1 => ?_)
  · refine a_sipush (-1074 : Int32) dMo_side_57 (by decide) ?_
    refine a_lv [(0, .ref ad_m), (1, .int x1), (2, .int v0)] [1, 2, 0] rfl ?_
    exact (k0 c1)
  · refine a_sipush (-149 : Int32) dMo_side_51 (by decide) ?_
    refine a_goto 60 dMo_side_54 (by decide) ?_
    refine a_lv [(0, .ref ad_m), (1, .int x1), (2, .int v0)] [1, 2, 0] rfl ?_
    exact (k1 c1)

set_option maxRecDepth 20000 in
theorem k_Mo_side_60 {l : Launch} {G : gG} {w0 w1 : va_W} {res : Option Value} {ad_m ar_text ar_figures ar_words : Nat} {m_thrown m_length m_kind m_place m_below m_many m_point m_from m_to m_rest m_huge : Int32} {m_exponent m_whole m_scale : Int64} {m_text m_figs m_wds : Nat → Int32} {x1 : Int32} {x2 : Int32} {v0 : Int32} {v1 : Int32} {r : Int64} {m_thrown' m_length' m_kind' m_place' m_below' m_many' m_point' m_from' m_to' m_rest' m_huge' : Int32} {m_exponent' m_whole' m_scale' : Int64} {m_text' m_figs' m_wds' : Nat → Int32} (hc : gCt l G m_Mo_sizeRead [.ref ad_m, .int v1, .int v0] [oMo ad_m m_thrown ar_text m_length m_kind m_place m_below ar_figures m_many m_point m_exponent ar_words m_from m_to m_whole m_scale m_rest m_huge, aI G ar_text 4096 m_text, aI G ar_figures 4096 m_figs, aI G ar_words 800 m_wds] (some (.long r)) [oMo ad_m m_thrown' ar_text m_length' m_kind' m_place' m_below' ar_figures m_many' m_point' m_exponent' ar_words m_from' m_to' m_whole' m_scale' m_rest' m_huge', aI G ar_text 4096 m_text', aI G ar_figures 4096 m_figs', aI G ar_words 800 m_wds']) (k : gAt l G m_Mo_side w0 res w1 63 [(0, .ref ad_m), (1, .int x1), (2, .int x2)] [.long r] [oMo ad_m m_thrown' ar_text m_length' m_kind' m_place' m_below' ar_figures m_many' m_point' m_exponent' ar_words m_from' m_to' m_whole' m_scale' m_rest' m_huge', aI G ar_text 4096 m_text', aI G ar_figures 4096 m_figs', aI G ar_words 800 m_wds']) : gAt l G m_Mo_side w0 res w1 60 [(0, .ref ad_m), (1, .int x1), (2, .int x2)] [.int v0, .int v1, .ref ad_m] [oMo ad_m m_thrown ar_text m_length m_kind m_place m_below ar_figures m_many m_point m_exponent ar_words m_from m_to m_whole m_scale m_rest m_huge, aI G ar_text 4096 m_text, aI G ar_figures 4096 m_figs, aI G ar_words 800 m_wds] :=
  a_callV (As := [.int v1, .int v0]) (rest := []) (wc := [oMo ad_m m_thrown ar_text m_length m_kind m_place m_below ar_figures m_many m_point m_exponent ar_words m_from m_to m_whole m_scale m_rest m_huge, aI G ar_text 4096 m_text, aI G ar_figures 4096 m_figs, aI G ar_words 800 m_wds]) (wr := []) (w1c := [oMo ad_m m_thrown' ar_text m_length' m_kind' m_place' m_below' ar_figures m_many' m_point' m_exponent' ar_words m_from' m_to' m_whole' m_scale' m_rest' m_huge', aI G ar_text 4096 m_text', aI G ar_figures 4096 m_figs', aI G ar_words 800 m_wds']) (r := (some (.long r))) [oMo ad_m m_thrown' ar_text m_length' m_kind' m_place' m_below' ar_figures m_many' m_point' m_exponent' ar_words m_from' m_to' m_whole' m_scale' m_rest' m_huge', aI G ar_text 4096 m_text', aI G ar_figures 4096 m_figs', aI G ar_words 800 m_wds'] [0, 1, 2, 3] [] [0, 1, 2, 3] (ci := 6) (q0 := 0) hc dMo_side_60 rfl ok_Mo_sizeRead ⟨Nat.le_of_ble_eq_true rfl, Nat.le_of_ble_eq_true rfl⟩ w_776 w_778 sl_62 rfl rfl rfl rfl rfl rfl (by decide) rfl rfl (Nat.le_of_ble_eq_true rfl) k

set_option maxRecDepth 20000 in
theorem b_Mo_side_63 {l : Launch} {G : gG} {w0 w1 : va_W} {res : Option Value} {ad_m ar_text ar_figures ar_words : Nat} {m_thrown m_length m_kind m_place m_below m_many m_point m_from m_to m_rest m_huge : Int32} {m_exponent m_whole m_scale : Int64} {m_text m_figs m_wds : Nat → Int32} {x1 : Int32} {x2 : Int32} {v0 : Int64} (k0 : (x1 = 0) → gAt l G m_Mo_side w0 res w1 77 [(0, .ref ad_m), (1, .int x1), (2, .int x2), (3, .long v0)] [.long (2047 : Int64)] [oMo ad_m m_thrown ar_text m_length m_kind m_place m_below ar_figures m_many m_point m_exponent ar_words m_from m_to m_whole m_scale m_rest m_huge, aI G ar_text 4096 m_text, aI G ar_figures 4096 m_figs, aI G ar_words 800 m_wds]) (k1 : (¬ x1 = 0) → gAt l G m_Mo_side w0 res w1 77 [(0, .ref ad_m), (1, .int x1), (2, .int x2), (3, .long v0)] [.long (255 : Int64)] [oMo ad_m m_thrown ar_text m_length m_kind m_place m_below ar_figures m_many m_point m_exponent ar_words m_from m_to m_whole m_scale m_rest m_huge, aI G ar_text 4096 m_text, aI G ar_figures 4096 m_figs, aI G ar_words 800 m_wds]) : gAt l G m_Mo_side w0 res w1 63 [(0, .ref ad_m), (1, .int x1), (2, .int x2)] [.long v0] [oMo ad_m m_thrown ar_text m_length m_kind m_place m_below ar_figures m_many m_point m_exponent ar_words m_from m_to m_whole m_scale m_rest m_huge, aI G ar_text 4096 m_text, aI G ar_figures 4096 m_figs, aI G ar_words 800 m_wds] := by
  refine a_lstore_n [(3, .long v0), (0, .ref ad_m), (1, .int x1), (2, .int x2)] dMo_side_63 rfl (by decide) rfl ?_
  refine a_iload_n 2 dMo_side_64 rfl ?_
  refine a_if_eq 74 dMo_side_65 (by decide) (fun c1 => ?_) (fun c1 => ?_)
  · refine a_ldc2 (2047 : Int64) dMo_side_74 w_780 ?_
    refine a_lv [(0, .ref ad_m), (1, .int x1), (2, .int x2), (3, .long v0)] [1, 2, 3, 0] rfl ?_
    exact (k0 c1)
  · refine a_ldc2 (255 : Int64) dMo_side_68 w_708 ?_
    refine a_goto 77 dMo_side_71 (by decide) ?_
    refine a_lv [(0, .ref ad_m), (1, .int x1), (2, .int x2), (3, .long v0)] [1, 2, 3, 0] rfl ?_
    exact (k1 c1)

set_option maxRecDepth 20000 in
theorem b_Mo_side_77 {l : Launch} {G : gG} {w0 w1 : va_W} {res : Option Value} {ad_m ar_text ar_figures ar_words : Nat} {m_thrown m_length m_kind m_place m_below m_many m_point m_from m_to m_rest m_huge : Int32} {m_exponent m_whole m_scale : Int64} {m_text m_figs m_wds : Nat → Int32} {x1 : Int32} {x2 : Int32} {x3 : Int64} {v0 : Int64} (k0 : (¬ (lg_cmp x3 (v0 <<< ((Int32.toInt64 (x2 - (1 : Int32))) &&& 63))) = 0) → (¬ m_rest = 0) → gAt l G m_Mo_side w0 res w1 106 [(0, .ref ad_m), (1, .int x1), (2, .int x2), (3, .long x3), (5, .long (v0 <<< ((Int32.toInt64 (x2 - (1 : Int32))) &&& 63)))] [.ref ad_m] [oMo ad_m m_thrown ar_text m_length m_kind m_place m_below ar_figures m_many m_point m_exponent ar_words m_from m_to m_whole m_scale m_rest m_huge, aI G ar_text 4096 m_text, aI G ar_figures 4096 m_figs, aI G ar_words 800 m_wds]) (k1 : (¬ (lg_cmp x3 (v0 <<< ((Int32.toInt64 (x2 - (1 : Int32))) &&& 63))) = 0) → (m_rest = 0) → gAt l G m_Mo_side w0 res w1 117 [(0, .ref ad_m), (1, .int x1), (2, .int x2), (3, .long x3), (5, .long (v0 <<< ((Int32.toInt64 (x2 - (1 : Int32))) &&& 63)))] [.int (0 : Int32)] [oMo ad_m m_thrown ar_text m_length m_kind m_place m_below ar_figures m_many m_point m_exponent ar_words m_from m_to m_whole m_scale m_rest m_huge, aI G ar_text 4096 m_text, aI G ar_figures 4096 m_figs, aI G ar_words 800 m_wds]) (k2 : ((lg_cmp x3 (v0 <<< ((Int32.toInt64 (x2 - (1 : Int32))) &&& 63))) = 0) → gAt l G m_Mo_side w0 res w1 117 [(0, .ref ad_m), (1, .int x1), (2, .int x2), (3, .long x3), (5, .long (v0 <<< ((Int32.toInt64 (x2 - (1 : Int32))) &&& 63)))] [.int (1 : Int32)] [oMo ad_m m_thrown ar_text m_length m_kind m_place m_below ar_figures m_many m_point m_exponent ar_words m_from m_to m_whole m_scale m_rest m_huge, aI G ar_text 4096 m_text, aI G ar_figures 4096 m_figs, aI G ar_words 800 m_wds]) : gAt l G m_Mo_side w0 res w1 77 [(0, .ref ad_m), (1, .int x1), (2, .int x2), (3, .long x3)] [.long v0] [oMo ad_m m_thrown ar_text m_length m_kind m_place m_below ar_figures m_many m_point m_exponent ar_words m_from m_to m_whole m_scale m_rest m_huge, aI G ar_text 4096 m_text, aI G ar_figures 4096 m_figs, aI G ar_words 800 m_wds] := by
  refine a_iload_n 2 dMo_side_77 rfl ?_
  refine a_iconst (1 : Int32) dMo_side_78 (by decide) ?_
  refine a_isub dMo_side_79 ?_
  refine a_lshl dMo_side_80 ?_
  refine a_lstore [(5, .long (v0 <<< ((Int32.toInt64 (x2 - (1 : Int32))) &&& 63))), (0, .ref ad_m), (1, .int x1), (2, .int x2), (3, .long x3)] dMo_side_81 (by decide) rfl ?_
  refine a_lload_n 4 dMo_side_83 rfl ?_
  refine a_lload 0 dMo_side_84 rfl ?_
  refine a_lcmp dMo_side_86 ?_
  refine a_if_ne 94 dMo_side_87 (by decide) (fun c1 => ?_) (fun c1 => ?_)
  · refine a_aload_n 1 dMo_side_94 rfl ?_
    refine a_get (ci := 6) (kx := 15) 0 dMo_side_95 rfl I_Mo w_663 rfl (by decide) rfl ?_
    refine a_if_ne 105 dMo_side_98 (by decide) (fun c2 => ?_) (fun c2 => ?_)
    · refine a_aload_n 1 dMo_side_105 rfl ?_
      refine a_lv [(0, .ref ad_m), (1, .int x1), (2, .int x2), (3, .long x3), (5, .long (v0 <<< ((Int32.toInt64 (x2 - (1 : Int32))) &&& 63)))] [1, 2, 3, 4, 0] rfl ?_
      exact (k0 c1 c2)
    · refine a_iconst (0 : Int32) dMo_side_101 (by decide) ?_
      refine a_goto 117 dMo_side_102 (by decide) ?_
      refine a_lv [(0, .ref ad_m), (1, .int x1), (2, .int x2), (3, .long x3), (5, .long (v0 <<< ((Int32.toInt64 (x2 - (1 : Int32))) &&& 63)))] [1, 2, 3, 4, 0] rfl ?_
      exact (k1 c1 c2)
  · refine a_iconst (1 : Int32) dMo_side_90 (by decide) ?_
    refine a_goto 117 dMo_side_91 (by decide) ?_
    refine a_lv [(0, .ref ad_m), (1, .int x1), (2, .int x2), (3, .long x3), (5, .long (v0 <<< ((Int32.toInt64 (x2 - (1 : Int32))) &&& 63)))] [1, 2, 3, 4, 0] rfl ?_
    exact (k2 c1)

set_option maxRecDepth 20000 in
theorem k_Mo_side_106 {l : Launch} {G : gG} {w0 w1 : va_W} {res : Option Value} {ad_m ar_text ar_figures ar_words : Nat} {m_thrown m_length m_kind m_place m_below m_many m_point m_from m_to m_rest m_huge : Int32} {m_exponent m_whole m_scale : Int64} {m_text m_figs m_wds : Nat → Int32} {x1 : Int32} {x2 : Int32} {x3 : Int64} {x5 : Int64} {r : Int32} {m_thrown' m_length' m_kind' m_place' m_below' m_many' m_point' m_from' m_to' m_rest' m_huge' : Int32} {m_exponent' m_whole' m_scale' : Int64} {m_text' m_figs' m_wds' : Nat → Int32} (hc : gCt l G m_Mo_goesUp [.ref ad_m] [oMo ad_m m_thrown ar_text m_length m_kind m_place m_below ar_figures m_many m_point m_exponent ar_words m_from m_to m_whole m_scale m_rest m_huge, aI G ar_text 4096 m_text, aI G ar_figures 4096 m_figs, aI G ar_words 800 m_wds] (some (.int r)) [oMo ad_m m_thrown' ar_text m_length' m_kind' m_place' m_below' ar_figures m_many' m_point' m_exponent' ar_words m_from' m_to' m_whole' m_scale' m_rest' m_huge', aI G ar_text 4096 m_text', aI G ar_figures 4096 m_figs', aI G ar_words 800 m_wds']) (k : gAt l G m_Mo_side w0 res w1 109 [(0, .ref ad_m), (1, .int x1), (2, .int x2), (3, .long x3), (5, .long x5)] [.int r] [oMo ad_m m_thrown' ar_text m_length' m_kind' m_place' m_below' ar_figures m_many' m_point' m_exponent' ar_words m_from' m_to' m_whole' m_scale' m_rest' m_huge', aI G ar_text 4096 m_text', aI G ar_figures 4096 m_figs', aI G ar_words 800 m_wds']) : gAt l G m_Mo_side w0 res w1 106 [(0, .ref ad_m), (1, .int x1), (2, .int x2), (3, .long x3), (5, .long x5)] [.ref ad_m] [oMo ad_m m_thrown ar_text m_length m_kind m_place m_below ar_figures m_many m_point m_exponent ar_words m_from m_to m_whole m_scale m_rest m_huge, aI G ar_text 4096 m_text, aI G ar_figures 4096 m_figs, aI G ar_words 800 m_wds] :=
  a_callV (As := []) (rest := []) (wc := [oMo ad_m m_thrown ar_text m_length m_kind m_place m_below ar_figures m_many m_point m_exponent ar_words m_from m_to m_whole m_scale m_rest m_huge, aI G ar_text 4096 m_text, aI G ar_figures 4096 m_figs, aI G ar_words 800 m_wds]) (wr := []) (w1c := [oMo ad_m m_thrown' ar_text m_length' m_kind' m_place' m_below' ar_figures m_many' m_point' m_exponent' ar_words m_from' m_to' m_whole' m_scale' m_rest' m_huge', aI G ar_text 4096 m_text', aI G ar_figures 4096 m_figs', aI G ar_words 800 m_wds']) (r := (some (.int r))) [oMo ad_m m_thrown' ar_text m_length' m_kind' m_place' m_below' ar_figures m_many' m_point' m_exponent' ar_words m_from' m_to' m_whole' m_scale' m_rest' m_huge', aI G ar_text 4096 m_text', aI G ar_figures 4096 m_figs', aI G ar_words 800 m_wds'] [0, 1, 2, 3] [] [0, 1, 2, 3] (ci := 6) (q0 := 0) hc dMo_side_106 rfl ok_Mo_goesUp ⟨Nat.le_of_ble_eq_true rfl, Nat.le_of_ble_eq_true rfl⟩ w_825 w_827 sl_71 rfl rfl rfl rfl rfl rfl (by decide) rfl rfl (Nat.le_of_ble_eq_true rfl) k

set_option maxRecDepth 20000 in
theorem b_Mo_side_109 {l : Launch} {G : gG} {w0 w1 : va_W} {res : Option Value} {ad_m ar_text ar_figures ar_words : Nat} {m_thrown m_length m_kind m_place m_below m_many m_point m_from m_to m_rest m_huge : Int32} {m_exponent m_whole m_scale : Int64} {m_text m_figs m_wds : Nat → Int32} {x1 : Int32} {x2 : Int32} {x3 : Int64} {x5 : Int64} {v0 : Int32} (k0 : (v0 = 0) → gAt l G m_Mo_side w0 res w1 117 [(0, .ref ad_m), (1, .int x1), (2, .int x2), (3, .long x3), (5, .long x5)] [.int (-1 : Int32)] [oMo ad_m m_thrown ar_text m_length m_kind m_place m_below ar_figures m_many m_point m_exponent ar_words m_from m_to m_whole m_scale m_rest m_huge, aI G ar_text 4096 m_text, aI G ar_figures 4096 m_figs, aI G ar_words 800 m_wds]) (k1 : (¬ v0 = 0) → gAt l G m_Mo_side w0 res w1 117 [(0, .ref ad_m), (1, .int x1), (2, .int x2), (3, .long x3), (5, .long x5)] [.int (1 : Int32)] [oMo ad_m m_thrown ar_text m_length m_kind m_place m_below ar_figures m_many m_point m_exponent ar_words m_from m_to m_whole m_scale m_rest m_huge, aI G ar_text 4096 m_text, aI G ar_figures 4096 m_figs, aI G ar_words 800 m_wds]) : gAt l G m_Mo_side w0 res w1 109 [(0, .ref ad_m), (1, .int x1), (2, .int x2), (3, .long x3), (5, .long x5)] [.int v0] [oMo ad_m m_thrown ar_text m_length m_kind m_place m_below ar_figures m_many m_point m_exponent ar_words m_from m_to m_whole m_scale m_rest m_huge, aI G ar_text 4096 m_text, aI G ar_figures 4096 m_figs, aI G ar_words 800 m_wds] := by
  refine a_if_eq 116 dMo_side_109 (by decide) (fun c1 => ?_) (fun c1 => ?_)
  · refine a_iconst (-1 : Int32) dMo_side_116 (by decide) ?_
    exact (k0 c1)
  · refine a_iconst (1 : Int32) dMo_side_112 (by decide) ?_
    refine a_goto 117 dMo_side_113 (by decide) ?_
    exact (k1 c1)

set_option maxRecDepth 20000 in
theorem b_Mo_side_117 {l : Launch} {G : gG} {w0 w1 : va_W} {res : Option Value} {ad_m ar_text ar_figures ar_words : Nat} {m_thrown m_length m_kind m_place m_below m_many m_point m_from m_to m_rest m_huge : Int32} {m_exponent m_whole m_scale : Int64} {m_text m_figs m_wds : Nat → Int32} {x1 : Int32} {x2 : Int32} {x3 : Int64} {x5 : Int64} {v0 : Int32} (k0 : (m_below = 0) → gAt l G m_Mo_side w0 res w1 134 [(0, .ref ad_m), (1, .int x1), (2, .int x2), (3, .long x3), (5, .long x5), (7, .int v0)] [.int v0] [oMo ad_m m_thrown ar_text m_length m_kind m_place m_below ar_figures m_many m_point m_exponent ar_words m_from m_to m_whole m_scale m_rest m_huge, aI G ar_text 4096 m_text, aI G ar_figures 4096 m_figs, aI G ar_words 800 m_wds]) (k1 : (¬ m_below = 0) → gAt l G m_Mo_side w0 res w1 134 [(0, .ref ad_m), (1, .int x1), (2, .int x2), (3, .long x3), (5, .long x5), (7, .int v0)] [.int (-v0)] [oMo ad_m m_thrown ar_text m_length m_kind m_place m_below ar_figures m_many m_point m_exponent ar_words m_from m_to m_whole m_scale m_rest m_huge, aI G ar_text 4096 m_text, aI G ar_figures 4096 m_figs, aI G ar_words 800 m_wds]) : gAt l G m_Mo_side w0 res w1 117 [(0, .ref ad_m), (1, .int x1), (2, .int x2), (3, .long x3), (5, .long x5)] [.int v0] [oMo ad_m m_thrown ar_text m_length m_kind m_place m_below ar_figures m_many m_point m_exponent ar_words m_from m_to m_whole m_scale m_rest m_huge, aI G ar_text 4096 m_text, aI G ar_figures 4096 m_figs, aI G ar_words 800 m_wds] := by
  refine a_istore [(7, .int v0), (0, .ref ad_m), (1, .int x1), (2, .int x2), (3, .long x3), (5, .long x5)] dMo_side_117 (by decide) rfl ?_
  refine a_aload_n 1 dMo_side_119 rfl ?_
  refine a_get (ci := 6) (kx := 5) 0 dMo_side_120 rfl I_Mo w_653 rfl (by decide) rfl ?_
  refine a_if_eq 132 dMo_side_123 (by decide) (fun c1 => ?_) (fun c1 => ?_)
  · refine a_iload 0 dMo_side_132 rfl ?_
    refine a_lv [(0, .ref ad_m), (1, .int x1), (2, .int x2), (3, .long x3), (5, .long x5), (7, .int v0)] [1, 2, 3, 4, 5, 0] rfl ?_
    exact (k0 c1)
  · refine a_iload 0 dMo_side_126 rfl ?_
    refine a_ineg dMo_side_128 ?_
    refine a_goto 134 dMo_side_129 (by decide) ?_
    refine a_lv [(0, .ref ad_m), (1, .int x1), (2, .int x2), (3, .long x3), (5, .long x5), (7, .int v0)] [1, 2, 3, 4, 5, 0] rfl ?_
    exact (k1 c1)

set_option maxRecDepth 20000 in
theorem b_Mo_side_134 {l : Launch} {G : gG} {w0 w1 : va_W} {res : Option Value} {ad_m ar_text ar_figures ar_words : Nat} {m_thrown m_length m_kind m_place m_below m_many m_point m_from m_to m_rest m_huge : Int32} {m_exponent m_whole m_scale : Int64} {m_text m_figs m_wds : Nat → Int32} {x1 : Int32} {x2 : Int32} {x3 : Int64} {x5 : Int64} {x7 : Int32} {v0 : Int32} (k0 : res = some (.int v0) ∧ [oMo ad_m m_thrown ar_text m_length m_kind m_place m_below ar_figures m_many m_point m_exponent ar_words m_from m_to m_whole m_scale m_rest m_huge, aI G ar_text 4096 m_text, aI G ar_figures 4096 m_figs, aI G ar_words 800 m_wds] = w1) : gAt l G m_Mo_side w0 res w1 134 [(0, .ref ad_m), (1, .int x1), (2, .int x2), (3, .long x3), (5, .long x5), (7, .int x7)] [.int v0] [oMo ad_m m_thrown ar_text m_length m_kind m_place m_below ar_figures m_many m_point m_exponent ar_words m_from m_to m_whole m_scale m_rest m_huge, aI G ar_text 4096 m_text, aI G ar_figures 4096 m_figs, aI G ar_words 800 m_wds] := by
  exact a_iret (st := []) dMo_side_134 rfl k0.1 k0.2

set_option maxRecDepth 20000 in
theorem b_Mo_compare_0 {l : Launch} {G : gG} {w0 w1 : va_W} {res : Option Value} {ad_m ar_text ar_figures ar_words : Nat} {m_thrown m_length m_kind m_place m_below m_many m_point m_from m_to m_rest m_huge : Int32} {m_exponent m_whole m_scale : Int64} {m_text m_figs m_wds : Nat → Int32} {x1 : Int64} (k0 : gAt l G m_Mo_compare w0 res w1 2 [(0, .ref ad_m), (1, .long x1)] [.ref ad_m, .ref ad_m] [oMo ad_m m_thrown ar_text m_length m_kind m_place m_below ar_figures m_many m_point m_exponent ar_words m_from m_to m_whole m_scale m_rest m_huge, aI G ar_text 4096 m_text, aI G ar_figures 4096 m_figs, aI G ar_words 800 m_wds]) : gAt l G m_Mo_compare w0 res w1 0 [(0, .ref ad_m), (1, .long x1)] [] [oMo ad_m m_thrown ar_text m_length m_kind m_place m_below ar_figures m_many m_point m_exponent ar_words m_from m_to m_whole m_scale m_rest m_huge, aI G ar_text 4096 m_text, aI G ar_figures 4096 m_figs, aI G ar_words 800 m_wds] := by
  refine a_aload_n 0 dMo_compare_0 rfl ?_
  refine a_aload_n 0 dMo_compare_1 rfl ?_
  exact k0

set_option maxRecDepth 20000 in
theorem k_Mo_compare_2 {l : Launch} {G : gG} {w0 w1 : va_W} {res : Option Value} {ad_m ar_text ar_figures ar_words : Nat} {m_thrown m_length m_kind m_place m_below m_many m_point m_from m_to m_rest m_huge : Int32} {m_exponent m_whole m_scale : Int64} {m_text m_figs m_wds : Nat → Int32} {x1 : Int64} {r : Int32} {m_thrown' m_length' m_kind' m_place' m_below' m_many' m_point' m_from' m_to' m_rest' m_huge' : Int32} {m_exponent' m_whole' m_scale' : Int64} {m_text' m_figs' m_wds' : Nat → Int32} (hc : gCt l G m_Mo_scan [.ref ad_m] [oMo ad_m m_thrown ar_text m_length m_kind m_place m_below ar_figures m_many m_point m_exponent ar_words m_from m_to m_whole m_scale m_rest m_huge, aI G ar_text 4096 m_text, aI G ar_figures 4096 m_figs, aI G ar_words 800 m_wds] (some (.int r)) [oMo ad_m m_thrown' ar_text m_length' m_kind' m_place' m_below' ar_figures m_many' m_point' m_exponent' ar_words m_from' m_to' m_whole' m_scale' m_rest' m_huge', aI G ar_text 4096 m_text', aI G ar_figures 4096 m_figs', aI G ar_words 800 m_wds']) (k : gAt l G m_Mo_compare w0 res w1 5 [(0, .ref ad_m), (1, .long x1)] [.int r, .ref ad_m] [oMo ad_m m_thrown' ar_text m_length' m_kind' m_place' m_below' ar_figures m_many' m_point' m_exponent' ar_words m_from' m_to' m_whole' m_scale' m_rest' m_huge', aI G ar_text 4096 m_text', aI G ar_figures 4096 m_figs', aI G ar_words 800 m_wds']) : gAt l G m_Mo_compare w0 res w1 2 [(0, .ref ad_m), (1, .long x1)] [.ref ad_m, .ref ad_m] [oMo ad_m m_thrown ar_text m_length m_kind m_place m_below ar_figures m_many m_point m_exponent ar_words m_from m_to m_whole m_scale m_rest m_huge, aI G ar_text 4096 m_text, aI G ar_figures 4096 m_figs, aI G ar_words 800 m_wds] :=
  a_callV (As := []) (rest := [.ref ad_m]) (wc := [oMo ad_m m_thrown ar_text m_length m_kind m_place m_below ar_figures m_many m_point m_exponent ar_words m_from m_to m_whole m_scale m_rest m_huge, aI G ar_text 4096 m_text, aI G ar_figures 4096 m_figs, aI G ar_words 800 m_wds]) (wr := []) (w1c := [oMo ad_m m_thrown' ar_text m_length' m_kind' m_place' m_below' ar_figures m_many' m_point' m_exponent' ar_words m_from' m_to' m_whole' m_scale' m_rest' m_huge', aI G ar_text 4096 m_text', aI G ar_figures 4096 m_figs', aI G ar_words 800 m_wds']) (r := (some (.int r))) [oMo ad_m m_thrown' ar_text m_length' m_kind' m_place' m_below' ar_figures m_many' m_point' m_exponent' ar_words m_from' m_to' m_whole' m_scale' m_rest' m_huge', aI G ar_text 4096 m_text', aI G ar_figures 4096 m_figs', aI G ar_words 800 m_wds'] [0, 1, 2, 3] [] [0, 1, 2, 3] (ci := 6) (q0 := 0) hc dMo_compare_2 rfl ok_Mo_scan ⟨Nat.le_of_ble_eq_true rfl, Nat.le_of_ble_eq_true rfl⟩ w_725 w_727 sl_54 rfl rfl rfl rfl rfl rfl (by decide) rfl rfl (Nat.le_of_ble_eq_true rfl) k

set_option maxRecDepth 20000 in
theorem b_Mo_compare_5 {l : Launch} {G : gG} {w0 w1 : va_W} {res : Option Value} {ad_m ar_text ar_figures ar_words : Nat} {m_thrown m_length m_kind m_place m_below m_many m_point m_from m_to m_rest m_huge : Int32} {m_exponent m_whole m_scale : Int64} {m_text m_figs m_wds : Nat → Int32} {x1 : Int64} {v0 : Int32} (k0 : (v0 = 0) → gAt l G m_Mo_compare w0 res w1 13 [(0, .ref ad_m), (1, .long x1)] [.int (1 : Int32), .ref ad_m] [oMo ad_m m_thrown ar_text m_length m_kind m_place m_below ar_figures m_many m_point m_exponent ar_words m_from m_to m_whole m_scale m_rest m_huge, aI G ar_text 4096 m_text, aI G ar_figures 4096 m_figs, aI G ar_words 800 m_wds]) (k1 : (¬ v0 = 0) → gAt l G m_Mo_compare w0 res w1 13 [(0, .ref ad_m), (1, .long x1)] [.int (0 : Int32), .ref ad_m] [oMo ad_m m_thrown ar_text m_length m_kind m_place m_below ar_figures m_many m_point m_exponent ar_words m_from m_to m_whole m_scale m_rest m_huge, aI G ar_text 4096 m_text, aI G ar_figures 4096 m_figs, aI G ar_words 800 m_wds]) : gAt l G m_Mo_compare w0 res w1 5 [(0, .ref ad_m), (1, .long x1)] [.int v0, .ref ad_m] [oMo ad_m m_thrown ar_text m_length m_kind m_place m_below ar_figures m_many m_point m_exponent ar_words m_from m_to m_whole m_scale m_rest m_huge, aI G ar_text 4096 m_text, aI G ar_figures 4096 m_figs, aI G ar_words 800 m_wds] := by
  refine a_if_eq 12 dMo_compare_5 (by decide) (fun c1 => ?_) (fun c1 => ?_)
  · refine a_iconst (1 : Int32) dMo_compare_12 (by decide) ?_
    exact (k0 c1)
  · refine a_iconst (0 : Int32) dMo_compare_8 (by decide) ?_
    refine a_goto 13 dMo_compare_9 (by decide) ?_
    exact (k1 c1)

set_option maxRecDepth 20000 in
theorem b_Mo_compare_13 {l : Launch} {G : gG} {w0 w1 : va_W} {res : Option Value} {ad_m ar_text ar_figures ar_words : Nat} {m_thrown m_length m_kind m_place m_below m_many m_point m_from m_to m_rest m_huge : Int32} {m_exponent m_whole m_scale : Int64} {m_text m_figs m_wds : Nat → Int32} {x1 : Int64} {v0 : Int32} (k0 : (v0 ≤ 0) → (m_kind = (3 : Int32)) → gAt l G m_Mo_compare w0 res w1 48 [(0, .ref ad_m), (1, .long x1), (3, .long (x1 &&& (9223372036854775807 : Int64)))] [.ref ad_m] [oMo ad_m v0 ar_text m_length m_kind m_place m_below ar_figures m_many m_point m_exponent ar_words m_from m_to m_whole m_scale m_rest m_huge, aI G ar_text 4096 m_text, aI G ar_figures 4096 m_figs, aI G ar_words 800 m_wds]) (k1 : (v0 ≤ 0) → (¬ m_kind = (3 : Int32)) → ((lg_cmp (x1 &&& (9223372036854775807 : Int64)) (9218868437227405312 : Int64)) ≤ 0) → gAt l G m_Mo_compare w0 res w1 53 [(0, .ref ad_m), (1, .long x1), (3, .long (x1 &&& (9223372036854775807 : Int64)))] [.int (0 : Int32), .ref ad_m] [oMo ad_m v0 ar_text m_length m_kind m_place m_below ar_figures m_many m_point m_exponent ar_words m_from m_to m_whole m_scale m_rest m_huge, aI G ar_text 4096 m_text, aI G ar_figures 4096 m_figs, aI G ar_words 800 m_wds]) (k2 : (v0 ≤ 0) → (¬ m_kind = (3 : Int32)) → (¬ (lg_cmp (x1 &&& (9223372036854775807 : Int64)) (9218868437227405312 : Int64)) ≤ 0) → gAt l G m_Mo_compare w0 res w1 48 [(0, .ref ad_m), (1, .long x1), (3, .long (x1 &&& (9223372036854775807 : Int64)))] [.ref ad_m] [oMo ad_m v0 ar_text m_length m_kind m_place m_below ar_figures m_many m_point m_exponent ar_words m_from m_to m_whole m_scale m_rest m_huge, aI G ar_text 4096 m_text, aI G ar_figures 4096 m_figs, aI G ar_words 800 m_wds]) (k3 : (¬ v0 ≤ 0) → res = some (.int (0 : Int32)) ∧ [oMo ad_m v0 ar_text m_length m_kind m_place m_below ar_figures m_many m_point m_exponent ar_words m_from m_to m_whole m_scale m_rest m_huge, aI G ar_text 4096 m_text, aI G ar_figures 4096 m_figs, aI G ar_words 800 m_wds] = w1) : gAt l G m_Mo_compare w0 res w1 13 [(0, .ref ad_m), (1, .long x1)] [.int v0, .ref ad_m] [oMo ad_m m_thrown ar_text m_length m_kind m_place m_below ar_figures m_many m_point m_exponent ar_words m_from m_to m_whole m_scale m_rest m_huge, aI G ar_text 4096 m_text, aI G ar_figures 4096 m_figs, aI G ar_words 800 m_wds] := by
  refine a_put (ci := 6) (kx := 0) ty_Mo 0 [oMo ad_m v0 ar_text m_length m_kind m_place m_below ar_figures m_many m_point m_exponent ar_words m_from m_to m_whole m_scale m_rest m_huge, aI G ar_text 4096 m_text, aI G ar_figures 4096 m_figs, aI G ar_words 800 m_wds] dMo_compare_13 rfl I_Mo tyo_Mo nmo_Mo w_648 rfl (by decide) rfl rfl rfl (Nat.le_of_ble_eq_true rfl) rfl ?_
  refine a_aload_n 0 dMo_compare_16 rfl ?_
  refine a_get (ci := 6) (kx := 0) 0 dMo_compare_17 rfl I_Mo w_648 rfl (by decide) rfl ?_
  refine a_if_le 25 dMo_compare_20 (by decide) (fun c1 => ?_) (fun c1 => ?_)
  · refine a_lload_n 1 dMo_compare_25 rfl ?_
    refine a_ldc2 (9223372036854775807 : Int64) dMo_compare_26 w_847 ?_
    refine a_land dMo_compare_29 ?_
    refine a_lstore_n [(3, .long (x1 &&& (9223372036854775807 : Int64))), (0, .ref ad_m), (1, .long x1)] dMo_compare_30 rfl (by decide) rfl ?_
    refine a_aload_n 1 dMo_compare_31 rfl ?_
    refine a_aload_n 1 dMo_compare_32 rfl ?_
    refine a_get (ci := 6) (kx := 3) 0 dMo_compare_33 rfl I_Mo w_651 rfl (by decide) rfl ?_
    refine a_iconst (3 : Int32) dMo_compare_36 (by decide) ?_
    refine a_icmp_eq 48 dMo_compare_37 (by decide) (fun c2 => ?_) (fun c2 => ?_)
    · refine a_lv [(0, .ref ad_m), (1, .long x1), (3, .long (x1 &&& (9223372036854775807 : Int64)))] [1, 2, 0] rfl ?_
      exact (k0 c1 c2)
    · refine a_lload_n 0 dMo_compare_40 rfl ?_
      refine a_ldc2 (9218868437227405312 : Int64) dMo_compare_41 w_848 ?_
      refine a_lcmp dMo_compare_44 ?_
      refine a_if_le 52 dMo_compare_45 (by decide) (fun c3 => ?_) (fun c3 => ?_)
      · refine a_iconst (0 : Int32) dMo_compare_52 (by decide) ?_
        refine a_lv [(0, .ref ad_m), (1, .long x1), (3, .long (x1 &&& (9223372036854775807 : Int64)))] [1, 2, 0] rfl ?_
        exact (k1 c1 c2 c3)
      · refine a_lv [(0, .ref ad_m), (1, .long x1), (3, .long (x1 &&& (9223372036854775807 : Int64)))] [1, 2, 0] rfl ?_
        exact (k2 c1 c2 c3)
  · refine a_iconst (0 : Int32) dMo_compare_23 (by decide) ?_
    exact a_iret (st := []) dMo_compare_24 rfl (k3 c1).1 (k3 c1).2

set_option maxRecDepth 20000 in
theorem b_Mo_compare_48 {l : Launch} {G : gG} {w0 w1 : va_W} {res : Option Value} {ad_m ar_text ar_figures ar_words : Nat} {m_thrown m_length m_kind m_place m_below m_many m_point m_from m_to m_rest m_huge : Int32} {m_exponent m_whole m_scale : Int64} {m_text m_figs m_wds : Nat → Int32} {x1 : Int64} {x3 : Int64} (k0 : gAt l G m_Mo_compare w0 res w1 53 [(0, .ref ad_m), (1, .long x1), (3, .long x3)] [.int (2 : Int32), .ref ad_m] [oMo ad_m m_thrown ar_text m_length m_kind m_place m_below ar_figures m_many m_point m_exponent ar_words m_from m_to m_whole m_scale m_rest m_huge, aI G ar_text 4096 m_text, aI G ar_figures 4096 m_figs, aI G ar_words 800 m_wds]) : gAt l G m_Mo_compare w0 res w1 48 [(0, .ref ad_m), (1, .long x1), (3, .long x3)] [.ref ad_m] [oMo ad_m m_thrown ar_text m_length m_kind m_place m_below ar_figures m_many m_point m_exponent ar_words m_from m_to m_whole m_scale m_rest m_huge, aI G ar_text 4096 m_text, aI G ar_figures 4096 m_figs, aI G ar_words 800 m_wds] := by
  refine a_iconst (2 : Int32) dMo_compare_48 (by decide) ?_
  refine a_goto 53 dMo_compare_49 (by decide) ?_
  exact k0

set_option maxRecDepth 20000 in
theorem b_Mo_compare_53 {l : Launch} {G : gG} {w0 w1 : va_W} {res : Option Value} {ad_m ar_text ar_figures ar_words : Nat} {m_thrown m_length m_kind m_place m_below m_many m_point m_from m_to m_rest m_huge : Int32} {m_exponent m_whole m_scale : Int64} {m_text m_figs m_wds : Nat → Int32} {x1 : Int64} {x3 : Int64} {v0 : Int32} (k0 : (v0 ≤ 0) → (0 ≤ (lg_cmp x1 (0 : Int64))) → gAt l G m_Mo_compare w0 res w1 76 [(0, .ref ad_m), (1, .long x1), (3, .long x3)] [.int (0 : Int32)] [oMo ad_m v0 ar_text m_length m_kind m_place m_below ar_figures m_many m_point m_exponent ar_words m_from m_to m_whole m_scale m_rest m_huge, aI G ar_text 4096 m_text, aI G ar_figures 4096 m_figs, aI G ar_words 800 m_wds]) (k1 : (v0 ≤ 0) → (¬ 0 ≤ (lg_cmp x1 (0 : Int64))) → gAt l G m_Mo_compare w0 res w1 76 [(0, .ref ad_m), (1, .long x1), (3, .long x3)] [.int (1 : Int32)] [oMo ad_m v0 ar_text m_length m_kind m_place m_below ar_figures m_many m_point m_exponent ar_words m_from m_to m_whole m_scale m_rest m_huge, aI G ar_text 4096 m_text, aI G ar_figures 4096 m_figs, aI G ar_words 800 m_wds]) (k2 : (¬ v0 ≤ 0) → res = some (.int (0 : Int32)) ∧ [oMo ad_m v0 ar_text m_length m_kind m_place m_below ar_figures m_many m_point m_exponent ar_words m_from m_to m_whole m_scale m_rest m_huge, aI G ar_text 4096 m_text, aI G ar_figures 4096 m_figs, aI G ar_words 800 m_wds] = w1) : gAt l G m_Mo_compare w0 res w1 53 [(0, .ref ad_m), (1, .long x1), (3, .long x3)] [.int v0, .ref ad_m] [oMo ad_m m_thrown ar_text m_length m_kind m_place m_below ar_figures m_many m_point m_exponent ar_words m_from m_to m_whole m_scale m_rest m_huge, aI G ar_text 4096 m_text, aI G ar_figures 4096 m_figs, aI G ar_words 800 m_wds] := by
  refine a_put (ci := 6) (kx := 0) ty_Mo 0 [oMo ad_m v0 ar_text m_length m_kind m_place m_below ar_figures m_many m_point m_exponent ar_words m_from m_to m_whole m_scale m_rest m_huge, aI G ar_text 4096 m_text, aI G ar_figures 4096 m_figs, aI G ar_words 800 m_wds] dMo_compare_53 rfl I_Mo tyo_Mo nmo_Mo w_648 rfl (by decide) rfl rfl rfl (Nat.le_of_ble_eq_true rfl) rfl ?_
  refine a_aload_n 0 dMo_compare_56 rfl ?_
  refine a_get (ci := 6) (kx := 0) 0 dMo_compare_57 rfl I_Mo w_648 rfl (by decide) rfl ?_
  refine a_if_le 65 dMo_compare_60 (by decide) (fun c1 => ?_) (fun c1 => ?_)
  · refine a_lload_n 1 dMo_compare_65 rfl ?_
    refine a_lconst (0 : Int64) dMo_compare_66 (by decide) ?_
    refine a_lcmp dMo_compare_67 ?_
    refine a_if_ge 75 dMo_compare_68 (by decide) (fun c2 => ?_) (fun c2 => ?_)
    · refine a_iconst (0 : Int32) dMo_compare_75 (by decide) ?_
      exact (k0 c1 c2)
    · refine a_iconst (1 : Int32) dMo_compare_71 (by decide) ?_
      refine a_goto 76 dMo_compare_72 (by decide) ?_
      exact (k1 c1 c2)
  · refine a_iconst (0 : Int32) dMo_compare_63 (by decide) ?_
    exact a_iret (st := []) dMo_compare_64 rfl (k2 c1).1 (k2 c1).2

set_option maxRecDepth 20000 in
theorem b_Mo_compare_76 {l : Launch} {G : gG} {w0 w1 : va_W} {res : Option Value} {ad_m ar_text ar_figures ar_words : Nat} {m_thrown m_length m_kind m_place m_below m_many m_point m_from m_to m_rest m_huge : Int32} {m_exponent m_whole m_scale : Int64} {m_text m_figs m_wds : Nat → Int32} {x1 : Int64} {x3 : Int64} {v0 : Int32} (k0 : (¬ (lg_cmp x3 (0 : Int64)) = 0) → gAt l G m_Mo_compare w0 res w1 89 [(0, .ref ad_m), (1, .long x1), (3, .long x3), (5, .int v0)] [.int (0 : Int32)] [oMo ad_m m_thrown ar_text m_length m_kind m_place m_below ar_figures m_many m_point m_exponent ar_words m_from m_to m_whole m_scale m_rest m_huge, aI G ar_text 4096 m_text, aI G ar_figures 4096 m_figs, aI G ar_words 800 m_wds]) (k1 : ((lg_cmp x3 (0 : Int64)) = 0) → gAt l G m_Mo_compare w0 res w1 89 [(0, .ref ad_m), (1, .long x1), (3, .long x3), (5, .int v0)] [.int (1 : Int32)] [oMo ad_m m_thrown ar_text m_length m_kind m_place m_below ar_figures m_many m_point m_exponent ar_words m_from m_to m_whole m_scale m_rest m_huge, aI G ar_text 4096 m_text, aI G ar_figures 4096 m_figs, aI G ar_words 800 m_wds]) : gAt l G m_Mo_compare w0 res w1 76 [(0, .ref ad_m), (1, .long x1), (3, .long x3)] [.int v0] [oMo ad_m m_thrown ar_text m_length m_kind m_place m_below ar_figures m_many m_point m_exponent ar_words m_from m_to m_whole m_scale m_rest m_huge, aI G ar_text 4096 m_text, aI G ar_figures 4096 m_figs, aI G ar_words 800 m_wds] := by
  refine a_istore [(5, .int v0), (0, .ref ad_m), (1, .long x1), (3, .long x3)] dMo_compare_76 (by decide) rfl ?_
  refine a_lload_n 3 dMo_compare_78 rfl ?_
  refine a_lconst (0 : Int64) dMo_compare_79 (by decide) ?_
  refine a_lcmp dMo_compare_80 ?_
  refine a_if_ne 88 dMo_compare_81 (by decide) (fun c1 => ?_) (fun c1 => ?_)
  · refine a_iconst (0 : Int32) dMo_compare_88 (by decide) ?_
    refine a_lv [(0, .ref ad_m), (1, .long x1), (3, .long x3), (5, .int v0)] [1, 2, 3, 0] rfl ?_
    exact (k0 c1)
  · refine a_iconst (1 : Int32) dMo_compare_84 (by decide) ?_
    refine a_goto 89 dMo_compare_85 (by decide) ?_
    refine a_lv [(0, .ref ad_m), (1, .long x1), (3, .long x3), (5, .int v0)] [1, 2, 3, 0] rfl ?_
    exact (k1 c1)

set_option maxRecDepth 20000 in
theorem b_Mo_compare_89 {l : Launch} {G : gG} {w0 w1 : va_W} {res : Option Value} {ad_m ar_text ar_figures ar_words : Nat} {m_thrown m_length m_kind m_place m_below m_many m_point m_from m_to m_rest m_huge : Int32} {m_exponent m_whole m_scale : Int64} {m_text m_figs m_wds : Nat → Int32} {x1 : Int64} {x3 : Int64} {x5 : Int32} {v0 : Int32} (k0 : gAt l G m_Mo_compare w0 res w1 97 [(0, .ref ad_m), (1, .long x1), (3, .long x3), (5, .int x5), (6, .int v0), (7, .int (0 : Int32)), (8, .int (0 : Int32))] [] [oMo ad_m m_thrown ar_text m_length m_kind m_place m_below ar_figures m_many m_point m_exponent ar_words m_from m_to m_whole m_scale m_rest m_huge, aI G ar_text 4096 m_text, aI G ar_figures 4096 m_figs, aI G ar_words 800 m_wds]) : gAt l G m_Mo_compare w0 res w1 89 [(0, .ref ad_m), (1, .long x1), (3, .long x3), (5, .int x5)] [.int v0] [oMo ad_m m_thrown ar_text m_length m_kind m_place m_below ar_figures m_many m_point m_exponent ar_words m_from m_to m_whole m_scale m_rest m_huge, aI G ar_text 4096 m_text, aI G ar_figures 4096 m_figs, aI G ar_words 800 m_wds] := by
  refine a_istore [(6, .int v0), (0, .ref ad_m), (1, .long x1), (3, .long x3), (5, .int x5)] dMo_compare_89 (by decide) rfl ?_
  refine a_iconst (0 : Int32) dMo_compare_91 (by decide) ?_
  refine a_istore [(7, .int (0 : Int32)), (6, .int v0), (0, .ref ad_m), (1, .long x1), (3, .long x3), (5, .int x5)] dMo_compare_92 (by decide) rfl ?_
  refine a_iconst (0 : Int32) dMo_compare_94 (by decide) ?_
  refine a_istore [(8, .int (0 : Int32)), (7, .int (0 : Int32)), (6, .int v0), (0, .ref ad_m), (1, .long x1), (3, .long x3), (5, .int x5)] dMo_compare_95 (by decide) rfl ?_
  refine a_lv [(0, .ref ad_m), (1, .long x1), (3, .long x3), (5, .int x5), (6, .int v0), (7, .int (0 : Int32)), (8, .int (0 : Int32))] [3, 4, 5, 6, 2, 1, 0] rfl ?_
  exact k0

set_option maxRecDepth 20000 in
theorem b_Mo_compare_97 {l : Launch} {G : gG} {w0 w1 : va_W} {res : Option Value} {ad_m ar_text ar_figures ar_words : Nat} {m_thrown m_length m_kind m_place m_below m_many m_point m_from m_to m_rest m_huge : Int32} {m_exponent m_whole m_scale : Int64} {m_text m_figs m_wds : Nat → Int32} {x1 : Int64} {x3 : Int64} {x5 : Int32} {x6 : Int32} {x7 : Int32} {x8 : Int32} (k0 : (m_many ≤ x8) → gAt l G m_Mo_compare w0 res w1 142 [(0, .ref ad_m), (1, .long x1), (3, .long x3), (5, .int x5), (6, .int x6), (7, .int x7), (8, .int x8)] [] [oMo ad_m m_thrown ar_text m_length m_kind m_place m_below ar_figures m_many m_point m_exponent ar_words m_from m_to m_whole m_scale m_rest m_huge, aI G ar_text 4096 m_text, aI G ar_figures 4096 m_figs, aI G ar_words 800 m_wds]) (k1 : (¬ m_many ≤ x8) → ((2 : Int32) ≤ m_kind) → gAt l G m_Mo_compare w0 res w1 142 [(0, .ref ad_m), (1, .long x1), (3, .long x3), (5, .int x5), (6, .int x6), (7, .int x7), (8, .int x8)] [] [oMo ad_m m_thrown ar_text m_length m_kind m_place m_below ar_figures m_many m_point m_exponent ar_words m_from m_to m_whole m_scale m_rest m_huge, aI G ar_text 4096 m_text, aI G ar_figures 4096 m_figs, aI G ar_words 800 m_wds]) (k2 : (¬ m_many ≤ x8) → (¬ (2 : Int32) ≤ m_kind) → (¬ x7 = 0) → gAt l G m_Mo_compare w0 res w1 129 [(0, .ref ad_m), (1, .long x1), (3, .long x3), (5, .int x5), (6, .int x6), (7, .int x7), (8, .int x8)] [] [oMo ad_m m_thrown ar_text m_length m_kind m_place m_below ar_figures m_many m_point m_exponent ar_words m_from m_to m_whole m_scale m_rest m_huge, aI G ar_text 4096 m_text, aI G ar_figures 4096 m_figs, aI G ar_words 800 m_wds]) (s3 : (¬ m_many ≤ x8) → (¬ (2 : Int32) ≤ m_kind) → (x7 = 0) → vp_in x8 4096) (k4 : (¬ m_many ≤ x8) → (¬ (2 : Int32) ≤ m_kind) → (x7 = 0) → ((m_figs (Int32.toNatClampNeg x8)) = 0) → gAt l G m_Mo_compare w0 res w1 134 [(0, .ref ad_m), (1, .long x1), (3, .long x3), (5, .int x5), (6, .int x6), (7, .int x7), (8, .int x8)] [.int (0 : Int32)] [oMo ad_m m_thrown ar_text m_length m_kind m_place m_below ar_figures m_many m_point m_exponent ar_words m_from m_to m_whole m_scale m_rest m_huge, aI G ar_text 4096 m_text, aI G ar_figures 4096 m_figs, aI G ar_words 800 m_wds]) (k5 : (¬ m_many ≤ x8) → (¬ (2 : Int32) ≤ m_kind) → (x7 = 0) → (¬ (m_figs (Int32.toNatClampNeg x8)) = 0) → gAt l G m_Mo_compare w0 res w1 129 [(0, .ref ad_m), (1, .long x1), (3, .long x3), (5, .int x5), (6, .int x6), (7, .int x7), (8, .int x8)] [] [oMo ad_m m_thrown ar_text m_length m_kind m_place m_below ar_figures m_many m_point m_exponent ar_words m_from m_to m_whole m_scale m_rest m_huge, aI G ar_text 4096 m_text, aI G ar_figures 4096 m_figs, aI G ar_words 800 m_wds]) : gAt l G m_Mo_compare w0 res w1 97 [(0, .ref ad_m), (1, .long x1), (3, .long x3), (5, .int x5), (6, .int x6), (7, .int x7), (8, .int x8)] [] [oMo ad_m m_thrown ar_text m_length m_kind m_place m_below ar_figures m_many m_point m_exponent ar_words m_from m_to m_whole m_scale m_rest m_huge, aI G ar_text 4096 m_text, aI G ar_figures 4096 m_figs, aI G ar_words 800 m_wds] := by
  refine a_iload 6 dMo_compare_97 rfl ?_
  refine a_aload_n 0 dMo_compare_99 rfl ?_
  refine a_get (ci := 6) (kx := 7) 0 dMo_compare_100 rfl I_Mo w_655 rfl (by decide) rfl ?_
  refine a_icmp_ge 142 dMo_compare_103 (by decide) (fun c1 => ?_) (fun c1 => ?_)
  · exact (k0 c1)
  · refine a_aload_n 0 dMo_compare_106 rfl ?_
    refine a_get (ci := 6) (kx := 3) 0 dMo_compare_107 rfl I_Mo w_651 rfl (by decide) rfl ?_
    refine a_iconst (2 : Int32) dMo_compare_110 (by decide) ?_
    refine a_icmp_ge 142 dMo_compare_111 (by decide) (fun c2 => ?_) (fun c2 => ?_)
    · exact (k1 c1 c2)
    · refine a_iload 5 dMo_compare_114 rfl ?_
      refine a_if_ne 129 dMo_compare_116 (by decide) (fun c3 => ?_) (fun c3 => ?_)
      · exact (k2 c1 c2 c3)
      · refine a_aload_n 0 dMo_compare_119 rfl ?_
        refine a_get (ci := 6) (kx := 6) 0 dMo_compare_120 rfl I_Mo w_654 rfl (by decide) rfl ?_
        refine a_iload 6 dMo_compare_123 rfl ?_
        refine a_iald 2 dMo_compare_125 rfl (s3 c1 c2 c3) ?_
        refine a_if_eq 133 dMo_compare_126 (by decide) (fun c4 => ?_) (fun c4 => ?_)
        · refine a_iconst (0 : Int32) dMo_compare_133 (by decide) ?_
          exact (k4 c1 c2 c3 c4)
        · exact (k5 c1 c2 c3 c4)

set_option maxRecDepth 20000 in
theorem b_Mo_compare_129 {l : Launch} {G : gG} {w0 w1 : va_W} {res : Option Value} {ad_m ar_text ar_figures ar_words : Nat} {m_thrown m_length m_kind m_place m_below m_many m_point m_from m_to m_rest m_huge : Int32} {m_exponent m_whole m_scale : Int64} {m_text m_figs m_wds : Nat → Int32} {x1 : Int64} {x3 : Int64} {x5 : Int32} {x6 : Int32} {x7 : Int32} {x8 : Int32} (k0 : gAt l G m_Mo_compare w0 res w1 134 [(0, .ref ad_m), (1, .long x1), (3, .long x3), (5, .int x5), (6, .int x6), (7, .int x7), (8, .int x8)] [.int (1 : Int32)] [oMo ad_m m_thrown ar_text m_length m_kind m_place m_below ar_figures m_many m_point m_exponent ar_words m_from m_to m_whole m_scale m_rest m_huge, aI G ar_text 4096 m_text, aI G ar_figures 4096 m_figs, aI G ar_words 800 m_wds]) : gAt l G m_Mo_compare w0 res w1 129 [(0, .ref ad_m), (1, .long x1), (3, .long x3), (5, .int x5), (6, .int x6), (7, .int x7), (8, .int x8)] [] [oMo ad_m m_thrown ar_text m_length m_kind m_place m_below ar_figures m_many m_point m_exponent ar_words m_from m_to m_whole m_scale m_rest m_huge, aI G ar_text 4096 m_text, aI G ar_figures 4096 m_figs, aI G ar_words 800 m_wds] := by
  refine a_iconst (1 : Int32) dMo_compare_129 (by decide) ?_
  refine a_goto 134 dMo_compare_130 (by decide) ?_
  exact k0

set_option maxRecDepth 20000 in
theorem b_Mo_compare_134 {l : Launch} {G : gG} {w0 w1 : va_W} {res : Option Value} {ad_m ar_text ar_figures ar_words : Nat} {m_thrown m_length m_kind m_place m_below m_many m_point m_from m_to m_rest m_huge : Int32} {m_exponent m_whole m_scale : Int64} {m_text m_figs m_wds : Nat → Int32} {x1 : Int64} {x3 : Int64} {x5 : Int32} {x6 : Int32} {x7 : Int32} {x8 : Int32} {v0 : Int32} (k0 : gAt l G m_Mo_compare w0 res w1 97 [(0, .ref ad_m), (1, .long x1), (3, .long x3), (5, .int x5), (6, .int x6), (7, .int v0), (8, .int (x8 + 1))] [] [oMo ad_m m_thrown ar_text m_length m_kind m_place m_below ar_figures m_many m_point m_exponent ar_words m_from m_to m_whole m_scale m_rest m_huge, aI G ar_text 4096 m_text, aI G ar_figures 4096 m_figs, aI G ar_words 800 m_wds]) : gAt l G m_Mo_compare w0 res w1 134 [(0, .ref ad_m), (1, .long x1), (3, .long x3), (5, .int x5), (6, .int x6), (7, .int x7), (8, .int x8)] [.int v0] [oMo ad_m m_thrown ar_text m_length m_kind m_place m_below ar_figures m_many m_point m_exponent ar_words m_from m_to m_whole m_scale m_rest m_huge, aI G ar_text 4096 m_text, aI G ar_figures 4096 m_figs, aI G ar_words 800 m_wds] := by
  refine a_istore [(7, .int v0), (0, .ref ad_m), (1, .long x1), (3, .long x3), (5, .int x5), (6, .int x6), (8, .int x8)] dMo_compare_134 (by decide) rfl ?_
  refine a_iinc 6 (x8 + 1) [(8, .int (x8 + 1)), (7, .int v0), (0, .ref ad_m), (1, .long x1), (3, .long x3), (5, .int x5), (6, .int x6)] dMo_compare_136 rfl rfl (by decide) rfl ?_
  refine a_goto 97 dMo_compare_139 (by decide) ?_
  refine a_lv [(0, .ref ad_m), (1, .long x1), (3, .long x3), (5, .int x5), (6, .int x6), (7, .int v0), (8, .int (x8 + 1))] [2, 3, 4, 5, 6, 1, 0] rfl ?_
  exact k0

set_option maxRecDepth 20000 in
theorem b_Mo_compare_142 {l : Launch} {G : gG} {w0 w1 : va_W} {res : Option Value} {ad_m ar_text ar_figures ar_words : Nat} {m_thrown m_length m_kind m_place m_below m_many m_point m_from m_to m_rest m_huge : Int32} {m_exponent m_whole m_scale : Int64} {m_text m_figs m_wds : Nat → Int32} {x1 : Int64} {x3 : Int64} {x5 : Int32} {x6 : Int32} {x7 : Int32} {x8 : Int32} (k0 : ((2 : Int32) ≤ m_kind) → gAt l G m_Mo_compare w0 res w1 159 [(0, .ref ad_m), (1, .long x1), (3, .long x3), (5, .int x5), (6, .int x6), (7, .int x7), (8, .int x8)] [] [oMo ad_m m_thrown ar_text m_length m_kind m_place m_below ar_figures m_many m_point m_exponent ar_words m_from m_to m_whole m_scale m_rest m_huge, aI G ar_text 4096 m_text, aI G ar_figures 4096 m_figs, aI G ar_words 800 m_wds]) (k1 : (¬ (2 : Int32) ≤ m_kind) → (¬ x7 = 0) → gAt l G m_Mo_compare w0 res w1 159 [(0, .ref ad_m), (1, .long x1), (3, .long x3), (5, .int x5), (6, .int x6), (7, .int x7), (8, .int x8)] [] [oMo ad_m m_thrown ar_text m_length m_kind m_place m_below ar_figures m_many m_point m_exponent ar_words m_from m_to m_whole m_scale m_rest m_huge, aI G ar_text 4096 m_text, aI G ar_figures 4096 m_figs, aI G ar_words 800 m_wds]) (k2 : (¬ (2 : Int32) ≤ m_kind) → (x7 = 0) → gAt l G m_Mo_compare w0 res w1 160 [(0, .ref ad_m), (1, .long x1), (3, .long x3), (5, .int x5), (6, .int x6), (7, .int x7), (8, .int x8)] [.int (1 : Int32)] [oMo ad_m m_thrown ar_text m_length m_kind m_place m_below ar_figures m_many m_point m_exponent ar_words m_from m_to m_whole m_scale m_rest m_huge, aI G ar_text 4096 m_text, aI G ar_figures 4096 m_figs, aI G ar_words 800 m_wds]) : gAt l G m_Mo_compare w0 res w1 142 [(0, .ref ad_m), (1, .long x1), (3, .long x3), (5, .int x5), (6, .int x6), (7, .int x7), (8, .int x8)] [] [oMo ad_m m_thrown ar_text m_length m_kind m_place m_below ar_figures m_many m_point m_exponent ar_words m_from m_to m_whole m_scale m_rest m_huge, aI G ar_text 4096 m_text, aI G ar_figures 4096 m_figs, aI G ar_words 800 m_wds] := by
  refine a_aload_n 0 dMo_compare_142 rfl ?_
  refine a_get (ci := 6) (kx := 3) 0 dMo_compare_143 rfl I_Mo w_651 rfl (by decide) rfl ?_
  refine a_iconst (2 : Int32) dMo_compare_146 (by decide) ?_
  refine a_icmp_ge 159 dMo_compare_147 (by decide) (fun c1 => ?_) (fun c1 => ?_)
  · exact (k0 c1)
  · refine a_iload 5 dMo_compare_150 rfl ?_
    refine a_if_ne 159 dMo_compare_152 (by decide) (fun c2 => ?_) (fun c2 => ?_)
    · exact (k1 c1 c2)
    · refine a_iconst (1 : Int32) dMo_compare_155 (by decide) ?_
      refine a_goto 160 dMo_compare_156 (by decide) ?_
      exact (k2 c1 c2)

set_option maxRecDepth 20000 in
theorem b_Mo_compare_159 {l : Launch} {G : gG} {w0 w1 : va_W} {res : Option Value} {ad_m ar_text ar_figures ar_words : Nat} {m_thrown m_length m_kind m_place m_below m_many m_point m_from m_to m_rest m_huge : Int32} {m_exponent m_whole m_scale : Int64} {m_text m_figs m_wds : Nat → Int32} {x1 : Int64} {x3 : Int64} {x5 : Int32} {x6 : Int32} {x7 : Int32} {x8 : Int32} (k0 : gAt l G m_Mo_compare w0 res w1 160 [(0, .ref ad_m), (1, .long x1), (3, .long x3), (5, .int x5), (6, .int x6), (7, .int x7), (8, .int x8)] [.int (0 : Int32)] [oMo ad_m m_thrown ar_text m_length m_kind m_place m_below ar_figures m_many m_point m_exponent ar_words m_from m_to m_whole m_scale m_rest m_huge, aI G ar_text 4096 m_text, aI G ar_figures 4096 m_figs, aI G ar_words 800 m_wds]) : gAt l G m_Mo_compare w0 res w1 159 [(0, .ref ad_m), (1, .long x1), (3, .long x3), (5, .int x5), (6, .int x6), (7, .int x7), (8, .int x8)] [] [oMo ad_m m_thrown ar_text m_length m_kind m_place m_below ar_figures m_many m_point m_exponent ar_words m_from m_to m_whole m_scale m_rest m_huge, aI G ar_text 4096 m_text, aI G ar_figures 4096 m_figs, aI G ar_words 800 m_wds] := by
  refine a_iconst (0 : Int32) dMo_compare_159 (by decide) ?_
  exact k0

set_option maxRecDepth 20000 in
theorem b_Mo_compare_160 {l : Launch} {G : gG} {w0 w1 : va_W} {res : Option Value} {ad_m ar_text ar_figures ar_words : Nat} {m_thrown m_length m_kind m_place m_below m_many m_point m_from m_to m_rest m_huge : Int32} {m_exponent m_whole m_scale : Int64} {m_text m_figs m_wds : Nat → Int32} {x1 : Int64} {x3 : Int64} {x5 : Int32} {x6 : Int32} {x7 : Int32} {x8 : Int32} {v0 : Int32} (k0 : (¬ v0 = 0) → gAt l G m_Mo_compare w0 res w1 172 [(0, .ref ad_m), (1, .long x1), (3, .long x3), (5, .int x5), (6, .int x6), (7, .int x7), (8, .int v0)] [] [oMo ad_m m_thrown ar_text m_length m_kind m_place m_below ar_figures m_many m_point m_exponent ar_words m_from m_to m_whole m_scale m_rest m_huge, aI G ar_text 4096 m_text, aI G ar_figures 4096 m_figs, aI G ar_words 800 m_wds]) (k1 : (v0 = 0) → (x6 = 0) → (m_below = x5) → gAt l G m_Mo_compare w0 res w1 241 [(0, .ref ad_m), (1, .long x1), (3, .long x3), (5, .int x5), (6, .int x6), (7, .int x7), (8, .int v0)] [.long x3, .ref ad_m] [oMo ad_m m_thrown ar_text m_length m_kind m_place m_below ar_figures m_many m_point m_exponent ar_words m_from m_to m_whole m_scale m_rest m_huge, aI G ar_text 4096 m_text, aI G ar_figures 4096 m_figs, aI G ar_words 800 m_wds]) (k2 : (v0 = 0) → (x6 = 0) → (¬ m_below = x5) → (m_below = 0) → gAt l G m_Mo_compare w0 res w1 238 [(0, .ref ad_m), (1, .long x1), (3, .long x3), (5, .int x5), (6, .int x6), (7, .int x7), (8, .int v0)] [.int (1 : Int32)] [oMo ad_m m_thrown ar_text m_length m_kind m_place m_below ar_figures m_many m_point m_exponent ar_words m_from m_to m_whole m_scale m_rest m_huge, aI G ar_text 4096 m_text, aI G ar_figures 4096 m_figs, aI G ar_words 800 m_wds]) (k3 : (v0 = 0) → (x6 = 0) → (¬ m_below = x5) → (¬ m_below = 0) → gAt l G m_Mo_compare w0 res w1 238 [(0, .ref ad_m), (1, .long x1), (3, .long x3), (5, .int x5), (6, .int x6), (7, .int x7), (8, .int v0)] [.int (-1 : Int32)] [oMo ad_m m_thrown ar_text m_length m_kind m_place m_below ar_figures m_many m_point m_exponent ar_words m_from m_to m_whole m_scale m_rest m_huge, aI G ar_text 4096 m_text, aI G ar_figures 4096 m_figs, aI G ar_words 800 m_wds]) (k4 : (v0 = 0) → (¬ x6 = 0) → gAt l G m_Mo_compare w0 res w1 172 [(0, .ref ad_m), (1, .long x1), (3, .long x3), (5, .int x5), (6, .int x6), (7, .int x7), (8, .int v0)] [] [oMo ad_m m_thrown ar_text m_length m_kind m_place m_below ar_figures m_many m_point m_exponent ar_words m_from m_to m_whole m_scale m_rest m_huge, aI G ar_text 4096 m_text, aI G ar_figures 4096 m_figs, aI G ar_words 800 m_wds]) : gAt l G m_Mo_compare w0 res w1 160 [(0, .ref ad_m), (1, .long x1), (3, .long x3), (5, .int x5), (6, .int x6), (7, .int x7), (8, .int x8)] [.int v0] [oMo ad_m m_thrown ar_text m_length m_kind m_place m_below ar_figures m_many m_point m_exponent ar_words m_from m_to m_whole m_scale m_rest m_huge, aI G ar_text 4096 m_text, aI G ar_figures 4096 m_figs, aI G ar_words 800 m_wds] := by
  refine a_istore [(8, .int v0), (0, .ref ad_m), (1, .long x1), (3, .long x3), (5, .int x5), (6, .int x6), (7, .int x7)] dMo_compare_160 (by decide) rfl ?_
  refine a_iload 0 dMo_compare_162 rfl ?_
  refine a_if_ne 172 dMo_compare_164 (by decide) (fun c1 => ?_) (fun c1 => ?_)
  · refine a_lv [(0, .ref ad_m), (1, .long x1), (3, .long x3), (5, .int x5), (6, .int x6), (7, .int x7), (8, .int v0)] [1, 2, 3, 4, 5, 6, 0] rfl ?_
    exact (k0 c1)
  · refine a_iload 5 dMo_compare_167 rfl ?_
    refine a_if_eq 217 dMo_compare_169 (by decide) (fun c2 => ?_) (fun c2 => ?_)
    · refine a_aload_n 1 dMo_compare_217 rfl ?_
      refine a_get (ci := 6) (kx := 5) 0 dMo_compare_218 rfl I_Mo w_653 rfl (by decide) rfl ?_
      refine a_iload 4 dMo_compare_221 rfl ?_
      refine a_icmp_eq 239 dMo_compare_223 (by decide) (fun c3 => ?_) (fun c3 => ?_)
      · refine a_aload_n 1 dMo_compare_239 rfl ?_
        refine a_lload_n 3 dMo_compare_240 rfl ?_
        refine a_lv [(0, .ref ad_m), (1, .long x1), (3, .long x3), (5, .int x5), (6, .int x6), (7, .int x7), (8, .int v0)] [1, 2, 3, 4, 5, 6, 0] rfl ?_
        exact (k1 c1 c2 c3)
      · refine a_aload_n 1 dMo_compare_226 rfl ?_
        refine a_get (ci := 6) (kx := 5) 0 dMo_compare_227 rfl I_Mo w_653 rfl (by decide) rfl ?_
        refine a_if_eq 237 dMo_compare_230 (by decide) (fun c4 => ?_) (fun c4 => ?_)
        · refine a_iconst (1 : Int32) dMo_compare_237 (by decide) ?_
          refine a_lv [(0, .ref ad_m), (1, .long x1), (3, .long x3), (5, .int x5), (6, .int x6), (7, .int x7), (8, .int v0)] [1, 2, 3, 4, 5, 6, 0] rfl ?_
          exact (k2 c1 c2 c3 c4)
        · refine a_iconst (-1 : Int32) dMo_compare_233 (by decide) ?_
          refine a_goto 238 dMo_compare_234 (by decide) ?_
          refine a_lv [(0, .ref ad_m), (1, .long x1), (3, .long x3), (5, .int x5), (6, .int x6), (7, .int x7), (8, .int v0)] [1, 2, 3, 4, 5, 6, 0] rfl ?_
          exact (k3 c1 c2 c3 c4)
    · refine a_lv [(0, .ref ad_m), (1, .long x1), (3, .long x3), (5, .int x5), (6, .int x6), (7, .int x7), (8, .int v0)] [1, 2, 3, 4, 5, 6, 0] rfl ?_
      exact (k4 c1 c2)

set_option maxRecDepth 20000 in
theorem b_Mo_compare_172 {l : Launch} {G : gG} {w0 w1 : va_W} {res : Option Value} {ad_m ar_text ar_figures ar_words : Nat} {m_thrown m_length m_kind m_place m_below m_many m_point m_from m_to m_rest m_huge : Int32} {m_exponent m_whole m_scale : Int64} {m_text m_figs m_wds : Nat → Int32} {x1 : Int64} {x3 : Int64} {x5 : Int32} {x6 : Int32} {x7 : Int32} {x8 : Int32} (k0 : (x8 = 0) → gAt l G m_Mo_compare w0 res w1 186 [(0, .ref ad_m), (1, .long x1), (3, .long x3), (5, .int x5), (6, .int x6), (7, .int x7), (8, .int x8)] [] [oMo ad_m m_thrown ar_text m_length m_kind m_place m_below ar_figures m_many m_point m_exponent ar_words m_from m_to m_whole m_scale m_rest m_huge, aI G ar_text 4096 m_text, aI G ar_figures 4096 m_figs, aI G ar_words 800 m_wds]) (k1 : (¬ x8 = 0) → (x6 = 0) → gAt l G m_Mo_compare w0 res w1 186 [(0, .ref ad_m), (1, .long x1), (3, .long x3), (5, .int x5), (6, .int x6), (7, .int x7), (8, .int x8)] [] [oMo ad_m m_thrown ar_text m_length m_kind m_place m_below ar_figures m_many m_point m_exponent ar_words m_from m_to m_whole m_scale m_rest m_huge, aI G ar_text 4096 m_text, aI G ar_figures 4096 m_figs, aI G ar_words 800 m_wds]) (k2 : (¬ x8 = 0) → (¬ x6 = 0) → gAt l G m_Mo_compare w0 res w1 216 [(0, .ref ad_m), (1, .long x1), (3, .long x3), (5, .int x5), (6, .int x6), (7, .int x7), (8, .int x8)] [.int (0 : Int32)] [oMo ad_m m_thrown ar_text m_length m_kind m_place m_below ar_figures m_many m_point m_exponent ar_words m_from m_to m_whole m_scale m_rest m_huge, aI G ar_text 4096 m_text, aI G ar_figures 4096 m_figs, aI G ar_words 800 m_wds]) : gAt l G m_Mo_compare w0 res w1 172 [(0, .ref ad_m), (1, .long x1), (3, .long x3), (5, .int x5), (6, .int x6), (7, .int x7), (8, .int x8)] [] [oMo ad_m m_thrown ar_text m_length m_kind m_place m_below ar_figures m_many m_point m_exponent ar_words m_from m_to m_whole m_scale m_rest m_huge, aI G ar_text 4096 m_text, aI G ar_figures 4096 m_figs, aI G ar_words 800 m_wds] := by
  refine a_iload 6 dMo_compare_172 rfl ?_
  refine a_if_eq 186 dMo_compare_174 (by decide) (fun c1 => ?_) (fun c1 => ?_)
  · exact (k0 c1)
  · refine a_iload 4 dMo_compare_177 rfl ?_
    refine a_if_eq 186 dMo_compare_179 (by decide) (fun c2 => ?_) (fun c2 => ?_)
    · exact (k1 c1 c2)
    · refine a_iconst (0 : Int32) dMo_compare_182 (by decide) ?_
      refine a_goto 216 dMo_compare_183 (by decide) ?_
      exact (k2 c1 c2)

set_option maxRecDepth 20000 in
theorem b_Mo_compare_186 {l : Launch} {G : gG} {w0 w1 : va_W} {res : Option Value} {ad_m ar_text ar_figures ar_words : Nat} {m_thrown m_length m_kind m_place m_below m_many m_point m_from m_to m_rest m_huge : Int32} {m_exponent m_whole m_scale : Int64} {m_text m_figs m_wds : Nat → Int32} {x1 : Int64} {x3 : Int64} {x5 : Int32} {x6 : Int32} {x7 : Int32} {x8 : Int32} (k0 : (x8 = 0) → (m_below = 0) → gAt l G m_Mo_compare w0 res w1 216 [(0, .ref ad_m), (1, .long x1), (3, .long x3), (5, .int x5), (6, .int x6), (7, .int x7), (8, .int x8)] [.int (1 : Int32)] [oMo ad_m m_thrown ar_text m_length m_kind m_place m_below ar_figures m_many m_point m_exponent ar_words m_from m_to m_whole m_scale m_rest m_huge, aI G ar_text 4096 m_text, aI G ar_figures 4096 m_figs, aI G ar_words 800 m_wds]) (k1 : (x8 = 0) → (¬ m_below = 0) → gAt l G m_Mo_compare w0 res w1 216 [(0, .ref ad_m), (1, .long x1), (3, .long x3), (5, .int x5), (6, .int x6), (7, .int x7), (8, .int x8)] [.int (-1 : Int32)] [oMo ad_m m_thrown ar_text m_length m_kind m_place m_below ar_figures m_many m_point m_exponent ar_words m_from m_to m_whole m_scale m_rest m_huge, aI G ar_text 4096 m_text, aI G ar_figures 4096 m_figs, aI G ar_words 800 m_wds]) (k2 : (¬ x8 = 0) → (x5 = 0) → gAt l G m_Mo_compare w0 res w1 216 [(0, .ref ad_m), (1, .long x1), (3, .long x3), (5, .int x5), (6, .int x6), (7, .int x7), (8, .int x8)] [.int (-1 : Int32)] [oMo ad_m m_thrown ar_text m_length m_kind m_place m_below ar_figures m_many m_point m_exponent ar_words m_from m_to m_whole m_scale m_rest m_huge, aI G ar_text 4096 m_text, aI G ar_figures 4096 m_figs, aI G ar_words 800 m_wds]) (k3 : (¬ x8 = 0) → (¬ x5 = 0) → gAt l G m_Mo_compare w0 res w1 216 [(0, .ref ad_m), (1, .long x1), (3, .long x3), (5, .int x5), (6, .int x6), (7, .int x7), (8, .int x8)] [.int (1 : Int32)] [oMo ad_m m_thrown ar_text m_length m_kind m_place m_below ar_figures m_many m_point m_exponent ar_words m_from m_to m_whole m_scale m_rest m_huge, aI G ar_text 4096 m_text, aI G ar_figures 4096 m_figs, aI G ar_words 800 m_wds]) : gAt l G m_Mo_compare w0 res w1 186 [(0, .ref ad_m), (1, .long x1), (3, .long x3), (5, .int x5), (6, .int x6), (7, .int x7), (8, .int x8)] [] [oMo ad_m m_thrown ar_text m_length m_kind m_place m_below ar_figures m_many m_point m_exponent ar_words m_from m_to m_whole m_scale m_rest m_huge, aI G ar_text 4096 m_text, aI G ar_figures 4096 m_figs, aI G ar_words 800 m_wds] := by
  refine a_iload 6 dMo_compare_186 rfl ?_
  refine a_if_eq 204 dMo_compare_188 (by decide) (fun c1 => ?_) (fun c1 => ?_)
  · refine a_aload_n 0 dMo_compare_204 rfl ?_
    refine a_get (ci := 6) (kx := 5) 0 dMo_compare_205 rfl I_Mo w_653 rfl (by decide) rfl ?_
    refine a_if_eq 215 dMo_compare_208 (by decide) (fun c2 => ?_) (fun c2 => ?_)
    · refine a_iconst (1 : Int32) dMo_compare_215 (by decide) ?_
      exact (k0 c1 c2)
    · refine a_iconst (-1 : Int32) dMo_compare_211 (by decide) ?_
      refine a_goto 216 dMo_compare_212 (by decide) ?_
      exact (k1 c1 c2)
  · refine a_iload 3 dMo_compare_191 rfl ?_
    refine a_if_eq 200 dMo_compare_193 (by decide) (fun c3 => ?_) (fun c3 => ?_)
    · refine a_iconst (-1 : Int32) dMo_compare_200 (by decide) ?_
      refine a_goto 216 dMo_compare_201 (by decide) ?_
      exact (k2 c1 c3)
    · refine a_iconst (1 : Int32) dMo_compare_196 (by decide) ?_
      refine a_goto 216 dMo_compare_197 (by decide) ?_
      exact (k3 c1 c3)

set_option maxRecDepth 20000 in
theorem b_Mo_compare_216 {l : Launch} {G : gG} {w0 w1 : va_W} {res : Option Value} {ad_m ar_text ar_figures ar_words : Nat} {m_thrown m_length m_kind m_place m_below m_many m_point m_from m_to m_rest m_huge : Int32} {m_exponent m_whole m_scale : Int64} {m_text m_figs m_wds : Nat → Int32} {x1 : Int64} {x3 : Int64} {x5 : Int32} {x6 : Int32} {x7 : Int32} {x8 : Int32} {v0 : Int32} (k0 : res = some (.int v0) ∧ [oMo ad_m m_thrown ar_text m_length m_kind m_place m_below ar_figures m_many m_point m_exponent ar_words m_from m_to m_whole m_scale m_rest m_huge, aI G ar_text 4096 m_text, aI G ar_figures 4096 m_figs, aI G ar_words 800 m_wds] = w1) : gAt l G m_Mo_compare w0 res w1 216 [(0, .ref ad_m), (1, .long x1), (3, .long x3), (5, .int x5), (6, .int x6), (7, .int x7), (8, .int x8)] [.int v0] [oMo ad_m m_thrown ar_text m_length m_kind m_place m_below ar_figures m_many m_point m_exponent ar_words m_from m_to m_whole m_scale m_rest m_huge, aI G ar_text 4096 m_text, aI G ar_figures 4096 m_figs, aI G ar_words 800 m_wds] := by
  exact a_iret (st := []) dMo_compare_216 rfl k0.1 k0.2

set_option maxRecDepth 20000 in
theorem b_Mo_compare_238 {l : Launch} {G : gG} {w0 w1 : va_W} {res : Option Value} {ad_m ar_text ar_figures ar_words : Nat} {m_thrown m_length m_kind m_place m_below m_many m_point m_from m_to m_rest m_huge : Int32} {m_exponent m_whole m_scale : Int64} {m_text m_figs m_wds : Nat → Int32} {x1 : Int64} {x3 : Int64} {x5 : Int32} {x6 : Int32} {x7 : Int32} {x8 : Int32} {v0 : Int32} (k0 : res = some (.int v0) ∧ [oMo ad_m m_thrown ar_text m_length m_kind m_place m_below ar_figures m_many m_point m_exponent ar_words m_from m_to m_whole m_scale m_rest m_huge, aI G ar_text 4096 m_text, aI G ar_figures 4096 m_figs, aI G ar_words 800 m_wds] = w1) : gAt l G m_Mo_compare w0 res w1 238 [(0, .ref ad_m), (1, .long x1), (3, .long x3), (5, .int x5), (6, .int x6), (7, .int x7), (8, .int x8)] [.int v0] [oMo ad_m m_thrown ar_text m_length m_kind m_place m_below ar_figures m_many m_point m_exponent ar_words m_from m_to m_whole m_scale m_rest m_huge, aI G ar_text 4096 m_text, aI G ar_figures 4096 m_figs, aI G ar_words 800 m_wds] := by
  exact a_iret (st := []) dMo_compare_238 rfl k0.1 k0.2

set_option maxRecDepth 20000 in
theorem k_Mo_compare_241 {l : Launch} {G : gG} {w0 w1 : va_W} {res : Option Value} {ad_m ar_text ar_figures ar_words : Nat} {m_thrown m_length m_kind m_place m_below m_many m_point m_from m_to m_rest m_huge : Int32} {m_exponent m_whole m_scale : Int64} {m_text m_figs m_wds : Nat → Int32} {x1 : Int64} {x3 : Int64} {x5 : Int32} {x6 : Int32} {x7 : Int32} {x8 : Int32} {v0 : Int64} {r : Int32} {m_thrown' m_length' m_kind' m_place' m_below' m_many' m_point' m_from' m_to' m_rest' m_huge' : Int32} {m_exponent' m_whole' m_scale' : Int64} {m_text' m_figs' m_wds' : Nat → Int32} (hc : gCt l G m_Mo_compareSize [.ref ad_m, .long v0] [oMo ad_m m_thrown ar_text m_length m_kind m_place m_below ar_figures m_many m_point m_exponent ar_words m_from m_to m_whole m_scale m_rest m_huge, aI G ar_text 4096 m_text, aI G ar_figures 4096 m_figs, aI G ar_words 800 m_wds] (some (.int r)) [oMo ad_m m_thrown' ar_text m_length' m_kind' m_place' m_below' ar_figures m_many' m_point' m_exponent' ar_words m_from' m_to' m_whole' m_scale' m_rest' m_huge', aI G ar_text 4096 m_text', aI G ar_figures 4096 m_figs', aI G ar_words 800 m_wds']) (k : gAt l G m_Mo_compare w0 res w1 244 [(0, .ref ad_m), (1, .long x1), (3, .long x3), (5, .int x5), (6, .int x6), (7, .int x7), (8, .int x8)] [.int r] [oMo ad_m m_thrown' ar_text m_length' m_kind' m_place' m_below' ar_figures m_many' m_point' m_exponent' ar_words m_from' m_to' m_whole' m_scale' m_rest' m_huge', aI G ar_text 4096 m_text', aI G ar_figures 4096 m_figs', aI G ar_words 800 m_wds']) : gAt l G m_Mo_compare w0 res w1 241 [(0, .ref ad_m), (1, .long x1), (3, .long x3), (5, .int x5), (6, .int x6), (7, .int x7), (8, .int x8)] [.long v0, .ref ad_m] [oMo ad_m m_thrown ar_text m_length m_kind m_place m_below ar_figures m_many m_point m_exponent ar_words m_from m_to m_whole m_scale m_rest m_huge, aI G ar_text 4096 m_text, aI G ar_figures 4096 m_figs, aI G ar_words 800 m_wds] :=
  a_callV (As := [.long v0]) (rest := []) (wc := [oMo ad_m m_thrown ar_text m_length m_kind m_place m_below ar_figures m_many m_point m_exponent ar_words m_from m_to m_whole m_scale m_rest m_huge, aI G ar_text 4096 m_text, aI G ar_figures 4096 m_figs, aI G ar_words 800 m_wds]) (wr := []) (w1c := [oMo ad_m m_thrown' ar_text m_length' m_kind' m_place' m_below' ar_figures m_many' m_point' m_exponent' ar_words m_from' m_to' m_whole' m_scale' m_rest' m_huge', aI G ar_text 4096 m_text', aI G ar_figures 4096 m_figs', aI G ar_words 800 m_wds']) (r := (some (.int r))) [oMo ad_m m_thrown' ar_text m_length' m_kind' m_place' m_below' ar_figures m_many' m_point' m_exponent' ar_words m_from' m_to' m_whole' m_scale' m_rest' m_huge', aI G ar_text 4096 m_text', aI G ar_figures 4096 m_figs', aI G ar_words 800 m_wds'] [0, 1, 2, 3] [] [0, 1, 2, 3] (ci := 6) (q0 := 0) hc dMo_compare_241 rfl ok_Mo_compareSize ⟨Nat.le_of_ble_eq_true rfl, Nat.le_of_ble_eq_true rfl⟩ w_849 w_851 sl_73 rfl rfl rfl rfl rfl rfl (by decide) rfl rfl (Nat.le_of_ble_eq_true rfl) k

set_option maxRecDepth 20000 in
theorem b_Mo_compare_244 {l : Launch} {G : gG} {w0 w1 : va_W} {res : Option Value} {ad_m ar_text ar_figures ar_words : Nat} {m_thrown m_length m_kind m_place m_below m_many m_point m_from m_to m_rest m_huge : Int32} {m_exponent m_whole m_scale : Int64} {m_text m_figs m_wds : Nat → Int32} {x1 : Int64} {x3 : Int64} {x5 : Int32} {x6 : Int32} {x7 : Int32} {x8 : Int32} {v0 : Int32} (k0 : (m_below = 0) → gAt l G m_Mo_compare w0 res w1 261 [(0, .ref ad_m), (1, .long x1), (3, .long x3), (5, .int x5), (6, .int x6), (7, .int x7), (8, .int x8), (9, .int v0)] [.int v0] [oMo ad_m m_thrown ar_text m_length m_kind m_place m_below ar_figures m_many m_point m_exponent ar_words m_from m_to m_whole m_scale m_rest m_huge, aI G ar_text 4096 m_text, aI G ar_figures 4096 m_figs, aI G ar_words 800 m_wds]) (k1 : (¬ m_below = 0) → gAt l G m_Mo_compare w0 res w1 261 [(0, .ref ad_m), (1, .long x1), (3, .long x3), (5, .int x5), (6, .int x6), (7, .int x7), (8, .int x8), (9, .int v0)] [.int (-v0)] [oMo ad_m m_thrown ar_text m_length m_kind m_place m_below ar_figures m_many m_point m_exponent ar_words m_from m_to m_whole m_scale m_rest m_huge, aI G ar_text 4096 m_text, aI G ar_figures 4096 m_figs, aI G ar_words 800 m_wds]) : gAt l G m_Mo_compare w0 res w1 244 [(0, .ref ad_m), (1, .long x1), (3, .long x3), (5, .int x5), (6, .int x6), (7, .int x7), (8, .int x8)] [.int v0] [oMo ad_m m_thrown ar_text m_length m_kind m_place m_below ar_figures m_many m_point m_exponent ar_words m_from m_to m_whole m_scale m_rest m_huge, aI G ar_text 4096 m_text, aI G ar_figures 4096 m_figs, aI G ar_words 800 m_wds] := by
  refine a_istore [(9, .int v0), (0, .ref ad_m), (1, .long x1), (3, .long x3), (5, .int x5), (6, .int x6), (7, .int x7), (8, .int x8)] dMo_compare_244 (by decide) rfl ?_
  refine a_aload_n 1 dMo_compare_246 rfl ?_
  refine a_get (ci := 6) (kx := 5) 0 dMo_compare_247 rfl I_Mo w_653 rfl (by decide) rfl ?_
  refine a_if_eq 259 dMo_compare_250 (by decide) (fun c1 => ?_) (fun c1 => ?_)
  · refine a_iload 0 dMo_compare_259 rfl ?_
    refine a_lv [(0, .ref ad_m), (1, .long x1), (3, .long x3), (5, .int x5), (6, .int x6), (7, .int x7), (8, .int x8), (9, .int v0)] [1, 2, 3, 4, 5, 6, 7, 0] rfl ?_
    exact (k0 c1)
  · refine a_iload 0 dMo_compare_253 rfl ?_
    refine a_ineg dMo_compare_255 ?_
    refine a_goto 261 dMo_compare_256 (by decide) ?_
    refine a_lv [(0, .ref ad_m), (1, .long x1), (3, .long x3), (5, .int x5), (6, .int x6), (7, .int x7), (8, .int x8), (9, .int v0)] [1, 2, 3, 4, 5, 6, 7, 0] rfl ?_
    exact (k1 c1)

set_option maxRecDepth 20000 in
theorem b_Mo_compare_261 {l : Launch} {G : gG} {w0 w1 : va_W} {res : Option Value} {ad_m ar_text ar_figures ar_words : Nat} {m_thrown m_length m_kind m_place m_below m_many m_point m_from m_to m_rest m_huge : Int32} {m_exponent m_whole m_scale : Int64} {m_text m_figs m_wds : Nat → Int32} {x1 : Int64} {x3 : Int64} {x5 : Int32} {x6 : Int32} {x7 : Int32} {x8 : Int32} {x9 : Int32} {v0 : Int32} (k0 : res = some (.int v0) ∧ [oMo ad_m m_thrown ar_text m_length m_kind m_place m_below ar_figures m_many m_point m_exponent ar_words m_from m_to m_whole m_scale m_rest m_huge, aI G ar_text 4096 m_text, aI G ar_figures 4096 m_figs, aI G ar_words 800 m_wds] = w1) : gAt l G m_Mo_compare w0 res w1 261 [(0, .ref ad_m), (1, .long x1), (3, .long x3), (5, .int x5), (6, .int x6), (7, .int x7), (8, .int x8), (9, .int x9)] [.int v0] [oMo ad_m m_thrown ar_text m_length m_kind m_place m_below ar_figures m_many m_point m_exponent ar_words m_from m_to m_whole m_scale m_rest m_huge, aI G ar_text 4096 m_text, aI G ar_figures 4096 m_figs, aI G ar_words 800 m_wds] := by
  exact a_iret (st := []) dMo_compare_261 rfl k0.1 k0.2

set_option maxRecDepth 20000 in
theorem b_Mo_compareSize_0 {l : Launch} {G : gG} {w0 w1 : va_W} {res : Option Value} {ad_m ar_text ar_figures ar_words : Nat} {m_thrown m_length m_kind m_place m_below m_many m_point m_from m_to m_rest m_huge : Int32} {m_exponent m_whole m_scale : Int64} {m_text m_figs m_wds : Nat → Int32} {x1 : Int64} (k0 : (m_kind = (2 : Int32)) → gAt l G m_Mo_compareSize w0 res w1 18 [(0, .ref ad_m), (1, .long x1), (3, .long (9218868437227405312 : Int64))] [] [oMo ad_m m_thrown ar_text m_length m_kind m_place m_below ar_figures m_many m_point m_exponent ar_words m_from m_to m_whole m_scale m_rest m_huge, aI G ar_text 4096 m_text, aI G ar_figures 4096 m_figs, aI G ar_words 800 m_wds]) (k1 : (¬ m_kind = (2 : Int32)) → (¬ (lg_cmp x1 (9218868437227405312 : Int64)) = 0) → gAt l G m_Mo_compareSize w0 res w1 48 [(0, .ref ad_m), (1, .long x1), (3, .long (9218868437227405312 : Int64))] [.int (-1074 : Int32), .int (53 : Int32), .ref ad_m] [oMo ad_m m_thrown ar_text m_length m_kind m_place m_below ar_figures m_many m_point m_exponent ar_words m_from m_to m_whole m_scale m_rest m_huge, aI G ar_text 4096 m_text, aI G ar_figures 4096 m_figs, aI G ar_words 800 m_wds]) (k2 : (¬ m_kind = (2 : Int32)) → ((lg_cmp x1 (9218868437227405312 : Int64)) = 0) → gAt l G m_Mo_compareSize w0 res w1 18 [(0, .ref ad_m), (1, .long x1), (3, .long (9218868437227405312 : Int64))] [] [oMo ad_m m_thrown ar_text m_length m_kind m_place m_below ar_figures m_many m_point m_exponent ar_words m_from m_to m_whole m_scale m_rest m_huge, aI G ar_text 4096 m_text, aI G ar_figures 4096 m_figs, aI G ar_words 800 m_wds]) : gAt l G m_Mo_compareSize w0 res w1 0 [(0, .ref ad_m), (1, .long x1)] [] [oMo ad_m m_thrown ar_text m_length m_kind m_place m_below ar_figures m_many m_point m_exponent ar_words m_from m_to m_whole m_scale m_rest m_huge, aI G ar_text 4096 m_text, aI G ar_figures 4096 m_figs, aI G ar_words 800 m_wds] := by
  refine a_ldc2 (9218868437227405312 : Int64) dMo_compareSize_0 w_848 ?_
  refine a_lstore_n [(3, .long (9218868437227405312 : Int64)), (0, .ref ad_m), (1, .long x1)] dMo_compareSize_3 rfl (by decide) rfl ?_
  refine a_aload_n 1 dMo_compareSize_4 rfl ?_
  refine a_get (ci := 6) (kx := 3) 0 dMo_compareSize_5 rfl I_Mo w_651 rfl (by decide) rfl ?_
  refine a_iconst (2 : Int32) dMo_compareSize_8 (by decide) ?_
  refine a_icmp_eq 18 dMo_compareSize_9 (by decide) (fun c1 => ?_) (fun c1 => ?_)
  · refine a_lv [(0, .ref ad_m), (1, .long x1), (3, .long (9218868437227405312 : Int64))] [1, 2, 0] rfl ?_
    exact (k0 c1)
  · refine a_lload_n 2 dMo_compareSize_12 rfl ?_
    refine a_lload_n 0 dMo_compareSize_13 rfl ?_
    refine a_lcmp dMo_compareSize_14 ?_
    refine a_if_ne 42 dMo_compareSize_15 (by decide) (fun c2 => ?_) (fun c2 => ?_)
    · refine a_aload_n 1 dMo_compareSize_42 rfl ?_
      refine a_bipush (53 : Int32) dMo_compareSize_43 (by decide) ?_
      refine a_sipush (-1074 : Int32) dMo_compareSize_45 (by decide) ?_
      refine a_lv [(0, .ref ad_m), (1, .long x1), (3, .long (9218868437227405312 : Int64))] [1, 2, 0] rfl ?_
      exact (k1 c1 c2)
    · refine a_lv [(0, .ref ad_m), (1, .long x1), (3, .long (9218868437227405312 : Int64))] [1, 2, 0] rfl ?_
      exact (k2 c1 c2)

set_option maxRecDepth 20000 in
theorem b_Mo_compareSize_18 {l : Launch} {G : gG} {w0 w1 : va_W} {res : Option Value} {ad_m ar_text ar_figures ar_words : Nat} {m_thrown m_length m_kind m_place m_below m_many m_point m_from m_to m_rest m_huge : Int32} {m_exponent m_whole m_scale : Int64} {m_text m_figs m_wds : Nat → Int32} {x1 : Int64} {x3 : Int64} (k0 : (m_kind = (2 : Int32)) → (¬ (lg_cmp x1 x3) = 0) → gAt l G m_Mo_compareSize w0 res w1 41 [(0, .ref ad_m), (1, .long x1), (3, .long x3)] [.int (1 : Int32)] [oMo ad_m m_thrown ar_text m_length m_kind m_place m_below ar_figures m_many m_point m_exponent ar_words m_from m_to m_whole m_scale m_rest m_huge, aI G ar_text 4096 m_text, aI G ar_figures 4096 m_figs, aI G ar_words 800 m_wds]) (k1 : (m_kind = (2 : Int32)) → ((lg_cmp x1 x3) = 0) → gAt l G m_Mo_compareSize w0 res w1 41 [(0, .ref ad_m), (1, .long x1), (3, .long x3)] [.int (0 : Int32)] [oMo ad_m m_thrown ar_text m_length m_kind m_place m_below ar_figures m_many m_point m_exponent ar_words m_from m_to m_whole m_scale m_rest m_huge, aI G ar_text 4096 m_text, aI G ar_figures 4096 m_figs, aI G ar_words 800 m_wds]) (k2 : (¬ m_kind = (2 : Int32)) → gAt l G m_Mo_compareSize w0 res w1 41 [(0, .ref ad_m), (1, .long x1), (3, .long x3)] [.int (-1 : Int32)] [oMo ad_m m_thrown ar_text m_length m_kind m_place m_below ar_figures m_many m_point m_exponent ar_words m_from m_to m_whole m_scale m_rest m_huge, aI G ar_text 4096 m_text, aI G ar_figures 4096 m_figs, aI G ar_words 800 m_wds]) : gAt l G m_Mo_compareSize w0 res w1 18 [(0, .ref ad_m), (1, .long x1), (3, .long x3)] [] [oMo ad_m m_thrown ar_text m_length m_kind m_place m_below ar_figures m_many m_point m_exponent ar_words m_from m_to m_whole m_scale m_rest m_huge, aI G ar_text 4096 m_text, aI G ar_figures 4096 m_figs, aI G ar_words 800 m_wds] := by
  refine a_aload_n 0 dMo_compareSize_18 rfl ?_
  refine a_get (ci := 6) (kx := 3) 0 dMo_compareSize_19 rfl I_Mo w_651 rfl (by decide) rfl ?_
  refine a_iconst (2 : Int32) dMo_compareSize_22 (by decide) ?_
  refine a_icmp_eq 30 dMo_compareSize_23 (by decide) (fun c1 => ?_) (fun c1 => ?_)
  · refine a_lload_n 1 dMo_compareSize_30 rfl ?_
    refine a_lload_n 2 dMo_compareSize_31 rfl ?_
    refine a_lcmp dMo_compareSize_32 ?_
    refine a_if_ne 40 dMo_compareSize_33 (by decide) (fun c2 => ?_) (fun c2 => ?_)
    · refine a_iconst (1 : Int32) dMo_compareSize_40 (by decide) ?_
      exact (k0 c1 c2)
    · refine a_iconst (0 : Int32) dMo_compareSize_36 (by decide) ?_
      refine a_goto 41 dMo_compareSize_37 (by decide) ?_
      exact (k1 c1 c2)
  · refine a_iconst (-1 : Int32) dMo_compareSize_26 (by decide) ?_
    refine a_goto 41 dMo_compareSize_27 (by decide) ?_
    exact (k2 c1)

set_option maxRecDepth 20000 in
theorem b_Mo_compareSize_41 {l : Launch} {G : gG} {w0 w1 : va_W} {res : Option Value} {ad_m ar_text ar_figures ar_words : Nat} {m_thrown m_length m_kind m_place m_below m_many m_point m_from m_to m_rest m_huge : Int32} {m_exponent m_whole m_scale : Int64} {m_text m_figs m_wds : Nat → Int32} {x1 : Int64} {x3 : Int64} {v0 : Int32} (k0 : res = some (.int v0) ∧ [oMo ad_m m_thrown ar_text m_length m_kind m_place m_below ar_figures m_many m_point m_exponent ar_words m_from m_to m_whole m_scale m_rest m_huge, aI G ar_text 4096 m_text, aI G ar_figures 4096 m_figs, aI G ar_words 800 m_wds] = w1) : gAt l G m_Mo_compareSize w0 res w1 41 [(0, .ref ad_m), (1, .long x1), (3, .long x3)] [.int v0] [oMo ad_m m_thrown ar_text m_length m_kind m_place m_below ar_figures m_many m_point m_exponent ar_words m_from m_to m_whole m_scale m_rest m_huge, aI G ar_text 4096 m_text, aI G ar_figures 4096 m_figs, aI G ar_words 800 m_wds] := by
  exact a_iret (st := []) dMo_compareSize_41 rfl k0.1 k0.2

set_option maxRecDepth 20000 in
theorem k_Mo_compareSize_48 {l : Launch} {G : gG} {w0 w1 : va_W} {res : Option Value} {ad_m ar_text ar_figures ar_words : Nat} {m_thrown m_length m_kind m_place m_below m_many m_point m_from m_to m_rest m_huge : Int32} {m_exponent m_whole m_scale : Int64} {m_text m_figs m_wds : Nat → Int32} {x1 : Int64} {x3 : Int64} {v0 : Int32} {v1 : Int32} {m_thrown' m_length' m_kind' m_place' m_below' m_many' m_point' m_from' m_to' m_rest' m_huge' : Int32} {m_exponent' m_whole' m_scale' : Int64} {m_text' m_figs' m_wds' : Nat → Int32} (hc : gCt l G m_Mo_find [.ref ad_m, .int v1, .int v0] [oMo ad_m m_thrown ar_text m_length m_kind m_place m_below ar_figures m_many m_point m_exponent ar_words m_from m_to m_whole m_scale m_rest m_huge, aI G ar_text 4096 m_text, aI G ar_figures 4096 m_figs, aI G ar_words 800 m_wds] none [oMo ad_m m_thrown' ar_text m_length' m_kind' m_place' m_below' ar_figures m_many' m_point' m_exponent' ar_words m_from' m_to' m_whole' m_scale' m_rest' m_huge', aI G ar_text 4096 m_text', aI G ar_figures 4096 m_figs', aI G ar_words 800 m_wds']) (k : gAt l G m_Mo_compareSize w0 res w1 51 [(0, .ref ad_m), (1, .long x1), (3, .long x3)] [] [oMo ad_m m_thrown' ar_text m_length' m_kind' m_place' m_below' ar_figures m_many' m_point' m_exponent' ar_words m_from' m_to' m_whole' m_scale' m_rest' m_huge', aI G ar_text 4096 m_text', aI G ar_figures 4096 m_figs', aI G ar_words 800 m_wds']) : gAt l G m_Mo_compareSize w0 res w1 48 [(0, .ref ad_m), (1, .long x1), (3, .long x3)] [.int v0, .int v1, .ref ad_m] [oMo ad_m m_thrown ar_text m_length m_kind m_place m_below ar_figures m_many m_point m_exponent ar_words m_from m_to m_whole m_scale m_rest m_huge, aI G ar_text 4096 m_text, aI G ar_figures 4096 m_figs, aI G ar_words 800 m_wds] :=
  a_callV (As := [.int v1, .int v0]) (rest := []) (wc := [oMo ad_m m_thrown ar_text m_length m_kind m_place m_below ar_figures m_many m_point m_exponent ar_words m_from m_to m_whole m_scale m_rest m_huge, aI G ar_text 4096 m_text, aI G ar_figures 4096 m_figs, aI G ar_words 800 m_wds]) (wr := []) (w1c := [oMo ad_m m_thrown' ar_text m_length' m_kind' m_place' m_below' ar_figures m_many' m_point' m_exponent' ar_words m_from' m_to' m_whole' m_scale' m_rest' m_huge', aI G ar_text 4096 m_text', aI G ar_figures 4096 m_figs', aI G ar_words 800 m_wds']) (r := none) [oMo ad_m m_thrown' ar_text m_length' m_kind' m_place' m_below' ar_figures m_many' m_point' m_exponent' ar_words m_from' m_to' m_whole' m_scale' m_rest' m_huge', aI G ar_text 4096 m_text', aI G ar_figures 4096 m_figs', aI G ar_words 800 m_wds'] [0, 1, 2, 3] [] [0, 1, 2, 3] (ci := 6) (q0 := 0) hc dMo_compareSize_48 rfl ok_Mo_find ⟨Nat.le_of_ble_eq_true rfl, Nat.le_of_ble_eq_true rfl⟩ w_781 w_783 sl_63 rfl rfl rfl rfl rfl rfl (by decide) rfl rfl (Nat.le_of_ble_eq_true rfl) k

set_option maxRecDepth 20000 in
theorem b_Mo_compareSize_51 {l : Launch} {G : gG} {w0 w1 : va_W} {res : Option Value} {ad_m ar_text ar_figures ar_words : Nat} {m_thrown m_length m_kind m_place m_below m_many m_point m_from m_to m_rest m_huge : Int32} {m_exponent m_whole m_scale : Int64} {m_text m_figs m_wds : Nat → Int32} {x1 : Int64} {x3 : Int64} (k0 : (m_huge = 0) → gAt l G m_Mo_compareSize w0 res w1 72 [(0, .ref ad_m), (1, .long x1), (3, .long x3)] [.int (-1074 : Int32), .int (53 : Int32), .long m_whole, .ref ad_m] [oMo ad_m m_thrown ar_text m_length m_kind m_place m_below ar_figures m_many m_point m_exponent ar_words m_from m_to m_whole m_scale m_rest m_huge, aI G ar_text 4096 m_text, aI G ar_figures 4096 m_figs, aI G ar_words 800 m_wds]) (k1 : (¬ m_huge = 0) → gAt l G m_Mo_compareSize w0 res w1 75 [(0, .ref ad_m), (1, .long x1), (3, .long x3)] [.long x3] [oMo ad_m m_thrown ar_text m_length m_kind m_place m_below ar_figures m_many m_point m_exponent ar_words m_from m_to m_whole m_scale m_rest m_huge, aI G ar_text 4096 m_text, aI G ar_figures 4096 m_figs, aI G ar_words 800 m_wds]) : gAt l G m_Mo_compareSize w0 res w1 51 [(0, .ref ad_m), (1, .long x1), (3, .long x3)] [] [oMo ad_m m_thrown ar_text m_length m_kind m_place m_below ar_figures m_many m_point m_exponent ar_words m_from m_to m_whole m_scale m_rest m_huge, aI G ar_text 4096 m_text, aI G ar_figures 4096 m_figs, aI G ar_words 800 m_wds] := by
  refine a_aload_n 0 dMo_compareSize_51 rfl ?_
  refine a_get (ci := 6) (kx := 16) 0 dMo_compareSize_52 rfl I_Mo w_664 rfl (by decide) rfl ?_
  refine a_if_eq 62 dMo_compareSize_55 (by decide) (fun c1 => ?_) (fun c1 => ?_)
  · refine a_aload_n 0 dMo_compareSize_62 rfl ?_
    refine a_aload_n 0 dMo_compareSize_63 rfl ?_
    refine a_get (ci := 6) (kx := 13) 0 dMo_compareSize_64 rfl I_Mo w_661 rfl (by decide) rfl ?_
    refine a_bipush (53 : Int32) dMo_compareSize_67 (by decide) ?_
    refine a_sipush (-1074 : Int32) dMo_compareSize_69 (by decide) ?_
    exact (k0 c1)
  · refine a_lload_n 2 dMo_compareSize_58 rfl ?_
    refine a_goto 75 dMo_compareSize_59 (by decide) ?_
    exact (k1 c1)

set_option maxRecDepth 20000 in
theorem k_Mo_compareSize_72 {l : Launch} {G : gG} {w0 w1 : va_W} {res : Option Value} {ad_m ar_text ar_figures ar_words : Nat} {m_thrown m_length m_kind m_place m_below m_many m_point m_from m_to m_rest m_huge : Int32} {m_exponent m_whole m_scale : Int64} {m_text m_figs m_wds : Nat → Int32} {x1 : Int64} {x3 : Int64} {v0 : Int32} {v1 : Int32} {v2 : Int64} {r : Int64} {m_thrown' m_length' m_kind' m_place' m_below' m_many' m_point' m_from' m_to' m_rest' m_huge' : Int32} {m_exponent' m_whole' m_scale' : Int64} {m_text' m_figs' m_wds' : Nat → Int32} (hc : gCt l G m_Mo_pack [.ref ad_m, .long v2, .int v1, .int v0] [oMo ad_m m_thrown ar_text m_length m_kind m_place m_below ar_figures m_many m_point m_exponent ar_words m_from m_to m_whole m_scale m_rest m_huge, aI G ar_text 4096 m_text, aI G ar_figures 4096 m_figs, aI G ar_words 800 m_wds] (some (.long r)) [oMo ad_m m_thrown' ar_text m_length' m_kind' m_place' m_below' ar_figures m_many' m_point' m_exponent' ar_words m_from' m_to' m_whole' m_scale' m_rest' m_huge', aI G ar_text 4096 m_text', aI G ar_figures 4096 m_figs', aI G ar_words 800 m_wds']) (k : gAt l G m_Mo_compareSize w0 res w1 75 [(0, .ref ad_m), (1, .long x1), (3, .long x3)] [.long r] [oMo ad_m m_thrown' ar_text m_length' m_kind' m_place' m_below' ar_figures m_many' m_point' m_exponent' ar_words m_from' m_to' m_whole' m_scale' m_rest' m_huge', aI G ar_text 4096 m_text', aI G ar_figures 4096 m_figs', aI G ar_words 800 m_wds']) : gAt l G m_Mo_compareSize w0 res w1 72 [(0, .ref ad_m), (1, .long x1), (3, .long x3)] [.int v0, .int v1, .long v2, .ref ad_m] [oMo ad_m m_thrown ar_text m_length m_kind m_place m_below ar_figures m_many m_point m_exponent ar_words m_from m_to m_whole m_scale m_rest m_huge, aI G ar_text 4096 m_text, aI G ar_figures 4096 m_figs, aI G ar_words 800 m_wds] :=
  a_callV (As := [.long v2, .int v1, .int v0]) (rest := []) (wc := [oMo ad_m m_thrown ar_text m_length m_kind m_place m_below ar_figures m_many m_point m_exponent ar_words m_from m_to m_whole m_scale m_rest m_huge, aI G ar_text 4096 m_text, aI G ar_figures 4096 m_figs, aI G ar_words 800 m_wds]) (wr := []) (w1c := [oMo ad_m m_thrown' ar_text m_length' m_kind' m_place' m_below' ar_figures m_many' m_point' m_exponent' ar_words m_from' m_to' m_whole' m_scale' m_rest' m_huge', aI G ar_text 4096 m_text', aI G ar_figures 4096 m_figs', aI G ar_words 800 m_wds']) (r := (some (.long r))) [oMo ad_m m_thrown' ar_text m_length' m_kind' m_place' m_below' ar_figures m_many' m_point' m_exponent' ar_words m_from' m_to' m_whole' m_scale' m_rest' m_huge', aI G ar_text 4096 m_text', aI G ar_figures 4096 m_figs', aI G ar_words 800 m_wds'] [0, 1, 2, 3] [] [0, 1, 2, 3] (ci := 6) (q0 := 0) hc dMo_compareSize_72 rfl ok_Mo_pack ⟨Nat.le_of_ble_eq_true rfl, Nat.le_of_ble_eq_true rfl⟩ w_829 w_831 sl_72 rfl rfl rfl rfl rfl rfl (by decide) rfl rfl (Nat.le_of_ble_eq_true rfl) k

set_option maxRecDepth 20000 in
theorem b_Mo_compareSize_75 {l : Launch} {G : gG} {w0 w1 : va_W} {res : Option Value} {ad_m ar_text ar_figures ar_words : Nat} {m_thrown m_length m_kind m_place m_below m_many m_point m_from m_to m_rest m_huge : Int32} {m_exponent m_whole m_scale : Int64} {m_text m_figs m_wds : Nat → Int32} {x1 : Int64} {x3 : Int64} {v0 : Int64} (k0 : ((lg_cmp v0 x3) = 0) → gAt l G m_Mo_compareSize w0 res w1 91 [(0, .ref ad_m), (1, .long x1), (3, .long x3), (5, .long v0)] [] [oMo ad_m m_thrown ar_text m_length m_kind m_place m_below ar_figures m_many m_point m_exponent ar_words m_from m_to m_whole m_scale m_rest m_huge, aI G ar_text 4096 m_text, aI G ar_figures 4096 m_figs, aI G ar_words 800 m_wds]) (k1 : (¬ (lg_cmp v0 x3) = 0) → ((lg_cmp v0 x1) ≤ 0) → (0 ≤ (lg_cmp v0 x1)) → (¬ m_rest = 0) → gAt l G m_Mo_compareSize w0 res w1 116 [(0, .ref ad_m), (1, .long x1), (3, .long x3), (5, .long v0)] [.int (1 : Int32)] [oMo ad_m m_thrown ar_text m_length m_kind m_place m_below ar_figures m_many m_point m_exponent ar_words m_from m_to m_whole m_scale m_rest m_huge, aI G ar_text 4096 m_text, aI G ar_figures 4096 m_figs, aI G ar_words 800 m_wds]) (k2 : (¬ (lg_cmp v0 x3) = 0) → ((lg_cmp v0 x1) ≤ 0) → (0 ≤ (lg_cmp v0 x1)) → (m_rest = 0) → gAt l G m_Mo_compareSize w0 res w1 116 [(0, .ref ad_m), (1, .long x1), (3, .long x3), (5, .long v0)] [.int (0 : Int32)] [oMo ad_m m_thrown ar_text m_length m_kind m_place m_below ar_figures m_many m_point m_exponent ar_words m_from m_to m_whole m_scale m_rest m_huge, aI G ar_text 4096 m_text, aI G ar_figures 4096 m_figs, aI G ar_words 800 m_wds]) (k3 : (¬ (lg_cmp v0 x3) = 0) → ((lg_cmp v0 x1) ≤ 0) → (¬ 0 ≤ (lg_cmp v0 x1)) → gAt l G m_Mo_compareSize w0 res w1 116 [(0, .ref ad_m), (1, .long x1), (3, .long x3), (5, .long v0)] [.int (-1 : Int32)] [oMo ad_m m_thrown ar_text m_length m_kind m_place m_below ar_figures m_many m_point m_exponent ar_words m_from m_to m_whole m_scale m_rest m_huge, aI G ar_text 4096 m_text, aI G ar_figures 4096 m_figs, aI G ar_words 800 m_wds]) (k4 : (¬ (lg_cmp v0 x3) = 0) → (¬ (lg_cmp v0 x1) ≤ 0) → gAt l G m_Mo_compareSize w0 res w1 91 [(0, .ref ad_m), (1, .long x1), (3, .long x3), (5, .long v0)] [] [oMo ad_m m_thrown ar_text m_length m_kind m_place m_below ar_figures m_many m_point m_exponent ar_words m_from m_to m_whole m_scale m_rest m_huge, aI G ar_text 4096 m_text, aI G ar_figures 4096 m_figs, aI G ar_words 800 m_wds]) : gAt l G m_Mo_compareSize w0 res w1 75 [(0, .ref ad_m), (1, .long x1), (3, .long x3)] [.long v0] [oMo ad_m m_thrown ar_text m_length m_kind m_place m_below ar_figures m_many m_point m_exponent ar_words m_from m_to m_whole m_scale m_rest m_huge, aI G ar_text 4096 m_text, aI G ar_figures 4096 m_figs, aI G ar_words 800 m_wds] := by
  refine a_lstore [(5, .long v0), (0, .ref ad_m), (1, .long x1), (3, .long x3)] dMo_compareSize_75 (by decide) rfl ?_
  refine a_lload 0 dMo_compareSize_77 rfl ?_
  refine a_lload_n 3 dMo_compareSize_79 rfl ?_
  refine a_lcmp dMo_compareSize_80 ?_
  refine a_if_eq 91 dMo_compareSize_81 (by decide) (fun c1 => ?_) (fun c1 => ?_)
  · refine a_lv [(0, .ref ad_m), (1, .long x1), (3, .long x3), (5, .long v0)] [1, 2, 3, 0] rfl ?_
    exact (k0 c1)
  · refine a_lload 0 dMo_compareSize_84 rfl ?_
    refine a_lload_n 2 dMo_compareSize_86 rfl ?_
    refine a_lcmp dMo_compareSize_87 ?_
    refine a_if_le 93 dMo_compareSize_88 (by decide) (fun c2 => ?_) (fun c2 => ?_)
    · refine a_lload 0 dMo_compareSize_93 rfl ?_
      refine a_lload_n 2 dMo_compareSize_95 rfl ?_
      refine a_lcmp dMo_compareSize_96 ?_
      refine a_if_ge 104 dMo_compareSize_97 (by decide) (fun c3 => ?_) (fun c3 => ?_)
      · refine a_aload_n 1 dMo_compareSize_104 rfl ?_
        refine a_get (ci := 6) (kx := 15) 0 dMo_compareSize_105 rfl I_Mo w_663 rfl (by decide) rfl ?_
        refine a_if_ne 115 dMo_compareSize_108 (by decide) (fun c4 => ?_) (fun c4 => ?_)
        · refine a_iconst (1 : Int32) dMo_compareSize_115 (by decide) ?_
          refine a_lv [(0, .ref ad_m), (1, .long x1), (3, .long x3), (5, .long v0)] [1, 2, 3, 0] rfl ?_
          exact (k1 c1 c2 c3 c4)
        · refine a_iconst (0 : Int32) dMo_compareSize_111 (by decide) ?_
          refine a_goto 116 dMo_compareSize_112 (by decide) ?_
          refine a_lv [(0, .ref ad_m), (1, .long x1), (3, .long x3), (5, .long v0)] [1, 2, 3, 0] rfl ?_
          exact (k2 c1 c2 c3 c4)
      · refine a_iconst (-1 : Int32) dMo_compareSize_100 (by decide) ?_
        refine a_goto 116 dMo_compareSize_101 (by decide) ?_
        refine a_lv [(0, .ref ad_m), (1, .long x1), (3, .long x3), (5, .long v0)] [1, 2, 3, 0] rfl ?_
        exact (k3 c1 c2 c3)
    · refine a_lv [(0, .ref ad_m), (1, .long x1), (3, .long x3), (5, .long v0)] [1, 2, 3, 0] rfl ?_
      exact (k4 c1 c2)

set_option maxRecDepth 20000 in
theorem b_Mo_compareSize_91 {l : Launch} {G : gG} {w0 w1 : va_W} {res : Option Value} {ad_m ar_text ar_figures ar_words : Nat} {m_thrown m_length m_kind m_place m_below m_many m_point m_from m_to m_rest m_huge : Int32} {m_exponent m_whole m_scale : Int64} {m_text m_figs m_wds : Nat → Int32} {x1 : Int64} {x3 : Int64} {x5 : Int64} (k0 : res = some (.int (1 : Int32)) ∧ [oMo ad_m m_thrown ar_text m_length m_kind m_place m_below ar_figures m_many m_point m_exponent ar_words m_from m_to m_whole m_scale m_rest m_huge, aI G ar_text 4096 m_text, aI G ar_figures 4096 m_figs, aI G ar_words 800 m_wds] = w1) : gAt l G m_Mo_compareSize w0 res w1 91 [(0, .ref ad_m), (1, .long x1), (3, .long x3), (5, .long x5)] [] [oMo ad_m m_thrown ar_text m_length m_kind m_place m_below ar_figures m_many m_point m_exponent ar_words m_from m_to m_whole m_scale m_rest m_huge, aI G ar_text 4096 m_text, aI G ar_figures 4096 m_figs, aI G ar_words 800 m_wds] := by
  refine a_iconst (1 : Int32) dMo_compareSize_91 (by decide) ?_
  exact a_iret (st := []) dMo_compareSize_92 rfl k0.1 k0.2

set_option maxRecDepth 20000 in
theorem b_Mo_compareSize_116 {l : Launch} {G : gG} {w0 w1 : va_W} {res : Option Value} {ad_m ar_text ar_figures ar_words : Nat} {m_thrown m_length m_kind m_place m_below m_many m_point m_from m_to m_rest m_huge : Int32} {m_exponent m_whole m_scale : Int64} {m_text m_figs m_wds : Nat → Int32} {x1 : Int64} {x3 : Int64} {x5 : Int64} {v0 : Int32} (k0 : res = some (.int v0) ∧ [oMo ad_m m_thrown ar_text m_length m_kind m_place m_below ar_figures m_many m_point m_exponent ar_words m_from m_to m_whole m_scale m_rest m_huge, aI G ar_text 4096 m_text, aI G ar_figures 4096 m_figs, aI G ar_words 800 m_wds] = w1) : gAt l G m_Mo_compareSize w0 res w1 116 [(0, .ref ad_m), (1, .long x1), (3, .long x3), (5, .long x5)] [.int v0] [oMo ad_m m_thrown ar_text m_length m_kind m_place m_below ar_figures m_many m_point m_exponent ar_words m_from m_to m_whole m_scale m_rest m_huge, aI G ar_text 4096 m_text, aI G ar_figures 4096 m_figs, aI G ar_words 800 m_wds] := by
  exact a_iret (st := []) dMo_compareSize_116 rfl k0.1 k0.2

