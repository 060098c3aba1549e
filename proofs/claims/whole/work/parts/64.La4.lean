/-! THE LAW: its beginning -/
theorem w_22 : (Jvm.Cond.classLink "ExactReaderLaw" (8 : Nat) "ExactReader") ∈ g_tbl := List.mem_filter.mpr ⟨List.mem_append_right _ (List.mem_of_getElem? (i := 22) (by decide +kernel)), by decide +kernel⟩
theorem w_23 : (Jvm.Cond.instantiable "ExactReader" (5 : Nat)) ∈ g_tbl := List.mem_filter.mpr ⟨List.mem_append_right _ (List.mem_of_getElem? (i := 23) (by decide +kernel)), by decide +kernel⟩
theorem w_24 : (Jvm.Cond.methodLink "ExactReaderLaw" (37 : Nat) ({ cls := "ExactReader", name := "<init>", desc := "()V" } : Jvm.MethodName)) ∈ g_tbl := List.mem_filter.mpr ⟨List.mem_append_right _ (List.mem_of_getElem? (i := 24) (by decide +kernel)), by decide +kernel⟩
theorem w_25 : (Jvm.Cond.instanceMethod ({ cls := "ExactReader", name := "<init>", desc := "()V" } : Jvm.MethodName)) ∈ g_tbl := List.mem_filter.mpr ⟨List.mem_append_right _ (List.mem_of_getElem? (i := 25) (by decide +kernel)), by decide +kernel⟩
theorem w_642 : (Jvm.Cond.classLink "ExactReaderLaw" (38 : Nat) "ExactReaderModel") ∈ g_tbl := List.mem_filter.mpr ⟨List.mem_append_right _ (List.mem_of_getElem? (i := 642) (by decide +kernel)), by decide +kernel⟩
theorem w_643 : (Jvm.Cond.instantiable "ExactReaderModel" (17 : Nat)) ∈ g_tbl := List.mem_filter.mpr ⟨List.mem_append_right _ (List.mem_of_getElem? (i := 643) (by decide +kernel)), by decide +kernel⟩
theorem w_644 : (Jvm.Cond.methodLink "ExactReaderLaw" (40 : Nat) ({ cls := "ExactReaderModel", name := "<init>", desc := "()V" } : Jvm.MethodName)) ∈ g_tbl := List.mem_filter.mpr ⟨List.mem_append_right _ (List.mem_of_getElem? (i := 644) (by decide +kernel)), by decide +kernel⟩
theorem w_645 : (Jvm.Cond.instanceMethod ({ cls := "ExactReaderModel", name := "<init>", desc := "()V" } : Jvm.MethodName)) ∈ g_tbl := List.mem_filter.mpr ⟨List.mem_append_right _ (List.mem_of_getElem? (i := 645) (by decide +kernel)), by decide +kernel⟩
theorem w_854 : (Jvm.Cond.arrayClass Jvm.ClassFile.FieldType.long) ∈ g_tbl := List.mem_filter.mpr ⟨List.mem_append_right _ (List.mem_of_getElem? (i := 854) (by decide +kernel)), by decide +kernel⟩
theorem L_start {l : Launch} {G : gG} {sa sn : Nat} {sf : Nat → Int32} {Q : gE} (hl9 : l.stackTraces = false) (hsn : sn ≤ 1536) (kR : ∀ kc ns lv ws, kc ≤ 1045 → ns ≤ 21473 → gA3 l G mx_La_law (tbL sa sn sf) [] Q kc ns 566 lv [.int 1] ws) :
    gA3 l G mx_La_law (tbL sa sn sf) [] Q 0 0 0 [(0, .ref sa)] [] [] := by
  refine z_new (ci := 5) ty_Er [.null, .null, .null, .null, .null] dLa_law_0 rfl I_Er tyo_Er w_22 w_23 w_1 (by decide) (by decide) (by decide) (fun x => z_dup dLa_law_3 rfl (z_callI4 (As := []) (rest := [.ref x]) (wc := [(x, .inr (5, [.null, .null, .null, .null, .null]))]) (wr := []) [0] [] (b := x) i_Er dLa_law_4 rfl okx_Er_init ⟨Nat.le_of_ble_eq_true rfl, Nat.le_of_ble_eq_true rfl⟩ w_24 w_25 rfl rfl (by decide) (by decide) rfl rfl rfl rfl (by decide) (Nat.le_of_ble_eq_true rfl) (fun w1 hw => ?_)))
  obtain ⟨t, tq, e, m, q, s, o, r, rfl⟩ := hw
  refine z_astore_n [(1, .ref x), (0, .ref sa)] dLa_law_7 rfl (by decide) rfl ?_
  refine z_ws (wX G x t tq e m q s o r (fun _ => 0) 0 0 0 0 0 0 0 0 0 0 0 0 (fun _ => 0) 0 0 1 0 0 0 0 0 0 0 0 0 0) [0, 1, 2, 3, 4, 5, 6, 7, 8] rfl rfl ?_
  refine z_new (ci := 6) ty_Mo [.int 0, .null, .int 0, .int 0, .int 0, .int 0, .null, .int 0, .int 0, .long 0, .null, .int 0, .int 0, .long 0, .long 0, .int 0, .int 0] dLa_law_8 rfl I_Mo tyo_Mo w_642 w_643 w_7 (by decide) (by decide) (by decide) (fun mo => z_dup dLa_law_11 rfl (z_callI4 (As := []) (rest := [.ref mo]) (wc := [(mo, .inr (6, [.int 0, .null, .int 0, .int 0, .int 0, .int 0, .null, .int 0, .int 0, .long 0, .null, .int 0, .int 0, .long 0, .long 0, .int 0, .int 0]))]) (wr := (wX G x t tq e m q s o r (fun _ => 0) 0 0 0 0 0 0 0 0 0 0 0 0 (fun _ => 0) 0 0 1 0 0 0 0 0 0 0 0 0 0)) [9] [0, 1, 2, 3, 4, 5, 6, 7, 8] (b := mo) i_Mo dLa_law_12 rfl okx_Mo_init ⟨Nat.le_of_ble_eq_true rfl, Nat.le_of_ble_eq_true rfl⟩ w_644 w_645 rfl rfl (by decide) (by decide) rfl rfl rfl rfl (by decide) (Nat.le_of_ble_eq_true rfl) (fun w1 hw => ?_)))
  obtain ⟨ta, fa, wa, rfl⟩ := hw
  refine z_astore_n [(2, .ref mo), (1, .ref x), (0, .ref sa)] dLa_law_15 rfl (by decide) rfl ?_
  refine z_iconst (1 : Int32) dLa_law_16 (by decide) (z_newaL 1 dLa_law_17 w_854 (by decide) (by decide) (by decide) (by decide) (by decide) (fun oa => ?_))
  refine z_astore_n [(3, .ref oa), (2, .ref mo), (1, .ref x), (0, .ref sa)] dLa_law_19 rfl (by decide) rfl ?_
  refine z_iconst (0 : Int32) dLa_law_20 (by decide) (z_istore [(4, .int 0), (3, .ref oa), (2, .ref mo), (1, .ref x), (0, .ref sa)] dLa_law_21 (by decide) rfl ?_)
  refine z_lv [(0, .ref sa), (1, .ref x), (2, .ref mo), (3, .ref oa), (4, .int 0)] [4, 3, 2, 1, 0] rfl ?_
  have hT0 : tCh (fun _ => 0) 0 := ⟨Nat.zero_le _, fun j hj => by omega, fun _ _ => rfl⟩
  exact L_loop hl9 hsn kR (sn / 3) 0 (fun _ => 0) 0 0 (wX G x t tq e m q s o r (fun _ => 0) 0 0 0 0 0 0 0 0 0 0 0 0 (fun _ => 0) 0 0 1 0 0 0 0 0 0 0 0 0 0) (wM G mo ta fa wa 0 0 0 0 0 0 0 0 0 0 0 0 0 0 (fun _ => 0) (fun _ => 0) (fun _ => 0)) (fun _ => 0) (by omega)
    ⟨_, _, _, _, _, _, _, _, _, _, _, _, _, _, _, _, _, _, _, _, _, _, _, _, _, _, _, rfl, ⟨rfl, hT0, fun j hj => by omega⟩, Or.inl rfl⟩
    ⟨_, _, _, _, _, _, _, _, _, _, _, _, _, _, _, _, rfl, ⟨rfl, hT0, fun j hj => by omega⟩⟩
