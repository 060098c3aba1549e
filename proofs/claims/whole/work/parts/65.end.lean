/-! THE CLAIM OUT OF ONE WALK OF THE LAW'S BODY. Your part is whole_start (and what it stands on); all else here is the same for every law, but numbers. -/
def R_law : String := "ExactReaderLaw"
def lw_P (b : Addr) (xs : List Int32) (args : Array Value) (s : State) : Prop := args = #[.ref b] ∧ s.IntsAt b xs ∧ xs.length ≤ 1536 ∧ (Jvm.Cond.and given_1 narrow_1).before args s = true
def lw_Q (_ : Array Value) (s : State) (o : Outcome) (t : State) : Prop := o = .returned (some (.int 1)) ∧ Framed s o t [] 1045 21473
def lw_Z (below : List Frame) (a : Array Value) (s : State) : State → Prop := fun t => ∃ o, t.status = .running ∧ Ended t below o ∧ lw_Q a s o t
/-- what holds at the law's entry: the machine, the code, the tables' words (any of lw_tbl by 'hts w (by decide +kernel)'), the script of L ints xs at the cell b, what the Statement gives of the start (any of its parts by flat_of_before) -/
def lw_At (p : Program) (s : State) (m : MethodId) (meth : Method) (c : Code) (b L : Nat) (xs : Nat → Int32) : Prop :=
  p.tables.exec = Jvm.exec ∧ c.code = code ∧ meth.sig.returnType = ret ∧ c.maxLocals = 8 ∧ s.vm.findClass R_law = some m.cls ∧ (∀ w ∈ lw_tbl, w.before #[Value.ref b] s = true) ∧ va_X b L xs s s.heap ∧ b < s.heap.size ∧ meth.locks = false ∧ (Jvm.Cond.and given_1 narrow_1).before #[Value.ref b] s = true ∧ c.exceptionTable.toList = [] ∧ meth.name = "law"
theorem z_lawret {l : Launch} {G : gG} {sa sn : Nat} {sf : Nat → Int32} {kc ns : Nat} {lv : List (Nat × Value)} {ws : va_W} (h1 : kc ≤ 1045) (h2 : ns ≤ 21473) : gA3 l G mx_La_law (tbL sa sn sf) [] (.inr (.inr (.inr lw_Z))) kc ns 566 lv [.int 1] ws := by
  intro p e s m args below meth c A H locs ls hC hT hP hD hS hl
  refine W.widen h1 h2 (va_forget (fun q hq => ?_) ?_)
  · have h := hS.2.2 q hq
    rw [hC.2.2.2.2.2.2.2.1] at h
    rcases h with ⟨k, en, h⟩ | h
    · cases h
    · exact h
  · intro T hT0 X
    have hr : meth.sig.returnType = some .boolean := hC.ret
    have hdg : decode cLa_law 566 = .ok (.ireturn, 1) := dLa_law_566
    have hb : c.code = cLa_law := hC.2.1
    obtain ⟨fs, hret, hrun, hended, hW, hframe⟩ := X.leave (v := some (.int 1)) (hlocks := hC.nl) (fun h => by rw [hr] at h; cases h)
    have hmeth' : T.vm.method? m = some meth := X.method'
    refine ⟨T.setFrames fs, ?_, .returned (some (.int 1)), hrun, hended, rfl, ⟨_, rfl⟩, hW, hframe⟩
    jvm_step X.here [X.here.top, hC.1, hb, hdg, hmeth', hr, narrow_b1]
    (try refine ⟨rfl, ?_⟩); (try refine ⟨rfl, ?_⟩)
    first | (intro acts; rw [hret _ acts rfl rfl rfl]) | rw [hret _ _ rfl rfl rfl]
    exact Steps.refl _
theorem g_exof {b : Nat} {s : State} (hts : ∀ w ∈ lw_tbl, w.before #[Value.ref b] s = true) : g_ex s := by
  intro w hw
  simp only [g_exw, List.mem_cons, List.not_mem_nil, or_false] at hw
  rcases hw with rfl | rfl | rfl | rfl | rfl
  · exact va_tabs rfl rfl (hts (Jvm.Cond.castable "java/lang/IllegalArgumentException" "java/lang/IllegalArgumentException") (List.mem_append_right _ (List.mem_of_getElem? (i := 321) (by decide +kernel))))
  · exact va_tabs rfl rfl (hts (Jvm.Cond.castable "java/lang/IllegalStateException" "java/lang/IllegalStateException") (List.mem_append_right _ (List.mem_of_getElem? (i := 403) (by decide +kernel))))
  · exact va_tabs rfl rfl (hts (Jvm.Cond.declares ({ cls := "java/lang/RuntimeException", name := "<init>", desc := "(Ljava/lang/String;)V" } : Jvm.MethodName)) (List.mem_append_right _ (List.mem_of_getElem? (i := 323) (by decide +kernel))))
  · exact va_tabs rfl rfl (hts (Jvm.Cond.declares ({ cls := "java/lang/Exception", name := "<init>", desc := "(Ljava/lang/String;)V" } : Jvm.MethodName)) (List.mem_append_right _ (List.mem_of_getElem? (i := 325) (by decide +kernel))))
  · exact va_tabs rfl rfl (hts (Jvm.Cond.declares ({ cls := "java/lang/Throwable", name := "<init>", desc := "(Ljava/lang/String;)V" } : Jvm.MethodName)) (List.mem_append_right _ (List.mem_of_getElem? (i := 327) (by decide +kernel))))
theorem a_nil {sz a : Nat} (h : a < sz) : ¬ va_A [] sz a := by
  rintro (⟨k, e, h9⟩ | h9)
  · cases h9
  · omega
theorem g_Kof {b : Nat} {s : State} (hg : ∀ w ∈ g_tbl, w.before #[Value.ref b] s = true) : ∃ (D : va_G) (cC cI cL : ClassId), va_K D vwCl [(cC, .char), (cI, .int), (cL, .long)] s := by
  obtain ⟨c0, i0, k0⟩ := u_known hg I_Ms (hg _ w_88)
  obtain ⟨c1, i1, k1⟩ := u_known hg I_Na (hg _ w_94)
  obtain ⟨c2, i2, k2⟩ := u_known hg I_Nt (hg _ w_31)
  obtain ⟨c3, i3, k3⟩ := u_known hg I_Ro (hg _ w_138)
  obtain ⟨c4, i4, k4⟩ := u_known hg I_Si (hg _ w_119)
  obtain ⟨c5, i5, k5⟩ := u_known hg I_Er (hg _ w_23)
  obtain ⟨c6, i6, k6⟩ := u_known hg I_Mo (hg _ w_643)
  obtain ⟨cC, kC, mC, a1, a2, a3⟩ := Cond.arrayClass_spec (hg _ w_86)
  obtain ⟨cI, kI, mI, b1, b2, b3⟩ := Cond.arrayClass_spec (hg _ w_113)
  obtain ⟨cL, kL, mL, d1, d2, d3⟩ := Cond.arrayClass_spec (hg _ w_854)
  refine ⟨(fun c => [c0, c1, c2, c3, c4, c5, c6].getD c 0, fun c => [i0, i1, i2, i3, i4, i5, i6].getD c (fun _ => 0)), cC, cI, cL, fun c q h => ?_, fun c q h => ?_⟩
  · have hc : c < 7 := (List.getElem?_eq_some_iff.mp h).1
    rcases (show c = 0 ∨ c = 1 ∨ c = 2 ∨ c = 3 ∨ c = 4 ∨ c = 5 ∨ c = 6 by omega) with rfl | rfl | rfl | rfl | rfl | rfl | rfl
    · cases h; exact k0
    · cases h; exact k1
    · cases h; exact k2
    · cases h; exact k3
    · cases h; exact k4
    · cases h; exact k5
    · cases h; exact k6
  · have hc : c < 3 := (List.getElem?_eq_some_iff.mp h).1
    rcases (show c = 0 ∨ c = 1 ∨ c = 2 by omega) with rfl | rfl | rfl
    · cases h; exact ⟨fun n z => ⟨fun k h => (by cases h), kC, a2, mC, a3⟩, a1⟩
    · cases h; exact ⟨fun n z => ⟨fun k h => (by cases h), kI, b2, mI, b3⟩, b1⟩
    · cases h; exact ⟨fun n z => ⟨fun k h => (by cases h), kL, d2, mL, d3⟩, d1⟩
theorem g_Eof {b : Nat} {s : State} (hts : ∀ w ∈ lw_tbl, w.before #[Value.ref b] s = true) (hs : ∀ c ∈ flatC (Jvm.Cond.and given_1 narrow_1), c.before #[Value.ref b] s = true) : ∃ ad : Nat → Nat, va_En "ExactReader$Format" "LExactReader$Format;" g_nm2 g_F ad (va_A [] s.heap.size) s s.heap := by
  refine va_Enof (args := #[Value.ref b]) ?_ (hts (Jvm.Cond.initialized "ExactReader$Format") (List.mem_append_right _ (List.mem_of_getElem? (i := 19) (by decide +kernel)))) ?_ ?_ ?_ (fun a ha => a_nil ha)
  · intro i hi
    have hi2 : i < 2 := hi
    rcases (show i = 0 ∨ i = 1 by omega) with rfl | rfl
    · exact (hts (Jvm.Cond.laysStatic "ExactReader$Format" "DOUBLE" "LExactReader$Format;") (List.mem_append_right _ (List.mem_of_getElem? (i := 418) (by decide +kernel))))
    · exact (hts (Jvm.Cond.laysStatic "ExactReader$Format" "FLOAT" "LExactReader$Format;") (List.mem_append_right _ (List.mem_of_getElem? (i := 592) (by decide +kernel))))
  · intro i hi
    have hi2 : i < 2 := hi
    rcases (show i = 0 ∨ i = 1 by omega) with rfl | rfl
    · exact (hs (Jvm.Cond.exactly (Jvm.Term.static "ExactReader$Format" "DOUBLE" "LExactReader$Format;") "ExactReader$Format") (List.mem_of_getElem? (i := 11) (by decide +kernel)))
    · exact (hs (Jvm.Cond.exactly (Jvm.Term.static "ExactReader$Format" "FLOAT" "LExactReader$Format;") "ExactReader$Format") (List.mem_of_getElem? (i := 33) (by decide +kernel)))
  · intro q hq i hi
    have hi2 : i < 2 := hi
    simp only [g_F, List.mem_cons, List.not_mem_nil, or_false] at hq
    rcases (show i = 0 ∨ i = 1 by omega) with rfl | rfl
    · rcases hq with rfl | rfl | rfl
      · exact (hs (Jvm.Cond.eq (Jvm.Term.field (Jvm.Term.static "ExactReader$Format" "DOUBLE" "LExactReader$Format;") "ExactReader$Format" "precision" "I") (Jvm.Term.int (53 : Int32))) (List.mem_of_getElem? (i := 13) (by decide +kernel)))
      · exact (hs (Jvm.Cond.eq (Jvm.Term.field (Jvm.Term.static "ExactReader$Format" "DOUBLE" "LExactReader$Format;") "ExactReader$Format" "least" "I") (Jvm.Term.int (-1074 : Int32))) (List.mem_of_getElem? (i := 14) (by decide +kernel)))
      · exact (hs (Jvm.Cond.eq (Jvm.Term.field (Jvm.Term.static "ExactReader$Format" "DOUBLE" "LExactReader$Format;") "ExactReader$Format" "exponentBits" "I") (Jvm.Term.int (11 : Int32))) (List.mem_of_getElem? (i := 15) (by decide +kernel)))
    · rcases hq with rfl | rfl | rfl
      · exact (hs (Jvm.Cond.eq (Jvm.Term.field (Jvm.Term.static "ExactReader$Format" "FLOAT" "LExactReader$Format;") "ExactReader$Format" "precision" "I") (Jvm.Term.int (24 : Int32))) (List.mem_of_getElem? (i := 35) (by decide +kernel)))
      · exact (hs (Jvm.Cond.eq (Jvm.Term.field (Jvm.Term.static "ExactReader$Format" "FLOAT" "LExactReader$Format;") "ExactReader$Format" "least" "I") (Jvm.Term.int (-149 : Int32))) (List.mem_of_getElem? (i := 36) (by decide +kernel)))
      · exact (hs (Jvm.Cond.eq (Jvm.Term.field (Jvm.Term.static "ExactReader$Format" "FLOAT" "LExactReader$Format;") "ExactReader$Format" "exponentBits" "I") (Jvm.Term.int (8 : Int32))) (List.mem_of_getElem? (i := 37) (by decide +kernel)))
  · intro i j hi hj hij
    have hi2 : i < 2 := hi
    have hj2 : j < 2 := hj
    rcases (show (i = 0 ∧ j = 1) ∨ (i = 1 ∧ j = 0) by omega) with ⟨rfl, rfl⟩ | ⟨rfl, rfl⟩
    · exact Or.inl (hs (Jvm.Cond.not (Jvm.Cond.eq (Jvm.Term.static "ExactReader$Format" "DOUBLE" "LExactReader$Format;") (Jvm.Term.static "ExactReader$Format" "FLOAT" "LExactReader$Format;"))) (List.mem_of_getElem? (i := 38) (by decide +kernel)))
    · exact Or.inr (hs (Jvm.Cond.not (Jvm.Cond.eq (Jvm.Term.static "ExactReader$Format" "DOUBLE" "LExactReader$Format;") (Jvm.Term.static "ExactReader$Format" "FLOAT" "LExactReader$Format;"))) (List.mem_of_getElem? (i := 38) (by decide +kernel)))
theorem g_5of {b : Nat} {s : State} (hts : ∀ w ∈ lw_tbl, w.before #[Value.ref b] s = true) (hs : ∀ c ∈ flatC (Jvm.Cond.and given_1 narrow_1), c.before #[Value.ref b] s = true) : ∃ t : Nat, va_Z "ExactReader$Natural" "FIVES" "[I" (.ref t) (va_A [] s.heap.size) s s.heap ∧ va_T .int t 14 (fun j => .int (g_five j)) (va_A [] s.heap.size) s s.heap := by
  obtain ⟨t, ht, hT⟩ := va_Tof (args := #[Value.ref b]) (tm := .static "ExactReader$Natural" "FIVES" "[I") (ty := .int) (N := 14) (f := fun j => .int (g_five j)) (A := va_A [] s.heap.size) (by decide) (hs (Jvm.Cond.arrayOf (Jvm.Term.static "ExactReader$Natural" "FIVES" "[I") Jvm.ClassFile.FieldType.int) (List.mem_of_getElem? (i := 17) (by decide +kernel))) (va_eqt (hs (Jvm.Cond.eq (Jvm.Term.length (Jvm.Term.static "ExactReader$Natural" "FIVES" "[I")) (Jvm.Term.int (14 : Int32))) (List.mem_of_getElem? (i := 18) (by decide +kernel)))) (by
    intro j hj
    rcases (show j = 0 ∨ j = 1 ∨ j = 2 ∨ j = 3 ∨ j = 4 ∨ j = 5 ∨ j = 6 ∨ j = 7 ∨ j = 8 ∨ j = 9 ∨ j = 10 ∨ j = 11 ∨ j = 12 ∨ j = 13 by omega) with rfl | rfl | rfl | rfl | rfl | rfl | rfl | rfl | rfl | rfl | rfl | rfl | rfl | rfl
    · exact va_eqt (hs (Jvm.Cond.eq (Jvm.Term.elem (Jvm.Term.static "ExactReader$Natural" "FIVES" "[I") (Jvm.Term.int (0 : Int32))) (Jvm.Term.int (1 : Int32))) (List.mem_of_getElem? (i := 19) (by decide +kernel)))
    · exact va_eqt (hs (Jvm.Cond.eq (Jvm.Term.elem (Jvm.Term.static "ExactReader$Natural" "FIVES" "[I") (Jvm.Term.int (1 : Int32))) (Jvm.Term.int (5 : Int32))) (List.mem_of_getElem? (i := 20) (by decide +kernel)))
    · exact va_eqt (hs (Jvm.Cond.eq (Jvm.Term.elem (Jvm.Term.static "ExactReader$Natural" "FIVES" "[I") (Jvm.Term.int (2 : Int32))) (Jvm.Term.int (25 : Int32))) (List.mem_of_getElem? (i := 21) (by decide +kernel)))
    · exact va_eqt (hs (Jvm.Cond.eq (Jvm.Term.elem (Jvm.Term.static "ExactReader$Natural" "FIVES" "[I") (Jvm.Term.int (3 : Int32))) (Jvm.Term.int (125 : Int32))) (List.mem_of_getElem? (i := 22) (by decide +kernel)))
    · exact va_eqt (hs (Jvm.Cond.eq (Jvm.Term.elem (Jvm.Term.static "ExactReader$Natural" "FIVES" "[I") (Jvm.Term.int (4 : Int32))) (Jvm.Term.int (625 : Int32))) (List.mem_of_getElem? (i := 23) (by decide +kernel)))
    · exact va_eqt (hs (Jvm.Cond.eq (Jvm.Term.elem (Jvm.Term.static "ExactReader$Natural" "FIVES" "[I") (Jvm.Term.int (5 : Int32))) (Jvm.Term.int (3125 : Int32))) (List.mem_of_getElem? (i := 24) (by decide +kernel)))
    · exact va_eqt (hs (Jvm.Cond.eq (Jvm.Term.elem (Jvm.Term.static "ExactReader$Natural" "FIVES" "[I") (Jvm.Term.int (6 : Int32))) (Jvm.Term.int (15625 : Int32))) (List.mem_of_getElem? (i := 25) (by decide +kernel)))
    · exact va_eqt (hs (Jvm.Cond.eq (Jvm.Term.elem (Jvm.Term.static "ExactReader$Natural" "FIVES" "[I") (Jvm.Term.int (7 : Int32))) (Jvm.Term.int (78125 : Int32))) (List.mem_of_getElem? (i := 26) (by decide +kernel)))
    · exact va_eqt (hs (Jvm.Cond.eq (Jvm.Term.elem (Jvm.Term.static "ExactReader$Natural" "FIVES" "[I") (Jvm.Term.int (8 : Int32))) (Jvm.Term.int (390625 : Int32))) (List.mem_of_getElem? (i := 27) (by decide +kernel)))
    · exact va_eqt (hs (Jvm.Cond.eq (Jvm.Term.elem (Jvm.Term.static "ExactReader$Natural" "FIVES" "[I") (Jvm.Term.int (9 : Int32))) (Jvm.Term.int (1953125 : Int32))) (List.mem_of_getElem? (i := 28) (by decide +kernel)))
    · exact va_eqt (hs (Jvm.Cond.eq (Jvm.Term.elem (Jvm.Term.static "ExactReader$Natural" "FIVES" "[I") (Jvm.Term.int (10 : Int32))) (Jvm.Term.int (9765625 : Int32))) (List.mem_of_getElem? (i := 29) (by decide +kernel)))
    · exact va_eqt (hs (Jvm.Cond.eq (Jvm.Term.elem (Jvm.Term.static "ExactReader$Natural" "FIVES" "[I") (Jvm.Term.int (11 : Int32))) (Jvm.Term.int (48828125 : Int32))) (List.mem_of_getElem? (i := 30) (by decide +kernel)))
    · exact va_eqt (hs (Jvm.Cond.eq (Jvm.Term.elem (Jvm.Term.static "ExactReader$Natural" "FIVES" "[I") (Jvm.Term.int (12 : Int32))) (Jvm.Term.int (244140625 : Int32))) (List.mem_of_getElem? (i := 31) (by decide +kernel)))
    · exact va_eqt (hs (Jvm.Cond.eq (Jvm.Term.elem (Jvm.Term.static "ExactReader$Natural" "FIVES" "[I") (Jvm.Term.int (13 : Int32))) (Jvm.Term.int (1220703125 : Int32))) (List.mem_of_getElem? (i := 32) (by decide +kernel)))) (fun a ha => a_nil ha)
  exact ⟨t, va_Zof (args := #[Value.ref b]) (hts (Jvm.Cond.laysStatic "ExactReader$Natural" "FIVES" "[I") (List.mem_append_right _ (List.mem_of_getElem? (i := 526) (by decide +kernel)))) (hts (Jvm.Cond.initialized "ExactReader$Natural") (List.mem_append_right _ (List.mem_of_getElem? (i := 4) (by decide +kernel)))) ht (fun a ha => a_nil ha), hT⟩
theorem g_Sof {b : Nat} {s : State} (hs : ∀ c ∈ flatC (Jvm.Cond.and given_1 narrow_1), c.before #[Value.ref b] s = true) : ∃ adK adV : Nat → Nat, vk_S 2 g_len g_byt adK adV (va_A [] s.heap.size) s s.heap ∧ (Term.string "ExactReader$NumberText" 59).eval #[Value.ref b] s none [] s = some (.ref (adK 0)) ∧ (Term.string "ExactReader$NumberText" 65).eval #[Value.ref b] s none [] s = some (.ref (adK 1)) := by
  obtain ⟨adK, adV, h1, h2⟩ := vk_Sof (args := #[Value.ref b]) (s := s) (N := 2) (tm := fun i => if i = 0 then Term.string "ExactReader$NumberText" 59 else Term.string "ExactReader$NumberText" 65) (len := g_len) (byt := g_byt) (A := va_A [] s.heap.size) (by decide) (by
    intro i hi
    have hi2 : i < 2 := hi
    rcases (show i = 0 ∨ i = 1 by omega) with rfl | rfl
    · exact (hs (Jvm.Cond.exactly (Jvm.Term.string "ExactReader$NumberText" (59 : Nat)) "java/lang/String") (List.mem_of_getElem? (i := 57) (by decide +kernel)))
    · exact (hs (Jvm.Cond.exactly (Jvm.Term.string "ExactReader$NumberText" (65 : Nat)) "java/lang/String") (List.mem_of_getElem? (i := 64) (by decide +kernel)))) (by
    intro i hi
    have hi2 : i < 2 := hi
    rcases (show i = 0 ∨ i = 1 by omega) with rfl | rfl
    · exact (hs (Jvm.Cond.eq (Jvm.Term.field (Jvm.Term.string "ExactReader$NumberText" (59 : Nat)) "java/lang/String" "coder" "B") (Jvm.Term.int (0 : Int32))) (List.mem_of_getElem? (i := 58) (by decide +kernel)))
    · exact (hs (Jvm.Cond.eq (Jvm.Term.field (Jvm.Term.string "ExactReader$NumberText" (65 : Nat)) "java/lang/String" "coder" "B") (Jvm.Term.int (0 : Int32))) (List.mem_of_getElem? (i := 65) (by decide +kernel)))) (by
    intro i hi
    have hi2 : i < 2 := hi
    rcases (show i = 0 ∨ i = 1 by omega) with rfl | rfl
    · exact (hs (Jvm.Cond.arrayOf (Jvm.Term.field (Jvm.Term.string "ExactReader$NumberText" (59 : Nat)) "java/lang/String" "value" "[B") Jvm.ClassFile.FieldType.byte) (List.mem_of_getElem? (i := 59) (by decide +kernel)))
    · exact (hs (Jvm.Cond.arrayOf (Jvm.Term.field (Jvm.Term.string "ExactReader$NumberText" (65 : Nat)) "java/lang/String" "value" "[B") Jvm.ClassFile.FieldType.byte) (List.mem_of_getElem? (i := 66) (by decide +kernel)))) (by
    intro i hi
    have hi2 : i < 2 := hi
    rcases (show i = 0 ∨ i = 1 by omega) with rfl | rfl
    · exact (hs (Jvm.Cond.eq (Jvm.Term.length (Jvm.Term.field (Jvm.Term.string "ExactReader$NumberText" (59 : Nat)) "java/lang/String" "value" "[B")) (Jvm.Term.int (3 : Int32))) (List.mem_of_getElem? (i := 60) (by decide +kernel)))
    · exact (hs (Jvm.Cond.eq (Jvm.Term.length (Jvm.Term.field (Jvm.Term.string "ExactReader$NumberText" (65 : Nat)) "java/lang/String" "value" "[B")) (Jvm.Term.int (8 : Int32))) (List.mem_of_getElem? (i := 67) (by decide +kernel)))) (by
    intro i hi
    have hi2 : i < 2 := hi
    rcases (show i = 0 ∨ i = 1 by omega) with rfl | rfl
    · intro j hj
      have hj2 : j < 3 := hj
      rcases (show j = 0 ∨ j = 1 ∨ j = 2 by omega) with rfl | rfl | rfl
      · exact (hs (Jvm.Cond.eq (Jvm.Term.elem (Jvm.Term.field (Jvm.Term.string "ExactReader$NumberText" (59 : Nat)) "java/lang/String" "value" "[B") (Jvm.Term.int (0 : Int32))) (Jvm.Term.int (78 : Int32))) (List.mem_of_getElem? (i := 61) (by decide +kernel)))
      · exact (hs (Jvm.Cond.eq (Jvm.Term.elem (Jvm.Term.field (Jvm.Term.string "ExactReader$NumberText" (59 : Nat)) "java/lang/String" "value" "[B") (Jvm.Term.int (1 : Int32))) (Jvm.Term.int (97 : Int32))) (List.mem_of_getElem? (i := 62) (by decide +kernel)))
      · exact (hs (Jvm.Cond.eq (Jvm.Term.elem (Jvm.Term.field (Jvm.Term.string "ExactReader$NumberText" (59 : Nat)) "java/lang/String" "value" "[B") (Jvm.Term.int (2 : Int32))) (Jvm.Term.int (78 : Int32))) (List.mem_of_getElem? (i := 63) (by decide +kernel)))
    · intro j hj
      have hj2 : j < 8 := hj
      rcases (show j = 0 ∨ j = 1 ∨ j = 2 ∨ j = 3 ∨ j = 4 ∨ j = 5 ∨ j = 6 ∨ j = 7 by omega) with rfl | rfl | rfl | rfl | rfl | rfl | rfl | rfl
      · exact (hs (Jvm.Cond.eq (Jvm.Term.elem (Jvm.Term.field (Jvm.Term.string "ExactReader$NumberText" (65 : Nat)) "java/lang/String" "value" "[B") (Jvm.Term.int (0 : Int32))) (Jvm.Term.int (73 : Int32))) (List.mem_of_getElem? (i := 68) (by decide +kernel)))
      · exact (hs (Jvm.Cond.eq (Jvm.Term.elem (Jvm.Term.field (Jvm.Term.string "ExactReader$NumberText" (65 : Nat)) "java/lang/String" "value" "[B") (Jvm.Term.int (1 : Int32))) (Jvm.Term.int (110 : Int32))) (List.mem_of_getElem? (i := 69) (by decide +kernel)))
      · exact (hs (Jvm.Cond.eq (Jvm.Term.elem (Jvm.Term.field (Jvm.Term.string "ExactReader$NumberText" (65 : Nat)) "java/lang/String" "value" "[B") (Jvm.Term.int (2 : Int32))) (Jvm.Term.int (102 : Int32))) (List.mem_of_getElem? (i := 70) (by decide +kernel)))
      · exact (hs (Jvm.Cond.eq (Jvm.Term.elem (Jvm.Term.field (Jvm.Term.string "ExactReader$NumberText" (65 : Nat)) "java/lang/String" "value" "[B") (Jvm.Term.int (3 : Int32))) (Jvm.Term.int (105 : Int32))) (List.mem_of_getElem? (i := 71) (by decide +kernel)))
      · exact (hs (Jvm.Cond.eq (Jvm.Term.elem (Jvm.Term.field (Jvm.Term.string "ExactReader$NumberText" (65 : Nat)) "java/lang/String" "value" "[B") (Jvm.Term.int (4 : Int32))) (Jvm.Term.int (110 : Int32))) (List.mem_of_getElem? (i := 72) (by decide +kernel)))
      · exact (hs (Jvm.Cond.eq (Jvm.Term.elem (Jvm.Term.field (Jvm.Term.string "ExactReader$NumberText" (65 : Nat)) "java/lang/String" "value" "[B") (Jvm.Term.int (5 : Int32))) (Jvm.Term.int (105 : Int32))) (List.mem_of_getElem? (i := 73) (by decide +kernel)))
      · exact (hs (Jvm.Cond.eq (Jvm.Term.elem (Jvm.Term.field (Jvm.Term.string "ExactReader$NumberText" (65 : Nat)) "java/lang/String" "value" "[B") (Jvm.Term.int (6 : Int32))) (Jvm.Term.int (116 : Int32))) (List.mem_of_getElem? (i := 74) (by decide +kernel)))
      · exact (hs (Jvm.Cond.eq (Jvm.Term.elem (Jvm.Term.field (Jvm.Term.string "ExactReader$NumberText" (65 : Nat)) "java/lang/String" "value" "[B") (Jvm.Term.int (7 : Int32))) (Jvm.Term.int (121 : Int32))) (List.mem_of_getElem? (i := 75) (by decide +kernel)))) (by
    intro i j hi hj hij
    rcases (show (i = 0 ∧ j = 1) ∨ (i = 1 ∧ j = 0) by omega) with ⟨rfl, rfl⟩ | ⟨rfl, rfl⟩
    · exact Or.inl (hs (Jvm.Cond.not (Jvm.Cond.eq (Jvm.Term.string "ExactReader$NumberText" (59 : Nat)) (Jvm.Term.string "ExactReader$NumberText" (65 : Nat)))) (List.mem_of_getElem? (i := 76) (by decide +kernel)))
    · exact Or.inr (hs (Jvm.Cond.not (Jvm.Cond.eq (Jvm.Term.string "ExactReader$NumberText" (59 : Nat)) (Jvm.Term.string "ExactReader$NumberText" (65 : Nat)))) (List.mem_of_getElem? (i := 76) (by decide +kernel)))) (fun a ha => a_nil ha)
  exact ⟨adK, adV, h1, h2 0 (by decide), h2 1 (by decide)⟩
theorem g_nf_in : ∀ q ∈ g_nf, Cond.fieldLinkNest q.1 q.2.1 q.2.2.1 q.2.2.2.1 q.2.2.2.2.1 q.2.2.2.2.2 ∈ tables_1 := by decide +kernel
theorem g_nm_in : ∀ q ∈ g_nm, Cond.methodLinkNest q.1 q.2.1 q.2.2.1 q.2.2.2 ∈ tables_1 := by decide +kernel
theorem g_Zof {b : Nat} {s : State} (D : va_G) (cC cI cL : ClassId) (hts : ∀ w ∈ lw_tbl, w.before #[Value.ref b] s = true) (hs : ∀ c ∈ flatC (Jvm.Cond.and given_1 narrow_1), c.before #[Value.ref b] s = true) : ∃ (adE : Nat → Nat) (t5 : Nat) (adK adV : Nat → Nat), g_Z (D, cC, cI, cL, adE, t5, adK, adV) (va_A [] s.heap.size) s s.heap := by
  obtain ⟨adE, hE⟩ := g_Eof hts hs
  obtain ⟨t5, h5, hT5⟩ := g_5of hts hs
  obtain ⟨adK, adV, hS, hS0, hS1⟩ := g_Sof hs
  obtain ⟨m58, _, _, _, e58, _⟩ := Cond.exactly_spec (args := #[Value.ref b]) (first := s) (o := none) (s := s) (idx := []) (t := .string "ExactReader" 58) (cls := "java/lang/String") (hs (Jvm.Cond.exactly (Jvm.Term.string "ExactReader" (58 : Nat)) "java/lang/String") (List.mem_of_getElem? (i := 77) (by decide +kernel)))
  obtain ⟨m63, _, _, _, e63, _⟩ := Cond.exactly_spec (args := #[Value.ref b]) (first := s) (o := none) (s := s) (idx := []) (t := .string "ExactReader" 63) (cls := "java/lang/String") (hs (Jvm.Cond.exactly (Jvm.Term.string "ExactReader" (63 : Nat)) "java/lang/String") (List.mem_of_getElem? (i := 125) (by decide +kernel)))
  obtain ⟨m80, _, _, _, e80, _⟩ := Cond.exactly_spec (args := #[Value.ref b]) (first := s) (o := none) (s := s) (idx := []) (t := .string "ExactReader" 80) (cls := "java/lang/String") (hs (Jvm.Cond.exactly (Jvm.Term.string "ExactReader" (80 : Nat)) "java/lang/String") (List.mem_of_getElem? (i := 162) (by decide +kernel)))
  obtain ⟨m114, _, _, _, e114, _⟩ := Cond.exactly_spec (args := #[Value.ref b]) (first := s) (o := none) (s := s) (idx := []) (t := .string "ExactReader" 114) (cls := "java/lang/String") (hs (Jvm.Cond.exactly (Jvm.Term.string "ExactReader" (114 : Nat)) "java/lang/String") (List.mem_of_getElem? (i := 196) (by decide +kernel)))
  refine ⟨adE, t5, fun i => if i < 2 then adK i else if i = 2 then m58 else if i = 3 then m63 else if i = 4 then m80 else m114, adV, fun q hq => va_Nw.of rfl (hts _ (List.mem_append_right _ (g_nf_in q hq))), fun q hq => va_Nw.of rfl (hts _ (List.mem_append_right _ (g_nm_in q hq))), hE, h5, hT5, ⟨fun i hi => ?_, fun i j hi hj h => ?_⟩, fun q hq => ?_, va_Zof (args := #[Value.ref b]) (hts (Jvm.Cond.laysStatic "java/lang/String" "COMPACT_STRINGS" "Z") (List.mem_append_right _ (List.mem_of_getElem? (i := 238) (by decide +kernel)))) (hts (Jvm.Cond.initialized "java/lang/String") (List.mem_append_right _ (List.mem_of_getElem? (i := 13) (by decide +kernel)))) (va_eqt (hs (Jvm.Cond.eq (Jvm.Term.static "java/lang/String" "COMPACT_STRINGS" "Z") (Jvm.Term.int (1 : Int32))) (List.mem_of_getElem? (i := 4) (by decide +kernel)))) (fun a ha => a_nil ha),
    va_Zqof (args := #[Value.ref b]) (hts (Jvm.Cond.laysStatic "jdk/internal/util/Preconditions" "SIOOBE_FORMATTER" "Ljava/util/function/BiFunction;") (List.mem_append_right _ (List.mem_of_getElem? (i := 254) (by decide +kernel)))) (hts (Jvm.Cond.initialized "jdk/internal/util/Preconditions") (List.mem_append_right _ (List.mem_of_getElem? (i := 15) (by decide +kernel)))) (hs (Jvm.Cond.isRef (Jvm.Term.static "jdk/internal/util/Preconditions" "SIOOBE_FORMATTER" "Ljava/util/function/BiFunction;")) (List.mem_of_getElem? (i := 5) (by decide +kernel))) (fun a ha => a_nil ha), va_Zqof (args := #[Value.ref b]) (hts (Jvm.Cond.laysStatic "java/lang/Throwable" "UNASSIGNED_STACK" "[Ljava/lang/StackTraceElement;") (List.mem_append_right _ (List.mem_of_getElem? (i := 346) (by decide +kernel)))) (hts (Jvm.Cond.initialized "java/lang/Throwable") (List.mem_append_right _ (List.mem_of_getElem? (i := 8) (by decide +kernel)))) (hs (Jvm.Cond.isRef (Jvm.Term.static "java/lang/Throwable" "UNASSIGNED_STACK" "[Ljava/lang/StackTraceElement;")) (List.mem_of_getElem? (i := 9) (by decide +kernel))) (fun a ha => a_nil ha), va_Zqof (args := #[Value.ref b]) (hts (Jvm.Cond.laysStatic "java/lang/Throwable" "SUPPRESSED_SENTINEL" "Ljava/util/List;") (List.mem_append_right _ (List.mem_of_getElem? (i := 348) (by decide +kernel)))) (hts (Jvm.Cond.initialized "java/lang/Throwable") (List.mem_append_right _ (List.mem_of_getElem? (i := 8) (by decide +kernel)))) (hs (Jvm.Cond.isRef (Jvm.Term.static "java/lang/Throwable" "SUPPRESSED_SENTINEL" "Ljava/util/List;")) (List.mem_of_getElem? (i := 10) (by decide +kernel))) (fun a ha => a_nil ha),
    va_Nc.of (hs (Jvm.Cond.not (Jvm.Cond.castable "java/lang/IllegalArgumentException" "java/lang/IllegalStateException")) (List.mem_of_getElem? (i := 55) (by decide +kernel))), va_Nc.of (hs (Jvm.Cond.not (Jvm.Cond.castable "java/lang/IllegalStateException" "java/lang/IllegalArgumentException")) (List.mem_of_getElem? (i := 46) (by decide +kernel))), g_Ly.of (hts (Jvm.Cond.laysStatic "java/lang/Throwable" "UNASSIGNED_STACK" "[Ljava/lang/StackTraceElement;") (List.mem_append_right _ (List.mem_of_getElem? (i := 346) (by decide +kernel)))) (fun a ha => a_nil ha), g_Ly.of (hts (Jvm.Cond.laysStatic "java/lang/Throwable" "SUPPRESSED_SENTINEL" "Ljava/util/List;") (List.mem_append_right _ (List.mem_of_getElem? (i := 348) (by decide +kernel)))) (fun a ha => a_nil ha)⟩
  · have h := hS.1 i hi
    rw [← show (if i < 2 then adK i else if i = 2 then m58 else if i = 3 then m63 else if i = 4 then m80 else m114) = adK i from if_pos hi] at h
    exact h
  · refine hS.2 i j hi hj ?_
    rw [← show (if i < 2 then adK i else if i = 2 then m58 else if i = 3 then m63 else if i = 4 then m80 else m114) = adK i from if_pos hi, ← show (if j < 2 then adK j else if j = 2 then m58 else if j = 3 then m63 else if j = 4 then m80 else m114) = adK j from if_pos hj]
    exact h
  · simp only [g_sr, List.mem_cons, List.not_mem_nil, or_false] at hq
    rcases hq with rfl | rfl | rfl | rfl | rfl | rfl
    · exact vk_R.of (hts (Jvm.Cond.stringRef "ExactReader$NumberText" (59 : Nat) "NaN") (List.mem_append_right _ (List.mem_of_getElem? (i := 224) (by decide +kernel)))) hS0
    · exact vk_R.of (hts (Jvm.Cond.stringRef "ExactReader$NumberText" (65 : Nat) "Infinity") (List.mem_append_right _ (List.mem_of_getElem? (i := 277) (by decide +kernel)))) hS1
    · exact vk_R.of (hts (Jvm.Cond.stringRef "ExactReader" (58 : Nat) "no character, or a number of times below 0") (List.mem_append_right _ (List.mem_of_getElem? (i := 359) (by decide +kernel)))) e58
    · exact vk_R.of (hts (Jvm.Cond.stringRef "ExactReader" (63 : Nat) "a number of characters below 0") (List.mem_append_right _ (List.mem_of_getElem? (i := 392) (by decide +kernel)))) e63
    · exact vk_R.of (hts (Jvm.Cond.stringRef "ExactReader" (80 : Nat) "the text is no number text") (List.mem_append_right _ (List.mem_of_getElem? (i := 410) (by decide +kernel)))) e80
    · exact vk_R.of (hts (Jvm.Cond.stringRef "ExactReader" (114 : Nat) "what is no number lies nowhere") (List.mem_append_right _ (List.mem_of_getElem? (i := 615) (by decide +kernel)))) e114
theorem whole_start {p : Program} {e : Env} {s : State} {m : MethodId} {below : List Frame} {meth : Method} {c : Code} (l : Launch) (hl9 : l.stackTraces = false) {b L : Nat} {xs : Nat → Int32} (hL : L ≤ 1536) (C0 : lw_At p s m meth c b L xs) : W p l e room_1 s m #[Value.ref b] below meth c s.heap [] 0 0 (lw_Z below #[Value.ref b] s) (entryFrame m ([Value.ref b] : List Value).toArray 8) := by
  obtain ⟨hx, hb, hr, hml, hown, hts, hX, hbl, hlk, hgv, htb, hnm⟩ := C0
  have hs := flat_of_before _ hgv
  have hg : ∀ w ∈ g_tbl, w.before #[Value.ref b] s = true := fun w hw => hts w (List.mem_filter.mp hw).1
  obtain ⟨D, cC, cI, cL, hK⟩ := g_Kof hg
  obtain ⟨adE, t5, adK, adV, hZ⟩ := g_Zof D cC cI cL hts hs
  have hl := lv_entry [Value.ref b] (n := 8) (Nat.le_of_ble_eq_true rfl)
  rw [lg_entry_eq]
  exact L_start (l := l) (G := (D, cC, cI, cL, adE, t5, adK, adV)) (sa := b) (sn := L) (sf := xs) (Q := .inr (.inr (.inr lw_Z))) hl9 hL (fun kc ns lv ws h1 h2 => z_lawret h1 h2) p e s m #[Value.ref b] below meth c (va_A [] s.heap.size) s.heap [] _
    ⟨hx, hb, hml, hr, hown, hg, hlk, rfl, hK, hZ⟩ ⟨htb, hnm, (fun q hq => by rw [List.mem_singleton.mp hq]; exact ⟨hX, hbl, a_nil hbl⟩), g_exof hts⟩ (fun k q h => by cases h) ⟨(fun i j p q h => (by cases h)), (fun k q h => (by cases h))⟩ va_S.rf hl
set_option maxHeartbeats 4000000 in
theorem lw_walk (l : Launch) (hl9 : l.stackTraces = false) (b : Addr) (xs : List Int32) : MetFree l x (headSpec (Jvm.Cond.code x code maxLocals ret :: tables_1) room_1) (lw_P b xs) (fun _ _ _ _ _ => True) lw_Q := by
  refine MetFree.of_bodyS (code := code) (maxLocals := maxLocals) (ret := ret) (by decide) ?_ ?_
  · intro args s m h hn
    obtain ⟨meth, c, h1, h2, h3, h4, h5, h6, -, -⟩ := Cond.code_spec hn (atoms_spec (ws := Jvm.Cond.code x code maxLocals ret :: tables_1) h _ List.mem_cons_self)
    exact ⟨meth, c, h1, h2, h3, h4, h5, h6⟩
  · intro p e s m args below meth c s₁ B hml0 hP _
    obtain ⟨rfl, hx, hbd, hgv⟩ := hP
    obtain ⟨scr, harrAt, hlist, hof, hsmall⟩ := hx
    obtain ⟨hcb, hkn, -, -⟩ := State.arrayAt?_spec harrAt
    have hown : s.vm.findClass R_law = some m.cls := findClass_of_methodNamed B.named
    have hts0 : ∀ c ∈ (Jvm.Cond.code x code maxLocals ret :: tables_1), c.before #[Value.ref b] s = true := atoms_spec (ws := Jvm.Cond.code x code maxLocals ret :: tables_1) B.pre
    have hts : ∀ w ∈ lw_tbl, w.before #[Value.ref b] s = true := k2_hts_sels lw_privs (fun w hw => hts0 w (List.mem_cons_of_mem _ hw)) lw_privs_ok
    have hml : c.maxLocals = 8 := B.maxLocals_eq (hts0 _ List.mem_cons_self)
    have X₀ : Stand p l e room_1 s m #[Value.ref b] below meth c s₁ [] 0 0 := Stand.of_body B
    have hh0 : s₁.heap = s.heap := by rw [B.state]; rfl
    have hsz : scr.slots.size = xs.length := by rw [← Array.length_toList, hlist, List.length_map]
    have hval : ∀ j : Nat, j < xs.length → scr.slots[j]? = some (.int (xs.getD j 0)) := fun j hj => by
      rw [← Array.getElem?_toList, hlist]
      simp [hj]
    have hbl : b < s.heap.size := (Array.getElem?_eq_some_iff.mp hcb).1
    have hX : va_X b xs.length (fun j => xs.getD j 0) s s.heap := ⟨scr, hcb, hof, hkn, hsz, hval⟩
    have K : W p l e room_1 s m #[Value.ref b] below meth c s₁.heap [] 0 0 (lw_Z below #[Value.ref b] s) (entryFrame m ([Value.ref b] : List Value).toArray 8) := by
      rw [hh0]
      exact whole_start l hl9 hbd ⟨B.exec, B.bytes, B.returns, hml, hown, hts, hX, hbl, B.notSynchronized, hgv, (by rw [Array.isEmpty_iff.mp (BodyLoose.noHandlers B (hts0 _ List.mem_cons_self))]), (name_of_methodNamed B.named B.method).1⟩
    obtain ⟨t, a1, o, b1, b2, b3⟩ := K s₁ rfl X₀
    exact ⟨t, o, a1, b1, b2, b3⟩
theorem lw_pre_spec {args : Array Value} {s : State} (h : (Jvm.Cond.and given_1 narrow_1).before args s = true) (hr : rest_1_c.before args s = true) : ∃ (b : Addr) (xs : List Int32), lw_P b xs args s := by
  have hs := flat_of_before _ h
  have hq := flat_of_before _ hr
  have hc : (Cond.count 1).before args s = true := hs _ (by decide +kernel)
  have harr : (Cond.arrayOf (.arg 0) .int).before args s = true := hs _ (by decide +kernel)
  have hle : (Cond.le (.length (.arg 0)) (.int 1536)).before args s = true := hs _ (by decide +kernel)
  have hlen : (Cond.isInt (.length (.arg 0))).before args s = true := hq _ (by decide +kernel)
  have hall : (Cond.all (.arg 0) (.isInt (.elem (.arg 0) (.index 0)))).before args s = true := hq _ (by decide +kernel)
  obtain ⟨b, xs, hb, hx⟩ := State.ints_of_pre rfl harr hlen hall
  have hsm : xs.length < 2 ^ 31 := hx.choose_spec.2.2.2
  have hev : (Term.length (.arg 0)).eval args s none [] s = some (.int xs.length.toInt32) := hx.length_eval hb
  have hv := Cond.le_ints hev (show (Term.int 1536).eval args s none [] s = some (.int 1536) from rfl)
  have hd : xs.length.toInt32 ≤ 1536 := by
    simpa [Cond.before, Cond.holds, hv] using hle
  have hN : xs.length ≤ 1536 := (Int32.ofNat_le_ofNat hsm (by decide)).mp (show Int32.ofNat xs.length ≤ Int32.ofNat 1536 from hd)
  exact ⟨b, xs, Cond.one_arg hc (show args[0]? = some (.ref b) from hb), hx, hN, h⟩
theorem lw_comes (l : Launch) (hl9 : l.stackTraces = false) : Comes l x (Jvm.Cond.code x code maxLocals ret :: tables_1) room_1 (fun tb e args s => Calls_1 tb e args s ∧ rest_1 tb e args s ∧ Pre_1 tb e args s)
    (fun _ _ args s o t => lw_Q args s o t) := by
  intro p e ha hc hk s m args below hf hfit hheap happ hpre
  obtain ⟨b, xs, hP⟩ := lw_pre_spec hpre.2.2 hpre.2.1
  obtain ⟨k, o, h1, h2, h3, hQ⟩ := lw_walk l hl9 b xs p e ha hc hk s m args below hf ((Spec.applies_iff_loose hf).mp happ).1 hP trivial
  exact ⟨k, o, h1, h2, h3, hQ⟩
theorem lw_frame {s t : State} {o : Outcome} {args : Array Value} (h : Framed s o t [] 1045 21473) :
    Framed s o t (fieldLocs frame_1_writes args s ++ arrayLocs frame_1_arrays args s ++ staticLocs frame_1_statics s) 1045 21473 := h
theorem lw_limb (L : Cond) (hL : ∀ (args : Array Value) (s t : State), L.after args s (.returned (some (.int 1))) t = true) :
    ArmFor flags0 classFile x code maxLocals ret World_1 tables_1 room_1 Calls_1 rest_1 Pre_1
      (fun tb e a s o t => postC L tb e a s o t ∧ Framed s o t (fieldLocs frame_1_writes a s ++ arrayLocs frame_1_arrays a s ++ staticLocs frame_1_statics s) 1045 21473) := by
  intro l hfl _ _ p e ha hc hk s m args below hf hfit hheap happ hpre
  have hl9 : l.stackTraces = false := by unfold Launch.stackTraces; rw [hfl]; decide
  obtain ⟨k, o, h1, h2, h3, rfl, hF⟩ := lw_comes l hl9 p e ha hc hk s m args below hf hfit hheap happ hpre
  exact ⟨k, _, h1, h2, h3, hL args s _, lw_frame hF⟩
theorem i_vc : Claimed_1_1 ∧ Claimed_1_2 := ⟨lw_limb limb_1_1 (fun args s t => by simp [limb_1_1, Cond.after, Cond.holds, Cond.value]), lw_limb limb_1_2 (fun args s t => Cond.after_iff.mpr (by
  first | (rw [show limb_1_2 = Cond.eq .result (.int 1) from rfl, Cond.eq_ints (x := 1) (y := 1) rfl rfl]; simp; done) | (simp [limb_1_2, Cond.value, Term.eval]; done)))⟩
