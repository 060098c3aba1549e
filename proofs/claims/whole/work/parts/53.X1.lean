/-! words of the exceptions that the tables decide, but no word of g_tbl -/
def g_exw : List Cond := [.castable "java/lang/IllegalArgumentException" "java/lang/IllegalArgumentException", .castable "java/lang/IllegalStateException" "java/lang/IllegalStateException", .declares ⟨"java/lang/RuntimeException", "<init>", "(Ljava/lang/String;)V"⟩, .declares ⟨"java/lang/Exception", "<init>", "(Ljava/lang/String;)V"⟩, .declares ⟨"java/lang/Throwable", "<init>", "(Ljava/lang/String;)V"⟩]
def g_ex (U : State) : Prop := ∀ w ∈ g_exw, w.before #[] U = true
theorem g_exw_t : ∀ w ∈ g_exw, w.onTables = true := by decide +kernel
theorem g_ex.use {U s : State} {args : Array Value} {w : Cond} (h : g_ex U) (hw : w ∈ g_exw) (hv : U.vm = s.vm) : w.before args s = true := va_tabs (g_exw_t w hw) hv (h w hw)
theorem g_ex.warm {s U : State} (hW : s.WarmedH U.vm) (h : g_ex s) : g_ex U := by
  intro w hw
  have h9 := h w hw
  have e1 : w.before #[] (s.setVm U.vm) = true := by
    simp only [g_exw, List.mem_cons, List.not_mem_nil, or_false] at hw
    rcases hw with rfl | rfl | rfl | rfl | rfl
    · rw [Cond.castable_setVm hW.alike]; exact h9
    · rw [Cond.castable_setVm hW.alike]; exact h9
    · rw [Cond.declares_setVm hW.alike]; exact h9
    · rw [Cond.declares_setVm hW.alike]; exact h9
    · rw [Cond.declares_setVm hW.alike]; exact h9
  exact va_tabs (u := s.setVm U.vm) (g_exw_t w hw) rfl e1
def g_Pc3 (G : gG) (av : List Value) (w0 : va_W) (sz : Nat) : Array Value → State → Prop := fun v U => g_Pc G av w0 sz v U ∧ g_ex U
theorem g_Pc3.blind {G : gG} {av : List Value} {w0 : va_W} {sz : Nat} : FrameBlind (g_Pc3 G av w0 sz) := fun a U g mk q => ⟨g_Pc.blind a U g mk q.1, fun w hw => g_ex.use q.2 hw rfl⟩
/-! THE JUDGEMENT gA3: as gAt, with the cells and slots made so far; the end is a return or a throw -/
abbrev gE : Type := (Option Value × va_W × Nat × Nat) ⊕ ((String × va_W) ⊕ ((Option Value × (va_W → Prop) × Nat × Nat) ⊕ (List Frame → Array Value → State → State → Prop)))
abbrev gTB : Type := List ExceptionTableEntry × List (Nat × Nat × (Nat → Int32))
abbrev tb0 : gTB := ([], [])
/-- it has thrown an E; the cells are w1 -/
def xQ (G : gG) (E : String) (w1 : va_W) (A : Nat → Prop) (s : State) (o : Outcome) (t : State) : Prop :=
  ∃ (q : Nat) (ce : Cell) (L : List Loc), o = .threw q ∧ t.heap[q]? = some ce ∧ ce.vm = .none ∧ s.vm.findClass E = some ce.cls ∧ s.WarmedH t.vm ∧ s.sameButNew ({ t with vm := s.vm } : State) L 1 6 ∧ (∀ z ∈ L, A z.base) ∧ va_P G.1 vwCl w1 t.heap ∧ va_D A w1 ∧ va_F A s t
def gEQ (G : gG) (below : List Frame) (args : Array Value) (s : State) (A : Nat → Prop) : gE → State → Prop
  | .inl r => MQ below (g_Q G r.1 r.2.1 A) args s r.2.2.1 r.2.2.2 A
  | .inr (.inl r) => fun t => ∃ o, t.status = .running ∧ Ended t below o ∧ xQ G r.1 r.2 A s o t
  | .inr (.inr (.inl r)) => MQ below (fun a st o t => ∃ w1, r.2.1 w1 ∧ g_Q G r.1 w1 A a st o t) args s r.2.2.1 r.2.2.2 A
  | .inr (.inr (.inr r)) => r below args s
def gTb (M : gM) (s : State) (meth : Method) (c : Code) (A : Nat → Prop) (tb : gTB) : Prop := c.exceptionTable.toList = tb.1 ∧ meth.name = M.1.name ∧ (∀ q ∈ tb.2, va_X q.1 q.2.1 q.2.2 s s.heap ∧ q.1 < s.heap.size ∧ ¬ A q.1) ∧ g_ex s
def gA3 (l : Launch) (G : gG) (M : gM) (tb : gTB) (w0 : va_W) (Q : gE) (kc ns : Nat) (pc : Nat) (lv : List (Nat × Value)) (st : List Value) (ws : va_W) : Prop :=
  ∀ (p : Program) (e : Env) (s : State) (m : MethodId) (args : Array Value) (below : List Frame) (meth : Method) (c : Code) (A : Nat → Prop) (H : Heap) (locs : List Loc) (ls : Array Slot),
    gCx G M w0 p s m args meth c A → gTb M s meth c A tb → va_P G.1 vwCl ws H → va_D A ws → va_S A s.heap H locs → lv_has ls M.2.2.1 lv →
    W p l e M.2.2.2.2 s m args below meth c H locs kc ns (gEQ G below args s A Q) (F0 m pc ls st)
theorem gAt.up {l : Launch} {G : gG} {M : gM} {tb : gTB} {w0 : va_W} {res : Option Value} {w1 : va_W} {pc : Nat} {lv : List (Nat × Value)} {st : List Value} {ws : va_W} (h : gAt l G M w0 res w1 pc lv st ws) : gA3 l G M tb w0 (.inl (res, w1, 0, 0)) 0 0 pc lv st ws :=
  fun p e s m args below meth c A H locs ls hC _ hP hD hS hl => h p e s m args below meth c A H locs ls hC hP hD hS hl
theorem gA3.down {l : Launch} {G : gG} {M : gM} {tb : gTB} {w0 : va_W} {Q : gE} {kc ns k n : Nat} {pc : Nat} {lv : List (Nat × Value)} {st : List Value} {ws : va_W} (h1 : kc ≤ k) (h2 : ns ≤ n) (h : gA3 l G M tb w0 Q k n pc lv st ws) : gA3 l G M tb w0 Q kc ns pc lv st ws :=
  fun p e s m args below meth c A H locs ls hC hT hP hD hS hl => W.widen h1 h2 (h p e s m args below meth c A H locs ls hC hT hP hD hS hl)
/-- a contract of a method that makes at the most mc cells of ms slots -/
def gC3 (l : Launch) (G : gG) (M : gM) (av : List Value) (w0 : va_W) (res : Option Value) (w1 : va_W) (mc ms : Nat) : Prop :=
  ∀ sz : Nat, Met l M.1 (g_ws M) M.2.2.2.2 (g_Pc3 G av w0 sz) (g_Q G res w1 (va_A w0 sz)) mc ms (va_A w0 sz)
theorem gCt.up {l : Launch} {G : gG} {M : gM} {av : List Value} {w0 : va_W} {res : Option Value} {w1 : va_W} (h : gCt l G M av w0 res w1) : gC3 l G M av w0 res w1 0 0 :=
  fun sz p e h1 h2 h3 s m args below h4 h5 h6 h7 => h sz p e h1 h2 h3 s m args below h4 h5 h6.1 h7
theorem gC3.of {l : Launch} {G : gG} {M : gM} {av : List Value} {w0 : va_W} {res : Option Value} {w1 : va_W} {mc ms : Nat} (hy : plainName M.1.cls = true) (hn : (lg_sl av).length ≤ M.2.2.1) (h : gA3 l G M tb0 w0 (.inl (res, w1, mc, ms)) 0 0 0 (lv_args 0 av) [] w0) : gC3 l G M av w0 res w1 mc ms := by
  intro sz
  refine Met.ofW (cc := M.2.1) (maxL := M.2.2.1) (ret := M.2.2.2.1) hy rfl ?_
  intro p e s m args below meth c s₁ B hml hv
  obtain ⟨⟨rfl, hsz, hP, hK, hD0, hZ⟩, hE⟩ := hv
  subst hsz
  have hts := atoms_spec (ws := g_ws M) B.pre
  have hD := hD0.self (sz := s.heap.size)
  have hl := lv_entry av (n := M.2.2.1) hn
  have htb : c.exceptionTable.toList = [] := by
    have := BodyLoose.noHandlers B (hts _ List.mem_cons_self)
    rw [Array.isEmpty_iff.mp this]
  rw [lg_entry_eq]
  exact h p e s m _ below meth c _ s.heap [] _ ⟨B.exec, B.bytes, hml, B.returns, findClass_of_methodNamed B.named, fun w hw => hts w (List.mem_cons_of_mem _ hw), B.notSynchronized, rfl, hK, hZ⟩ ⟨htb, (name_of_methodNamed B.named B.method).1, (fun q hq => nomatch hq), hE⟩ hP hD va_S.rf hl
/-- a contract of a constructor: its cells are as P says -/
def gC4 (l : Launch) (G : gG) (M : gM) (av : List Value) (w0 : va_W) (P : va_W → Prop) (mc ms : Nat) : Prop :=
  ∀ sz : Nat, Met l M.1 (g_ws M) M.2.2.2.2 (g_Pc3 G av w0 sz) (fun a st o t => ∃ w1, P w1 ∧ g_Q G none w1 (va_A w0 sz) a st o t) mc ms (va_A w0 sz)
theorem gC4.of {l : Launch} {G : gG} {M : gM} {av : List Value} {w0 : va_W} {P : va_W → Prop} {mc ms : Nat} (hy : plainName M.1.cls = true) (hn : (lg_sl av).length ≤ M.2.2.1) (h : gA3 l G M tb0 w0 (.inr (.inr (.inl (none, P, mc, ms)))) 0 0 0 (lv_args 0 av) [] w0) : gC4 l G M av w0 P mc ms := by
  intro sz
  refine Met.ofW (cc := M.2.1) (maxL := M.2.2.1) (ret := M.2.2.2.1) hy rfl ?_
  intro p e s m args below meth c s₁ B hml hv
  obtain ⟨⟨rfl, hsz, hP, hK, hD0, hZ⟩, hE⟩ := hv
  subst hsz
  have hts := atoms_spec (ws := g_ws M) B.pre
  have hD := hD0.self (sz := s.heap.size)
  have hl := lv_entry av (n := M.2.2.1) hn
  have htb : c.exceptionTable.toList = [] := by
    have := BodyLoose.noHandlers B (hts _ List.mem_cons_self)
    rw [Array.isEmpty_iff.mp this]
  rw [lg_entry_eq]
  exact h p e s m _ below meth c _ s.heap [] _ ⟨B.exec, B.bytes, hml, B.returns, findClass_of_methodNamed B.named, fun w hw => hts w (List.mem_cons_of_mem _ hw), B.notSynchronized, rfl, hK, hZ⟩ ⟨htb, (name_of_methodNamed B.named B.method).1, (fun q hq => nomatch hq), hE⟩ hP hD va_S.rf hl
/-- a contract of a method that throws -/
def gX3 (l : Launch) (G : gG) (M : gM) (av : List Value) (w0 : va_W) (E : String) (w1 : va_W) : Prop :=
  ∀ sz : Nat, MetFree l M.1 (headSpec (g_ws M) M.2.2.2.2) (g_Pc3 G av w0 sz) (fun _ _ _ _ _ => True) (fun _ st o t => xQ G E w1 (va_A w0 sz) st o t)
theorem gX3.of {l : Launch} {G : gG} {M : gM} {av : List Value} {w0 : va_W} {E : String} {w1 : va_W} (hy : plainName M.1.cls = true) (hn : (lg_sl av).length ≤ M.2.2.1) (h : gA3 l G M tb0 w0 (.inr (.inl (E, w1))) 0 0 0 (lv_args 0 av) [] w0) : gX3 l G M av w0 E w1 := by
  intro sz
  refine MetFree.of_bodyS (code := M.2.1) (maxLocals := M.2.2.1) (ret := M.2.2.2.1) hy ?_ ?_
  · intro args s m hp hnm
    obtain ⟨meth, c, h1, h2, h3, h4, h5, h6, -, -⟩ := Cond.code_spec hnm (atoms_spec (ws := g_ws M) hp _ List.mem_cons_self)
    exact ⟨meth, c, h1, h2, h3, h4, h5, h6⟩
  · intro p e s m args below meth c s₁ B hml hv _
    obtain ⟨⟨rfl, hsz, hP, hK, hD0, hZ⟩, hE⟩ := hv
    subst hsz
    have hts := atoms_spec (ws := g_ws M) B.pre
    have hD := hD0.self (sz := s.heap.size)
    have hl := lv_entry av (n := M.2.2.1) hn
    have htb : c.exceptionTable.toList = [] := by
      have := BodyLoose.noHandlers B (hts _ List.mem_cons_self)
      rw [Array.isEmpty_iff.mp this]
    have hh0 : s₁.heap = s.heap := by rw [B.state]; rfl
    rw [lg_entry_eq]
    obtain ⟨t, a1, o, b1, b2, b3⟩ := h p e s m _ below meth c _ s.heap [] _ ⟨B.exec, B.bytes, hml, B.returns, findClass_of_methodNamed B.named, fun w hw => hts w (List.mem_cons_of_mem _ hw), B.notSynchronized, rfl, hK, hZ⟩ ⟨htb, (name_of_methodNamed B.named B.method).1, (fun q hq => nomatch hq), hE⟩ hP hD va_S.rf hl s₁ hh0 (Stand.of_body B)
    exact ⟨t, o, a1, b1, b2, b3⟩

/-! calls -/
def gOk3 (M : gM) (n mc ms : Nat) : Prop := Cond.initialized M.1.cls ∈ g_tbl ∧ Cond.code M.1 M.2.1 M.2.2.1 M.2.2.2.1 ∈ g_tbl ∧ (M.1.cls ≠ "java/lang/invoke/MethodHandle" ∧ M.1.cls ≠ "java/lang/invoke/VarHandle") ∧ (parseMethodDescriptor M.1.desc).map (fun d => d.parameters.length) = some n ∧ M.2.2.2.2.cells = mc ∧ M.2.2.2.2.slots = ms
theorem gOk.up {M : gM} {n : Nat} (h : gOk M n) : gOk3 M n 0 0 := h
theorem gOk3.len {M : gM} {n mc ms : Nat} (h : gOk3 M n mc ms) : ∀ sig, parseMethodDescriptor M.1.desc = some sig → n = sig.parameters.length := fun sig hs => by
  have h2 := h.2.2.2.1
  rw [hs] at h2
  exact (Option.some.inj h2).symm
theorem g_pre3 {G : gG} {M : gM} {tb : gTB} {w0 ws wc : va_W} {p : Program} {s : State} {m : MethodId} {args : Array Value} {meth : Method} {c : Code} {A : Nat → Prop} {H : Heap} {locs : List Loc} {av : List Value} (hC : gCx G M w0 p s m args meth c A) (hT : gTb M s meth c A tb) (hP : va_P G.1 vwCl ws H) (hD : va_D A ws) (hS : va_S A s.heap H locs) (isC : List Nat) (hnC : va_nd isC = true) (hCm : isC.map (fun i => ws[i]?) = wc.map some) : ∀ U : State, U.heap = H → s.WarmedH U.vm → g_Pc3 G av wc H.size av.toArray U :=
  fun U hU hW => ⟨g_pre hC hP hD hS isC hnC hCm U hU hW, g_ex.warm hW hT.2.2.2⟩
section zcalls
variable {l : Launch} {G : gG} {M Mc : gM} {tb : gTB} {w0 : va_W} {Q : gE} {kc ns mc ms pc index n : Nat} {lv : List (Nat × Value)} {st0 rest As : List Value} {ws wc wr w1c : va_W} {r : Option Value} {host : String}
theorem z_cB {p : Program} {s : State} {m : MethodId} {args : Array Value} {meth : Method} {c : Code} {A : Nat → Prop} (hC : gCx G M w0 p s m args meth c A) (ok : gOk3 Mc n mc ms) (rm : gRm M Mc) (hlk : Cond.methodLink M.1.cls index Mc.1 ∈ g_tbl) : CallB M.2.2.2.2 s args M.1.cls index Mc.1 Mc.2.1 Mc.2.2.1 Mc.2.2.2.1 (g_ws Mc) Mc.2.2.2.2 mc ms n :=
  ⟨ok.2.2.2.2.1, ok.2.2.2.2.2, rm.1, rm.2, g_pay hC.tb ok.2.1, List.mem_cons_self, hC.tb _ ok.2.1, hC.tb _ ok.1, ok.2.2.1, ok.len, hC.tb _ hlk⟩
theorem z_cN {p : Program} {s : State} {m : MethodId} {args : Array Value} {meth : Method} {c : Code} {A : Nat → Prop} (hC : gCx G M w0 p s m args meth c A) (ok : gOk3 Mc n mc ms) (rm : gRm M Mc) (hlk : (M.1.cls, index, Mc.1, host) ∈ g_nm) : va_CN M.2.2.2.2 s args M.1.cls index Mc.1 host Mc.2.1 Mc.2.2.1 Mc.2.2.2.1 (g_ws Mc) Mc.2.2.2.2 mc ms n :=
  ⟨⟨ok.2.2.2.2.1, ok.2.2.2.2.2, rm.1, rm.2, g_pay hC.tb ok.2.1, List.mem_cons_self⟩, hC.tb _ ok.2.1, hC.tb _ ok.1, ok.2.2.1, ok.len, va_Nw.use rfl (hC.zz.nm _ hlk)⟩
/-- the cells behind a call -/
theorem z_join {p : Program} {s : State} {m : MethodId} {args : Array Value} {meth : Method} {c : Code} {A : Nat → Prop} {H H1 : Heap} {locs L : List Loc} {ws' : va_W} (hC : gCx G M w0 p s m args meth c A) (hP : va_P G.1 vwCl ws H) (hD : va_D A ws) (hS : va_S A s.heap H locs) (isC isR perm : List Nat) (hCm : isC.map (fun i => ws[i]?) = wc.map some) (hRm : isR.map (fun i => ws[i]?) = wr.map some) (hn : va_nd isR = true) (hdis : ∀ i ∈ isR, i ∉ isC) (hnp : va_nd perm = true) (hpm : perm.map (fun i => (wr ++ w1c)[i]?) = ws'.map some)
    (hz : H.size ≤ H1.size) (hk : ∀ q : Nat, q < H.size → ¬ va_A wc H.size q → H1[q]? = H[q]?) (hL : ∀ q ∈ L, va_A wc H.size q.base) (hP1 : va_P G.1 vwCl w1c H1) (hD1 : va_D (va_A wc H.size) w1c) : va_P G.1 vwCl ws' H1 ∧ va_D A ws' ∧ va_S A s.heap H1 (locs ++ L) := by
  have hFc : ∀ q, va_A wc H.size q → A q := va_free hD hS hC.hA isC hCm
  obtain ⟨hP2, hD2⟩ := va_join (wr := wr) (w1 := w1c) (H1 := H1) hP hD isC isR hCm hRm hn hdis hk hFc hP1 hD1
  refine ⟨g_subP hP2 perm hpm, hD2.sub perm hnp hpm, Nat.le_trans hS.1 hz, fun q h1 h2 => ?_, fun q hq => ?_⟩
  · rw [hk q (Nat.lt_of_lt_of_le h1 hS.1) (fun z => h2 (hFc q z))]
    exact hS.2.1 q h1 h2
  · rcases List.mem_append.mp hq with h | h
    · exact hS.2.2 q h
    · exact hFc _ (hL q h)
theorem z_after {a : Array Value} {p : Program} {e : Env} {s : State} {m : MethodId} {args : Array Value} {below : List Frame} {meth : Method} {c : Code} {A : Nat → Prop} {H : Heap} {locs : List Loc} {ls : Array Slot} {ws' : va_W}
    (hr : va_Run p l e M.2.2.2.2 s m args below meth c H locs kc ns mc ms (F0 m pc ls st0) rest (g_Q G r w1c (va_A wc H.size) a) (va_A wc H.size))
    (hC : gCx G M w0 p s m args meth c A) (hT : gTb M s meth c A tb) (hP : va_P G.1 vwCl ws H) (hD : va_D A ws) (hS : va_S A s.heap H locs) (hl : lv_has ls M.2.2.1 lv)
    (isC isR perm : List Nat) (hCm : isC.map (fun i => ws[i]?) = wc.map some) (hRm : isR.map (fun i => ws[i]?) = wr.map some) (hn : va_nd isR = true) (hdis : ∀ i ∈ isR, i ∉ isC) (hnp : va_nd perm = true) (hpm : perm.map (fun i => (wr ++ w1c)[i]?) = ws'.map some)
    (k : gA3 l G M tb w0 Q (kc + mc) (ns + ms) (pc + 3) lv (r.toList ++ rest) ws') : W p l e M.2.2.2.2 s m args below meth c H locs kc ns (gEQ G below args s A Q) (F0 m pc ls st0) := by
  intro T hT0 X
  obtain ⟨v, st₀, t, T', L, h0, X', hL, e1, e2, ⟨hv, hP1, hK1, hD1, hz, hk⟩, stp⟩ := hr T hT0 X
  have hv := (Outcome.returned.inj hv)
  subst hv
  rw [h0] at hz hk
  obtain ⟨j1, j2, j3⟩ := z_join (L := L) (H1 := T'.heap) hC hP hD hS isC isR perm hCm hRm hn hdis hnp hpm (by rw [e1]; exact hz) (fun q h1 h2 => by rw [e1]; exact hk q h1 h2) hL (by rw [e1]; exact hP1) hD1
  obtain ⟨t2, a1, b1⟩ := k p e s m args below meth c A T'.heap (locs ++ L) ls hC hT j1 j2 j3 hl T' rfl X'
  exact ⟨t2, stp t2 a1, b1⟩
theorem z_callV (ws' : va_W) (isC isR perm : List Nat) {b ci q0 N : Nat} {C : String} {T : u_T} {fs : List Value} (hc : gC3 l G Mc (.ref b :: As) wc r w1c mc ms) (hd : decode M.2.1 pc = .ok (.invokevirtual index, 3)) (hst : st0 = As.reverse ++ .ref b :: rest) (ok : gOk3 Mc As.length mc ms) (rm : gRm M Mc) (hlk : Cond.methodLink M.1.cls index Mc.1 ∈ g_tbl) (hin : Cond.instanceMethod Mc.1 ∈ g_tbl) (hse : Cond.selects C Mc.1 Mc.1 ∈ g_tbl) (hrv : ws[q0]? = some (b, .inr (ci, fs))) (hcl : vwCl[ci]? = some (C, T, N)) (hkc : kc + mc ≤ M.2.2.2.2.cells) (hns : ns + ms ≤ M.2.2.2.2.slots) (hnC : va_nd isC = true) (hCm : isC.map (fun i => ws[i]?) = wc.map some) (hRm : isR.map (fun i => ws[i]?) = wr.map some) (hn : va_nd isR = true) (hdis : ∀ i ∈ isR, i ∉ isC) (hnp : va_nd perm = true) (hpm : perm.map (fun i => (wr ++ w1c)[i]?) = ws'.map some) (hcat : (rest.map fun v => v.category).sum ≤ 8) (k : gA3 l G M tb w0 Q (kc + mc) (ns + ms) (pc + 3) lv (r.toList ++ rest) ws') : gA3 l G M tb w0 Q kc ns pc lv st0 ws :=
  fun p e s m args below meth c A H locs ls hC hT hP hD hS hl => z_after (va_runV (As := As) (rest := rest) ⟨hC.1, hC.2.1, hC.ml, hC.own, hC.tb⟩ (hc H.size) ⟨z_cB hC ok rm hlk, hC.tb _ hin, hC.tb _ hse⟩ ⟨g_Pc3.blind, va_recv hC.kk hP hcl hrv, g_pre3 hC hT hP hD hS isC hnC hCm⟩ rfl rfl hl.1 hst (lv_room hcat) hd ⟨hkc, hns⟩) hC hT hP hD hS hl isC isR perm hCm hRm hn hdis hnp hpm k
theorem z_callVN (ws' : va_W) (isC isR perm : List Nat) {b ci q0 N : Nat} {C : String} {T : u_T} {fs : List Value} (hc : gC3 l G Mc (.ref b :: As) wc r w1c mc ms) (hd : decode M.2.1 pc = .ok (.invokevirtual index, 3)) (hst : st0 = As.reverse ++ .ref b :: rest) (ok : gOk3 Mc As.length mc ms) (rm : gRm M Mc) (hlk : (M.1.cls, index, Mc.1, host) ∈ g_nm) (hin : Cond.instanceMethod Mc.1 ∈ g_tbl) (hse : Cond.selects C Mc.1 Mc.1 ∈ g_tbl) (hrv : ws[q0]? = some (b, .inr (ci, fs))) (hcl : vwCl[ci]? = some (C, T, N)) (hkc : kc + mc ≤ M.2.2.2.2.cells) (hns : ns + ms ≤ M.2.2.2.2.slots) (hnC : va_nd isC = true) (hCm : isC.map (fun i => ws[i]?) = wc.map some) (hRm : isR.map (fun i => ws[i]?) = wr.map some) (hn : va_nd isR = true) (hdis : ∀ i ∈ isR, i ∉ isC) (hnp : va_nd perm = true) (hpm : perm.map (fun i => (wr ++ w1c)[i]?) = ws'.map some) (hcat : (rest.map fun v => v.category).sum ≤ 8) (k : gA3 l G M tb w0 Q (kc + mc) (ns + ms) (pc + 3) lv (r.toList ++ rest) ws') : gA3 l G M tb w0 Q kc ns pc lv st0 ws :=
  fun p e s m args below meth c A H locs ls hC hT hP hD hS hl => z_after (va_runVN (As := As) (rest := rest) ⟨hC.1, hC.2.1, hC.ml, hC.own, hC.tb⟩ (hc H.size) ⟨z_cN hC ok rm hlk, hC.tb _ hin, hC.tb _ hse⟩ ⟨g_Pc3.blind, va_recv hC.kk hP hcl hrv, g_pre3 hC hT hP hD hS isC hnC hCm⟩ rfl rfl hl.1 hst (lv_room hcat) hd ⟨hkc, hns⟩) hC hT hP hD hS hl isC isR perm hCm hRm hn hdis hnp hpm k
theorem z_callS (ws' : va_W) (isC isR perm : List Nat) (hc : gC3 l G Mc As wc r w1c mc ms) (hd : decode M.2.1 pc = .ok (.invokestatic index, 3)) (hst : st0 = As.reverse ++ rest) (ok : gOk3 Mc As.length mc ms) (rm : gRm M Mc) (hlk : Cond.methodLink M.1.cls index Mc.1 ∈ g_tbl) (hsc : Cond.static Mc.1 ∈ g_tbl) (hkc : kc + mc ≤ M.2.2.2.2.cells) (hns : ns + ms ≤ M.2.2.2.2.slots) (hnC : va_nd isC = true) (hCm : isC.map (fun i => ws[i]?) = wc.map some) (hRm : isR.map (fun i => ws[i]?) = wr.map some) (hn : va_nd isR = true) (hdis : ∀ i ∈ isR, i ∉ isC) (hnp : va_nd perm = true) (hpm : perm.map (fun i => (wr ++ w1c)[i]?) = ws'.map some) (hcat : (rest.map fun v => v.category).sum ≤ 8) (k : gA3 l G M tb w0 Q (kc + mc) (ns + ms) (pc + 3) lv (r.toList ++ rest) ws') : gA3 l G M tb w0 Q kc ns pc lv st0 ws :=
  fun p e s m args below meth c A H locs ls hC hT hP hD hS hl => z_after (va_runS (As := As) (rest := rest) ⟨hC.1, hC.2.1, hC.ml, hC.own, hC.tb⟩ (hc H.size) ⟨z_cB hC ok rm hlk, hC.tb _ hsc⟩ ⟨g_Pc3.blind, g_pre3 hC hT hP hD hS isC hnC hCm⟩ rfl rfl hl.1 hst (lv_room hcat) hd ⟨hkc, hns⟩) hC hT hP hD hS hl isC isR perm hCm hRm hn hdis hnp hpm k
theorem z_callSN (ws' : va_W) (isC isR perm : List Nat) (hc : gC3 l G Mc As wc r w1c mc ms) (hd : decode M.2.1 pc = .ok (.invokestatic index, 3)) (hst : st0 = As.reverse ++ rest) (ok : gOk3 Mc As.length mc ms) (rm : gRm M Mc) (hlk : (M.1.cls, index, Mc.1, host) ∈ g_nm) (hsc : Cond.static Mc.1 ∈ g_tbl) (hkc : kc + mc ≤ M.2.2.2.2.cells) (hns : ns + ms ≤ M.2.2.2.2.slots) (hnC : va_nd isC = true) (hCm : isC.map (fun i => ws[i]?) = wc.map some) (hRm : isR.map (fun i => ws[i]?) = wr.map some) (hn : va_nd isR = true) (hdis : ∀ i ∈ isR, i ∉ isC) (hnp : va_nd perm = true) (hpm : perm.map (fun i => (wr ++ w1c)[i]?) = ws'.map some) (hcat : (rest.map fun v => v.category).sum ≤ 8) (k : gA3 l G M tb w0 Q (kc + mc) (ns + ms) (pc + 3) lv (r.toList ++ rest) ws') : gA3 l G M tb w0 Q kc ns pc lv st0 ws :=
  fun p e s m args below meth c A H locs ls hC hT hP hD hS hl => z_after (va_runSN (As := As) (rest := rest) ⟨hC.1, hC.2.1, hC.ml, hC.own, hC.tb⟩ (hc H.size) ⟨z_cN hC ok rm hlk, hC.tb _ hsc, trivial⟩ ⟨g_Pc3.blind, g_pre3 hC hT hP hD hS isC hnC hCm⟩ rfl rfl hl.1 hst (lv_room hcat) hd ⟨hkc, hns⟩) hC hT hP hD hS hl isC isR perm hCm hRm hn hdis hnp hpm k
theorem z_callI (ws' : va_W) (isC isR perm : List Nat) {b : Nat} (hc : gC3 l G Mc (.ref b :: As) wc r w1c mc ms) (hd : decode M.2.1 pc = .ok (.invokespecial index, 3)) (hst : st0 = As.reverse ++ .ref b :: rest) (ok : gOk3 Mc As.length mc ms) (rm : gRm M Mc) (hlk : Cond.methodLink M.1.cls index Mc.1 ∈ g_tbl) (hin : Cond.instanceMethod Mc.1 ∈ g_tbl) (hnm : Mc.1.name = "<init>") (hrt : Mc.2.2.2.1 = none) (hkc : kc + mc ≤ M.2.2.2.2.cells) (hns : ns + ms ≤ M.2.2.2.2.slots) (hnC : va_nd isC = true) (hCm : isC.map (fun i => ws[i]?) = wc.map some) (hRm : isR.map (fun i => ws[i]?) = wr.map some) (hn : va_nd isR = true) (hdis : ∀ i ∈ isR, i ∉ isC) (hnp : va_nd perm = true) (hpm : perm.map (fun i => (wr ++ w1c)[i]?) = ws'.map some) (hcat : (rest.map fun v => v.category).sum ≤ 8) (k : gA3 l G M tb w0 Q (kc + mc) (ns + ms) (pc + 3) lv (r.toList ++ rest) ws') : gA3 l G M tb w0 Q kc ns pc lv st0 ws :=
  fun p e s m args below meth c A H locs ls hC hT hP hD hS hl => z_after (va_runI (As := As) (rest := rest) ⟨hC.1, hC.2.1, hC.ml, hC.own, hC.tb⟩ (hc H.size) ⟨(by have h := z_cB hC ok rm hlk; rw [hrt] at h; exact h), hnm, hC.tb _ hin⟩ ⟨g_Pc3.blind, g_pre3 hC hT hP hD hS isC hnC hCm⟩ rfl rfl hl.1 hst (lv_room hcat) hd ⟨hkc, hns⟩) hC hT hP hD hS hl isC isR perm hCm hRm hn hdis hnp hpm k
theorem z_callIN (ws' : va_W) (isC isR perm : List Nat) {b : Nat} (hc : gC3 l G Mc (.ref b :: As) wc r w1c mc ms) (hd : decode M.2.1 pc = .ok (.invokespecial index, 3)) (hst : st0 = As.reverse ++ .ref b :: rest) (ok : gOk3 Mc As.length mc ms) (rm : gRm M Mc) (hlk : (M.1.cls, index, Mc.1, host) ∈ g_nm) (hin : Cond.instanceMethod Mc.1 ∈ g_tbl) (hnm : Mc.1.name = "<init>") (hrt : Mc.2.2.2.1 = none) (hkc : kc + mc ≤ M.2.2.2.2.cells) (hns : ns + ms ≤ M.2.2.2.2.slots) (hnC : va_nd isC = true) (hCm : isC.map (fun i => ws[i]?) = wc.map some) (hRm : isR.map (fun i => ws[i]?) = wr.map some) (hn : va_nd isR = true) (hdis : ∀ i ∈ isR, i ∉ isC) (hnp : va_nd perm = true) (hpm : perm.map (fun i => (wr ++ w1c)[i]?) = ws'.map some) (hcat : (rest.map fun v => v.category).sum ≤ 8) (k : gA3 l G M tb w0 Q (kc + mc) (ns + ms) (pc + 3) lv (r.toList ++ rest) ws') : gA3 l G M tb w0 Q kc ns pc lv st0 ws :=
  fun p e s m args below meth c A H locs ls hC hT hP hD hS hl => z_after (va_runIN (As := As) (rest := rest) ⟨hC.1, hC.2.1, hC.ml, hC.own, hC.tb⟩ (hc H.size) ⟨(by have h := z_cN hC ok rm hlk; rw [hrt] at h; exact h), hnm, hC.tb _ hin⟩ ⟨g_Pc3.blind, g_pre3 hC hT hP hD hS isC hnC hCm⟩ rfl rfl hl.1 hst (lv_room hcat) hd ⟨hkc, hns⟩) hC hT hP hD hS hl isC isR perm hCm hRm hn hdis hnp hpm k
theorem z_after4 {P : va_W → Prop} {a : Array Value} {p : Program} {e : Env} {s : State} {m : MethodId} {args : Array Value} {below : List Frame} {meth : Method} {c : Code} {A : Nat → Prop} {H : Heap} {locs : List Loc} {ls : Array Slot}
    (hr : va_Run p l e M.2.2.2.2 s m args below meth c H locs kc ns mc ms (F0 m pc ls st0) rest (fun st o t => ∃ w1, P w1 ∧ g_Q G none w1 (va_A wc H.size) a st o t) (va_A wc H.size))
    (hC : gCx G M w0 p s m args meth c A) (hT : gTb M s meth c A tb) (hP : va_P G.1 vwCl ws H) (hD : va_D A ws) (hS : va_S A s.heap H locs) (hl : lv_has ls M.2.2.1 lv)
    (isC isR : List Nat) (hCm : isC.map (fun i => ws[i]?) = wc.map some) (hRm : isR.map (fun i => ws[i]?) = wr.map some) (hn : va_nd isR = true) (hdis : ∀ i ∈ isR, i ∉ isC)
    (k : ∀ w1c, P w1c → gA3 l G M tb w0 Q (kc + mc) (ns + ms) (pc + 3) lv rest (wr ++ w1c)) : W p l e M.2.2.2.2 s m args below meth c H locs kc ns (gEQ G below args s A Q) (F0 m pc ls st0) := by
  intro T hT0 X
  obtain ⟨v, st₀, t, T', L, h0, X', hL, e1, e2, ⟨w1c, hPw, hv, hP1, hK1, hD1, hz, hk⟩, stp⟩ := hr T hT0 X
  have hv := (Outcome.returned.inj hv)
  subst hv
  rw [h0] at hz hk
  have hFc : ∀ q, va_A wc H.size q → A q := va_free hD hS hC.hA isC hCm
  obtain ⟨hP2, hD2⟩ := va_join (wr := wr) (w1 := w1c) (H1 := T'.heap) hP hD isC isR hCm hRm hn hdis (fun q h1 h2 => by rw [e1]; exact hk q h1 h2) hFc (by rw [e1]; exact hP1) hD1
  obtain ⟨t2, a1, b1⟩ := k w1c hPw p e s m args below meth c A T'.heap (locs ++ L) ls hC hT hP2 hD2 ⟨Nat.le_trans hS.1 (by rw [e1]; exact hz), fun q h1 h2 => by rw [e1, hk q (Nat.lt_of_lt_of_le h1 hS.1) (fun z => h2 (hFc q z))]; exact hS.2.1 q h1 h2, fun q hq => by
      rcases List.mem_append.mp hq with h | h
      · exact hS.2.2 q h
      · exact hFc _ (hL q h)⟩ hl T' rfl X'
  exact ⟨t2, stp t2 a1, b1⟩
theorem z_callI4 {P : va_W → Prop} (isC isR : List Nat) {b : Nat} (hc : gC4 l G Mc (.ref b :: As) wc P mc ms) (hd : decode M.2.1 pc = .ok (.invokespecial index, 3)) (hst : st0 = As.reverse ++ .ref b :: rest) (ok : gOk3 Mc As.length mc ms) (rm : gRm M Mc) (hlk : Cond.methodLink M.1.cls index Mc.1 ∈ g_tbl) (hin : Cond.instanceMethod Mc.1 ∈ g_tbl) (hnm : Mc.1.name = "<init>") (hrt : Mc.2.2.2.1 = none) (hkc : kc + mc ≤ M.2.2.2.2.cells) (hns : ns + ms ≤ M.2.2.2.2.slots) (hnC : va_nd isC = true) (hCm : isC.map (fun i => ws[i]?) = wc.map some) (hRm : isR.map (fun i => ws[i]?) = wr.map some) (hn : va_nd isR = true) (hdis : ∀ i ∈ isR, i ∉ isC) (hcat : (rest.map fun v => v.category).sum ≤ 8) (k : ∀ w1c, P w1c → gA3 l G M tb w0 Q (kc + mc) (ns + ms) (pc + 3) lv rest (wr ++ w1c)) : gA3 l G M tb w0 Q kc ns pc lv st0 ws :=
  fun p e s m args below meth c A H locs ls hC hT hP hD hS hl => z_after4 (a := (.ref b :: As).toArray) (va_runI (As := As) (rest := rest) ⟨hC.1, hC.2.1, hC.ml, hC.own, hC.tb⟩ (hc H.size) ⟨(by have h := z_cB hC ok rm hlk; rw [hrt] at h; exact h), hnm, hC.tb _ hin⟩ ⟨g_Pc3.blind, g_pre3 hC hT hP hD hS isC hnC hCm⟩ rfl rfl hl.1 hst (lv_room hcat) hd ⟨hkc, hns⟩) hC hT hP hD hS hl isC isR hCm hRm hn hdis k
theorem z_callI4N {P : va_W → Prop} (isC isR : List Nat) {b : Nat} (hc : gC4 l G Mc (.ref b :: As) wc P mc ms) (hd : decode M.2.1 pc = .ok (.invokespecial index, 3)) (hst : st0 = As.reverse ++ .ref b :: rest) (ok : gOk3 Mc As.length mc ms) (rm : gRm M Mc) (hlk : (M.1.cls, index, Mc.1, host) ∈ g_nm) (hin : Cond.instanceMethod Mc.1 ∈ g_tbl) (hnm : Mc.1.name = "<init>") (hrt : Mc.2.2.2.1 = none) (hkc : kc + mc ≤ M.2.2.2.2.cells) (hns : ns + ms ≤ M.2.2.2.2.slots) (hnC : va_nd isC = true) (hCm : isC.map (fun i => ws[i]?) = wc.map some) (hRm : isR.map (fun i => ws[i]?) = wr.map some) (hn : va_nd isR = true) (hdis : ∀ i ∈ isR, i ∉ isC) (hcat : (rest.map fun v => v.category).sum ≤ 8) (k : ∀ w1c, P w1c → gA3 l G M tb w0 Q (kc + mc) (ns + ms) (pc + 3) lv rest (wr ++ w1c)) : gA3 l G M tb w0 Q kc ns pc lv st0 ws :=
  fun p e s m args below meth c A H locs ls hC hT hP hD hS hl => z_after4 (a := (.ref b :: As).toArray) (va_runIN (As := As) (rest := rest) ⟨hC.1, hC.2.1, hC.ml, hC.own, hC.tb⟩ (hc H.size) ⟨(by have h := z_cN hC ok rm hlk; rw [hrt] at h; exact h), hnm, hC.tb _ hin⟩ ⟨g_Pc3.blind, g_pre3 hC hT hP hD hS isC hnC hCm⟩ rfl rfl hl.1 hst (lv_room hcat) hd ⟨hkc, hns⟩) hC hT hP hD hS hl isC isR hCm hRm hn hdis k
/-- the same cells in another order -/
theorem z_ws (ws' : va_W) (perm : List Nat) (hnp : va_nd perm = true) (hpm : perm.map (fun i => ws[i]?) = ws'.map some) (k : gA3 l G M tb w0 Q kc ns pc lv st0 ws') : gA3 l G M tb w0 Q kc ns pc lv st0 ws :=
  fun p e s m args below meth c A H locs ls hC hT hP hD hS hl => k p e s m args below meth c A H locs ls hC hT (g_subP hP perm hpm) (hD.sub perm hnp hpm) hS hl
end zcalls
theorem z_iadd {l : Launch} {G : gG} {M : gM} {w0 : va_W} {tb : gTB} {Q : gE} {kc ns : Nat} {pc : Nat} {lv : List (Nat × Value)} {st : List Value} {ws : va_W} {x y : Int32} (hd : decode M.2.1 pc = .ok (.iadd, 1)) (k : gA3 l G M tb w0 Q kc ns (pc + 1) lv (.int (x + y) :: st) ws) : gA3 l G M tb w0 Q kc ns pc lv (.int y :: .int x :: st) ws := fun p e s m args below meth c A H locs ls hC hT hP hD hS hl => lv_iadd hC.1 hC.2.1 hd (k p e s m args below meth c A H locs ls hC hT hP hD hS hl)
theorem z_isub {l : Launch} {G : gG} {M : gM} {w0 : va_W} {tb : gTB} {Q : gE} {kc ns : Nat} {pc : Nat} {lv : List (Nat × Value)} {st : List Value} {ws : va_W} {x y : Int32} (hd : decode M.2.1 pc = .ok (.isub, 1)) (k : gA3 l G M tb w0 Q kc ns (pc + 1) lv (.int (x - y) :: st) ws) : gA3 l G M tb w0 Q kc ns pc lv (.int y :: .int x :: st) ws := fun p e s m args below meth c A H locs ls hC hT hP hD hS hl => lv_isub hC.1 hC.2.1 hd (k p e s m args below meth c A H locs ls hC hT hP hD hS hl)
theorem z_imul {l : Launch} {G : gG} {M : gM} {w0 : va_W} {tb : gTB} {Q : gE} {kc ns : Nat} {pc : Nat} {lv : List (Nat × Value)} {st : List Value} {ws : va_W} {x y : Int32} (hd : decode M.2.1 pc = .ok (.imul, 1)) (k : gA3 l G M tb w0 Q kc ns (pc + 1) lv (.int (x * y) :: st) ws) : gA3 l G M tb w0 Q kc ns pc lv (.int y :: .int x :: st) ws := fun p e s m args below meth c A H locs ls hC hT hP hD hS hl => lv_imul hC.1 hC.2.1 hd (k p e s m args below meth c A H locs ls hC hT hP hD hS hl)
theorem z_iand {l : Launch} {G : gG} {M : gM} {w0 : va_W} {tb : gTB} {Q : gE} {kc ns : Nat} {pc : Nat} {lv : List (Nat × Value)} {st : List Value} {ws : va_W} {x y : Int32} (hd : decode M.2.1 pc = .ok (.iand, 1)) (k : gA3 l G M tb w0 Q kc ns (pc + 1) lv (.int (x &&& y) :: st) ws) : gA3 l G M tb w0 Q kc ns pc lv (.int y :: .int x :: st) ws := fun p e s m args below meth c A H locs ls hC hT hP hD hS hl => lv_iand hC.1 hC.2.1 hd (k p e s m args below meth c A H locs ls hC hT hP hD hS hl)
theorem z_ior {l : Launch} {G : gG} {M : gM} {w0 : va_W} {tb : gTB} {Q : gE} {kc ns : Nat} {pc : Nat} {lv : List (Nat × Value)} {st : List Value} {ws : va_W} {x y : Int32} (hd : decode M.2.1 pc = .ok (.ior, 1)) (k : gA3 l G M tb w0 Q kc ns (pc + 1) lv (.int (x ||| y) :: st) ws) : gA3 l G M tb w0 Q kc ns pc lv (.int y :: .int x :: st) ws := fun p e s m args below meth c A H locs ls hC hT hP hD hS hl => lv_ior hC.1 hC.2.1 hd (k p e s m args below meth c A H locs ls hC hT hP hD hS hl)
theorem z_ixor {l : Launch} {G : gG} {M : gM} {w0 : va_W} {tb : gTB} {Q : gE} {kc ns : Nat} {pc : Nat} {lv : List (Nat × Value)} {st : List Value} {ws : va_W} {x y : Int32} (hd : decode M.2.1 pc = .ok (.ixor, 1)) (k : gA3 l G M tb w0 Q kc ns (pc + 1) lv (.int (x ^^^ y) :: st) ws) : gA3 l G M tb w0 Q kc ns pc lv (.int y :: .int x :: st) ws := fun p e s m args below meth c A H locs ls hC hT hP hD hS hl => lv_ixor hC.1 hC.2.1 hd (k p e s m args below meth c A H locs ls hC hT hP hD hS hl)
theorem z_ladd {l : Launch} {G : gG} {M : gM} {w0 : va_W} {tb : gTB} {Q : gE} {kc ns : Nat} {pc : Nat} {lv : List (Nat × Value)} {st : List Value} {ws : va_W} {x y : Int64} (hd : decode M.2.1 pc = .ok (.ladd, 1)) (k : gA3 l G M tb w0 Q kc ns (pc + 1) lv (.long (x + y) :: st) ws) : gA3 l G M tb w0 Q kc ns pc lv (.long y :: .long x :: st) ws := fun p e s m args below meth c A H locs ls hC hT hP hD hS hl => lv_ladd hC.1 hC.2.1 hd (k p e s m args below meth c A H locs ls hC hT hP hD hS hl)
theorem z_lsub {l : Launch} {G : gG} {M : gM} {w0 : va_W} {tb : gTB} {Q : gE} {kc ns : Nat} {pc : Nat} {lv : List (Nat × Value)} {st : List Value} {ws : va_W} {x y : Int64} (hd : decode M.2.1 pc = .ok (.lsub, 1)) (k : gA3 l G M tb w0 Q kc ns (pc + 1) lv (.long (x - y) :: st) ws) : gA3 l G M tb w0 Q kc ns pc lv (.long y :: .long x :: st) ws := fun p e s m args below meth c A H locs ls hC hT hP hD hS hl => lv_lsub hC.1 hC.2.1 hd (k p e s m args below meth c A H locs ls hC hT hP hD hS hl)
theorem z_lmul {l : Launch} {G : gG} {M : gM} {w0 : va_W} {tb : gTB} {Q : gE} {kc ns : Nat} {pc : Nat} {lv : List (Nat × Value)} {st : List Value} {ws : va_W} {x y : Int64} (hd : decode M.2.1 pc = .ok (.lmul, 1)) (k : gA3 l G M tb w0 Q kc ns (pc + 1) lv (.long (x * y) :: st) ws) : gA3 l G M tb w0 Q kc ns pc lv (.long y :: .long x :: st) ws := fun p e s m args below meth c A H locs ls hC hT hP hD hS hl => lv_lmul hC.1 hC.2.1 hd (k p e s m args below meth c A H locs ls hC hT hP hD hS hl)
theorem z_land {l : Launch} {G : gG} {M : gM} {w0 : va_W} {tb : gTB} {Q : gE} {kc ns : Nat} {pc : Nat} {lv : List (Nat × Value)} {st : List Value} {ws : va_W} {x y : Int64} (hd : decode M.2.1 pc = .ok (.land, 1)) (k : gA3 l G M tb w0 Q kc ns (pc + 1) lv (.long (x &&& y) :: st) ws) : gA3 l G M tb w0 Q kc ns pc lv (.long y :: .long x :: st) ws := fun p e s m args below meth c A H locs ls hC hT hP hD hS hl => lv_land hC.1 hC.2.1 hd (k p e s m args below meth c A H locs ls hC hT hP hD hS hl)
theorem z_lor {l : Launch} {G : gG} {M : gM} {w0 : va_W} {tb : gTB} {Q : gE} {kc ns : Nat} {pc : Nat} {lv : List (Nat × Value)} {st : List Value} {ws : va_W} {x y : Int64} (hd : decode M.2.1 pc = .ok (.lor, 1)) (k : gA3 l G M tb w0 Q kc ns (pc + 1) lv (.long (x ||| y) :: st) ws) : gA3 l G M tb w0 Q kc ns pc lv (.long y :: .long x :: st) ws := fun p e s m args below meth c A H locs ls hC hT hP hD hS hl => lv_lor hC.1 hC.2.1 hd (k p e s m args below meth c A H locs ls hC hT hP hD hS hl)
theorem z_lxor {l : Launch} {G : gG} {M : gM} {w0 : va_W} {tb : gTB} {Q : gE} {kc ns : Nat} {pc : Nat} {lv : List (Nat × Value)} {st : List Value} {ws : va_W} {x y : Int64} (hd : decode M.2.1 pc = .ok (.lxor, 1)) (k : gA3 l G M tb w0 Q kc ns (pc + 1) lv (.long (x ^^^ y) :: st) ws) : gA3 l G M tb w0 Q kc ns pc lv (.long y :: .long x :: st) ws := fun p e s m args below meth c A H locs ls hC hT hP hD hS hl => lv_lxor hC.1 hC.2.1 hd (k p e s m args below meth c A H locs ls hC hT hP hD hS hl)
theorem z_idiv {l : Launch} {G : gG} {M : gM} {w0 : va_W} {tb : gTB} {Q : gE} {kc ns : Nat} {pc : Nat} {lv : List (Nat × Value)} {st : List Value} {ws : va_W} {x y : Int32} (hd : decode M.2.1 pc = .ok (.idiv, 1)) (hne : ¬ y = 0) (k : gA3 l G M tb w0 Q kc ns (pc + 1) lv (.int (x / y) :: st) ws) : gA3 l G M tb w0 Q kc ns pc lv (.int y :: .int x :: st) ws := fun p e s m args below meth c A H locs ls hC hT hP hD hS hl => lv_idiv hC.1 hC.2.1 hd hne (k p e s m args below meth c A H locs ls hC hT hP hD hS hl)
theorem z_irem {l : Launch} {G : gG} {M : gM} {w0 : va_W} {tb : gTB} {Q : gE} {kc ns : Nat} {pc : Nat} {lv : List (Nat × Value)} {st : List Value} {ws : va_W} {x y : Int32} (hd : decode M.2.1 pc = .ok (.irem, 1)) (hne : ¬ y = 0) (k : gA3 l G M tb w0 Q kc ns (pc + 1) lv (.int (x - x / y * y) :: st) ws) : gA3 l G M tb w0 Q kc ns pc lv (.int y :: .int x :: st) ws := fun p e s m args below meth c A H locs ls hC hT hP hD hS hl => lv_irem hC.1 hC.2.1 hd hne (k p e s m args below meth c A H locs ls hC hT hP hD hS hl)
theorem z_ldiv {l : Launch} {G : gG} {M : gM} {w0 : va_W} {tb : gTB} {Q : gE} {kc ns : Nat} {pc : Nat} {lv : List (Nat × Value)} {st : List Value} {ws : va_W} {x y : Int64} (hd : decode M.2.1 pc = .ok (.ldiv, 1)) (hne : ¬ y = 0) (k : gA3 l G M tb w0 Q kc ns (pc + 1) lv (.long (x / y) :: st) ws) : gA3 l G M tb w0 Q kc ns pc lv (.long y :: .long x :: st) ws := fun p e s m args below meth c A H locs ls hC hT hP hD hS hl => lv_ldiv hC.1 hC.2.1 hd hne (k p e s m args below meth c A H locs ls hC hT hP hD hS hl)
theorem z_lrem {l : Launch} {G : gG} {M : gM} {w0 : va_W} {tb : gTB} {Q : gE} {kc ns : Nat} {pc : Nat} {lv : List (Nat × Value)} {st : List Value} {ws : va_W} {x y : Int64} (hd : decode M.2.1 pc = .ok (.lrem, 1)) (hne : ¬ y = 0) (k : gA3 l G M tb w0 Q kc ns (pc + 1) lv (.long (x - x / y * y) :: st) ws) : gA3 l G M tb w0 Q kc ns pc lv (.long y :: .long x :: st) ws := fun p e s m args below meth c A H locs ls hC hT hP hD hS hl => lv_lrem hC.1 hC.2.1 hd hne (k p e s m args below meth c A H locs ls hC hT hP hD hS hl)
theorem z_ineg {l : Launch} {G : gG} {M : gM} {w0 : va_W} {tb : gTB} {Q : gE} {kc ns : Nat} {pc : Nat} {lv : List (Nat × Value)} {st : List Value} {ws : va_W} {x : Int32} (hd : decode M.2.1 pc = .ok (.ineg, 1)) (k : gA3 l G M tb w0 Q kc ns (pc + 1) lv (.int (-x) :: st) ws) : gA3 l G M tb w0 Q kc ns pc lv (.int x :: st) ws := fun p e s m args below meth c A H locs ls hC hT hP hD hS hl => lv_ineg hC.1 hC.2.1 hd (k p e s m args below meth c A H locs ls hC hT hP hD hS hl)
theorem z_lneg {l : Launch} {G : gG} {M : gM} {w0 : va_W} {tb : gTB} {Q : gE} {kc ns : Nat} {pc : Nat} {lv : List (Nat × Value)} {st : List Value} {ws : va_W} {x : Int64} (hd : decode M.2.1 pc = .ok (.lneg, 1)) (k : gA3 l G M tb w0 Q kc ns (pc + 1) lv (.long (-x) :: st) ws) : gA3 l G M tb w0 Q kc ns pc lv (.long x :: st) ws := fun p e s m args below meth c A H locs ls hC hT hP hD hS hl => lv_lneg hC.1 hC.2.1 hd (k p e s m args below meth c A H locs ls hC hT hP hD hS hl)
theorem z_ishl {l : Launch} {G : gG} {M : gM} {w0 : va_W} {tb : gTB} {Q : gE} {kc ns : Nat} {pc : Nat} {lv : List (Nat × Value)} {st : List Value} {ws : va_W} {x y : Int32} (hd : decode M.2.1 pc = .ok (.ishl, 1)) (k : gA3 l G M tb w0 Q kc ns (pc + 1) lv (.int (x <<< (y &&& 31)) :: st) ws) : gA3 l G M tb w0 Q kc ns pc lv (.int y :: .int x :: st) ws := fun p e s m args below meth c A H locs ls hC hT hP hD hS hl => lv_ishl hC.1 hC.2.1 hd (k p e s m args below meth c A H locs ls hC hT hP hD hS hl)
theorem z_ishr {l : Launch} {G : gG} {M : gM} {w0 : va_W} {tb : gTB} {Q : gE} {kc ns : Nat} {pc : Nat} {lv : List (Nat × Value)} {st : List Value} {ws : va_W} {x y : Int32} (hd : decode M.2.1 pc = .ok (.ishr, 1)) (k : gA3 l G M tb w0 Q kc ns (pc + 1) lv (.int (x >>> (y &&& 31)) :: st) ws) : gA3 l G M tb w0 Q kc ns pc lv (.int y :: .int x :: st) ws := fun p e s m args below meth c A H locs ls hC hT hP hD hS hl => lv_ishr hC.1 hC.2.1 hd (k p e s m args below meth c A H locs ls hC hT hP hD hS hl)
theorem z_iushr {l : Launch} {G : gG} {M : gM} {w0 : va_W} {tb : gTB} {Q : gE} {kc ns : Nat} {pc : Nat} {lv : List (Nat × Value)} {st : List Value} {ws : va_W} {x y : Int32} (hd : decode M.2.1 pc = .ok (.iushr, 1)) (k : gA3 l G M tb w0 Q kc ns (pc + 1) lv (.int ((x.toUInt32 >>> (y.toUInt32 &&& Int32.toUInt32 31)).toInt32) :: st) ws) : gA3 l G M tb w0 Q kc ns pc lv (.int y :: .int x :: st) ws := fun p e s m args below meth c A H locs ls hC hT hP hD hS hl => lv_iushr hC.1 hC.2.1 hd rfl (k p e s m args below meth c A H locs ls hC hT hP hD hS hl)
theorem z_lushr {l : Launch} {G : gG} {M : gM} {w0 : va_W} {tb : gTB} {Q : gE} {kc ns : Nat} {pc : Nat} {lv : List (Nat × Value)} {st : List Value} {ws : va_W} {x : Int64} {y : Int32} (hd : decode M.2.1 pc = .ok (.lushr, 1)) (k : gA3 l G M tb w0 Q kc ns (pc + 1) lv (.long ((x.toUInt64 >>> (y.toInt64.toUInt64 &&& Int64.toUInt64 63)).toInt64) :: st) ws) : gA3 l G M tb w0 Q kc ns pc lv (.int y :: .long x :: st) ws := fun p e s m args below meth c A H locs ls hC hT hP hD hS hl => lv_lushr hC.1 hC.2.1 hd rfl (k p e s m args below meth c A H locs ls hC hT hP hD hS hl)
theorem z_lshl {l : Launch} {G : gG} {M : gM} {w0 : va_W} {tb : gTB} {Q : gE} {kc ns : Nat} {pc : Nat} {lv : List (Nat × Value)} {st : List Value} {ws : va_W} {x : Int64} {y : Int32} (hd : decode M.2.1 pc = .ok (.lshl, 1)) (k : gA3 l G M tb w0 Q kc ns (pc + 1) lv (.long (x <<< (y.toInt64 &&& 63)) :: st) ws) : gA3 l G M tb w0 Q kc ns pc lv (.int y :: .long x :: st) ws := fun p e s m args below meth c A H locs ls hC hT hP hD hS hl => lv_lshl hC.1 hC.2.1 hd rfl (k p e s m args below meth c A H locs ls hC hT hP hD hS hl)
theorem z_lshr {l : Launch} {G : gG} {M : gM} {w0 : va_W} {tb : gTB} {Q : gE} {kc ns : Nat} {pc : Nat} {lv : List (Nat × Value)} {st : List Value} {ws : va_W} {x : Int64} {y : Int32} (hd : decode M.2.1 pc = .ok (.lshr, 1)) (k : gA3 l G M tb w0 Q kc ns (pc + 1) lv (.long (x >>> (y.toInt64 &&& 63)) :: st) ws) : gA3 l G M tb w0 Q kc ns pc lv (.int y :: .long x :: st) ws := fun p e s m args below meth c A H locs ls hC hT hP hD hS hl => lv_lshr hC.1 hC.2.1 hd rfl (k p e s m args below meth c A H locs ls hC hT hP hD hS hl)
theorem z_i2l {l : Launch} {G : gG} {M : gM} {w0 : va_W} {tb : gTB} {Q : gE} {kc ns : Nat} {pc : Nat} {lv : List (Nat × Value)} {st : List Value} {ws : va_W} {x : Int32} (hd : decode M.2.1 pc = .ok (.i2l, 1)) (k : gA3 l G M tb w0 Q kc ns (pc + 1) lv (.long (x.toInt64) :: st) ws) : gA3 l G M tb w0 Q kc ns pc lv (.int x :: st) ws := fun p e s m args below meth c A H locs ls hC hT hP hD hS hl => lv_i2l hC.1 hC.2.1 hd rfl (k p e s m args below meth c A H locs ls hC hT hP hD hS hl)
theorem z_l2i {l : Launch} {G : gG} {M : gM} {w0 : va_W} {tb : gTB} {Q : gE} {kc ns : Nat} {pc : Nat} {lv : List (Nat × Value)} {st : List Value} {ws : va_W} {x : Int64} (hd : decode M.2.1 pc = .ok (.l2i, 1)) (k : gA3 l G M tb w0 Q kc ns (pc + 1) lv (.int (x.toInt32) :: st) ws) : gA3 l G M tb w0 Q kc ns pc lv (.long x :: st) ws := fun p e s m args below meth c A H locs ls hC hT hP hD hS hl => lv_l2i hC.1 hC.2.1 hd rfl (k p e s m args below meth c A H locs ls hC hT hP hD hS hl)
theorem z_i2c {l : Launch} {G : gG} {M : gM} {w0 : va_W} {tb : gTB} {Q : gE} {kc ns : Nat} {pc : Nat} {lv : List (Nat × Value)} {st : List Value} {ws : va_W} {x : Int32} (hd : decode M.2.1 pc = .ok (.i2c, 1)) (k : gA3 l G M tb w0 Q kc ns (pc + 1) lv (.int ((x.toUInt32 % 65536).toInt32) :: st) ws) : gA3 l G M tb w0 Q kc ns pc lv (.int x :: st) ws := fun p e s m args below meth c A H locs ls hC hT hP hD hS hl => lv_i2c hC.1 hC.2.1 hd rfl (k p e s m args below meth c A H locs ls hC hT hP hD hS hl)
theorem z_lcmp {l : Launch} {G : gG} {M : gM} {w0 : va_W} {tb : gTB} {Q : gE} {kc ns : Nat} {pc : Nat} {lv : List (Nat × Value)} {st : List Value} {ws : va_W} {x y : Int64} (hd : decode M.2.1 pc = .ok (.lcmp, 1)) (k : gA3 l G M tb w0 Q kc ns (pc + 1) lv (.int (lg_cmp x y) :: st) ws) : gA3 l G M tb w0 Q kc ns pc lv (.long y :: .long x :: st) ws := fun p e s m args below meth c A H locs ls hC hT hP hD hS hl => W.lcmp hC.1 hC.2.1 hd (k p e s m args below meth c A H locs ls hC hT hP hD hS hl)
theorem z_iconst {l : Launch} {G : gG} {M : gM} {w0 : va_W} {tb : gTB} {Q : gE} {kc ns : Nat} {pc : Nat} {lv : List (Nat × Value)} {st : List Value} {ws : va_W} {n : Int} (v : Int32) (hd : decode M.2.1 pc = .ok (.iconst n, 1)) (hv : Int32.ofInt n = v) (k : gA3 l G M tb w0 Q kc ns (pc + 1) lv (.int v :: st) ws) : gA3 l G M tb w0 Q kc ns pc lv st ws := fun p e s m args below meth c A H locs ls hC hT hP hD hS hl => lv_iconst hC.1 hC.2.1 hd hv (k p e s m args below meth c A H locs ls hC hT hP hD hS hl)
theorem z_bipush {l : Launch} {G : gG} {M : gM} {w0 : va_W} {tb : gTB} {Q : gE} {kc ns : Nat} {pc : Nat} {lv : List (Nat × Value)} {st : List Value} {ws : va_W} {n : Int} (v : Int32) (hd : decode M.2.1 pc = .ok (.bipush n, 2)) (hv : (Int8.ofInt n).toInt32 = v) (k : gA3 l G M tb w0 Q kc ns (pc + 2) lv (.int v :: st) ws) : gA3 l G M tb w0 Q kc ns pc lv st ws := fun p e s m args below meth c A H locs ls hC hT hP hD hS hl => lv_bipush hC.1 hC.2.1 hd hv (k p e s m args below meth c A H locs ls hC hT hP hD hS hl)
theorem z_sipush {l : Launch} {G : gG} {M : gM} {w0 : va_W} {tb : gTB} {Q : gE} {kc ns : Nat} {pc : Nat} {lv : List (Nat × Value)} {st : List Value} {ws : va_W} {n : Int} (v : Int32) (hd : decode M.2.1 pc = .ok (.sipush n, 3)) (hv : (Int16.ofInt n).toInt32 = v) (k : gA3 l G M tb w0 Q kc ns (pc + 3) lv (.int v :: st) ws) : gA3 l G M tb w0 Q kc ns pc lv st ws := fun p e s m args below meth c A H locs ls hC hT hP hD hS hl => lv_sipush hC.1 hC.2.1 hd hv (k p e s m args below meth c A H locs ls hC hT hP hD hS hl)
theorem z_lconst {l : Launch} {G : gG} {M : gM} {w0 : va_W} {tb : gTB} {Q : gE} {kc ns : Nat} {pc : Nat} {lv : List (Nat × Value)} {st : List Value} {ws : va_W} {n : Fin 2} (v : Int64) (hd : decode M.2.1 pc = .ok (.lconst n, 1)) (hv : Int64.ofNat (n : Nat) = v) (k : gA3 l G M tb w0 Q kc ns (pc + 1) lv (.long v :: st) ws) : gA3 l G M tb w0 Q kc ns pc lv st ws := fun p e s m args below meth c A H locs ls hC hT hP hD hS hl => lv_lconst hC.1 hC.2.1 hd hv (k p e s m args below meth c A H locs ls hC hT hP hD hS hl)
theorem z_ldc {l : Launch} {G : gG} {M : gM} {w0 : va_W} {tb : gTB} {Q : gE} {kc ns : Nat} {pc : Nat} {lv : List (Nat × Value)} {st : List Value} {ws : va_W} {index : Nat} (v : Int32) (hd : decode M.2.1 pc = .ok (.ldc index, 2)) (hw : Cond.constant M.1.cls index v ∈ g_tbl) (k : gA3 l G M tb w0 Q kc ns (pc + 2) lv (.int v :: st) ws) : gA3 l G M tb w0 Q kc ns pc lv st ws := fun p e s m args below meth c A H locs ls hC hT hP hD hS hl => lv_ldc hC.1 hC.2.1 hC.own (hC.tb _ hw) hd (k p e s m args below meth c A H locs ls hC hT hP hD hS hl)
theorem z_ldcw {l : Launch} {G : gG} {M : gM} {w0 : va_W} {tb : gTB} {Q : gE} {kc ns : Nat} {pc : Nat} {lv : List (Nat × Value)} {st : List Value} {ws : va_W} {index : Nat} (v : Int32) (hd : decode M.2.1 pc = .ok (.ldc_w index, 3)) (hw : Cond.constant M.1.cls index v ∈ g_tbl) (k : gA3 l G M tb w0 Q kc ns (pc + 3) lv (.int v :: st) ws) : gA3 l G M tb w0 Q kc ns pc lv st ws := fun p e s m args below meth c A H locs ls hC hT hP hD hS hl => lv_ldcw hC.1 hC.2.1 hC.own (hC.tb _ hw) hd (k p e s m args below meth c A H locs ls hC hT hP hD hS hl)
theorem z_ldc2 {l : Launch} {G : gG} {M : gM} {w0 : va_W} {tb : gTB} {Q : gE} {kc ns : Nat} {pc : Nat} {lv : List (Nat × Value)} {st : List Value} {ws : va_W} {index : Nat} (v : Int64) (hd : decode M.2.1 pc = .ok (.ldc2_w index, 3)) (hw : Cond.constantLong M.1.cls index v ∈ g_tbl) (k : gA3 l G M tb w0 Q kc ns (pc + 3) lv (.long v :: st) ws) : gA3 l G M tb w0 Q kc ns pc lv st ws := fun p e s m args below meth c A H locs ls hC hT hP hD hS hl => lv_ldc2 hC.1 hC.2.1 hC.own (hC.tb _ hw) hd (k p e s m args below meth c A H locs ls hC hT hP hD hS hl)
theorem z_iload_n {l : Launch} {G : gG} {M : gM} {w0 : va_W} {tb : gTB} {Q : gE} {kc ns : Nat} {pc : Nat} {lv : List (Nat × Value)} {st : List Value} {ws : va_W} {kk : Fin 4} {x : Int32} (j : Nat) (hd : decode M.2.1 pc = .ok (.iload_n kk, 1)) (hj : lv[j]? = some ((kk : Nat), .int x)) (k : gA3 l G M tb w0 Q kc ns (pc + 1) lv (.int x :: st) ws) : gA3 l G M tb w0 Q kc ns pc lv st ws := fun p e s m args below meth c A H locs ls hC hT hP hD hS hl => lv_iload_n hC.1 hC.2.1 hd rfl (lv_at hl j hj) (k p e s m args below meth c A H locs ls hC hT hP hD hS hl)
theorem z_iload {l : Launch} {G : gG} {M : gM} {w0 : va_W} {tb : gTB} {Q : gE} {kc ns : Nat} {pc : Nat} {lv : List (Nat × Value)} {st : List Value} {ws : va_W} {i : Nat} {x : Int32} (j : Nat) (hd : decode M.2.1 pc = .ok (.iload i, 2)) (hj : lv[j]? = some (i, .int x)) (k : gA3 l G M tb w0 Q kc ns (pc + 2) lv (.int x :: st) ws) : gA3 l G M tb w0 Q kc ns pc lv st ws := fun p e s m args below meth c A H locs ls hC hT hP hD hS hl => lv_iload hC.1 hC.2.1 hd (lv_at hl j hj) (k p e s m args below meth c A H locs ls hC hT hP hD hS hl)
theorem z_lload_n {l : Launch} {G : gG} {M : gM} {w0 : va_W} {tb : gTB} {Q : gE} {kc ns : Nat} {pc : Nat} {lv : List (Nat × Value)} {st : List Value} {ws : va_W} {kk : Fin 4} {x : Int64} (j : Nat) (hd : decode M.2.1 pc = .ok (.lload_n kk, 1)) (hj : lv[j]? = some ((kk : Nat), .long x)) (k : gA3 l G M tb w0 Q kc ns (pc + 1) lv (.long x :: st) ws) : gA3 l G M tb w0 Q kc ns pc lv st ws := fun p e s m args below meth c A H locs ls hC hT hP hD hS hl => lv_lload_n hC.1 hC.2.1 hd rfl (lv_at hl j hj) (k p e s m args below meth c A H locs ls hC hT hP hD hS hl)
theorem z_lload {l : Launch} {G : gG} {M : gM} {w0 : va_W} {tb : gTB} {Q : gE} {kc ns : Nat} {pc : Nat} {lv : List (Nat × Value)} {st : List Value} {ws : va_W} {i : Nat} {x : Int64} (j : Nat) (hd : decode M.2.1 pc = .ok (.lload i, 2)) (hj : lv[j]? = some (i, .long x)) (k : gA3 l G M tb w0 Q kc ns (pc + 2) lv (.long x :: st) ws) : gA3 l G M tb w0 Q kc ns pc lv st ws := fun p e s m args below meth c A H locs ls hC hT hP hD hS hl => lv_lload hC.1 hC.2.1 hd (lv_at hl j hj) (k p e s m args below meth c A H locs ls hC hT hP hD hS hl)
theorem z_aload_n {l : Launch} {G : gG} {M : gM} {w0 : va_W} {tb : gTB} {Q : gE} {kc ns : Nat} {pc : Nat} {lv : List (Nat × Value)} {st : List Value} {ws : va_W} {kk : Fin 4} {x : Nat} (j : Nat) (hd : decode M.2.1 pc = .ok (.aload_n kk, 1)) (hj : lv[j]? = some ((kk : Nat), .ref x)) (k : gA3 l G M tb w0 Q kc ns (pc + 1) lv (.ref x :: st) ws) : gA3 l G M tb w0 Q kc ns pc lv st ws := fun p e s m args below meth c A H locs ls hC hT hP hD hS hl => lv_aload_n hC.1 hC.2.1 hd rfl (lv_at hl j hj) (k p e s m args below meth c A H locs ls hC hT hP hD hS hl)
theorem z_aload {l : Launch} {G : gG} {M : gM} {w0 : va_W} {tb : gTB} {Q : gE} {kc ns : Nat} {pc : Nat} {lv : List (Nat × Value)} {st : List Value} {ws : va_W} {i : Nat} {x : Nat} (j : Nat) (hd : decode M.2.1 pc = .ok (.aload i, 2)) (hj : lv[j]? = some (i, .ref x)) (k : gA3 l G M tb w0 Q kc ns (pc + 2) lv (.ref x :: st) ws) : gA3 l G M tb w0 Q kc ns pc lv st ws := fun p e s m args below meth c A H locs ls hC hT hP hD hS hl => lv_aload hC.1 hC.2.1 hd (lv_at hl j hj) (k p e s m args below meth c A H locs ls hC hT hP hD hS hl)
theorem z_istore_n {l : Launch} {G : gG} {M : gM} {w0 : va_W} {tb : gTB} {Q : gE} {kc ns : Nat} {pc : Nat} {lv : List (Nat × Value)} {st : List Value} {ws : va_W} {kk : Fin 4} {i : Nat} {x : Int32} (lv' : List (Nat × Value)) (hd : decode M.2.1 pc = .ok (.istore_n kk, 1)) (hi : (kk : Nat) = i) (hn : i < M.2.2.1) (hq : (i, Value.int x) :: lv.filter (fun q => !(q.1 == i) && !(q.1 + 1 == i && q.2.category == 2)) = lv') (k : gA3 l G M tb w0 Q kc ns (pc + 1) lv' st ws) : gA3 l G M tb w0 Q kc ns pc lv (Value.int x :: st) ws := fun p e s m args below meth c A H locs ls hC hT hP hD hS hl => lv_istore_n hC.1 hC.2.1 hd hi hl hn hq (fun ls hl => k p e s m args below meth c A H locs ls hC hT hP hD hS hl)
theorem z_istore {l : Launch} {G : gG} {M : gM} {w0 : va_W} {tb : gTB} {Q : gE} {kc ns : Nat} {pc : Nat} {lv : List (Nat × Value)} {st : List Value} {ws : va_W} {i : Nat} {x : Int32} (lv' : List (Nat × Value)) (hd : decode M.2.1 pc = .ok (.istore i, 2)) (hn : i < M.2.2.1) (hq : (i, Value.int x) :: lv.filter (fun q => !(q.1 == i) && !(q.1 + 1 == i && q.2.category == 2)) = lv') (k : gA3 l G M tb w0 Q kc ns (pc + 2) lv' st ws) : gA3 l G M tb w0 Q kc ns pc lv (Value.int x :: st) ws := fun p e s m args below meth c A H locs ls hC hT hP hD hS hl => lv_istore hC.1 hC.2.1 hd hl hn hq (fun ls hl => k p e s m args below meth c A H locs ls hC hT hP hD hS hl)
theorem z_lstore_n {l : Launch} {G : gG} {M : gM} {w0 : va_W} {tb : gTB} {Q : gE} {kc ns : Nat} {pc : Nat} {lv : List (Nat × Value)} {st : List Value} {ws : va_W} {kk : Fin 4} {i : Nat} {x : Int64} (lv' : List (Nat × Value)) (hd : decode M.2.1 pc = .ok (.lstore_n kk, 1)) (hi : (kk : Nat) = i) (hn : i + 1 < M.2.2.1) (hq : (i, Value.long x) :: lv.filter (fun q => !(q.1 == i) && (!(q.1 == i + 1) && !(q.1 + 1 == i && q.2.category == 2))) = lv') (k : gA3 l G M tb w0 Q kc ns (pc + 1) lv' st ws) : gA3 l G M tb w0 Q kc ns pc lv (Value.long x :: st) ws := fun p e s m args below meth c A H locs ls hC hT hP hD hS hl => lv_lstore_n hC.1 hC.2.1 hd hi hl hn hq (fun ls hl => k p e s m args below meth c A H locs ls hC hT hP hD hS hl)
theorem z_lstore {l : Launch} {G : gG} {M : gM} {w0 : va_W} {tb : gTB} {Q : gE} {kc ns : Nat} {pc : Nat} {lv : List (Nat × Value)} {st : List Value} {ws : va_W} {i : Nat} {x : Int64} (lv' : List (Nat × Value)) (hd : decode M.2.1 pc = .ok (.lstore i, 2)) (hn : i + 1 < M.2.2.1) (hq : (i, Value.long x) :: lv.filter (fun q => !(q.1 == i) && (!(q.1 == i + 1) && !(q.1 + 1 == i && q.2.category == 2))) = lv') (k : gA3 l G M tb w0 Q kc ns (pc + 2) lv' st ws) : gA3 l G M tb w0 Q kc ns pc lv (Value.long x :: st) ws := fun p e s m args below meth c A H locs ls hC hT hP hD hS hl => lv_lstore hC.1 hC.2.1 hd hl hn hq (fun ls hl => k p e s m args below meth c A H locs ls hC hT hP hD hS hl)
theorem z_astore_n {l : Launch} {G : gG} {M : gM} {w0 : va_W} {tb : gTB} {Q : gE} {kc ns : Nat} {pc : Nat} {lv : List (Nat × Value)} {st : List Value} {ws : va_W} {kk : Fin 4} {i : Nat} {x : Nat} (lv' : List (Nat × Value)) (hd : decode M.2.1 pc = .ok (.astore_n kk, 1)) (hi : (kk : Nat) = i) (hn : i < M.2.2.1) (hq : (i, Value.ref x) :: lv.filter (fun q => !(q.1 == i) && !(q.1 + 1 == i && q.2.category == 2)) = lv') (k : gA3 l G M tb w0 Q kc ns (pc + 1) lv' st ws) : gA3 l G M tb w0 Q kc ns pc lv (Value.ref x :: st) ws := fun p e s m args below meth c A H locs ls hC hT hP hD hS hl => lv_astore_n hC.1 hC.2.1 hd hi hl hn hq (fun ls hl => k p e s m args below meth c A H locs ls hC hT hP hD hS hl)
theorem z_astore {l : Launch} {G : gG} {M : gM} {w0 : va_W} {tb : gTB} {Q : gE} {kc ns : Nat} {pc : Nat} {lv : List (Nat × Value)} {st : List Value} {ws : va_W} {i : Nat} {x : Nat} (lv' : List (Nat × Value)) (hd : decode M.2.1 pc = .ok (.astore i, 2)) (hn : i < M.2.2.1) (hq : (i, Value.ref x) :: lv.filter (fun q => !(q.1 == i) && !(q.1 + 1 == i && q.2.category == 2)) = lv') (k : gA3 l G M tb w0 Q kc ns (pc + 2) lv' st ws) : gA3 l G M tb w0 Q kc ns pc lv (Value.ref x :: st) ws := fun p e s m args below meth c A H locs ls hC hT hP hD hS hl => lv_astore hC.1 hC.2.1 hd hl hn hq (fun ls hl => k p e s m args below meth c A H locs ls hC hT hP hD hS hl)
theorem z_iinc {l : Launch} {G : gG} {M : gM} {w0 : va_W} {tb : gTB} {Q : gE} {kc ns : Nat} {pc : Nat} {lv : List (Nat × Value)} {st : List Value} {ws : va_W} {i : Nat} {n : Int} {x : Int32} (j : Nat) (v : Int32) (lv' : List (Nat × Value)) (hd : decode M.2.1 pc = .ok (.iinc i n, 3)) (hj : lv[j]? = some (i, .int x)) (hv : x + Int32.ofInt n = v) (hn : i < M.2.2.1) (hq : (i, Value.int v) :: lv.filter (fun q => !(q.1 == i) && !(q.1 + 1 == i && q.2.category == 2)) = lv') (k : gA3 l G M tb w0 Q kc ns (pc + 3) lv' st ws) : gA3 l G M tb w0 Q kc ns pc lv st ws := fun p e s m args below meth c A H locs ls hC hT hP hD hS hl => lv_iinc hC.1 hC.2.1 hd hl hj hv hn hq (fun ls hl => k p e s m args below meth c A H locs ls hC hT hP hD hS hl)
theorem z_dup {l : Launch} {G : gG} {M : gM} {w0 : va_W} {tb : gTB} {Q : gE} {kc ns : Nat} {pc : Nat} {lv : List (Nat × Value)} {st : List Value} {ws : va_W} {va : Value} (hd : decode M.2.1 pc = .ok (.dup, 1)) (hva : va.category = 1) (k : gA3 l G M tb w0 Q kc ns (pc + 1) lv (va :: va :: st) ws) : gA3 l G M tb w0 Q kc ns pc lv (va :: st) ws := fun p e s m args below meth c A H locs ls hC hT hP hD hS hl => lv_dup hC.1 hC.2.1 hd hva (k p e s m args below meth c A H locs ls hC hT hP hD hS hl)
theorem z_pop {l : Launch} {G : gG} {M : gM} {w0 : va_W} {tb : gTB} {Q : gE} {kc ns : Nat} {pc : Nat} {lv : List (Nat × Value)} {st : List Value} {ws : va_W} {va : Value} (hd : decode M.2.1 pc = .ok (.pop, 1)) (hva : va.category = 1) (k : gA3 l G M tb w0 Q kc ns (pc + 1) lv st ws) : gA3 l G M tb w0 Q kc ns pc lv (va :: st) ws := fun p e s m args below meth c A H locs ls hC hT hP hD hS hl => lv_pop hC.1 hC.2.1 hd hva (k p e s m args below meth c A H locs ls hC hT hP hD hS hl)
theorem z_dup2 {l : Launch} {G : gG} {M : gM} {w0 : va_W} {tb : gTB} {Q : gE} {kc ns : Nat} {pc : Nat} {lv : List (Nat × Value)} {st : List Value} {ws : va_W} {va vb : Value} (hd : decode M.2.1 pc = .ok (.dup2, 1)) (hva : va.category = 1) (hvb : vb.category = 1) (k : gA3 l G M tb w0 Q kc ns (pc + 1) lv (va :: vb :: va :: vb :: st) ws) : gA3 l G M tb w0 Q kc ns pc lv (va :: vb :: st) ws := fun p e s m args below meth c A H locs ls hC hT hP hD hS hl => lv_dup2_11 hC.1 hC.2.1 hd hva hvb (k p e s m args below meth c A H locs ls hC hT hP hD hS hl)
theorem z_dup_x1 {l : Launch} {G : gG} {M : gM} {w0 : va_W} {tb : gTB} {Q : gE} {kc ns : Nat} {pc : Nat} {lv : List (Nat × Value)} {st : List Value} {ws : va_W} {va vb : Value} (hd : decode M.2.1 pc = .ok (.dup_x1, 1)) (hva : va.category = 1) (hvb : vb.category = 1) (k : gA3 l G M tb w0 Q kc ns (pc + 1) lv (va :: vb :: va :: st) ws) : gA3 l G M tb w0 Q kc ns pc lv (va :: vb :: st) ws := fun p e s m args below meth c A H locs ls hC hT hP hD hS hl => lv_dup_x1 hC.1 hC.2.1 hd hva hvb (k p e s m args below meth c A H locs ls hC hT hP hD hS hl)
theorem z_if_eq {l : Launch} {G : gG} {M : gM} {w0 : va_W} {tb : gTB} {Q : gE} {kc ns : Nat} {pc : Nat} {lv : List (Nat × Value)} {st : List Value} {ws : va_W} {x : Int32} {off : Int} (tgt : Nat) (hd : decode M.2.1 pc = .ok (.ifCond .eq off, 3)) (ht : (pc : Int) + off = (tgt : Int)) (kt : x = 0 → gA3 l G M tb w0 Q kc ns tgt lv st ws) (kf : ¬ x = 0 → gA3 l G M tb w0 Q kc ns (pc + 3) lv st ws) : gA3 l G M tb w0 Q kc ns pc lv (.int x :: st) ws := fun p e s m args below meth c A H locs ls hC hT hP hD hS hl => lv_if_eq hC.1 hC.2.1 hd ht (fun hc => kt hc p e s m args below meth c A H locs ls hC hT hP hD hS hl) (fun hc => kf hc p e s m args below meth c A H locs ls hC hT hP hD hS hl)
theorem z_icmp_eq {l : Launch} {G : gG} {M : gM} {w0 : va_W} {tb : gTB} {Q : gE} {kc ns : Nat} {pc : Nat} {lv : List (Nat × Value)} {st : List Value} {ws : va_W} {x y : Int32} {off : Int} (tgt : Nat) (hd : decode M.2.1 pc = .ok (.if_icmp .eq off, 3)) (ht : (pc : Int) + off = (tgt : Int)) (kt : x = y → gA3 l G M tb w0 Q kc ns tgt lv st ws) (kf : ¬ x = y → gA3 l G M tb w0 Q kc ns (pc + 3) lv st ws) : gA3 l G M tb w0 Q kc ns pc lv (.int y :: .int x :: st) ws := fun p e s m args below meth c A H locs ls hC hT hP hD hS hl => lv_icmp_eq hC.1 hC.2.1 hd ht (fun hc => kt hc p e s m args below meth c A H locs ls hC hT hP hD hS hl) (fun hc => kf hc p e s m args below meth c A H locs ls hC hT hP hD hS hl)
theorem z_if_ne {l : Launch} {G : gG} {M : gM} {w0 : va_W} {tb : gTB} {Q : gE} {kc ns : Nat} {pc : Nat} {lv : List (Nat × Value)} {st : List Value} {ws : va_W} {x : Int32} {off : Int} (tgt : Nat) (hd : decode M.2.1 pc = .ok (.ifCond .ne off, 3)) (ht : (pc : Int) + off = (tgt : Int)) (kt : ¬ x = 0 → gA3 l G M tb w0 Q kc ns tgt lv st ws) (kf : x = 0 → gA3 l G M tb w0 Q kc ns (pc + 3) lv st ws) : gA3 l G M tb w0 Q kc ns pc lv (.int x :: st) ws := fun p e s m args below meth c A H locs ls hC hT hP hD hS hl => lv_if_ne hC.1 hC.2.1 hd ht (fun hc => kt hc p e s m args below meth c A H locs ls hC hT hP hD hS hl) (fun hc => kf hc p e s m args below meth c A H locs ls hC hT hP hD hS hl)
theorem z_icmp_ne {l : Launch} {G : gG} {M : gM} {w0 : va_W} {tb : gTB} {Q : gE} {kc ns : Nat} {pc : Nat} {lv : List (Nat × Value)} {st : List Value} {ws : va_W} {x y : Int32} {off : Int} (tgt : Nat) (hd : decode M.2.1 pc = .ok (.if_icmp .ne off, 3)) (ht : (pc : Int) + off = (tgt : Int)) (kt : ¬ x = y → gA3 l G M tb w0 Q kc ns tgt lv st ws) (kf : x = y → gA3 l G M tb w0 Q kc ns (pc + 3) lv st ws) : gA3 l G M tb w0 Q kc ns pc lv (.int y :: .int x :: st) ws := fun p e s m args below meth c A H locs ls hC hT hP hD hS hl => lv_icmp_ne hC.1 hC.2.1 hd ht (fun hc => kt hc p e s m args below meth c A H locs ls hC hT hP hD hS hl) (fun hc => kf hc p e s m args below meth c A H locs ls hC hT hP hD hS hl)
theorem z_if_lt {l : Launch} {G : gG} {M : gM} {w0 : va_W} {tb : gTB} {Q : gE} {kc ns : Nat} {pc : Nat} {lv : List (Nat × Value)} {st : List Value} {ws : va_W} {x : Int32} {off : Int} (tgt : Nat) (hd : decode M.2.1 pc = .ok (.ifCond .lt off, 3)) (ht : (pc : Int) + off = (tgt : Int)) (kt : x < 0 → gA3 l G M tb w0 Q kc ns tgt lv st ws) (kf : ¬ x < 0 → gA3 l G M tb w0 Q kc ns (pc + 3) lv st ws) : gA3 l G M tb w0 Q kc ns pc lv (.int x :: st) ws := fun p e s m args below meth c A H locs ls hC hT hP hD hS hl => lv_if_lt hC.1 hC.2.1 hd ht (fun hc => kt hc p e s m args below meth c A H locs ls hC hT hP hD hS hl) (fun hc => kf hc p e s m args below meth c A H locs ls hC hT hP hD hS hl)
theorem z_icmp_lt {l : Launch} {G : gG} {M : gM} {w0 : va_W} {tb : gTB} {Q : gE} {kc ns : Nat} {pc : Nat} {lv : List (Nat × Value)} {st : List Value} {ws : va_W} {x y : Int32} {off : Int} (tgt : Nat) (hd : decode M.2.1 pc = .ok (.if_icmp .lt off, 3)) (ht : (pc : Int) + off = (tgt : Int)) (kt : x < y → gA3 l G M tb w0 Q kc ns tgt lv st ws) (kf : ¬ x < y → gA3 l G M tb w0 Q kc ns (pc + 3) lv st ws) : gA3 l G M tb w0 Q kc ns pc lv (.int y :: .int x :: st) ws := fun p e s m args below meth c A H locs ls hC hT hP hD hS hl => lv_icmp_lt hC.1 hC.2.1 hd ht (fun hc => kt hc p e s m args below meth c A H locs ls hC hT hP hD hS hl) (fun hc => kf hc p e s m args below meth c A H locs ls hC hT hP hD hS hl)
theorem z_if_ge {l : Launch} {G : gG} {M : gM} {w0 : va_W} {tb : gTB} {Q : gE} {kc ns : Nat} {pc : Nat} {lv : List (Nat × Value)} {st : List Value} {ws : va_W} {x : Int32} {off : Int} (tgt : Nat) (hd : decode M.2.1 pc = .ok (.ifCond .ge off, 3)) (ht : (pc : Int) + off = (tgt : Int)) (kt : 0 ≤ x → gA3 l G M tb w0 Q kc ns tgt lv st ws) (kf : ¬ 0 ≤ x → gA3 l G M tb w0 Q kc ns (pc + 3) lv st ws) : gA3 l G M tb w0 Q kc ns pc lv (.int x :: st) ws := fun p e s m args below meth c A H locs ls hC hT hP hD hS hl => lv_if_ge hC.1 hC.2.1 hd ht (fun hc => kt hc p e s m args below meth c A H locs ls hC hT hP hD hS hl) (fun hc => kf hc p e s m args below meth c A H locs ls hC hT hP hD hS hl)
theorem z_icmp_ge {l : Launch} {G : gG} {M : gM} {w0 : va_W} {tb : gTB} {Q : gE} {kc ns : Nat} {pc : Nat} {lv : List (Nat × Value)} {st : List Value} {ws : va_W} {x y : Int32} {off : Int} (tgt : Nat) (hd : decode M.2.1 pc = .ok (.if_icmp .ge off, 3)) (ht : (pc : Int) + off = (tgt : Int)) (kt : y ≤ x → gA3 l G M tb w0 Q kc ns tgt lv st ws) (kf : ¬ y ≤ x → gA3 l G M tb w0 Q kc ns (pc + 3) lv st ws) : gA3 l G M tb w0 Q kc ns pc lv (.int y :: .int x :: st) ws := fun p e s m args below meth c A H locs ls hC hT hP hD hS hl => lv_icmp_ge hC.1 hC.2.1 hd ht (fun hc => kt hc p e s m args below meth c A H locs ls hC hT hP hD hS hl) (fun hc => kf hc p e s m args below meth c A H locs ls hC hT hP hD hS hl)
theorem z_if_gt {l : Launch} {G : gG} {M : gM} {w0 : va_W} {tb : gTB} {Q : gE} {kc ns : Nat} {pc : Nat} {lv : List (Nat × Value)} {st : List Value} {ws : va_W} {x : Int32} {off : Int} (tgt : Nat) (hd : decode M.2.1 pc = .ok (.ifCond .gt off, 3)) (ht : (pc : Int) + off = (tgt : Int)) (kt : 0 < x → gA3 l G M tb w0 Q kc ns tgt lv st ws) (kf : ¬ 0 < x → gA3 l G M tb w0 Q kc ns (pc + 3) lv st ws) : gA3 l G M tb w0 Q kc ns pc lv (.int x :: st) ws := fun p e s m args below meth c A H locs ls hC hT hP hD hS hl => lv_if_gt hC.1 hC.2.1 hd ht (fun hc => kt hc p e s m args below meth c A H locs ls hC hT hP hD hS hl) (fun hc => kf hc p e s m args below meth c A H locs ls hC hT hP hD hS hl)
theorem z_icmp_gt {l : Launch} {G : gG} {M : gM} {w0 : va_W} {tb : gTB} {Q : gE} {kc ns : Nat} {pc : Nat} {lv : List (Nat × Value)} {st : List Value} {ws : va_W} {x y : Int32} {off : Int} (tgt : Nat) (hd : decode M.2.1 pc = .ok (.if_icmp .gt off, 3)) (ht : (pc : Int) + off = (tgt : Int)) (kt : y < x → gA3 l G M tb w0 Q kc ns tgt lv st ws) (kf : ¬ y < x → gA3 l G M tb w0 Q kc ns (pc + 3) lv st ws) : gA3 l G M tb w0 Q kc ns pc lv (.int y :: .int x :: st) ws := fun p e s m args below meth c A H locs ls hC hT hP hD hS hl => lv_icmp_gt hC.1 hC.2.1 hd ht (fun hc => kt hc p e s m args below meth c A H locs ls hC hT hP hD hS hl) (fun hc => kf hc p e s m args below meth c A H locs ls hC hT hP hD hS hl)
theorem z_if_le {l : Launch} {G : gG} {M : gM} {w0 : va_W} {tb : gTB} {Q : gE} {kc ns : Nat} {pc : Nat} {lv : List (Nat × Value)} {st : List Value} {ws : va_W} {x : Int32} {off : Int} (tgt : Nat) (hd : decode M.2.1 pc = .ok (.ifCond .le off, 3)) (ht : (pc : Int) + off = (tgt : Int)) (kt : x ≤ 0 → gA3 l G M tb w0 Q kc ns tgt lv st ws) (kf : ¬ x ≤ 0 → gA3 l G M tb w0 Q kc ns (pc + 3) lv st ws) : gA3 l G M tb w0 Q kc ns pc lv (.int x :: st) ws := fun p e s m args below meth c A H locs ls hC hT hP hD hS hl => lv_if_le hC.1 hC.2.1 hd ht (fun hc => kt hc p e s m args below meth c A H locs ls hC hT hP hD hS hl) (fun hc => kf hc p e s m args below meth c A H locs ls hC hT hP hD hS hl)
theorem z_icmp_le {l : Launch} {G : gG} {M : gM} {w0 : va_W} {tb : gTB} {Q : gE} {kc ns : Nat} {pc : Nat} {lv : List (Nat × Value)} {st : List Value} {ws : va_W} {x y : Int32} {off : Int} (tgt : Nat) (hd : decode M.2.1 pc = .ok (.if_icmp .le off, 3)) (ht : (pc : Int) + off = (tgt : Int)) (kt : x ≤ y → gA3 l G M tb w0 Q kc ns tgt lv st ws) (kf : ¬ x ≤ y → gA3 l G M tb w0 Q kc ns (pc + 3) lv st ws) : gA3 l G M tb w0 Q kc ns pc lv (.int y :: .int x :: st) ws := fun p e s m args below meth c A H locs ls hC hT hP hD hS hl => lv_icmp_le hC.1 hC.2.1 hd ht (fun hc => kt hc p e s m args below meth c A H locs ls hC hT hP hD hS hl) (fun hc => kf hc p e s m args below meth c A H locs ls hC hT hP hD hS hl)
theorem z_goto {l : Launch} {G : gG} {M : gM} {w0 : va_W} {tb : gTB} {Q : gE} {kc ns : Nat} {pc : Nat} {lv : List (Nat × Value)} {st : List Value} {ws : va_W} {off : Int} (tgt : Nat) (hd : decode M.2.1 pc = .ok (.goto off, 3)) (ht : (pc : Int) + off = (tgt : Int)) (k : gA3 l G M tb w0 Q kc ns tgt lv st ws) : gA3 l G M tb w0 Q kc ns pc lv st ws := fun p e s m args below meth c A H locs ls hC hT hP hD hS hl => lv_goto hC.1 hC.2.1 hd ht (k p e s m args below meth c A H locs ls hC hT hP hD hS hl)
theorem z_lv {l : Launch} {G : gG} {M : gM} {w0 : va_W} {tb : gTB} {Q : gE} {kc ns : Nat} {pc : Nat} {lv : List (Nat × Value)} {st : List Value} {ws : va_W} (lv' : List (Nat × Value)) (ks : List Nat) (hq : lv_pick lv ks = lv') (k : gA3 l G M tb w0 Q kc ns pc lv' st ws) : gA3 l G M tb w0 Q kc ns pc lv st ws := fun p e s m args below meth c A H locs ls hC hT hP hD hS hl => k p e s m args below meth c A H locs ls hC hT hP hD hS (lv_sub hl ks hq)
theorem z_eq {l : Launch} {G : gG} {M : gM} {w0 : va_W} {tb : gTB} {Q : gE} {kc ns : Nat} {pc : Nat} {lv : List (Nat × Value)} {st : List Value} {ws : va_W} {lv' : List (Nat × Value)} {st' : List Value} {ws' : va_W} (h1 : lv = lv') (h2 : st = st') (h3 : ws = ws') (k : gA3 l G M tb w0 Q kc ns pc lv' st' ws') : gA3 l G M tb w0 Q kc ns pc lv st ws := by subst h1; subst h2; subst h3; exact k
theorem z_get {l : Launch} {G : gG} {M : gM} {w0 : va_W} {tb : gTB} {Q : gE} {kc ns : Nat} {pc : Nat} {lv : List (Nat × Value)} {st : List Value} {ws : va_W} {T : u_T} {N ci index a kx : Nat} {C : String} {fs : List Value} {v : Value} (q0 : Nat) (hd : decode M.2.1 pc = .ok (.getfield index, 3)) (hc : vwCl[ci]? = some (C, T, N)) (hin : ∀ w ∈ u_ws C T N, w ∈ g_tbl) (hlk : Cond.fieldLink M.1.cls index (T kx).1 (T kx).2.1 (T kx).2.2.1 ∈ g_tbl) (he : ws[q0]? = some (a, .inr (ci, fs))) (hk : kx < N) (hv : fs[kx]? = some v) (k : gA3 l G M tb w0 Q kc ns (pc + 3) lv (v :: st) ws) : gA3 l G M tb w0 Q kc ns pc lv (.ref a :: st) ws := fun p e s m args below meth c A H locs ls hC hT hP hD hS hl => va_get (D := G.1) hC.1 hC.2.1 hC.tb hin hC.own hC.kk hP q0 he hc kx hk (hC.tb _ hlk) (fun _ h => h) hv hd (k p e s m args below meth c A H locs ls hC hT hP hD hS hl)
theorem z_getN {l : Launch} {G : gG} {M : gM} {w0 : va_W} {tb : gTB} {Q : gE} {kc ns : Nat} {pc : Nat} {lv : List (Nat × Value)} {st : List Value} {ws : va_W} {T : u_T} {N ci index a kx : Nat} {C host : String} {fs : List Value} {v : Value} (q0 : Nat) (hd : decode M.2.1 pc = .ok (.getfield index, 3)) (hc : vwCl[ci]? = some (C, T, N)) (hin : ∀ w ∈ u_ws C T N, w ∈ g_tbl) (hlk : (M.1.cls, index, (T kx).1, (T kx).2.1, (T kx).2.2.1, host) ∈ g_nf) (he : ws[q0]? = some (a, .inr (ci, fs))) (hk : kx < N) (hv : fs[kx]? = some v) (k : gA3 l G M tb w0 Q kc ns (pc + 3) lv (v :: st) ws) : gA3 l G M tb w0 Q kc ns pc lv (.ref a :: st) ws := fun p e s m args below meth c A H locs ls hC hT hP hD hS hl => va_getN (D := G.1) hC.1 hC.2.1 hC.tb hin hC.own hC.kk hP q0 he hc kx hk (va_Nw.use rfl (hC.zz.nf _ hlk)) (fun _ h => h) hv hd (k p e s m args below meth c A H locs ls hC hT hP hD hS hl)
theorem z_put {l : Launch} {G : gG} {M : gM} {w0 : va_W} {tb : gTB} {Q : gE} {kc ns : Nat} {pc : Nat} {lv : List (Nat × Value)} {st : List Value} {ws : va_W} {T : u_T} {N ci index a kx : Nat} {C : String} {fs : List Value} {v : Value} (ty0 : Nat → FieldType) (q0 : Nat) (ws' : va_W) (hd : decode M.2.1 pc = .ok (.putfield index, 3)) (hc : vwCl[ci]? = some (C, T, N)) (hin : ∀ w ∈ u_ws C T N, w ∈ g_tbl) (hty : ∀ k, k < N → parseFieldDescriptor (T k).2.2.1 = some (ty0 k)) (hnm : ∀ a, a < N → ∀ b, b < N → a ≠ b → (T a).2.1 ≠ (T b).2.1) (hlk : Cond.fieldLink M.1.cls index (T kx).1 (T kx).2.1 (T kx).2.2.1 ∈ g_tbl) (he : ws[q0]? = some (a, .inr (ci, fs))) (hk : kx < N) (hfin : (T kx).2.2.2 = false) (hn : narrow (ty0 kx) v = v) (hfit : fits (ty0 kx) v = true) (hlen : kx < fs.length) (hw : ws.set q0 (a, .inr (ci, fs.set kx v)) = ws') (k : gA3 l G M tb w0 Q kc ns (pc + 3) lv st ws') : gA3 l G M tb w0 Q kc ns pc lv (v :: .ref a :: st) ws := fun p e s m args below meth c A H locs ls hC hT hP hD hS hl => va_put (D := G.1) hC.1 hC.2.1 hC.tb hin ty0 hty hnm hC.own hC.kk hP hD hS q0 he hc kx hk (hC.tb _ hlk) (fun _ h => h) hfin (hty kx hk) hn hfit hlen hd (fun H locs hP hD hS => k p e s m args below meth c A H locs ls hC hT (hw ▸ hP) (hw ▸ hD) hS hl)
theorem z_putN {l : Launch} {G : gG} {M : gM} {w0 : va_W} {tb : gTB} {Q : gE} {kc ns : Nat} {pc : Nat} {lv : List (Nat × Value)} {st : List Value} {ws : va_W} {T : u_T} {N ci index a kx : Nat} {C host : String} {fs : List Value} {v : Value} (ty0 : Nat → FieldType) (q0 : Nat) (ws' : va_W) (hd : decode M.2.1 pc = .ok (.putfield index, 3)) (hc : vwCl[ci]? = some (C, T, N)) (hin : ∀ w ∈ u_ws C T N, w ∈ g_tbl) (hty : ∀ k, k < N → parseFieldDescriptor (T k).2.2.1 = some (ty0 k)) (hnm : ∀ a, a < N → ∀ b, b < N → a ≠ b → (T a).2.1 ≠ (T b).2.1) (hlk : (M.1.cls, index, (T kx).1, (T kx).2.1, (T kx).2.2.1, host) ∈ g_nf) (he : ws[q0]? = some (a, .inr (ci, fs))) (hk : kx < N) (hfin : (T kx).2.2.2 = false) (hn : narrow (ty0 kx) v = v) (hfit : fits (ty0 kx) v = true) (hlen : kx < fs.length) (hw : ws.set q0 (a, .inr (ci, fs.set kx v)) = ws') (k : gA3 l G M tb w0 Q kc ns (pc + 3) lv st ws') : gA3 l G M tb w0 Q kc ns pc lv (v :: .ref a :: st) ws := fun p e s m args below meth c A H locs ls hC hT hP hD hS hl => va_putN (D := G.1) hC.1 hC.2.1 hC.tb hin ty0 hty hnm hC.own hC.kk hP hD hS q0 he hc kx hk (va_Nw.use rfl (hC.zz.nf _ hlk)) (fun _ h => h) hfin (hty kx hk) hn hfit hlen hd (fun H locs hP hD hS => k p e s m args below meth c A H locs ls hC hT (hw ▸ hP) (hw ▸ hD) hS hl)
theorem z_cald {l : Launch} {G : gG} {M : gM} {w0 : va_W} {tb : gTB} {Q : gE} {kc ns : Nat} {pc : Nat} {lv : List (Nat × Value)} {st : List Value} {ws : va_W} {n a : Nat} {f : Nat → Int32} {i : Int32} (q0 : Nat) (hd : decode M.2.1 pc = .ok (.caload, 1)) (he : ws[q0]? = some (a, .inl (G.2.1, n, .inl f))) (hin : vp_in i n) (k : gA3 l G M tb w0 Q kc ns (pc + 1) lv (.int (f i.toNatClampNeg) :: st) ws) : gA3 l G M tb w0 Q kc ns pc lv (.int i :: .ref a :: st) ws := fun p e s m args below meth c A H locs ls hC hT hP hD hS hl => va_cald (D := G.1) hC.1 hC.2.1 hC.kk hP q0 0 he rfl hin hd (k p e s m args below meth c A H locs ls hC hT hP hD hS hl)
theorem z_iald {l : Launch} {G : gG} {M : gM} {w0 : va_W} {tb : gTB} {Q : gE} {kc ns : Nat} {pc : Nat} {lv : List (Nat × Value)} {st : List Value} {ws : va_W} {n a : Nat} {f : Nat → Int32} {i : Int32} (q0 : Nat) (hd : decode M.2.1 pc = .ok (.iaload, 1)) (he : ws[q0]? = some (a, .inl (G.2.2.1, n, .inl f))) (hin : vp_in i n) (k : gA3 l G M tb w0 Q kc ns (pc + 1) lv (.int (f i.toNatClampNeg) :: st) ws) : gA3 l G M tb w0 Q kc ns pc lv (.int i :: .ref a :: st) ws := fun p e s m args below meth c A H locs ls hC hT hP hD hS hl => va_iald (D := G.1) hC.1 hC.2.1 hC.kk hP q0 1 he rfl hin hd (k p e s m args below meth c A H locs ls hC hT hP hD hS hl)
theorem z_cast {l : Launch} {G : gG} {M : gM} {w0 : va_W} {tb : gTB} {Q : gE} {kc ns : Nat} {pc : Nat} {lv : List (Nat × Value)} {st : List Value} {ws : va_W} {n a : Nat} {f : Nat → Int32} {i x : Int32} (q0 : Nat) (ws' : va_W) (hd : decode M.2.1 pc = .ok (.castore, 1)) (he : ws[q0]? = some (a, .inl (G.2.1, n, .inl f))) (hin : vp_in i n) (hw : ws.set q0 (a, .inl (G.2.1, n, .inl (upd f i.toNatClampNeg (vp_nar .char x)))) = ws') (k : gA3 l G M tb w0 Q kc ns (pc + 1) lv st ws') : gA3 l G M tb w0 Q kc ns pc lv (.int x :: .int i :: .ref a :: st) ws := fun p e s m args below meth c A H locs ls hC hT hP hD hS hl => va_cast (D := G.1) hC.1 hC.2.1 hC.kk hP hD hS q0 0 he rfl hin hd (fun H locs hP hD hS => k p e s m args below meth c A H locs ls hC hT (hw ▸ hP) (hw ▸ hD) hS hl)
theorem z_iast {l : Launch} {G : gG} {M : gM} {w0 : va_W} {tb : gTB} {Q : gE} {kc ns : Nat} {pc : Nat} {lv : List (Nat × Value)} {st : List Value} {ws : va_W} {n a : Nat} {f : Nat → Int32} {i x : Int32} (q0 : Nat) (ws' : va_W) (hd : decode M.2.1 pc = .ok (.iastore, 1)) (he : ws[q0]? = some (a, .inl (G.2.2.1, n, .inl f))) (hin : vp_in i n) (hw : ws.set q0 (a, .inl (G.2.2.1, n, .inl (upd f i.toNatClampNeg x))) = ws') (k : gA3 l G M tb w0 Q kc ns (pc + 1) lv st ws') : gA3 l G M tb w0 Q kc ns pc lv (.int x :: .int i :: .ref a :: st) ws := fun p e s m args below meth c A H locs ls hC hT hP hD hS hl => va_iast (D := G.1) hC.1 hC.2.1 hC.kk hP hD hS q0 1 he rfl hin hd (fun H locs hP hD hS => k p e s m args below meth c A H locs ls hC hT (hw ▸ hP) (hw ▸ hD) hS hl)
theorem z_last {l : Launch} {G : gG} {M : gM} {w0 : va_W} {tb : gTB} {Q : gE} {kc ns : Nat} {pc : Nat} {lv : List (Nat × Value)} {st : List Value} {ws : va_W} {n a : Nat} {f : Nat → Int64} {i : Int32} {x : Int64} (q0 : Nat) (ws' : va_W) (hd : decode M.2.1 pc = .ok (.lastore, 1)) (he : ws[q0]? = some (a, .inl (G.2.2.2.1, n, .inr (.inl f)))) (hin : vp_in i n) (hw : ws.set q0 (a, .inl (G.2.2.2.1, n, .inr (.inl (vp_updL f i.toNatClampNeg x)))) = ws') (k : gA3 l G M tb w0 Q kc ns (pc + 1) lv st ws') : gA3 l G M tb w0 Q kc ns pc lv (.long x :: .int i :: .ref a :: st) ws := fun p e s m args below meth c A H locs ls hC hT hP hD hS hl => va_last (D := G.1) hC.1 hC.2.1 hC.kk hP hD hS q0 2 he rfl hin hd (fun H locs hP hD hS => k p e s m args below meth c A H locs ls hC hT (hw ▸ hP) (hw ▸ hD) hS hl)
theorem z_clen {l : Launch} {G : gG} {M : gM} {w0 : va_W} {tb : gTB} {Q : gE} {kc ns : Nat} {pc : Nat} {lv : List (Nat × Value)} {st : List Value} {ws : va_W} {n a : Nat} {f : Nat → Int32} (q0 : Nat) (v : Int32) (hd : decode M.2.1 pc = .ok (.arraylength, 1)) (he : ws[q0]? = some (a, .inl (G.2.1, n, .inl f))) (hv : Int32.ofNat n = v) (k : gA3 l G M tb w0 Q kc ns (pc + 1) lv (.int v :: st) ws) : gA3 l G M tb w0 Q kc ns pc lv (.ref a :: st) ws := fun p e s m args below meth c A H locs ls hC hT hP hD hS hl => va_alen (D := G.1) hC.1 hC.2.1 hC.kk hP q0 0 he rfl hv hd (k p e s m args below meth c A H locs ls hC hT hP hD hS hl)
theorem z_ilen {l : Launch} {G : gG} {M : gM} {w0 : va_W} {tb : gTB} {Q : gE} {kc ns : Nat} {pc : Nat} {lv : List (Nat × Value)} {st : List Value} {ws : va_W} {n a : Nat} {f : Nat → Int32} (q0 : Nat) (v : Int32) (hd : decode M.2.1 pc = .ok (.arraylength, 1)) (he : ws[q0]? = some (a, .inl (G.2.2.1, n, .inl f))) (hv : Int32.ofNat n = v) (k : gA3 l G M tb w0 Q kc ns (pc + 1) lv (.int v :: st) ws) : gA3 l G M tb w0 Q kc ns pc lv (.ref a :: st) ws := fun p e s m args below meth c A H locs ls hC hT hP hD hS hl => va_alen (D := G.1) hC.1 hC.2.1 hC.kk hP q0 1 he rfl hv hd (k p e s m args below meth c A H locs ls hC hT hP hD hS hl)
theorem z_getE {l : Launch} {G : gG} {M : gM} {w0 : va_W} {tb : gTB} {Q : gE} {kc ns : Nat} {pc : Nat} {lv : List (Nat × Value)} {st : List Value} {ws : va_W} {index i : Nat} {q : String × String × String × List Int32} (hd : decode M.2.1 pc = .ok (.getfield index, 3)) (hq : q ∈ g_F) (hi : i < 2) (hlk : Cond.fieldLink M.1.cls index q.1 q.2.1 q.2.2.1 ∈ g_tbl) (k : gA3 l G M tb w0 Q kc ns (pc + 3) lv (.int (q.2.2.2.getD i 0) :: st) ws) : gA3 l G M tb w0 Q kc ns pc lv (.ref (g_adE G i) :: st) ws := fun p e s m args below meth c A H locs ls hC hT hP hD hS hl => va_getE hC.1 hC.2.1 hC.zz.2.2.1 hi hS hC.own hq (hC.tb _ hlk) (fun _ h => h) hd (k p e s m args below meth c A H locs ls hC hT hP hD hS hl)
theorem z_getsE {l : Launch} {G : gG} {M : gM} {w0 : va_W} {tb : gTB} {Q : gE} {kc ns : Nat} {pc : Nat} {lv : List (Nat × Value)} {st : List Value} {ws : va_W} {index i : Nat} (hd : decode M.2.1 pc = .ok (.getstatic index, 3)) (hi : i < 2) (hlk : Cond.fieldLink M.1.cls index "ExactReader$Format" (g_nm2.getD i "") "LExactReader$Format;" ∈ g_tbl) (k : gA3 l G M tb w0 Q kc ns (pc + 3) lv (.ref (g_adE G i) :: st) ws) : gA3 l G M tb w0 Q kc ns pc lv st ws := fun p e s m args below meth c A H locs ls hC hT hP hD hS hl => va_gets hC.1 hC.2.1 (hC.zz.2.2.1.1 i hi).1 hS hC.own (hC.tb _ hlk) (fun _ h => h) hd (k p e s m args below meth c A H locs ls hC hT hP hD hS hl)
theorem z_gets5 {l : Launch} {G : gG} {M : gM} {w0 : va_W} {tb : gTB} {Q : gE} {kc ns : Nat} {pc : Nat} {lv : List (Nat × Value)} {st : List Value} {ws : va_W} {index : Nat} (hd : decode M.2.1 pc = .ok (.getstatic index, 3)) (hlk : Cond.fieldLink M.1.cls index "ExactReader$Natural" "FIVES" "[I" ∈ g_tbl) (k : gA3 l G M tb w0 Q kc ns (pc + 3) lv (.ref (g_t5 G) :: st) ws) : gA3 l G M tb w0 Q kc ns pc lv st ws := fun p e s m args below meth c A H locs ls hC hT hP hD hS hl => va_gets hC.1 hC.2.1 hC.zz.2.2.2.1 hS hC.own (hC.tb _ hlk) (fun _ h => h) hd (k p e s m args below meth c A H locs ls hC hT hP hD hS hl)
theorem z_t5 {l : Launch} {G : gG} {M : gM} {w0 : va_W} {tb : gTB} {Q : gE} {kc ns : Nat} {pc : Nat} {lv : List (Nat × Value)} {st : List Value} {ws : va_W} {i : Int32} (hd : decode M.2.1 pc = .ok (.iaload, 1)) (hin : vp_in i 14) (k : gA3 l G M tb w0 Q kc ns (pc + 1) lv (.int (g_five i.toNatClampNeg) :: st) ws) : gA3 l G M tb w0 Q kc ns pc lv (.int i :: .ref (g_t5 G) :: st) ws := fun p e s m args below meth c A H locs ls hC hT hP hD hS hl => va_ti hC.1 hC.2.1 hC.zz.2.2.2.2.1 hS hin rfl hd (k p e s m args below meth c A H locs ls hC hT hP hD hS hl)
theorem z_t5len {l : Launch} {G : gG} {M : gM} {w0 : va_W} {tb : gTB} {Q : gE} {kc ns : Nat} {pc : Nat} {lv : List (Nat × Value)} {st : List Value} {ws : va_W} (v : Int32) (hd : decode M.2.1 pc = .ok (.arraylength, 1)) (hv : Int32.ofNat 14 = v) (k : gA3 l G M tb w0 Q kc ns (pc + 1) lv (.int v :: st) ws) : gA3 l G M tb w0 Q kc ns pc lv (.ref (g_t5 G) :: st) ws := fun p e s m args below meth c A H locs ls hC hT hP hD hS hl => va_tlen hC.1 hC.2.1 hC.zz.2.2.2.2.1 hS hv hd (k p e s m args below meth c A H locs ls hC hT hP hD hS hl)
theorem z_ldcS {l : Launch} {G : gG} {M : gM} {w0 : va_W} {tb : gTB} {Q : gE} {kc ns : Nat} {pc : Nat} {lv : List (Nat × Value)} {st : List Value} {ws : va_W} {index i : Nat} {tx : String} (hd : decode M.2.1 pc = .ok (.ldc index, 2)) (hlk : (M.1.cls, index, tx, i) ∈ g_sr) (k : gA3 l G M tb w0 Q kc ns (pc + 2) lv (.ref (g_adK G i) :: st) ws) : gA3 l G M tb w0 Q kc ns pc lv st ws := fun p e s m args below meth c A H locs ls hC hT hP hD hS hl => va_ldcS hC.1 hC.2.1 hC.own (hC.zz.2.2.2.2.2.2.1 _ hlk) hd (k p e s m args below meth c A H locs ls hC hT hP hD hS hl)
theorem z_iret {l : Launch} {G : gG} {M : gM} {w0 : va_W} {tb : gTB} {Q : gE} {kc ns : Nat} {pc : Nat} {lv : List (Nat × Value)} {st : List Value} {ws : va_W} {v : Int32} {mc ms : Nat} (hd : decode M.2.1 pc = .ok (.ireturn, 1)) (hr : M.2.2.2.1 = some .int) (hQ : Q = .inl (some (.int v), ws, mc, ms)) (hk1 : kc ≤ mc) (hk2 : ns ≤ ms) : gA3 l G M tb w0 Q kc ns pc lv [.int v] ws := by
  subst hQ
  exact fun p e s m args below meth c A H locs ls hC hT hP hD hS hl => W.widen hk1 hk2 (W.iret hC.1 hC.2.1 (hC.ret.trans hr) (fun t ht hW => ⟨rfl, by rw [ht]; exact hP, va_K.moved hW.alike hC.kk, hD, hS.F ht⟩) hS.2.2 hd hC.nl)
theorem z_zret {l : Launch} {G : gG} {M : gM} {w0 : va_W} {tb : gTB} {Q : gE} {kc ns : Nat} {pc : Nat} {lv : List (Nat × Value)} {st : List Value} {ws : va_W} {v : Int32} {ty : FieldType} {mc ms : Nat} (hd : decode M.2.1 pc = .ok (.ireturn, 1)) (hr : M.2.2.2.1 = some ty) (hn : narrow ty (.int v) = .int v) (hQ : Q = .inl (some (.int v), ws, mc, ms)) (hk1 : kc ≤ mc) (hk2 : ns ≤ ms) : gA3 l G M tb w0 Q kc ns pc lv [.int v] ws := by
  subst hQ
  exact fun p e s m args below meth c A H locs ls hC hT hP hD hS hl => W.widen hk1 hk2 (W.zret hC.1 hC.2.1 (hC.ret.trans hr) hn (fun t ht hW => ⟨rfl, by rw [ht]; exact hP, va_K.moved hW.alike hC.kk, hD, hS.F ht⟩) hS.2.2 hd hC.nl)
theorem z_lret {l : Launch} {G : gG} {M : gM} {w0 : va_W} {tb : gTB} {Q : gE} {kc ns : Nat} {pc : Nat} {lv : List (Nat × Value)} {st : List Value} {ws : va_W} {v : Int64} {mc ms : Nat} (hd : decode M.2.1 pc = .ok (.lreturn, 1)) (hr : M.2.2.2.1 = some .long) (hQ : Q = .inl (some (.long v), ws, mc, ms)) (hk1 : kc ≤ mc) (hk2 : ns ≤ ms) : gA3 l G M tb w0 Q kc ns pc lv [.long v] ws := by
  subst hQ
  exact fun p e s m args below meth c A H locs ls hC hT hP hD hS hl => W.widen hk1 hk2 (W.lret hC.1 hC.2.1 (hC.ret.trans hr) (fun t ht hW => ⟨rfl, by rw [ht]; exact hP, va_K.moved hW.alike hC.kk, hD, hS.F ht⟩) hS.2.2 hd hC.nl)
theorem z_vret {l : Launch} {G : gG} {M : gM} {w0 : va_W} {tb : gTB} {Q : gE} {kc ns : Nat} {pc : Nat} {lv : List (Nat × Value)} {st : List Value} {ws : va_W} {mc ms : Nat} (hd : decode M.2.1 pc = .ok (.return_, 1)) (hr : M.2.2.2.1 = none) (hQ : Q = .inl (none, ws, mc, ms)) (hk1 : kc ≤ mc) (hk2 : ns ≤ ms) : gA3 l G M tb w0 Q kc ns pc lv [] ws := by
  subst hQ
  exact fun p e s m args below meth c A H locs ls hC hT hP hD hS hl => W.widen hk1 hk2 (W.vret hC.1 hC.2.1 (hC.ret.trans hr) (fun t ht hW => ⟨rfl, by rw [ht]; exact hP, va_K.moved hW.alike hC.kk, hD, hS.F ht⟩) hS.2.2 hd hC.nl)
theorem z_vretP {l : Launch} {G : gG} {M : gM} {w0 : va_W} {tb : gTB} {Q : gE} {kc ns : Nat} {pc : Nat} {lv : List (Nat × Value)} {st : List Value} {ws : va_W} {P : va_W → Prop} {mc ms : Nat} (hd : decode M.2.1 pc = .ok (.return_, 1)) (hr : M.2.2.2.1 = none) (hQ : Q = .inr (.inr (.inl (none, P, mc, ms)))) (hw : P ws) (hk1 : kc ≤ mc) (hk2 : ns ≤ ms) : gA3 l G M tb w0 Q kc ns pc lv [] ws := by
  subst hQ
  exact fun p e s m args below meth c A H locs ls hC hT hP hD hS hl => W.widen hk1 hk2 (W.vret (Qc := fun a st o t => ∃ w1, P w1 ∧ g_Q G none w1 A a st o t) hC.1 hC.2.1 (hC.ret.trans hr) (fun t ht hW => ⟨ws, hw, ⟨rfl, by rw [ht]; exact hP, va_K.moved hW.alike hC.kk, hD, hS.F ht⟩⟩) hS.2.2 hd hC.nl)
theorem z_zretP {l : Launch} {G : gG} {M : gM} {w0 : va_W} {tb : gTB} {Q : gE} {kc ns : Nat} {pc : Nat} {lv : List (Nat × Value)} {st : List Value} {ws : va_W} {v : Int32} {ty : FieldType} {P : va_W → Prop} {mc ms : Nat} (hd : decode M.2.1 pc = .ok (.ireturn, 1)) (hr : M.2.2.2.1 = some ty) (hn : narrow ty (.int v) = .int v) (hQ : Q = .inr (.inr (.inl (some (.int v), P, mc, ms)))) (hw : P ws) (hk1 : kc ≤ mc) (hk2 : ns ≤ ms) : gA3 l G M tb w0 Q kc ns pc lv [.int v] ws := by
  subst hQ
  exact fun p e s m args below meth c A H locs ls hC hT hP hD hS hl => W.widen hk1 hk2 (W.zret (Qc := fun a st o t => ∃ w1, P w1 ∧ g_Q G (some (.int v)) w1 A a st o t) hC.1 hC.2.1 (hC.ret.trans hr) hn (fun t ht hW => ⟨ws, hw, ⟨rfl, by rw [ht]; exact hP, va_K.moved hW.alike hC.kk, hD, hS.F ht⟩⟩) hS.2.2 hd hC.nl)
theorem z_lald {l : Launch} {G : gG} {M : gM} {w0 : va_W} {tb : gTB} {Q : gE} {kc ns : Nat} {pc : Nat} {lv : List (Nat × Value)} {st : List Value} {ws : va_W} {n a : Nat} {f : Nat → Int64} {i : Int32} (q0 : Nat) (hd : decode M.2.1 pc = .ok (.laload, 1)) (he : ws[q0]? = some (a, .inl (G.2.2.2.1, n, .inr (.inl f)))) (hin : vp_in i n) (k : gA3 l G M tb w0 Q kc ns (pc + 1) lv (.long (f i.toNatClampNeg) :: st) ws) : gA3 l G M tb w0 Q kc ns pc lv (.int i :: .ref a :: st) ws := fun p e s m args below meth c A H locs ls hC hT hP hD hS hl => va_lald (D := G.1) hC.1 hC.2.1 hC.kk hP q0 2 he rfl hin hd (k p e s m args below meth c A H locs ls hC hT hP hD hS hl)
theorem z_tsO {l : Launch} {G : gG} {M : gM} {w0 : va_W} {tb : gTB} {Q : gE} {kc ns : Nat} {pc : Nat} {lv : List (Nat × Value)} {st : List Value} {ws : va_W} {dflt lo hi : Int} {offs : Array Int} {len : Nat} {x : Int32} (tgt : Nat) (hd : decode M.2.1 pc = .ok (.tableswitch dflt lo hi offs, len)) (h : x.toInt < lo ∨ hi < x.toInt) (ht : (pc : Int) + dflt = (tgt : Int)) (k : gA3 l G M tb w0 Q kc ns tgt lv st ws) : gA3 l G M tb w0 Q kc ns pc lv (.int x :: st) ws := fun p e s m args below meth c A H locs ls hC hT hP hD hS hl => lv_tableOut hC.1 hC.2.1 hd h ht (k p e s m args below meth c A H locs ls hC hT hP hD hS hl)
theorem z_tsI {l : Launch} {G : gG} {M : gM} {w0 : va_W} {tb : gTB} {Q : gE} {kc ns : Nat} {pc : Nat} {lv : List (Nat × Value)} {st : List Value} {ws : va_W} {dflt lo hi : Int} {offs : Array Int} {len : Nat} {x : Int32} {off : Int} (tgt : Nat) (hd : decode M.2.1 pc = .ok (.tableswitch dflt lo hi offs, len)) (h1 : ¬ x.toInt < lo) (h2 : ¬ hi < x.toInt) (ho : offs[(x.toInt - lo).toNat]? = some off) (ht : (pc : Int) + off = (tgt : Int)) (k : gA3 l G M tb w0 Q kc ns tgt lv st ws) : gA3 l G M tb w0 Q kc ns pc lv (.int x :: st) ws := fun p e s m args below meth c A H locs ls hC hT hP hD hS hl => lv_tableIn hC.1 hC.2.1 hd h1 h2 ho ht (k p e s m args below meth c A H locs ls hC hT hP hD hS hl)
theorem z_sld {l : Launch} {G : gG} {M : gM} {w0 : va_W} {tb : gTB} {Q : gE} {kc ns : Nat} {pc : Nat} {lv : List (Nat × Value)} {st : List Value} {ws : va_W} {b L : Nat} {f : Nat → Int32} {i : Int32} (hd : decode M.2.1 pc = .ok (.iaload, 1)) (hq : (b, L, f) ∈ tb.2) (hin : vp_in i L) (k : gA3 l G M tb w0 Q kc ns (pc + 1) lv (.int (f i.toNatClampNeg) :: st) ws) : gA3 l G M tb w0 Q kc ns pc lv (.int i :: .ref b :: st) ws := fun p e s m args below meth c A H locs ls hC hT hP hD hS hl => va_sld hC.1 hC.2.1 (hT.2.2.1 _ hq).1 (hT.2.2.1 _ hq).2.1 (hT.2.2.1 _ hq).2.2 hS hin hd (k p e s m args below meth c A H locs ls hC hT hP hD hS hl)
theorem z_slen {l : Launch} {G : gG} {M : gM} {w0 : va_W} {tb : gTB} {Q : gE} {kc ns : Nat} {pc : Nat} {lv : List (Nat × Value)} {st : List Value} {ws : va_W} {b L : Nat} {f : Nat → Int32} (hd : decode M.2.1 pc = .ok (.arraylength, 1)) (hq : (b, L, f) ∈ tb.2) (k : gA3 l G M tb w0 Q kc ns (pc + 1) lv (.int (Int32.ofNat L) :: st) ws) : gA3 l G M tb w0 Q kc ns pc lv (.ref b :: st) ws := fun p e s m args below meth c A H locs ls hC hT hP hD hS hl => va_slen hC.1 hC.2.1 (hT.2.2.1 _ hq).1 (hT.2.2.1 _ hq).2.1 (hT.2.2.1 _ hq).2.2 hS hd (k p e s m args below meth c A H locs ls hC hT hP hD hS hl)
theorem z_new {l : Launch} {G : gG} {M : gM} {w0 : va_W} {tb : gTB} {Q : gE} {kc ns : Nat} {pc : Nat} {lv : List (Nat × Value)} {st : List Value} {ws : va_W} {T : u_T} {N ci index : Nat} {C : String} (ty0 : Nat → FieldType) (fs : List Value) (hd : decode M.2.1 pc = .ok (.new index, 3)) (hc : vwCl[ci]? = some (C, T, N)) (hin : ∀ w ∈ u_ws C T N, w ∈ g_tbl) (hty : ∀ k, k < N → parseFieldDescriptor (T k).2.2.1 = some (ty0 k)) (hlk : Cond.classLink M.1.cls index C ∈ g_tbl) (hins : Cond.instantiable C N ∈ g_tbl) (hini : Cond.initialized C ∈ g_tbl) (hfs : ∀ j, j < N → defaultValue (ty0 j) = vp_V fs j) (hkc : kc + 1 ≤ M.2.2.2.2.cells) (hns : ns + N ≤ M.2.2.2.2.slots) (k : ∀ q : Nat, gA3 l G M tb w0 Q (kc + 1) (ns + N) (pc + 3) lv (.ref q :: st) (ws ++ [(q, .inr (ci, fs))])) : gA3 l G M tb w0 Q kc ns pc lv st ws := fun p e s m args below meth c A H locs ls hC hT hP hD hS hl => va_new (D := G.1) hC.1 hC.2.1 hC.tb hin ty0 hty hC.own (hC.tb _ hlk) (hC.tb _ hins) (hC.tb _ hini) hC.kk hP hD hS hC.hA hc hfs hkc hns hd (fun q H hP hD hS => k q p e s m args below meth c A H locs ls hC hT hP hD hS hl)
theorem z_newaC {l : Launch} {G : gG} {M : gM} {w0 : va_W} {tb : gTB} {Q : gE} {kc ns : Nat} {pc : Nat} {lv : List (Nat × Value)} {st : List Value} {ws : va_W} {n : Int32} (N : Nat) (hd : decode M.2.1 pc = .ok (.newarray .char, 2)) (harr : Cond.arrayClass .char ∈ g_tbl) (hn : ¬ n < 0) (hN : n.toNatClampNeg = N) (hb : N * componentBytes .char ≤ 536870912) (hkc : kc + 1 ≤ M.2.2.2.2.cells) (hns : ns + N ≤ M.2.2.2.2.slots) (k : ∀ q : Nat, gA3 l G M tb w0 Q (kc + 1) (ns + N) (pc + 2) lv (.ref q :: st) (ws ++ [(q, .inl (G.2.1, N, .inl (fun _ => 0)))])) : gA3 l G M tb w0 Q kc ns pc lv (.int n :: st) ws := by
  intro p e s m args below meth c A H locs ls hC hT hP hD hS hl
  refine va_newa (D := G.1) (atype := .char) hC.1 hC.2.1 (hC.tb _ harr) rfl hC.kk hP hD hS hC.hA (a0 := (N, .inl (fun _ => 0))) (fun _ => rfl) hn hN hb hkc hns hd (fun q cA H hK hP hD hS => ?_)
  have e1 : cA = G.2.1 := by
    have h1 : s.vm.findClass ("[" ++ (.char : FieldType).toString) = some cA := (hK.2 3 _ rfl).2
    have h2 : s.vm.findClass ("[" ++ (.char : FieldType).toString) = some G.2.1 := (hC.kk.2 0 _ rfl).2
    exact Option.some.inj (h1.symm.trans h2)
  subst e1
  exact k q p e s m args below meth c A H locs ls hC hT hP hD hS hl
theorem z_newaI {l : Launch} {G : gG} {M : gM} {w0 : va_W} {tb : gTB} {Q : gE} {kc ns : Nat} {pc : Nat} {lv : List (Nat × Value)} {st : List Value} {ws : va_W} {n : Int32} (N : Nat) (hd : decode M.2.1 pc = .ok (.newarray .int, 2)) (harr : Cond.arrayClass .int ∈ g_tbl) (hn : ¬ n < 0) (hN : n.toNatClampNeg = N) (hb : N * componentBytes .int ≤ 536870912) (hkc : kc + 1 ≤ M.2.2.2.2.cells) (hns : ns + N ≤ M.2.2.2.2.slots) (k : ∀ q : Nat, gA3 l G M tb w0 Q (kc + 1) (ns + N) (pc + 2) lv (.ref q :: st) (ws ++ [(q, .inl (G.2.2.1, N, .inl (fun _ => 0)))])) : gA3 l G M tb w0 Q kc ns pc lv (.int n :: st) ws := by
  intro p e s m args below meth c A H locs ls hC hT hP hD hS hl
  refine va_newa (D := G.1) (atype := .int) hC.1 hC.2.1 (hC.tb _ harr) rfl hC.kk hP hD hS hC.hA (a0 := (N, .inl (fun _ => 0))) (fun _ => rfl) hn hN hb hkc hns hd (fun q cA H hK hP hD hS => ?_)
  have e1 : cA = G.2.2.1 := by
    have h1 : s.vm.findClass ("[" ++ (.int : FieldType).toString) = some cA := (hK.2 3 _ rfl).2
    have h2 : s.vm.findClass ("[" ++ (.int : FieldType).toString) = some G.2.2.1 := (hC.kk.2 1 _ rfl).2
    exact Option.some.inj (h1.symm.trans h2)
  subst e1
  exact k q p e s m args below meth c A H locs ls hC hT hP hD hS hl
theorem z_newaL {l : Launch} {G : gG} {M : gM} {w0 : va_W} {tb : gTB} {Q : gE} {kc ns : Nat} {pc : Nat} {lv : List (Nat × Value)} {st : List Value} {ws : va_W} {n : Int32} (N : Nat) (hd : decode M.2.1 pc = .ok (.newarray .long, 2)) (harr : Cond.arrayClass .long ∈ g_tbl) (hn : ¬ n < 0) (hN : n.toNatClampNeg = N) (hb : N * componentBytes .long ≤ 536870912) (hkc : kc + 1 ≤ M.2.2.2.2.cells) (hns : ns + N ≤ M.2.2.2.2.slots) (k : ∀ q : Nat, gA3 l G M tb w0 Q (kc + 1) (ns + N) (pc + 2) lv (.ref q :: st) (ws ++ [(q, .inl (G.2.2.2.1, N, .inr (.inl (fun _ => 0))))])) : gA3 l G M tb w0 Q kc ns pc lv (.int n :: st) ws := by
  intro p e s m args below meth c A H locs ls hC hT hP hD hS hl
  refine va_newa (D := G.1) (atype := .long) hC.1 hC.2.1 (hC.tb _ harr) rfl hC.kk hP hD hS hC.hA (a0 := (N, .inr (.inl (fun _ => 0)))) (fun _ => rfl) hn hN hb hkc hns hd (fun q cA H hK hP hD hS => ?_)
  have e1 : cA = G.2.2.2.1 := by
    have h1 : s.vm.findClass ("[" ++ (.long : FieldType).toString) = some cA := (hK.2 3 _ rfl).2
    have h2 : s.vm.findClass ("[" ++ (.long : FieldType).toString) = some G.2.2.2.1 := (hC.kk.2 2 _ rfl).2
    exact Option.some.inj (h1.symm.trans h2)
  subst e1
  exact k q p e s m args below meth c A H locs ls hC hT hP hD hS hl
theorem z_obj {l : Launch} {G : gG} {M : gM} {w0 : va_W} {tb : gTB} {Q : gE} {kc ns : Nat} {pc : Nat} {lv : List (Nat × Value)} {st : List Value} {ws : va_W} {a index : Nat} (hd : decode M.2.1 pc = .ok (.invokespecial index, 3)) (hlk : Cond.methodLink M.1.cls index Lib.objectInit ∈ g_tbl) (hin : Cond.instanceMethod Lib.objectInit ∈ g_tbl) (hco : Cond.code Lib.objectInit ⟨#[0xb1]⟩ 1 none ∈ g_tbl) (hf : 1 ≤ M.2.2.2.2.frames) (hlo : (st.map fun v => v.category).sum + 12 ≤ M.2.2.2.2.locals) (k : gA3 l G M tb w0 Q kc ns (pc + 3) lv st ws) : gA3 l G M tb w0 Q kc ns pc lv (.ref a :: st) ws := fun p e s m args below meth c A H locs ls hC hT hP hD hS hl => W.objInit hC.1 hC.2.1 hC.own (hC.tb _ hlk) (hC.tb _ hin) (hC.tb _ hco) (g := F0 m pc ls (.ref a :: st)) rfl (hl.1.trans hC.ml.symm) rfl hd hf (by show 2 * 0 + _ + 12 ≤ _; omega) (k p e s m args below meth c A H locs ls hC hT hP hD hS hl)
theorem z_putF {l : Launch} {G : gG} {M : gM} {w0 : va_W} {tb : gTB} {Q : gE} {kc ns : Nat} {pc : Nat} {lv : List (Nat × Value)} {st : List Value} {ws : va_W} {T : u_T} {N ci index a kx : Nat} {C : String} {fs : List Value} {v : Value} (ty0 : Nat → FieldType) (q0 : Nat) (ws' : va_W) (hd : decode M.2.1 pc = .ok (.putfield index, 3)) (hc : vwCl[ci]? = some (C, T, N)) (hin : ∀ w ∈ u_ws C T N, w ∈ g_tbl) (hty : ∀ k, k < N → parseFieldDescriptor (T k).2.2.1 = some (ty0 k)) (hnm : ∀ a, a < N → ∀ b, b < N → a ≠ b → (T a).2.1 ≠ (T b).2.1) (hlk : Cond.fieldLink M.1.cls index (T kx).1 (T kx).2.1 (T kx).2.2.1 ∈ g_tbl) (he : ws[q0]? = some (a, .inr (ci, fs))) (hk : kx < N) (hfin : (T kx).2.2.2 = true) (hini : M.1.name = "<init>") (hdc : (T kx).1 = M.1.cls) (hn : narrow (ty0 kx) v = v) (hfit : fits (ty0 kx) v = true) (hlen : kx < fs.length) (hw : ws.set q0 (a, .inr (ci, fs.set kx v)) = ws') (k : gA3 l G M tb w0 Q kc ns (pc + 3) lv st ws') : gA3 l G M tb w0 Q kc ns pc lv (v :: .ref a :: st) ws := fun p e s m args below meth c A H locs ls hC hT hP hD hS hl => va_putF (D := G.1) hC.1 hC.2.1 hC.tb hin ty0 hty hnm hC.own hC.kk hP hD hS q0 he hc kx hk (hC.tb _ hlk) (fun _ h => h) hfin (hT.2.1.trans hini) hdc (hty kx hk) hn hfit hlen hd (fun H locs hP hD hS => k p e s m args below meth c A H locs ls hC hT (hw ▸ hP) (hw ▸ hD) hS hl)
/-! throwing -/
theorem g_isRef {C n d : String} {A : Nat → Prop} {s : State} {args : Array Value} (h : va_Zq C n d A s s.heap) : (Cond.isRef (.static C n d)).before args s = true := by
  have key : ∀ v : Value, v.isRef = true → va_Z C n d v A s s.heap → (Cond.isRef (.static C n d)).before args s = true := by
    intro v hv hz
    obtain ⟨cf, kf, fi, f, a, cell, h1, h2, -, h4, h5, h6, h7, -⟩ := hz
    have he : (Term.static C n d).eval args s none [] s = some v := by
      simp [Term.eval, State.fieldNamed?, h1, h2, h4, h5, h6, h7]
    simp only [Cond.before, Cond.holds, Cond.value, he]
    cases v <;> simp_all [Value.isRef]
  rcases h with h | ⟨t, h⟩
  · exact key _ rfl h
  · exact key _ rfl h
/-- a method's frame, looked at as if it were called in the heap that it has made -/
theorem z_base {p : Program} {l : Launch} {e : Env} {R R2 : Room} {s s2 T : State} {m : MethodId} {args : Array Value} {below : List Frame} {meth : Method} {c : Code} {locs : List Loc} {cells slots : Nat} (X : Stand p l e R s m args below meth c T locs cells slots) (h2 : s2 = (T.setVm s.vm).setFrames (.invoking m args :: below))
    (hf : R2.frames = R.frames) (hl : R2.locals = R.locals) (hc : cells + R2.cells ≤ R.cells) (hs : slots + R2.slots ≤ R.slots) : Stand p l e R2 s2 m args below meth c T [] 0 0 := by
  have htop : (T.setVm s.vm).topJava?.isSome := X.here.top
  have hcur := State.cur_lt_of_top htop
  obtain ⟨g0, hg0⟩ := Option.isSome_iff_exists.mp htop
  obtain ⟨r, hr⟩ := State.topJava?_eq_some.mp hg0
  obtain ⟨th, hth, -⟩ := State.frames_cons hr
  have hF : s2.frames = .invoking m args :: below := by rw [h2]; exact State.frames_setFrames _ hcur
  have hlim : e.platform.stackLimits (T.setVm s.vm).me = e.platform.stackLimits s.me := X.limits
  have hbyt : (T.setVm s.vm).me.stackBytes = s.me.stackBytes := X.bytes
  have hdrop : T.heap.toList.drop T.heap.size = [] := List.drop_eq_nil_of_le (Nat.le_of_eq Array.length_toList)
  have hroom : s2.hasRoom e.platform R2 = true := by
    have hin : s2.localsInUse = s.localsInUse := by
      rw [State.localsInUse_invoking hF (meth := meth) (c := c) (by rw [h2]; exact X.method) X.code, State.localsInUse_invoking X.frames X.method X.code]
    have hh := X.room
    have u1 := X.heapSize
    have u2 := X.used
    have u3 := X.book
    simp only [State.hasRoom, Bool.and_eq_true, decide_eq_true_eq] at hh ⊢
    obtain ⟨⟨⟨⟨a1, a2, a3, a4, a5, a6⟩, a7⟩, a8⟩, a9⟩ := hh
    rw [X.frames, List.length_cons] at a2 a3
    rw [hF, hin, List.length_cons, hf, hl]
    subst h2
    simp only [State.stackLimits_setFrames, State.stackBytes_setFrames, hlim, hbyt]
    refine ⟨⟨⟨⟨by omega, by omega, by omega, by omega, by omega, a6⟩, ?_⟩, ?_⟩, u3⟩
    · show T.heap.size + R2.cells ≤ e.platform.maxCells
      omega
    · show T.slotsUsed + R2.slots ≤ e.platform.maxSlots
      omega
  subst h2
  refine ⟨X.admits, X.cas, X.clock, hF, hroom, X.hears, X.method, X.code, X.here, X.tail, X.warmed, by rw [State.stackLimits_setFrames]; rfl, by rw [State.stackBytes_setFrames]; rfl, ?_, Nat.le_refl _, Nat.le_refl _, ?_, ?_, fun a c9 h9 => ⟨c9, h9, rfl, rfl, fun _ _ => rfl⟩⟩
  · show T.setVm s.vm = { ((T.setVm s.vm).setFrames (.invoking m args :: below)).setFrames (T.setVm s.vm).frames with heap := T.heap, slotsUsed := T.slotsUsed }
    rw [State.setFrames_setFrames, State.setFrames_self hth]
    rfl
  · show T.slotsUsed = T.slotsUsed + ((T.heap.toList.drop T.heap.size).map (·.slots.size)).sum
    rw [hdrop]
    rfl
  · show ((T.heap.toList.drop T.heap.size).map (·.slots.size)).sum ≤ 0
    rw [hdrop]
    exact Nat.le_refl _
def g_up : List String := ["java/lang/RuntimeException", "java/lang/Exception"]
def g_own (w : Cond) : Prop := w ∈ g_tbl ∨ w ∈ g_exw ∨ w = .isRef (.static "java/lang/Throwable" "UNASSIGNED_STACK" "[Ljava/lang/StackTraceElement;") ∨ w = .isRef (.static "java/lang/Throwable" "SUPPRESSED_SENTINEL" "Ljava/util/List;") ∨ w = .laysStatic "java/lang/Throwable" "UNASSIGNED_STACK" "[Ljava/lang/StackTraceElement;" ∨ w = .laysStatic "java/lang/Throwable" "SUPPRESSED_SENTINEL" "Ljava/util/List;"
set_option maxHeartbeats 1000000 in
/-- 'throw new E("text")' -/
theorem z_throw {l : Launch} {G : gG} {M : gM} {w0 : va_W} {Q : gE} {pc : Nat} {lv : List (Nat × Value)} {st : List Value} {ws : va_W} {E tx : String} {i ik is ic : Nat} (hl9 : l.stackTraces = false) (hd0 : decode M.2.1 pc = .ok (.new ik, 3)) (hd3 : decode M.2.1 (pc + 3) = .ok (.dup, 1)) (hd4 : decode M.2.1 (pc + 4) = .ok (.ldc is, 2)) (hd6 : decode M.2.1 (pc + 6) = .ok (.invokespecial ic, 3)) (hd9 : decode M.2.1 (pc + 9) = .ok (.athrow, 1))
    (hk : Cond.classLink M.1.cls ik E ∈ g_tbl) (hini : Cond.initialized E ∈ g_tbl) (hsr : (M.1.cls, is, tx, i) ∈ g_sr) (hfit : Bundle.fit E = true) (hat : ∀ w ∈ Bundle.ownAtoms M.1.cls ic E g_up, g_own w) (hfr : 6 ≤ M.2.2.2.2.frames) (hlo : (st.map fun v => v.category).sum + 90 ≤ M.2.2.2.2.locals) (hcs : 1 ≤ M.2.2.2.2.cells) (hss : 6 ≤ M.2.2.2.2.slots) (hQ : Q = .inr (.inl (E, ws))) :
    gA3 l G M tb0 w0 Q 0 0 pc lv st ws := by
  subst hQ
  intro p e s m args below meth c A H locs ls hC hT hP hD hS hl T hTH X
  have htr : e.platform.stackTraces = false := (show e.platform.stackTraces = l.stackTraces by rw [X.admits.platform]).trans hl9
  obtain ⟨s2, h2⟩ : ∃ z, z = (T.setVm s.vm).setFrames (.invoking m args :: below) := ⟨_, rfl⟩
  have Y := z_base X h2 (R2 := { frames := M.2.2.2.2.frames, locals := M.2.2.2.2.locals, cells := 1, slots := 6 }) rfl rfl (by show 0 + 1 ≤ _; omega) (by show 0 + 6 ≤ _; omega)
  have hvm : s2.vm = s.vm := by rw [h2]; rfl
  have hhp : s2.heap = H := by rw [h2]; exact hTH
  have hW0 : s.WarmedH s2.vm := by rw [hvm]; exact State.WarmedH.refl s
  have hz := (g_Z.go hC.zz hS (fun _ h => h) hhp hW0).2.2
  obtain ⟨-, -, -, -, hsr5, -, -, hU, hN, -, -, lU, lN⟩ := hz
  have hg : ∀ w ∈ g_tbl, w.before args s2 = true := fun w hw => word_at hW0 (g_good w hw) (hC.tb w hw)
  have hown : s2.vm.findClass M.1.cls = some m.cls := by rw [hvm]; exact hC.own
  have hall : ∀ w ∈ Bundle.ownAtoms M.1.cls ic E g_up, w.before args s2 = true := by
    intro w hw
    rcases hat w hw with h | h | h | h | h | h
    · exact hg w h
    · exact g_ex.use hT.2.2.2 h hvm.symm
    · rw [h]; exact g_isRef hU
    · rw [h]; exact g_isRef hN
    · rw [h]; exact lU.word
    · rw [h]; exact lN.word
  have hb := hC.2.1
  have hins : (Cond.instantiable E 6).before args s2 = true := hall _ (by simp [Bundle.ownAtoms])
  obtain ⟨vm1, cX, kX, hfX, hkX, -, -, X1, st1⟩ := Y.newCold hC.1 (own := M.1.cls) (C := E) (index := ik) (n := 6) hown (hg _ hk) hins (hg _ hini) (g := F0 m pc ls st) rfl (by rw [hb]; exact hd0) (Nat.le_refl _) (Nat.le_refl _)
  generalize hT1 : (T.setVm vm1).pushCell { cls := cX, slots := kX.instanceTypes.map defaultValue, vm := .none } = T1 at X1 st1
  have hcell : T1.heap[T.heap.size]? = some (freshCell cX kX) := by rw [← hT1]; exact State.heap_pushCell_size _ _
  have d3 : decode c.code (pc + 3) = .ok (.dup, 1) := by rw [hb]; exact hd3
  have d4 : decode c.code (pc + 4) = .ok (.ldc is, 2) := by rw [hb]; exact hd4
  have hstr : vk_R M.1.cls is tx (g_adK G i) s2 := hsr5 _ hsr
  have hcat : (Value.ref T.heap.size).category = 1 := rfl
  obtain ⟨U, hsteps, hrun, hend, hW, hsame, ce, hce, hO⟩ := X1.ctorThrowS hC.1 htr (own := M.1.cls) (cls := E) (names := g_up) (ic := ic) hown hfit (by decide +kernel) hall (fun x hx => nomatch hx) hfX hkX hcell (by rw [hhp, hTH]; exact Nat.le_refl _) (msg := .ref (g_adK G i)) rfl
    (g := { method := m, pc := pc + 6, locals := ls, stack := .ref (g_adK G i) :: .ref T.heap.size :: .ref T.heap.size :: st, locked := none }) rfl (hl.1.trans hC.ml.symm) rfl rfl (rest := st) rfl
    (by rw [hb]; exact hd6) (by rw [hb]; exact hd9) (by rw [hT.1]; intro x hx; cases hx) (by show 2 + 3 < M.2.2.2.2.frames; omega) (by show 2 * 0 + (((Value.ref T.heap.size :: st).map fun v => v.category).sum) + (13 * (2 + 1) + 42) ≤ M.2.2.2.2.locals; simp only [List.map_cons, List.sum_cons, hcat]; omega) hC.nl
  obtain ⟨-, f1, -, -, -, f6⟩ := id hsame
  rw [hhp] at f1
  have hkeep : ∀ q : Nat, q < H.size → U.heap[q]? = H[q]? := by
    intro q hq
    obtain ⟨c9, e1, e2, e3, e4⟩ := f6 q _ (Array.getElem?_eq_getElem (by rw [hhp]; exact hq))
    have hs9 : c9.slots = (s2.heap[q]'(by rw [hhp]; exact hq)).slots := Array.ext_getElem? fun j => e4 j (fun hm => nomatch hm)
    rw [hs9] at e2
    have e5 : U.heap[q]? = some c9 := e1
    have e6 : c9 = s2.heap[q]'(by rw [hhp]; exact hq) := e2
    rw [e5, e6, ← Array.getElem?_eq_getElem, hhp]
  have hWs : s.WarmedH U.vm := State.WarmedH.trans hW0 hW
  have hcl : s.vm.findClass E = some ce.cls := by
    have h9 := hO.cls
    rw [hvm] at h9
    exact h9
  have hsm : s.sameButNew ({ U with vm := s.vm } : State) locs 1 6 := by
    subst h2
    obtain ⟨e1, e2⟩ := hsame
    rw [State.setFrames_setFrames] at e1
    have h3 : (T.setVm s.vm).sameButNew ({ U with vm := s.vm } : State) [] (0 + 1) (0 + 6) := ⟨e1, e2⟩
    have h4 := X.same.trans h3
    rw [List.append_nil] at h4
    exact h4
  refine ⟨U, ?_, .threw T.heap.size, hrun, hend, T.heap.size, ce, locs, rfl, hce, hO.vm, hcl, hWs, hsm, hS.2.2, hP.kept (fun k x hx => hkeep x.1 ((hP k x hx).lt)), hD, ?_⟩
  · refine st1 _ ?_
    show Steps p.tables e below (T1.setTop { method := m, pc := pc + 3, locals := ls, stack := .ref T.heap.size :: st, locked := none }) _
    jvm_step X1.here [X1.here.top, hC.1, d3, Value.category]
    exact X1.ldcString hC.1 (own := M.1.cls) (text := tx) (index := is) (a := g_adK G i) hown hstr.1 hstr.2 (g := { method := m, pc := pc + 4, locals := ls, stack := .ref T.heap.size :: .ref T.heap.size :: st, locked := none }) rfl d4 _ hsteps
  · exact ⟨Nat.le_trans hS.1 f1, fun q h1 h3 => by rw [hkeep q (Nat.lt_of_lt_of_le h1 hS.1)]; exact hS.2.1 q h1 h3⟩
/-! catching -/
section ycatch
variable {e : Env} {a : Nat} {cell : Cell}
/-- a row of the table that covers the pc and names a class: the class is looked up, then it takes the object or the next row is looked at -/
theorem y_row {P : Handler → Pre} {E : CtlPost} {b : Bool} {acts : List Action} {S : State} {f : JFrame} {x : ExceptionTableEntry} {t : List ExceptionTableEntry} {c : ClassId} (hx : covers x f.pc = true) (h0 : x.catchType ≠ 0) (hl : S.vm.ClassLinks e.platform f.method.cls x.catchType c) (hcell : S.heap[a]? = some cell) (hobj : ∀ k, cell.vm ≠ .statics k) (hk : ∃ k, S.vm.classes[cell.cls]? = some k) :
    wp (findHandler.go f a (x :: t)) P E e b acts S ↔ (if S.vm.assignable cell.cls c = true then P (.found x.handlerPc) b acts (S.setVm (S.vm.noted f.method.cls x.catchType (.cls c))) else wp (findHandler.go f a t) P E e b acts (S.setVm (S.vm.noted f.method.cls x.catchType (.cls c)))) := by
  have hal : S.vm.Alike (S.vm.noted f.method.cls x.catchType (.cls c)) := (Vm.Alike.refl S.vm).noted _ _ _
  have hr := (resolveClass_links e.toSetting hl).op (op := VmOp.resolveClass f.method.cls x.catchType) rfl
  obtain ⟨dk, q1, q2, kt, q3, q4, q5, q6, q7, hkt, q8⟩ := hl.here
  obtain ⟨k1, hk1⟩ := hk
  obtain ⟨k2, hk2, -⟩ := hal.2.2 _ _ hk1
  obtain ⟨k3, hk3, -⟩ := hal.2.2 _ _ hkt
  have hx2 := hx
  simp only [covers] at hx2
  by_cases hb : S.vm.assignable cell.cls c = true
  · have hb2 : (S.vm.noted f.method.cls x.catchType (.cls c)).assignable cell.cls c = true := by rw [hal.assignable]; exact hb
    rw [if_pos hb]
    simp [findHandler.go, hx2, h0, hr.1, hr.2, hcell, hobj, hk2, hk3, hb2, VmOp.dirties, VmOp.acts]
  · have hb2 : (S.vm.noted f.method.cls x.catchType (.cls c)).assignable cell.cls c = false := by rw [hal.assignable]; exact Bool.eq_false_iff.mpr hb
    rw [if_neg hb]
    simp [findHandler.go, hx2, h0, hr.1, hr.2, hcell, hobj, hk2, hk3, hb2, VmOp.dirties, VmOp.acts]
def y_lk (e : Env) (s : State) (d : ClassId) (k : ClassId) (y : ExceptionTableEntry) (b : Bool) : Prop := y.catchType ≠ 0 ∧ ∃ c, s.vm.ClassLinks e.platform d y.catchType c ∧ s.vm.assignable k c = b
theorem y_find {s : State} {f : JFrame} {x : ExceptionTableEntry} {suf : List ExceptionTableEntry} (hobj : ∀ k, cell.vm ≠ .statics k) (hk : ∃ k, s.vm.classes[cell.cls]? = some k) (hx : covers x f.pc = true) (hxl : y_lk e s f.method.cls cell.cls x true) :
    ∀ (pre : List ExceptionTableEntry) (S : State), s.WarmedH S.vm → S.heap[a]? = some cell → (∀ y ∈ pre, covers y f.pc = true ∧ y_lk e s f.method.cls cell.cls y false) →
      ∃ vm2, s.WarmedH vm2 ∧ ∀ (P : Handler → Pre) (E : CtlPost) (b : Bool) (acts : List Action), wp (findHandler.go f a (pre ++ x :: suf)) P E e b acts S ↔ P (.found x.handlerPc) b acts (S.setVm vm2) := by
  have step : ∀ (y : ExceptionTableEntry) (b0 : Bool), y_lk e s f.method.cls cell.cls y b0 → ∀ S : State, s.WarmedH S.vm → ∃ c, S.vm.ClassLinks e.platform f.method.cls y.catchType c ∧ S.vm.assignable cell.cls c = b0 ∧ s.WarmedH (S.vm.noted f.method.cls y.catchType (.cls c)) := by
    intro y b0 hy S hW
    obtain ⟨-, c, hl, hb⟩ := hy
    obtain ⟨dk, q1, q2, kt, hd, q4, q5, q6, q7, hkt, q8, hopen⟩ := hl.here
    exact ⟨c, hW.classLinks hl, by rw [hW.alike.assignable]; exact hb, hW.noted hd hopen (State.rightAt_cls hl)⟩
  have hks : ∀ S : State, s.WarmedH S.vm → ∃ k, S.vm.classes[cell.cls]? = some k := by
    intro S hW
    obtain ⟨k, hk⟩ := hk
    obtain ⟨k2, hk2, -⟩ := hW.alike.2.2 _ _ hk
    exact ⟨k2, hk2⟩
  intro pre
  induction pre with
  | nil =>
    intro S hW hcell _
    obtain ⟨c, hl, hb, hW2⟩ := step x true hxl S hW
    refine ⟨_, hW2, fun P E b acts => ?_⟩
    rw [List.nil_append, y_row hx hxl.1 hl hcell hobj (hks S hW), if_pos hb]
  | cons y ys ih =>
    intro S hW hcell hp
    obtain ⟨hc1, hy⟩ := hp y List.mem_cons_self
    obtain ⟨c, hl, hb, hW2⟩ := step y false hy S hW
    obtain ⟨vm2, hW3, h3⟩ := ih (S.setVm (S.vm.noted f.method.cls y.catchType (.cls c))) hW2 hcell (fun z hz => hp z (List.mem_cons_of_mem _ hz))
    refine ⟨vm2, hW3, fun P E b acts => ?_⟩
    rw [List.cons_append, y_row hc1 hy.1 hl hcell hobj (hks S hW), if_neg (by rw [hb]; decide)]
    exact h3 P E b acts
/-- what is thrown over the frame is caught in it -/
theorem y_catch {p : Program} {l : Launch} {R : Room} {s T : State} {m : MethodId} {args : Array Value} {below : List Frame} {meth : Method} {c : Code} {locs : List Loc} {cells slots : Nat} (X : Stand p l e R s m args below meth c T locs cells slots) {g : JFrame} (hg : g.method = m) (hcell : T.heap[a]? = some cell) (hv : cell.vm = .none) (hk : ∃ k, s.vm.classes[cell.cls]? = some k) (pre : List ExceptionTableEntry) (x : ExceptionTableEntry) (suf : List ExceptionTableEntry) (hsp : c.exceptionTable.toList = pre ++ x :: suf)
    (hp : ∀ y ∈ pre, covers y g.pc = true ∧ y_lk e s m.cls cell.cls y false) (hx : covers x g.pc = true) (hxl : y_lk e s m.cls cell.cls x true) :
    ∃ vm2, Stand p l e R s m args below meth c (T.setVm vm2) locs cells slots ∧ ∀ target, Steps p.tables e below ((T.setVm vm2).setTop { g with pc := x.handlerPc, stack := [.ref a] }) target → Steps p.tables e below ((T.setTop g).pushFrame (.throwing a)) target := by
  subst hg
  obtain ⟨vm2, hW, hf⟩ := y_find (e := e) (a := a) (cell := cell) (s := s) (f := g) (x := x) (suf := suf) (fun k h => by rw [hv] at h; cases h) hk hx hxl pre ((T.setTop g).pushFrame (.throwing a)) (by rw [Stand.throwing_vm]; exact X.warmed) (by rw [Stand.throwing_heap]; exact hcell) hp
  refine ⟨vm2, X.noted hW, fun target hrest => ?_⟩
  have hm : ((T.setTop g).pushFrame (.throwing a)).vm.method? g.method = some meth := by rw [Stand.throwing_vm]; exact X.method'
  have hfind : ∀ (P : Handler → Pre) (E : CtlPost) (b : Bool) (acts : List Action), wp (findHandler g a) P E e b acts ((T.setTop g).pushFrame (.throwing a)) ↔ P (.found x.handlerPc) b acts (((T.setTop g).pushFrame (.throwing a)).setVm vm2) := by
    intro P E b acts
    rw [W.findHandler_eq hm X.code, hsp]
    exact hf P E b acts
  obtain ⟨hgo, hw⟩ := X.here.throwing a
  refine Steps.head hgo hw ?_
  rw [stepThread_throwing (frames_entered X.here.top _)]
  obtain ⟨g0, hg0⟩ := Option.isSome_iff_exists.mp X.here.top
  obtain ⟨r, hr⟩ := State.topJava?_eq_some.mp hg0
  have hr2 : (T.setVm vm2).frames = .java g0 :: r := hr
  have key : (stepThrowing e ((T.setTop g).pushFrame (.throwing a)) a (.java g :: T.frames.tail)).1 = (((T.setTop g).pushFrame (.throwing a)).setVm vm2).setFrames (.java { g with pc := x.handlerPc, stack := [.ref a] } :: T.frames.tail) := by
    simp only [stepThrowing, searchFrame, vmDo]
    generalize hgn : Sem.go _ e false [] ((T.setTop g).pushFrame (.throwing a)) = res
    obtain ⟨as, rfl, -⟩ := Sem.eq_ok_of hgn (a := Handler.found x.handlerPc) (s' := ((T.setTop g).pushFrame (.throwing a)).setVm vm2) (acts' := []) (by simp [hfind _ _ _ _])
    rfl
  rw [key]
  have e9 : ∀ (u : State) (F G : List Frame), ((u.setFrames F).setVm vm2).setFrames G = (u.setVm vm2).setFrames G := by
    intro u F G
    rw [show (u.setFrames F).setVm vm2 = (u.setVm vm2).setFrames F from rfl, State.setFrames_setFrames]
  rw [State.setTop_of_frames _ hr2] at hrest
  rw [hr, List.tail_cons, State.pushFrame, e9, State.setTop_of_frames _ hr, e9]
  exact hrest
end ycatch
/-- a call of a method that throws an E, which is caught here -/
theorem z_callX {l : Launch} {G : gG} {M Mc : gM} {tb : gTB} {w0 : va_W} {Q : gE} {kc ns pc index : Nat} {lv : List (Nat × Value)} {st0 rest As : List Value} {ws wc wr w1c : va_W} {E name : String} (ws' : va_W) (isC isR perm : List Nat) {b ci q0 N : Nat} {C : String} {T : u_T} {fs : List Value} (pre : List ExceptionTableEntry) (x : ExceptionTableEntry) (suf : List ExceptionTableEntry)
    (hc : gX3 l G Mc (.ref b :: As) wc E w1c) (hd : decode M.2.1 pc = .ok (.invokevirtual index, 3)) (hst : st0 = As.reverse ++ .ref b :: rest) (ok : gOk3 Mc As.length 1 6) (rm : gRm M Mc) (hlk : Cond.methodLink M.1.cls index Mc.1 ∈ g_tbl) (hin : Cond.instanceMethod Mc.1 ∈ g_tbl) (hse : Cond.selects C Mc.1 Mc.1 ∈ g_tbl) (hrv : ws[q0]? = some (b, .inr (ci, fs))) (hcl : vwCl[ci]? = some (C, T, N)) (hkc : kc + 1 ≤ M.2.2.2.2.cells) (hns : ns + 6 ≤ M.2.2.2.2.slots)
    (hnC : va_nd isC = true) (hCm : isC.map (fun i => ws[i]?) = wc.map some) (hRm : isR.map (fun i => ws[i]?) = wr.map some) (hn : va_nd isR = true) (hdis : ∀ i ∈ isR, i ∉ isC) (hnp : va_nd perm = true) (hpm : perm.map (fun i => (wr ++ w1c)[i]?) = ws'.map some) (hcat : (rest.map fun v => v.category).sum ≤ 8)
    (htb : tb.1 = pre ++ x :: suf) (hpass : ∀ z ∈ pre, covers z pc = true ∧ z.catchType ≠ 0 ∧ E = "java/lang/IllegalArgumentException" ∧ Cond.classLink M.1.cls z.catchType "java/lang/IllegalStateException" ∈ g_tbl) (hx : covers x pc = true) (hx0 : x.catchType ≠ 0) (hxl : Cond.classLink M.1.cls x.catchType name ∈ g_tbl) (hca : Cond.castable E name ∈ g_exw)
    (k : ∀ q : Nat, gA3 l G M tb w0 Q (kc + 1) (ns + 6) x.handlerPc lv [.ref q] ws') : gA3 l G M tb w0 Q kc ns pc lv st0 ws := by
  intro p e s m args below meth c A H locs ls hC hT hP hD hS hl T0 hT0 X
  have hpl : e.platform.magicAccessors = ({} : Platform).magicAccessors := by rw [X.admits.platform]
  have hb := hC.2.1
  obtain ⟨cellB, hcB, hoB, hclB⟩ := va_recv hC.kk hP hcl hrv
  have hin' := hC.tb _ hin
  have hse' := hC.tb _ hse
  obtain ⟨mk, methM, hnamed, hmethM, hstM, habM⟩ := Cond.instanceMethod_spec hin'
  obtain ⟨methM', cM, hmethM', hcM, -, hlM, -, -, -, hsigM⟩ := Cond.code_spec hnamed (hC.tb _ ok.2.1)
  cases hmethM.symm.trans hmethM'
  obtain ⟨c2, r2, m2, q1, q2, q3, q4, kP, hkP, hkPi⟩ := Cond.selects_spec hse'
  cases hclB.symm.trans q1
  cases (State.methodFound?_of_named hnamed ok.2.2.1).symm.trans q2
  cases hnamed.symm.trans q3
  have hselP : selectMethod e.platform s.vm cellB.cls mk = .method mk := by rw [Launch.admits_selectMethod X.admits]; exact q4
  obtain ⟨vm1, X1, hstep⟩ := X.invokevirtual hC.1 hC.own (hC.tb _ hlk) hnamed hmethM hstM hkP hkPi ok.2.2.1 (a := b) (cell := cellB) (by rw [hT0]; exact hcB)
    (fun z h => by rw [h] at hoB; cases hoB) hselP hmethM habM hkP hkPi (g := F0 m pc ls st0) rfl (argsL := As) (rest := rest) (ok.len _ hsigM) hst (by rw [hb]; exact hd)
  -- the callee runs and throws
  have hn1 : (T0.setVm vm1).methodNamed? Mc.1 = some mk := X1.named hnamed
  have w1 : ∀ w ∈ g_tbl, ∀ a9 : Array Value, w.before a9 (T0.setVm vm1) = true := fun w hw a9 => word_at X1.warmed (g_good w hw) (hC.tb w hw)
  obtain ⟨methY, cY, hmY, hcY, -, hlY, -, -, -, -⟩ := Cond.code_spec hn1 (w1 _ ok.2.1 (.ref b :: As).toArray)
  obtain ⟨kY, hkY, -⟩ := className_of_methodNamed hn1
  have hiY : kY.init = .initialized := Cond.initialized_spec (findClass_of_methodNamed hn1) hkY (w1 _ ok.1 (.ref b :: As).toArray)
  have hAt : At (T0.setVm vm1) (F0 m pc ls rest).method c below := X1.here
  have hcm : 2 * (F0 m pc ls rest).monitorRoom + ((F0 m pc ls rest).stack.map fun v => v.category).sum ≤ 8 := lv_room hcat
  have happ : (headSpec (g_ws Mc) Mc.2.2.2.2).appliesLoose Mc.1 e.platform ((T0.setVm vm1).calling (F0 m pc ls rest) mk (.ref b :: As).toArray) = true :=
    Spec.appliesLoose_calling (g := F0 m pc ls rest) hAt (by rw [hb]; exact hd) hn1 hkY hiY
      (X1.room_calling (g := F0 m pc ls rest) (R' := Mc.2.2.2.2) (hl.1.trans hC.ml.symm) hmY hcY rm.1 (by rw [hlY]; have := rm.2; omega) (by rw [ok.2.2.2.2.1]; exact hkc) (by rw [ok.2.2.2.2.2]; exact hns)) (atoms_intro fun w hw => g_pay hC.tb ok.2.1 w hw _ _ X1.warmed)
  have hpc : g_Pc3 G (.ref b :: As) wc H.size (.ref b :: As).toArray ((T0.setVm vm1).calling (F0 m pc ls rest) mk (.ref b :: As).toArray) := g_Pc3.blind _ _ _ _ (g_pre3 hC hT hP hD hS isC hnC hCm (T0.setVm vm1) hT0 X1.warmed)
  have htl : (T0.setVm vm1).frames.tail = below := X1.tail
  have hfr : ((T0.setVm vm1).setTop (F0 m pc ls rest)).frames = [.java (F0 m pc ls rest)] ++ below := by rw [State.frames_setTop' _ hAt.top, htl]; rfl
  obtain ⟨o, t, hsteps, -, hend, hq⟩ := Steps.callFree (hc H.size) p X1.admits X1.cas X1.clock (acts := []) hfr happ hpc trivial
  rw [hfr] at hend
  have hq2 : xQ G E w1c (va_A wc H.size) ((T0.setVm vm1).calling (F0 m pc ls rest) mk (.ref b :: As).toArray) o t := hq
  obtain ⟨v, ce, L, ho, g1, g2, g3, gW, gS, g5, g8, g9, g10, g11⟩ := hq2
  subst ho
  obtain ⟨U, X2, hW2, hS2, ht⟩ := X1.outOfThrown (g := F0 m pc ls rest) rfl hend gW gS
  have hUh : U.heap = t.heap := by rw [ht]; exact (Stand.throwing_heap U (F0 m pc ls rest) v).symm
  have hfc : s.vm.findClass E = some ce.cls := by
    have h1 : (T0.setVm vm1).vm.findClass E = some ce.cls := g3
    rw [X1.warmed.alike.findClass] at h1
    exact h1
  have hheap : ((T0.setVm vm1).calling (F0 m pc ls rest) mk (.ref b :: As).toArray).heap = H := hT0
  rw [hheap] at g10 g11
  rw [← hUh] at g1 g8 g10
  obtain ⟨j1, j2, j3⟩ := z_join (L := L) (H1 := U.heap) hC hP hD hS isC isR perm hCm hRm hn hdis hnp hpm g10 (fun q h1 h2 => by rw [hUh]; exact g11 q h1 h2) g5 g8 g9
  -- it is caught
  obtain ⟨c3, c4, hc3, hc4, hasg⟩ := Cond.castable_spec (g_ex.use (args := args) hT.2.2.2 hca rfl)
  cases Option.some.inj (hc3.symm.trans hfc)
  obtain ⟨c5, hc5, hcl5⟩ := Cond.classLink_spec hC.own (hC.tb _ hxl) e.platform hpl
  cases Option.some.inj (hc4.symm.trans hc5)
  obtain ⟨vm2, X3, hst3⟩ := y_catch X2 (g := F0 m pc ls rest) rfl g1 g2 (by obtain ⟨k9, h9, -⟩ := Vm.findClass_spec hfc; exact ⟨k9, h9⟩) pre x suf (hT.1.trans htb)
    (fun z hz => by
      obtain ⟨y0, y1, y2, y3⟩ := hpass z hz
      obtain ⟨c6, hc6, hcl6⟩ := Cond.classLink_spec hC.own (hC.tb _ y3) e.platform hpl
      subst y2
      obtain ⟨a8, b8, w1, w2, w3⟩ := hC.zz.2.2.2.2.2.2.2.2.2.2.2.1
      cases Option.some.inj (w1.symm.trans hfc)
      cases Option.some.inj (w2.symm.trans hc6)
      exact ⟨y0, y1, _, hcl6, w3⟩) hx ⟨hx0, c4, hcl5, hasg⟩
  obtain ⟨t2, a1, b1⟩ := k v p e s m args below meth c A U.heap (locs ++ L) ls hC hT j1 j2 j3 hl (U.setVm vm2) rfl X3
  exact ⟨t2, hstep _ (fun acts => by rw [doInvoke_state]; exact hsteps.trans (by rw [ht]; exact hst3 _ a1)), b1⟩
/-! methods with a table -/
def tbOf (hh : List (Nat × Nat × Nat × Nat)) : List ExceptionTableEntry := hh.map (fun q => ⟨q.1, q.2.1, q.2.2.1, q.2.2.2⟩)
theorem tbOf_of {L : List ExceptionTableEntry} {hh : List (Nat × Nat × Nat × Nat)} (h : L.map (fun h => (h.startPc, h.endPc, h.handlerPc, h.catchType)) = hh) : L = tbOf hh := by
  subst h
  unfold tbOf
  rw [List.map_map]
  exact (List.map_id'' (fun _ => rfl) L).symm
def g_wsW (M : gM) (hh : List (Nat × Nat × Nat × Nat)) : List Cond := .codeWith M.1 M.2.1 M.2.2.1 M.2.2.2.1 hh :: g_tbl
def gCW (l : Launch) (G : gG) (M : gM) (hh : List (Nat × Nat × Nat × Nat)) (av : List Value) (w0 : va_W) (res : Option Value) (w1 : va_W) (mc ms : Nat) : Prop :=
  ∀ sz : Nat, Met l M.1 (g_wsW M hh) M.2.2.2.2 (g_Pc3 G av w0 sz) (g_Q G res w1 (va_A w0 sz)) mc ms (va_A w0 sz)
theorem gCW.of {l : Launch} {G : gG} {M : gM} {hh : List (Nat × Nat × Nat × Nat)} {av : List Value} {w0 : va_W} {res : Option Value} {w1 : va_W} {mc ms : Nat} (hy : plainName M.1.cls = true) (hn : (lg_sl av).length ≤ M.2.2.1) (h : gA3 l G M (tbOf hh, []) w0 (.inl (res, w1, mc, ms)) 0 0 0 (lv_args 0 av) [] w0) : gCW l G M hh av w0 res w1 mc ms := by
  intro sz
  refine MetFree.of_bodyS (code := M.2.1) (maxLocals := M.2.2.1) (ret := M.2.2.2.1) hy ?_ ?_
  · intro args s m hp hnm
    obtain ⟨m9, meth, c, h0, h1, h2, h3, h4, -, h5, h6, -⟩ := Cond.codeWith_spec (atoms_spec (ws := g_wsW M hh) hp _ List.mem_cons_self)
    cases Option.some.inj (h0.symm.trans hnm)
    exact ⟨meth, c, h1, h2, h3, h4, h5, h6⟩
  · intro p e s m args below meth c s₁ B hml hv _
    obtain ⟨⟨rfl, hsz, hP, hK, hD0, hZ⟩, hE⟩ := hv
    subst hsz
    have hts := atoms_spec (ws := g_wsW M hh) B.pre
    have hD := hD0.self (sz := s.heap.size)
    have hl := lv_entry av (n := M.2.2.1) hn
    have htb : c.exceptionTable.toList = tbOf hh := by
      obtain ⟨m9, meth9, c9, h0, h1, h2, -, -, h5, -⟩ := Cond.codeWith_spec (hts _ List.mem_cons_self)
      cases Option.some.inj (h0.symm.trans B.named)
      cases Option.some.inj (h1.symm.trans B.method)
      cases Option.some.inj (h2.symm.trans (Stand.of_body B).code)
      exact tbOf_of h5
    have hh0 : s₁.heap = s.heap := by rw [B.state]; rfl
    rw [lg_entry_eq]
    obtain ⟨t, a1, o, b1, b2, b3⟩ := h p e s m _ below meth c _ s.heap [] _ ⟨B.exec, B.bytes, hml, B.returns, findClass_of_methodNamed B.named, fun w hw => hts w (List.mem_cons_of_mem _ hw), B.notSynchronized, rfl, hK, hZ⟩ ⟨htb, (name_of_methodNamed B.named B.method).1, (fun q hq => nomatch hq), hE⟩ hP hD va_S.rf hl s₁ hh0 (Stand.of_body B)
    exact ⟨t, o, a1, b1, b2, b3⟩
def gOkW (M : gM) (hh : List (Nat × Nat × Nat × Nat)) (n mc ms : Nat) : Prop := Cond.initialized M.1.cls ∈ g_tbl ∧ Cond.codeWith M.1 M.2.1 M.2.2.1 M.2.2.2.1 hh ∈ g_tbl ∧ (M.1.cls ≠ "java/lang/invoke/MethodHandle" ∧ M.1.cls ≠ "java/lang/invoke/VarHandle") ∧ (parseMethodDescriptor M.1.desc).map (fun d => d.parameters.length) = some n ∧ M.2.2.2.2.cells = mc ∧ M.2.2.2.2.slots = ms
theorem z_callSW {l : Launch} {G : gG} {M Mc : gM} {tb : gTB} {hh : List (Nat × Nat × Nat × Nat)} {w0 : va_W} {Q : gE} {kc ns mc ms pc index : Nat} {lv : List (Nat × Value)} {st0 rest As : List Value} {ws wc wr w1c : va_W} {r : Option Value} (ws' : va_W) (isC isR perm : List Nat) (hc : gCW l G Mc hh As wc r w1c mc ms) (hd : decode M.2.1 pc = .ok (.invokestatic index, 3)) (hst : st0 = As.reverse ++ rest) (ok : gOkW Mc hh As.length mc ms) (rm : gRm M Mc) (hlk : Cond.methodLink M.1.cls index Mc.1 ∈ g_tbl) (hsc : Cond.static Mc.1 ∈ g_tbl) (hkc : kc + mc ≤ M.2.2.2.2.cells) (hns : ns + ms ≤ M.2.2.2.2.slots)
    (hnC : va_nd isC = true) (hCm : isC.map (fun i => ws[i]?) = wc.map some) (hRm : isR.map (fun i => ws[i]?) = wr.map some) (hn : va_nd isR = true) (hdis : ∀ i ∈ isR, i ∉ isC) (hnp : va_nd perm = true) (hpm : perm.map (fun i => (wr ++ w1c)[i]?) = ws'.map some) (hcat : (rest.map fun v => v.category).sum ≤ 8) (k : gA3 l G M tb w0 Q (kc + mc) (ns + ms) (pc + 3) lv (r.toList ++ rest) ws') : gA3 l G M tb w0 Q kc ns pc lv st0 ws := by
  intro p e s m args below meth c A H locs ls hC hT hP hD hS hl
  have hb := hC.2.1
  refine z_after (a := As.toArray) ?_ hC hT hP hD hS hl isC isR perm hCm hRm hn hdis hnp hpm k
  intro T0 hT0 X
  have hK : Free.Back l M.2.2.2.2 p e below s args Mc.1 3 8 (PreOf M.2.2.2.2 mc ms (g_Pc3 G As wc H.size)) (PostOf (g_Q G r w1c (va_A wc H.size)) mc ms (va_A wc H.size)) := by
    refine Free.Back.of_freeWith (handlers := hh) (S := headSpec (g_wsW Mc hh) Mc.2.2.2.2) (bytes := Mc.2.1) (maxL := Mc.2.2.1) (ret := Mc.2.2.2.1) (E := fun _ _ _ _ L k n => k = mc ∧ n = ms ∧ ∀ z ∈ L, va_A wc H.size z.base) (hc H.size) rm.1 rm.2 ?_ ?_ (fun _ _ _ _ _ _ _ _ _ => trivial) ?_ ?_
    · intro m9 meth9 c9 Ap a9 X9 hp
      have hw : ∀ w ∈ g_wsW Mc hh, w.before a9 Ap.U = true := by
        intro w hw
        have hw' : w ∈ g_tbl := by
          rcases List.mem_cons.mp hw with h | h
          · rw [h]; exact ok.2.1
          · exact h
        exact word_at X9.warmed (g_good w hw') (hC.tb w hw')
      exact ⟨atoms_intro hw, hw _ List.mem_cons_self, word_at X9.warmed (g_good _ ok.1) (hC.tb _ ok.1), by rw [show (headSpec (g_wsW Mc hh) Mc.2.2.2.2).room.cells = mc from ok.2.2.2.2.1]; exact hp.1, by rw [show (headSpec (g_wsW Mc hh) Mc.2.2.2.2).room.slots = ms from ok.2.2.2.2.2]; exact hp.2.1⟩
    · intro m9 meth9 c9 Ap a9 g9 mk9 X9 hp
      exact g_Pc3.blind _ _ _ _ hp.2.2
    · intro a9 first o t hq
      obtain ⟨-, L, h1, h2⟩ := hq
      exact ⟨L, mc, ms, h1, rfl, rfl, h2⟩
    · intro m9 meth9 c9 Ap a9 g9 mk9 v t L k9 n9 X9 hp hq hF hE
      obtain ⟨e1, e2, hL⟩ := hE
      subst e1 e2
      exact ⟨g9, mk9, t, L, rfl, rfl, hq.1, rfl, hL, rfl, rfl⟩
  obtain ⟨mk, methM, cM, hnamed, hmethM, -, -, -, -, -, -, hsigM⟩ := Cond.codeWith_spec (hC.tb _ ok.2.1)
  have hstatic : methM.isStatic = true := Cond.static_spec hnamed hmethM (hC.tb _ hsc)
  obtain ⟨kP, hkP, -⟩ := className_of_methodNamed hnamed
  have hinitP : kP.init = .initialized := Cond.initialized_spec (findClass_of_methodNamed hnamed) hkP (hC.tb _ ok.1)
  have hlen : As.length = methM.sig.parameters.length := by
    have h2 := ok.2.2.2.1
    rw [hsigM] at h2
    exact (Option.some.inj h2).symm
  obtain ⟨vm1, X1, hstep⟩ := X.invokestatic hC.1 hC.own (hC.tb _ hlk) hnamed hmethM hstatic hkP hinitP ok.2.2.1 (g := F0 m pc ls st0) rfl (argsL := As) (rest := rest) hlen hst (by rw [hb]; exact hd)
  obtain ⟨v, ⟨U, l2, c2, s2⟩, X2, ⟨g9, mk9, t, L, e1, e2, hq, h1, hL, h2, h3⟩, hsteps⟩ := hK m meth c ⟨T0.setVm vm1, locs, kc, ns⟩ (F0 m pc ls rest) (.invokestatic index) mk As.toArray X1 rfl (hl.1.trans hC.ml.symm) (by rw [hb]; exact hd) (lv_room hcat) (X1.named hnamed) ⟨hkc, hns, g_pre3 hC hT hP hD hS isC hnC hCm (T0.setVm vm1) hT0 X1.warmed⟩
  dsimp only [Pt.U, Pt.locs, Pt.cells, Pt.slots] at X2 e1 e2 h1 h2 h3 hsteps
  subst h1 h2 h3
  exact ⟨v, (T0.setVm vm1).calling g9 mk9 As.toArray, t, U, L, hT0, X2, hL, e1, e2, hq, fun target h => hstep _ fun acts => by rw [doInvoke_state]; exact hsteps.trans h⟩
theorem gC3.mk {l : Launch} {G : gG} {M : gM} {av : List Value} {w0 : va_W} {res : Option Value} {w1 : va_W} {mc ms : Nat} {lv : List (Nat × Value)} (hy : plainName M.1.cls = true) (hn : (lg_sl av).length ≤ M.2.2.1) (hlv : lv_args 0 av = lv) (h : gA3 l G M tb0 w0 (.inl (res, w1, mc, ms)) 0 0 0 lv [] w0) : gC3 l G M av w0 res w1 mc ms := gC3.of hy hn (by rw [hlv]; exact h)
theorem gX3.mk {l : Launch} {G : gG} {M : gM} {av : List Value} {w0 : va_W} {E : String} {w1 : va_W} {lv : List (Nat × Value)} (hy : plainName M.1.cls = true) (hn : (lg_sl av).length ≤ M.2.2.1) (hlv : lv_args 0 av = lv) (h : gA3 l G M tb0 w0 (.inr (.inl (E, w1))) 0 0 0 lv [] w0) : gX3 l G M av w0 E w1 := gX3.of hy hn (by rw [hlv]; exact h)
theorem gCW.mk {l : Launch} {G : gG} {M : gM} {hh : List (Nat × Nat × Nat × Nat)} {av : List Value} {w0 : va_W} {res : Option Value} {w1 : va_W} {mc ms : Nat} {lv : List (Nat × Value)} (hy : plainName M.1.cls = true) (hn : (lg_sl av).length ≤ M.2.2.1) (hlv : lv_args 0 av = lv) (h : gA3 l G M (tbOf hh, []) w0 (.inl (res, w1, mc, ms)) 0 0 0 lv [] w0) : gCW l G M hh av w0 res w1 mc ms := gCW.of hy hn (by rw [hlv]; exact h)
theorem gC4.mk {l : Launch} {G : gG} {M : gM} {av : List Value} {w0 : va_W} {P : va_W → Prop} {mc ms : Nat} {lv : List (Nat × Value)} (hy : plainName M.1.cls = true) (hn : (lg_sl av).length ≤ M.2.2.1) (hlv : lv_args 0 av = lv) (h : gA3 l G M tb0 w0 (.inr (.inr (.inl (none, P, mc, ms)))) 0 0 0 lv [] w0) : gC4 l G M av w0 P mc ms := gC4.of hy hn (by rw [hlv]; exact h)
abbrev tbL (b n : Nat) (f : Nat → Int32) : gTB := ([], [(b, n, f)])
