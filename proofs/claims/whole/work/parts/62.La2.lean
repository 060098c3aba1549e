/-! THE LAW: its cases -/
section MoW
variable {l : Launch} {G : gG} {m ta fa wa : Nat} {th : Int32} {ch : Nat → Nat} {n : Nat} {w : va_W}
theorem m_thrown (h : MI G m ta fa wa ch n th w) : gCt l G m_Mo_thrown [.ref m] w (some (.int th)) w := by
  obtain ⟨len9, ki9, pc9, be9, ma9, po9, ex9, fm9, to9, wh9, sc9, re9, hu9, tx9, fg9, wd9, rfl, T⟩ := h
  exact c_Mo_thrown
theorem m_write {b : Nat} (hb : b < 2 ^ 64) (h : MI G m ta fa wa ch n th w) : ∃ w2, gCt l G m_Mo_write [.ref m, .long (lN b)] w (some (.int (if n + wrN b 8 ≤ 4096 then nI (n + wrN b 8) else -1))) w2 ∧ MI G m ta fa wa (if n + wrN b 8 ≤ 4096 then wrC b 8 ch n else ch) (if n + wrN b 8 ≤ 4096 then n + wrN b 8 else n) 0 w2 := by
  obtain ⟨len9, ki9, pc9, be9, ma9, po9, ex9, fm9, to9, wh9, sc9, re9, hu9, tx9, fg9, wd9, rfl, T⟩ := h
  obtain ⟨tx2, c, T2⟩ := c_Mo_write (l := l) (G := G) (m := m) (ta := ta) (fa := fa) (wa := wa) (th := th) (ki := ki9) (pc := pc9) (be := be9) (ma := ma9) (po := po9) (ex := ex9) (fm := fm9) (to := to9) (wh := wh9) (sc := sc9) (re := re9) (hu := hu9) (fg := fg9) (wd := wd9) hb T
  exact ⟨_, c, _, ki9, pc9, be9, ma9, po9, ex9, fm9, to9, wh9, sc9, re9, hu9, tx2, fg9, wd9, rfl, T2⟩
theorem m_wipe (h : MI G m ta fa wa ch n th w) : ∃ w2, gCt l G m_Mo_wipe [.ref m] w (some (.int (nI n))) w2 ∧ MI G m ta fa wa (cutC ch 0) 0 0 w2 := by
  obtain ⟨len9, ki9, pc9, be9, ma9, po9, ex9, fm9, to9, wh9, sc9, re9, hu9, tx9, fg9, wd9, rfl, T⟩ := h
  have hl : len9 = nI n := T.1
  subst hl
  exact ⟨_, c_Mo_wipe, _, ki9, pc9, be9, ma9, po9, ex9, fm9, to9, wh9, sc9, re9, hu9, tx9, fg9, wd9, rfl, tOk_cut T (Nat.zero_le _)⟩
theorem m_repeatBad {c k : Int32} (hb : c < 1 ∨ (255 : Int32) < c ∨ k < 0) (h : MI G m ta fa wa ch n th w) : ∃ w2, gCt l G m_Mo_repeat [.ref m, .int c, .int k] w (some (.int 0)) w2 ∧ MI G m ta fa wa ch n 1 w2 := by
  obtain ⟨len9, ki9, pc9, be9, ma9, po9, ex9, fm9, to9, wh9, sc9, re9, hu9, tx9, fg9, wd9, rfl, T⟩ := h
  exact ⟨_, c_Mo_repeatBad hb, len9, ki9, pc9, be9, ma9, po9, ex9, fm9, to9, wh9, sc9, re9, hu9, tx9, fg9, wd9, rfl, T⟩
theorem m_repeat {c k : Nat} (hc1 : 1 ≤ c) (hc2 : c ≤ 255) (hk : k < 2 ^ 31) (h : MI G m ta fa wa ch n th w) : ∃ w2, gCt l G m_Mo_repeat [.ref m, .int (nI c), .int (nI k)] w (some (.int (if k ≤ 4096 - n then nI (n + k) else -1))) w2 ∧ MI G m ta fa wa (if k ≤ 4096 - n then rpC ch n c k else ch) (if k ≤ 4096 - n then n + k else n) 0 w2 := by
  obtain ⟨len9, ki9, pc9, be9, ma9, po9, ex9, fm9, to9, wh9, sc9, re9, hu9, tx9, fg9, wd9, rfl, T⟩ := h
  obtain ⟨tx2, c2, T2⟩ := c_Mo_repeat (l := l) (G := G) (m := m) (ta := ta) (fa := fa) (wa := wa) (th := th) (ki := ki9) (pc := pc9) (be := be9) (ma := ma9) (po := po9) (ex := ex9) (fm := fm9) (to := to9) (wh := wh9) (sc := sc9) (re := re9) (hu := hu9) (fg := fg9) (wd := wd9) T hc1 hc2 hk
  exact ⟨_, c2, _, ki9, pc9, be9, ma9, po9, ex9, fm9, to9, wh9, sc9, re9, hu9, tx2, fg9, wd9, rfl, T2⟩
theorem m_cutBad {k : Int32} (hb : k < 0) (h : MI G m ta fa wa ch n th w) : ∃ w2, gCt l G m_Mo_cut [.ref m, .int k] w (some (.int 0)) w2 ∧ MI G m ta fa wa ch n 1 w2 := by
  obtain ⟨len9, ki9, pc9, be9, ma9, po9, ex9, fm9, to9, wh9, sc9, re9, hu9, tx9, fg9, wd9, rfl, T⟩ := h
  exact ⟨_, c_Mo_cutBad hb, len9, ki9, pc9, be9, ma9, po9, ex9, fm9, to9, wh9, sc9, re9, hu9, tx9, fg9, wd9, rfl, T⟩
theorem m_cut {k : Nat} (hk : k < 2 ^ 31) (h : MI G m ta fa wa ch n th w) : ∃ w2, gCt l G m_Mo_cut [.ref m, .int (nI k)] w (some (.int (nI (n - k)))) w2 ∧ MI G m ta fa wa (cutC ch (n - k)) (n - k) 0 w2 := by
  obtain ⟨len9, ki9, pc9, be9, ma9, po9, ex9, fm9, to9, wh9, sc9, re9, hu9, tx9, fg9, wd9, rfl, T⟩ := h
  have hl : len9 = nI n := T.1
  subst hl
  exact ⟨_, c_Mo_cut T.2.1.1 hk, _, ki9, pc9, be9, ma9, po9, ex9, fm9, to9, wh9, sc9, re9, hu9, tx9, fg9, wd9, rfl, tOk_cut T (Nat.sub_le _ _)⟩
end MoW
theorem l_ex (v : Int64) : ∃ b, b < 2 ^ 64 ∧ v = lN b := ⟨v.toBitVec.toNat, v.toBitVec.isLt, Int64.toBitVec_inj.mp (by rw [lN_bv, BitVec.ofNat_toNat, BitVec.setWidth_eq])⟩
theorem i_any (v : Int32) : ∃ a, v = nI a := ⟨v.toBitVec.toNat, Int32.toBitVec_inj.mp (by
  show v.toBitVec = BitVec.ofNat 32 v.toBitVec.toNat
  rw [BitVec.ofNat_toNat, BitVec.setWidth_eq])⟩
theorem i_ex {v : Int32} (h : ¬ v < 0) : ∃ b, b < 2 ^ 31 ∧ v = nI b := by
  have h0 : 0 ≤ v.toInt := by
    rw [Int32.lt_iff_toInt_lt] at h
    have : (0 : Int32).toInt = 0 := rfl
    omega
  have h1 : v.toInt < 2 ^ 31 := Int32.toInt_lt v
  refine ⟨v.toInt.toNat, by omega, ?_⟩
  rw [← zI_nat, Int.toNat_of_nonneg h0, zI_of]
abbrev lw (G : gG) (w wm : va_W) (oa : Nat) (g : Nat → Int64) : va_W := w ++ (wm ++ [aL G oa 1 g])
section LawC
variable {l : Launch} {G : gG} {sa sn : Nat} {sf : Nat → Int32} {x t tq e m q s o r mo ta fa wa oa : Nat} {w0 : va_W} {Q : gE} {kc ns : Nat} {i : Int32} {ch : Nat → Nat} {n : Nat} {th : Int32} {w wm : va_W} {g : Nat → Int64}
/-- what comes behind a turn -/
def lK (l : Launch) (G : gG) (sa sn : Nat) (sf : Nat → Int32) (x t tq e m q s o r mo ta fa wa oa : Nat) (w0 : va_W) (Q : gE) (kc ns : Nat) (i : Int32) : Prop :=
  ∀ ch n th w wm g, XI G x t tq e m q s o r ch n w → MI G mo ta fa wa ch n th wm → gA3 l G mx_La_law (tbL sa sn sf) w0 Q kc ns 559 [(0, .ref sa), (1, .ref x), (2, .ref mo), (3, .ref oa), (4, .int i)] [] (lw G w wm oa g)
def lR (kc ns : Nat) : Prop := kc + 1 ≤ mx_La_law.2.2.2.2.cells ∧ ns + 6 ≤ mx_La_law.2.2.2.2.slots
theorem lR.a {kc ns : Nat} (h : lR kc ns) : kc ≤ mx_La_law.2.2.2.2.cells := Nat.le_trans (Nat.le_succ _) h.1
theorem lR.b {kc ns : Nat} (h : lR kc ns) : ns ≤ mx_La_law.2.2.2.2.slots := Nat.le_trans (Nat.le_add_right _ _) h.2
theorem upd0 (g : Nat → Int64) (v : Int64) : vp_updL g (Int32.toNatClampNeg 0) v (Int32.toNatClampNeg 0) = v := if_pos rfl
theorem lg0 (v : Int64) : lg_cmp v v = 0 := lgc_eq.mpr rfl
def lv2 (a b : Int32) : Int64 := (Int32.toInt64 a <<< ((Int32.toInt64 (32 : Int32)) &&& 63)) ||| (Int32.toInt64 b &&& (4294967295 : Int64))

theorem L_wipe (hr : lR kc ns) (hX : XI G x t tq e m q s o r ch n w) (hM : MI G mo ta fa wa ch n th wm) (k : lK l G sa sn sf x t tq e m q s o r mo ta fa wa oa w0 Q (kc + 1) (ns + 6) i) : gA3 l G mx_La_law (tbL sa sn sf) w0 Q kc ns 273 [(0, .ref sa), (1, .ref x), (2, .ref mo), (3, .ref oa), (4, .int i)] [] (lw G w wm oa g) := by
  obtain ⟨w2, c, hX2⟩ := c_Er_wipe (l := l) hX
  obtain ⟨wm2, cm, hM2⟩ := m_wipe (l := l) hM
  have hk := k _ _ _ _ _ g hX2 hM2
  obtain ⟨row, len, sc, me, at_, fo, wr, ne, df, dt, sg, fr, ex, W, ns_, ng_, nw, s1, s2, s3, o1, o2, o3, rm, rk, rf, rl, rfl, T, hs⟩ := hX
  obtain ⟨row', len', sc', me', at_', fo', wr', ne', df', dt', sg', fr', ex', W', ns_', ng_', nw', s1', s2', s3', o1', o2', o3', rm', rk', rf', rl', rfl, T', hs'⟩ := hX2
  obtain ⟨len9, ki9, pc9, be9, ma9, po9, ex9, fm9, to9, wh9, sc9, re9, hu9, tx9, fg9, wd9, rfl, T9⟩ := hM
  obtain ⟨len9', ki9', pc9', be9', ma9', po9', ex9', fm9', to9', wh9', sc9', re9', hu9', tx9', fg9', wd9', rfl, T9'⟩ := hM2
  exact B_La_law_273 (K_La_law_274 c hr.a hr.b (B_La_law_277 (K_La_law_278 cm hr.a hr.b (B_La_law_281 (fun _ => gA3.down (Nat.le_succ _) (Nat.le_add_right _ _) hk) (fun z => absurd rfl z)))))
theorem L_kind (hr : lR kc ns) (hX : XI G x t tq e m q s o r ch n w) (hM : MI G mo ta fa wa ch n th wm) (k : lK l G sa sn sf x t tq e m q s o r mo ta fa wa oa w0 Q (kc + 1) (ns + 6) i) : gA3 l G mx_La_law (tbL sa sn sf) w0 Q kc ns 286 [(0, .ref sa), (1, .ref x), (2, .ref mo), (3, .ref oa), (4, .int i)] [] (lw G w wm oa g) := by
  rcases c_Er_kind (l := l) hX with ⟨ng, k9, d, L, es, w2, h1, c, hX2⟩ | ⟨wv, w2, h1, c, hX2⟩
  · obtain ⟨wm2, cm, hM2⟩ := m_kindOk (l := l) hM h1
    have hk := k _ _ _ _ _ g hX2 hM2
    obtain ⟨row, len, sc, me, at_, fo, wr, ne, df, dt, sg, fr, ex, W, ns_, ng_, nw, s1, s2, s3, o1, o2, o3, rm, rk, rf, rl, rfl, T, hs⟩ := hX
    obtain ⟨row', len', sc', me', at_', fo', wr', ne', df', dt', sg', fr', ex', W', ns_', ng_', nw', s1', s2', s3', o1', o2', o3', rm', rk', rf', rl', rfl, T', hs'⟩ := hX2
    obtain ⟨len9, ki9, pc9, be9, ma9, po9, ex9, fm9, to9, wh9, sc9, re9, hu9, tx9, fg9, wd9, rfl, T9⟩ := hM
    obtain ⟨len9', ki9', pc9', be9', ma9', po9', ex9', fm9', to9', wh9', sc9', re9', hu9', tx9', fg9', wd9', rfl, T9'⟩ := hM2
    exact B_La_law_286 (K_La_law_287 c hr.a hr.b (B_La_law_290 (K_La_law_291 cm hr.a hr.b (B_La_law_294 (fun _ => gA3.down (Nat.le_succ _) (Nat.le_add_right _ _) hk) (fun z => absurd rfl z)))))
  · obtain ⟨wm2, cm, hM2⟩ := m_kindNo (l := l) hM h1
    have hk := k _ _ _ _ _ g hX2 hM2
    obtain ⟨row, len, sc, me, at_, fo, wr, ne, df, dt, sg, fr, ex, W, ns_, ng_, nw, s1, s2, s3, o1, o2, o3, rm, rk, rf, rl, rfl, T, hs⟩ := hX
    obtain ⟨row', len', sc', me', at_', fo', wr', ne', df', dt', sg', fr', ex', W', ns_', ng_', nw', s1', s2', s3', o1', o2', o3', rm', rk', rf', rl', rfl, T', hs'⟩ := hX2
    obtain ⟨len9, ki9, pc9, be9, ma9, po9, ex9, fm9, to9, wh9, sc9, re9, hu9, tx9, fg9, wd9, rfl, T9⟩ := hM
    obtain ⟨len9', ki9', pc9', be9', ma9', po9', ex9', fm9', to9', wh9', sc9', re9', hu9', tx9', fg9', wd9', rfl, T9'⟩ := hM2
    exact B_La_law_286 (K_La_law_287 c hr.a hr.b (B_La_law_290 (K_La_law_291 cm hr.a hr.b (B_La_law_294 (fun _ => gA3.down (Nat.le_succ _) (Nat.le_add_right _ _) hk) (fun z => absurd rfl z)))))
theorem L_fault (hr : lR kc ns) (hX : XI G x t tq e m q s o r ch n w) (hM : MI G mo ta fa wa ch n th wm) (k : lK l G sa sn sf x t tq e m q s o r mo ta fa wa oa w0 Q (kc + 1) (ns + 6) i) : gA3 l G mx_La_law (tbL sa sn sf) w0 Q kc ns 299 [(0, .ref sa), (1, .ref x), (2, .ref mo), (3, .ref oa), (4, .int i)] [] (lw G w wm oa g) := by
  rcases c_Er_fault (l := l) hX with ⟨ng, k9, d, L, es, w2, h1, c, hX2⟩ | ⟨wv, w2, h1, c, hX2⟩
  · obtain ⟨wm2, cm, hM2⟩ := m_faultOk (l := l) hM h1
    have hk := k _ _ _ _ _ g hX2 hM2
    obtain ⟨row, len, sc, me, at_, fo, wr, ne, df, dt, sg, fr, ex, W, ns_, ng_, nw, s1, s2, s3, o1, o2, o3, rm, rk, rf, rl, rfl, T, hs⟩ := hX
    obtain ⟨row', len', sc', me', at_', fo', wr', ne', df', dt', sg', fr', ex', W', ns_', ng_', nw', s1', s2', s3', o1', o2', o3', rm', rk', rf', rl', rfl, T', hs'⟩ := hX2
    obtain ⟨len9, ki9, pc9, be9, ma9, po9, ex9, fm9, to9, wh9, sc9, re9, hu9, tx9, fg9, wd9, rfl, T9⟩ := hM
    obtain ⟨len9', ki9', pc9', be9', ma9', po9', ex9', fm9', to9', wh9', sc9', re9', hu9', tx9', fg9', wd9', rfl, T9'⟩ := hM2
    exact B_La_law_299 (K_La_law_300 c hr.a hr.b (B_La_law_303 (K_La_law_304 cm hr.a hr.b (B_La_law_307 (fun _ => gA3.down (Nat.le_succ _) (Nat.le_add_right _ _) hk) (fun z => absurd rfl z)))))
  · obtain ⟨wm2, cm, hM2⟩ := m_faultNo (l := l) hM h1
    have hk := k _ _ _ _ _ g hX2 hM2
    obtain ⟨row, len, sc, me, at_, fo, wr, ne, df, dt, sg, fr, ex, W, ns_, ng_, nw, s1, s2, s3, o1, o2, o3, rm, rk, rf, rl, rfl, T, hs⟩ := hX
    obtain ⟨row', len', sc', me', at_', fo', wr', ne', df', dt', sg', fr', ex', W', ns_', ng_', nw', s1', s2', s3', o1', o2', o3', rm', rk', rf', rl', rfl, T', hs'⟩ := hX2
    obtain ⟨len9, ki9, pc9, be9, ma9, po9, ex9, fm9, to9, wh9, sc9, re9, hu9, tx9, fg9, wd9, rfl, T9⟩ := hM
    obtain ⟨len9', ki9', pc9', be9', ma9', po9', ex9', fm9', to9', wh9', sc9', re9', hu9', tx9', fg9', wd9', rfl, T9'⟩ := hM2
    exact B_La_law_299 (K_La_law_300 c hr.a hr.b (B_La_law_303 (K_La_law_304 cm hr.a hr.b (B_La_law_307 (fun _ => gA3.down (Nat.le_succ _) (Nat.le_add_right _ _) hk) (fun z => absurd rfl z)))))
theorem L_write (v1 : vp_in (i + 1) sn) (v2 : vp_in (i + 2) sn) (hr : lR kc ns) (hX : XI G x t tq e m q s o r ch n w) (hM : MI G mo ta fa wa ch n th wm) (k : lK l G sa sn sf x t tq e m q s o r mo ta fa wa oa w0 Q (kc + 1) (ns + 6) i) : gA3 l G mx_La_law (tbL sa sn sf) w0 Q kc ns 92 [(0, .ref sa), (1, .ref x), (2, .ref mo), (3, .ref oa), (4, .int i)] [] (lw G w wm oa g) := by
  obtain ⟨b, hb, hv⟩ := l_ex (lv2 (sf (Int32.toNatClampNeg (i + 1))) (sf (Int32.toNatClampNeg (i + 2))))
  obtain ⟨w2, c, hX2⟩ := c_Er_write (l := l) hb hX
  obtain ⟨wm2, cm, hM2⟩ := m_write (l := l) hb hM
  have hk := k _ _ _ _ _ g hX2 hM2
  rw [← hv] at c cm
  obtain ⟨row, len, sc, me, at_, fo, wr, ne, df, dt, sg, fr, ex, W, ns_, ng_, nw, s1, s2, s3, o1, o2, o3, rm, rk, rf, rl, rfl, T, hs⟩ := hX
  obtain ⟨row', len', sc', me', at_', fo', wr', ne', df', dt', sg', fr', ex', W', ns_', ng_', nw', s1', s2', s3', o1', o2', o3', rm', rk', rf', rl', rfl, T', hs'⟩ := hX2
  obtain ⟨len9, ki9, pc9, be9, ma9, po9, ex9, fm9, to9, wh9, sc9, re9, hu9, tx9, fg9, wd9, rfl, T9⟩ := hM
  obtain ⟨len9', ki9', pc9', be9', ma9', po9', ex9', fm9', to9', wh9', sc9', re9', hu9', tx9', fg9', wd9', rfl, T9'⟩ := hM2
  exact B_La_law_92 v1 v2 (K_La_law_115 c hr.a hr.b (B_La_law_118 v1 v2 (K_La_law_141 cm hr.a hr.b (B_La_law_144 (fun _ => gA3.down (Nat.le_succ _) (Nat.le_add_right _ _) hk) (fun z => absurd rfl z)))))
theorem L_repeat (hl9 : l.stackTraces = false) (v1 : vp_in (i + 1) sn) (v2 : vp_in (i + 2) sn) (hr : lR kc ns) (hX : XI G x t tq e m q s o r ch n w) (hM : MI G mo ta fa wa ch n th wm) (k : lK l G sa sn sf x t tq e m q s o r mo ta fa wa oa w0 Q (kc + 1) (ns + 6) i) : gA3 l G mx_La_law (tbL sa sn sf) w0 Q kc ns 149 [(0, .ref sa), (1, .ref x), (2, .ref mo), (3, .ref oa), (4, .int i)] [] (lw G w wm oa g) := by
  by_cases hb : sf (Int32.toNatClampNeg (i + 1)) < 1 ∨ (255 : Int32) < sf (Int32.toNatClampNeg (i + 1)) ∨ sf (Int32.toNatClampNeg (i + 2)) < 0
  · have c := h_repeatBad (oa := oa) (g := g) hl9 hX hb
    obtain ⟨wm2, cm, hM2⟩ := m_repeatBad (l := l) hb hM
    have ct := m_thrown (l := l) hM2
    have hk := k _ _ _ _ _ g hX hM2
    obtain ⟨row, len, sc, me, at_, fo, wr, ne, df, dt, sg, fr, ex, W, ns_, ng_, nw, s1, s2, s3, o1, o2, o3, rm, rk, rf, rl, rfl, T, hs⟩ := hX
    obtain ⟨len9, ki9, pc9, be9, ma9, po9, ex9, fm9, to9, wh9, sc9, re9, hu9, tx9, fg9, wd9, rfl, T9⟩ := hM
    obtain ⟨len9', ki9', pc9', be9', ma9', po9', ex9', fm9', to9', wh9', sc9', re9', hu9', tx9', fg9', wd9', rfl, T9'⟩ := hM2
    exact B_La_law_149 v1 v2 (K_La_law_163 c hr.1 hr.2 (B_La_law_166 v1 v2 (K_La_law_181 cm hr.1 hr.2 (B_La_law_184 (K_La_law_187 ct hr.1 hr.2 (B_La_law_190 (fun _ _ => B_La_law_214 hk) (fun _ z => absurd z (by decide)) (fun _ z => absurd z (by decide)) (fun _ z => absurd z (by decide)) (fun z => absurd rfl z)))))))
  · obtain ⟨c9, hc9, e1⟩ := i_ex (v := sf (Int32.toNatClampNeg (i + 1))) (fun z => hb (Or.inl (Int32.lt_trans z (by decide))))
    obtain ⟨k9, hk9, e2⟩ := i_ex (v := sf (Int32.toNatClampNeg (i + 2))) (fun z => hb (Or.inr (Or.inr z)))
    have b1 : 1 ≤ c9 := by
      by_cases z : 1 ≤ c9
      · exact z
      · exact absurd (Or.inl (by rw [e1]; exact (nI_ltI (b := 1) (by omega) (by decide)).mpr (by omega))) hb
    have b2 : c9 ≤ 255 := by
      by_cases z : c9 ≤ 255
      · exact z
      · exact absurd (Or.inr (Or.inl (by rw [e1]; exact (nI_ltI (a := 255) (by decide) (by omega)).mpr (by omega)))) hb
    obtain ⟨w2, c, hX2⟩ := h_repeat (l := l) (oa := oa) (g := g) hX b1 b2 hk9
    obtain ⟨wm2, cm, hM2⟩ := m_repeat (l := l) b1 b2 hk9 hM
    rw [← e1, ← e2] at c cm
    have ct := m_thrown (l := l) hM2
    have hE : lg_cmp (vp_updL g (Int32.toNatClampNeg 0) (Int32.toInt64 (if k9 ≤ 4096 - n then nI (n + k9) else -1)) (Int32.toNatClampNeg 0)) (Int32.toInt64 (if k9 ≤ 4096 - n then nI (n + k9) else -1)) = 0 := by rw [upd0]; exact lg0 _
    have hk := k _ _ _ _ _ (vp_updL g (Int32.toNatClampNeg 0) (Int32.toInt64 (if k9 ≤ 4096 - n then nI (n + k9) else -1))) hX2 hM2
    obtain ⟨row, len, sc, me, at_, fo, wr, ne, df, dt, sg, fr, ex, W, ns_, ng_, nw, s1, s2, s3, o1, o2, o3, rm, rk, rf, rl, rfl, T, hs⟩ := hX
    obtain ⟨row', len', sc', me', at_', fo', wr', ne', df', dt', sg', fr', ex', W', ns_', ng_', nw', s1', s2', s3', o1', o2', o3', rm', rk', rf', rl', rfl, T', hs'⟩ := hX2
    obtain ⟨len9, ki9, pc9, be9, ma9, po9, ex9, fm9, to9, wh9, sc9, re9, hu9, tx9, fg9, wd9, rfl, T9⟩ := hM
    obtain ⟨len9', ki9', pc9', be9', ma9', po9', ex9', fm9', to9', wh9', sc9', re9', hu9', tx9', fg9', wd9', rfl, T9'⟩ := hM2
    exact B_La_law_149 v1 v2 (K_La_law_163 c hr.1 hr.2 (B_La_law_166 v1 v2 (K_La_law_181 cm hr.1 hr.2 (B_La_law_184 (K_La_law_187 ct hr.1 hr.2 (B_La_law_190 (fun _ z => absurd rfl z) (fun _ _ => vp01) (fun _ _ _ => B_La_law_214 hk) (fun _ _ z => absurd hE z) (fun z => absurd rfl z)))))))
theorem L_cut (hl9 : l.stackTraces = false) (v1 : vp_in (i + 1) sn) (hr : lR kc ns) (hX : XI G x t tq e m q s o r ch n w) (hM : MI G mo ta fa wa ch n th wm) (k : lK l G sa sn sf x t tq e m q s o r mo ta fa wa oa w0 Q (kc + 1) (ns + 6) i) : gA3 l G mx_La_law (tbL sa sn sf) w0 Q kc ns 217 [(0, .ref sa), (1, .ref x), (2, .ref mo), (3, .ref oa), (4, .int i)] [] (lw G w wm oa g) := by
  by_cases hb : sf (Int32.toNatClampNeg (i + 1)) < 0
  · have c := h_cutBad (oa := oa) (g := g) hl9 hX hb
    obtain ⟨wm2, cm, hM2⟩ := m_cutBad (l := l) hb hM
    have ct := m_thrown (l := l) hM2
    have hk := k _ _ _ _ _ g hX hM2
    obtain ⟨row, len, sc, me, at_, fo, wr, ne, df, dt, sg, fr, ex, W, ns_, ng_, nw, s1, s2, s3, o1, o2, o3, rm, rk, rf, rl, rfl, T, hs⟩ := hX
    obtain ⟨len9, ki9, pc9, be9, ma9, po9, ex9, fm9, to9, wh9, sc9, re9, hu9, tx9, fg9, wd9, rfl, T9⟩ := hM
    obtain ⟨len9', ki9', pc9', be9', ma9', po9', ex9', fm9', to9', wh9', sc9', re9', hu9', tx9', fg9', wd9', rfl, T9'⟩ := hM2
    exact B_La_law_217 v1 (K_La_law_225 c hr.1 hr.2 (B_La_law_228 v1 (K_La_law_237 cm hr.1 hr.2 (B_La_law_240 (K_La_law_243 ct hr.1 hr.2 (B_La_law_246 (fun _ _ => B_La_law_270 hk) (fun _ z => absurd z (by decide)) (fun _ z => absurd z (by decide)) (fun _ z => absurd z (by decide)) (fun z => absurd rfl z)))))))
  · obtain ⟨k9, hk9, e2⟩ := i_ex (v := sf (Int32.toNatClampNeg (i + 1))) hb
    obtain ⟨w2, c, hX2⟩ := h_cut (l := l) (oa := oa) (g := g) hX hk9
    obtain ⟨wm2, cm, hM2⟩ := m_cut (l := l) hk9 hM
    rw [← e2] at c cm
    have ct := m_thrown (l := l) hM2
    have hE : lg_cmp (vp_updL g (Int32.toNatClampNeg 0) (Int32.toInt64 (nI (n - k9))) (Int32.toNatClampNeg 0)) (Int32.toInt64 (nI (n - k9))) = 0 := by rw [upd0]; exact lg0 _
    have hk := k _ _ _ _ _ (vp_updL g (Int32.toNatClampNeg 0) (Int32.toInt64 (nI (n - k9)))) hX2 hM2
    obtain ⟨row, len, sc, me, at_, fo, wr, ne, df, dt, sg, fr, ex, W, ns_, ng_, nw, s1, s2, s3, o1, o2, o3, rm, rk, rf, rl, rfl, T, hs⟩ := hX
    obtain ⟨row', len', sc', me', at_', fo', wr', ne', df', dt', sg', fr', ex', W', ns_', ng_', nw', s1', s2', s3', o1', o2', o3', rm', rk', rf', rl', rfl, T', hs'⟩ := hX2
    obtain ⟨len9, ki9, pc9, be9, ma9, po9, ex9, fm9, to9, wh9, sc9, re9, hu9, tx9, fg9, wd9, rfl, T9⟩ := hM
    obtain ⟨len9', ki9', pc9', be9', ma9', po9', ex9', fm9', to9', wh9', sc9', re9', hu9', tx9', fg9', wd9', rfl, T9'⟩ := hM2
    exact B_La_law_217 v1 (K_La_law_225 c hr.1 hr.2 (B_La_law_228 v1 (K_La_law_237 cm hr.1 hr.2 (B_La_law_240 (K_La_law_243 ct hr.1 hr.2 (B_La_law_246 (fun _ z => absurd rfl z) (fun _ _ => vp01) (fun _ _ _ => B_La_law_270 hk) (fun _ _ z => absurd hE z) (fun z => absurd rfl z)))))))
theorem ag_bitV {i k d lead whole rest9 : Nat} {ng rest huge : Bool} {L : List (Option Nat)} {es : List Nat} {pl scale : Int} (hi : i < 2) (hC : tCh ch n) (hs : scOk ch n ng k d L es) (hz : k ≠ 3 → szK ch k d L es lead pl rest) (hm : k < 2 → mK ch k d L es (f_p i) (f_least i) whole scale rest9 huge) :
    bitV i ng k lead pl rest = mSz i k whole scale rest9 huge + (if ng ∧ k ≠ 3 then 2 ^ (f_p i - 1 + f_e i) else 0) := by
  obtain ⟨hk3, _, _⟩ := hs.dg hC
  unfold bitV mSz
  by_cases h3 : k = 3
  · rw [if_pos h3, if_neg (by omega), if_pos h3, if_neg (fun z => z.2 h3), Nat.add_zero]
  · rw [if_neg h3]
    have e9 : (if ng = true ∧ k ≠ 3 then 2 ^ (f_p i - 1 + f_e i) else 0) = (if ng = true then 2 ^ (f_p i - 1 + f_e i) else 0) := by
      by_cases z : ng = true
      · rw [if_pos z, if_pos ⟨z, h3⟩]
      · rw [if_neg z, if_neg (fun y => z y.1)]
    rw [e9]
    congr 1
    by_cases h2 : k < 2
    · rw [if_pos h2]
      exact (ag_bits hi hC hs h2 (hz h3) (hm h2)).1
    · rw [if_neg h2, if_neg h3, Nat.add_zero]
      obtain ⟨p1, p2, p3⟩ : lead = 2 ^ 62 ∧ pl = 1073741824 ∧ rest = false := by
        rcases (hz h3).2.2 with h | h | h
        · omega
        · omega
        · exact h.2
      subst p1 p2 p3
      exact (ro_big hi (Nat.le_refl _) (by decide) (by decide)).1
theorem L_bits (hl9 : l.stackTraces = false) (hr : lR kc ns) (hX : XI G x t tq e m q s o r ch n w) (hM : MI G mo ta fa wa ch n th wm) (k : lK l G sa sn sf x t tq e m q s o r mo ta fa wa oa w0 Q (kc + 1) (ns + 6) i) : gA3 l G mx_La_law (tbL sa sn sf) w0 Q kc ns 312 [(0, .ref sa), (1, .ref x), (2, .ref mo), (3, .ref oa), (4, .int i)] [] (lw G w wm oa g) := by
  have hC : tCh ch n := by
    obtain ⟨row, len, sc, me, at_, fo, wr, ne, df, dt, sg, fr, ex, W, ns_, ng_, nw, s1, s2, s3, o1, o2, o3, rm, rk, rf, rl, rfl, T, hs⟩ := hX
    exact T.2.1
  rcases h_bits (l := l) (oa := oa) (g := g) hl9 hX with ⟨ng, k9, d, L, es, w2, lead, pl, rest, h1, c, hX2, hz⟩ | ⟨wv, w2, h1, c, hX2⟩
  · obtain ⟨wm2, whole, scale, rest9, huge, cm, hM2, hmk⟩ := m_bits (l := l) hM h1
    have hag := ag_bitV (i := 0) (by decide) hC h1 hz hmk
    have ct := m_thrown (l := l) hM2
    have hE : lg_cmp (vp_updL g (Int32.toNatClampNeg 0) (lN (bitV 0 ng k9 lead pl rest)) (Int32.toNatClampNeg 0)) (lN (mSz 0 k9 whole scale rest9 huge + (if ng ∧ k9 ≠ 3 then 2 ^ 63 else 0))) = 0 := by rw [upd0, hag]; exact lg0 _
    have hk := k _ _ _ _ _ (vp_updL g (Int32.toNatClampNeg 0) (lN (bitV 0 ng k9 lead pl rest))) hX2 hM2
    obtain ⟨row, len, sc, me, at_, fo, wr, ne, df, dt, sg, fr, ex, W, ns_, ng_, nw, s1, s2, s3, o1, o2, o3, rm, rk, rf, rl, rfl, T, hs⟩ := hX
    obtain ⟨row', len', sc', me', at_', fo', wr', ne', df', dt', sg', fr', ex', W', ns_', ng_', nw', s1', s2', s3', o1', o2', o3', rm', rk', rf', rl', rfl, T', hs'⟩ := hX2
    obtain ⟨len9, ki9, pc9, be9, ma9, po9, ex9, fm9, to9, wh9, sc9, re9, hu9, tx9, fg9, wd9, rfl, T9⟩ := hM
    obtain ⟨len9', ki9', pc9', be9', ma9', po9', ex9', fm9', to9', wh9', sc9', re9', hu9', tx9', fg9', wd9', rfl, T9'⟩ := hM2
    exact B_La_law_312 (K_La_law_314 c hr.1 hr.2 (B_La_law_317 (K_La_law_320 cm hr.1 hr.2 (B_La_law_323 (K_La_law_326 ct hr.1 hr.2 (B_La_law_329 (fun _ z => absurd rfl z) (fun _ _ => vp01) (fun _ _ _ => B_La_law_352 hk) (fun _ _ z => absurd hE z) (fun z => absurd rfl z)))))))
  · obtain ⟨wm2, cm, hM2⟩ := m_bitsNo (l := l) hM h1
    have ct := m_thrown (l := l) hM2
    have hk := k _ _ _ _ _ g hX2 hM2
    obtain ⟨row, len, sc, me, at_, fo, wr, ne, df, dt, sg, fr, ex, W, ns_, ng_, nw, s1, s2, s3, o1, o2, o3, rm, rk, rf, rl, rfl, T, hs⟩ := hX
    obtain ⟨row', len', sc', me', at_', fo', wr', ne', df', dt', sg', fr', ex', W', ns_', ng_', nw', s1', s2', s3', o1', o2', o3', rm', rk', rf', rl', rfl, T', hs'⟩ := hX2
    obtain ⟨len9, ki9, pc9, be9, ma9, po9, ex9, fm9, to9, wh9, sc9, re9, hu9, tx9, fg9, wd9, rfl, T9⟩ := hM
    obtain ⟨len9', ki9', pc9', be9', ma9', po9', ex9', fm9', to9', wh9', sc9', re9', hu9', tx9', fg9', wd9', rfl, T9'⟩ := hM2
    exact B_La_law_312 (K_La_law_314 c hr.1 hr.2 (B_La_law_317 (K_La_law_320 cm hr.1 hr.2 (B_La_law_323 (K_La_law_326 ct hr.1 hr.2 (B_La_law_329 (fun _ _ => B_La_law_352 hk) (fun _ z => absurd z (by decide)) (fun _ z => absurd z (by decide)) (fun _ z => absurd z (by decide)) (fun z => absurd rfl z)))))))
theorem L_floatBits (hl9 : l.stackTraces = false) (hr : lR kc ns) (hX : XI G x t tq e m q s o r ch n w) (hM : MI G mo ta fa wa ch n th wm) (k : lK l G sa sn sf x t tq e m q s o r mo ta fa wa oa w0 Q (kc + 1) (ns + 6) i) : gA3 l G mx_La_law (tbL sa sn sf) w0 Q kc ns 355 [(0, .ref sa), (1, .ref x), (2, .ref mo), (3, .ref oa), (4, .int i)] [] (lw G w wm oa g) := by
  have hC : tCh ch n := by
    obtain ⟨row, len, sc, me, at_, fo, wr, ne, df, dt, sg, fr, ex, W, ns_, ng_, nw, s1, s2, s3, o1, o2, o3, rm, rk, rf, rl, rfl, T, hs⟩ := hX
    exact T.2.1
  rcases h_floatBits (l := l) (oa := oa) (g := g) hl9 hX with ⟨ng, k9, d, L, es, w2, lead, pl, rest, h1, c, hX2, hz⟩ | ⟨wv, w2, h1, c, hX2⟩
  · obtain ⟨wm2, whole, scale, rest9, huge, cm, hM2, hmk⟩ := m_floatBits (l := l) hM h1
    have hag := ag_bitV (i := 1) (by decide) hC h1 hz hmk
    have ct := m_thrown (l := l) hM2
    have hE : lg_cmp (vp_updL g (Int32.toNatClampNeg 0) (Int32.toInt64 (nI (bitV 1 ng k9 lead pl rest))) (Int32.toNatClampNeg 0)) (Int32.toInt64 (nI (mSz 1 k9 whole scale rest9 huge + (if ng ∧ k9 ≠ 3 then 2 ^ 31 else 0)))) = 0 := by rw [upd0, hag]; exact lg0 _
    have hk := k _ _ _ _ _ (vp_updL g (Int32.toNatClampNeg 0) (Int32.toInt64 (nI (bitV 1 ng k9 lead pl rest)))) hX2 hM2
    obtain ⟨row, len, sc, me, at_, fo, wr, ne, df, dt, sg, fr, ex, W, ns_, ng_, nw, s1, s2, s3, o1, o2, o3, rm, rk, rf, rl, rfl, T, hs⟩ := hX
    obtain ⟨row', len', sc', me', at_', fo', wr', ne', df', dt', sg', fr', ex', W', ns_', ng_', nw', s1', s2', s3', o1', o2', o3', rm', rk', rf', rl', rfl, T', hs'⟩ := hX2
    obtain ⟨len9, ki9, pc9, be9, ma9, po9, ex9, fm9, to9, wh9, sc9, re9, hu9, tx9, fg9, wd9, rfl, T9⟩ := hM
    obtain ⟨len9', ki9', pc9', be9', ma9', po9', ex9', fm9', to9', wh9', sc9', re9', hu9', tx9', fg9', wd9', rfl, T9'⟩ := hM2
    exact B_La_law_355 (K_La_law_357 c hr.1 hr.2 (B_La_law_360 (K_La_law_363 cm hr.1 hr.2 (B_La_law_366 (K_La_law_369 ct hr.1 hr.2 (B_La_law_372 (fun _ z => absurd rfl z) (fun _ _ => vp01) (fun _ _ _ => B_La_law_396 hk) (fun _ _ z => absurd hE z) (fun z => absurd rfl z)))))))
  · obtain ⟨wm2, cm, hM2⟩ := m_floatBitsNo (l := l) hM h1
    have ct := m_thrown (l := l) hM2
    have hk := k _ _ _ _ _ g hX2 hM2
    obtain ⟨row, len, sc, me, at_, fo, wr, ne, df, dt, sg, fr, ex, W, ns_, ng_, nw, s1, s2, s3, o1, o2, o3, rm, rk, rf, rl, rfl, T, hs⟩ := hX
    obtain ⟨row', len', sc', me', at_', fo', wr', ne', df', dt', sg', fr', ex', W', ns_', ng_', nw', s1', s2', s3', o1', o2', o3', rm', rk', rf', rl', rfl, T', hs'⟩ := hX2
    obtain ⟨len9, ki9, pc9, be9, ma9, po9, ex9, fm9, to9, wh9, sc9, re9, hu9, tx9, fg9, wd9, rfl, T9⟩ := hM
    obtain ⟨len9', ki9', pc9', be9', ma9', po9', ex9', fm9', to9', wh9', sc9', re9', hu9', tx9', fg9', wd9', rfl, T9'⟩ := hM2
    exact B_La_law_355 (K_La_law_357 c hr.1 hr.2 (B_La_law_360 (K_La_law_363 cm hr.1 hr.2 (B_La_law_366 (K_La_law_369 ct hr.1 hr.2 (B_La_law_372 (fun _ _ => B_La_law_396 hk) (fun _ z => absurd z (by decide)) (fun _ z => absurd z (by decide)) (fun _ z => absurd z (by decide)) (fun z => absurd rfl z)))))))
theorem L_side1 {fl : Bool} (hl9 : l.stackTraces = false) (v1 : vp_in (i + 1) sn) (hf : sf (Int32.toNatClampNeg (i + 1)) = 0 ↔ fl = false) (hr : lR kc ns) (hX : XI G x t tq e m q s o r ch n w) (hM : MI G mo ta fa wa ch n th wm) (k : lK l G sa sn sf x t tq e m q s o r mo ta fa wa oa w0 Q (kc + 1) (ns + 6) i) : gA3 l G mx_La_law (tbL sa sn sf) w0 Q kc ns 414 [(0, .ref sa), (1, .ref x), (2, .ref mo), (3, .ref oa), (4, .int i)] [.int (bI fl), .ref x] (lw G w wm oa g) := by
  have hC : tCh ch n := by
    obtain ⟨row, len, sc, me, at_, fo, wr, ne, df, dt, sg, fr, ex, W, ns_, ng_, nw, s1, s2, s3, o1, o2, o3, rm, rk, rf, rl, rfl, T, hs⟩ := hX
    exact T.2.1
  have hi : (if fl then 1 else 0) < 2 := by cases fl <;> decide
  rcases h_side (l := l) (oa := oa) (g := g) (fl := fl) hl9 hX with ⟨ng, k9, d, L, es, w2, lead, pl, rest, h1, c, hX2, hz⟩ | ⟨wv, w2, h1, c, hX2⟩
  · obtain ⟨wm2, v9, cm, hM2, hv⟩ : ∃ wm2 v9, gCt l G m_Mo_side [.ref mo, .int (bI fl)] wm (some (.int (zI v9))) wm2 ∧ MI G mo ta fa wa ch n 0 wm2 ∧ sdV (if fl then 1 else 0) ng k9 lead pl rest = v9 := by
      by_cases h2 : k9 < 2
      · obtain ⟨wm2, whole, scale, rest9, huge, cm, hM2, hmk⟩ := m_side (l := l) (fl := fl) hM h1 h2
        refine ⟨wm2, _, cm, hM2, ?_⟩
        unfold sdV
        rw [if_neg (by omega), (ag_bits hi hC h1 h2 (hz h2) hmk).2]
      · obtain ⟨wm2, cm, hM2⟩ := m_side2 (l := l) (x := bI fl) hM h1 (by omega)
        refine ⟨wm2, 0, cm, hM2, ?_⟩
        unfold sdV
        rw [if_pos (by omega)]
    rw [hv] at c
    have ct := m_thrown (l := l) hM2
    have hE : lg_cmp (vp_updL g (Int32.toNatClampNeg 0) (Int32.toInt64 (zI v9)) (Int32.toNatClampNeg 0)) (Int32.toInt64 (zI v9)) = 0 := by rw [upd0]; exact lg0 _
    have hk := k _ _ _ _ _ (vp_updL g (Int32.toNatClampNeg 0) (Int32.toInt64 (zI v9))) hX2 hM2
    obtain ⟨row, len, sc, me, at_, fo, wr, ne, df, dt, sg, fr, ex, W, ns_, ng_, nw, s1, s2, s3, o1, o2, o3, rm, rk, rf, rl, rfl, T, hs⟩ := hX
    obtain ⟨row', len', sc', me', at_', fo', wr', ne', df', dt', sg', fr', ex', W', ns_', ng_', nw', s1', s2', s3', o1', o2', o3', rm', rk', rf', rl', rfl, T', hs'⟩ := hX2
    obtain ⟨len9, ki9, pc9, be9, ma9, po9, ex9, fm9, to9, wh9, sc9, re9, hu9, tx9, fg9, wd9, rfl, T9⟩ := hM
    obtain ⟨len9', ki9', pc9', be9', ma9', po9', ex9', fm9', to9', wh9', sc9', re9', hu9', tx9', fg9', wd9', rfl, T9'⟩ := hM2
    refine B_La_law_414 (K_La_law_415 c hr.1 hr.2 (B_La_law_418 v1 (fun z => ?_) (fun z => ?_)))
    · have z := hf.mp z
      subst z
      exact K_La_law_435 cm hr.1 hr.2 (B_La_law_438 (K_La_law_441 ct hr.1 hr.2 (B_La_law_444 (fun _ z => absurd rfl z) (fun _ _ => vp01) (fun _ _ _ => B_La_law_468 hk) (fun _ _ z => absurd hE z) (fun z => absurd rfl z))))
    · have z : fl = true := by
        cases fl with
        | true => rfl
        | false => exact absurd (hf.mpr rfl) z
      subst z
      exact K_La_law_435 cm hr.1 hr.2 (B_La_law_438 (K_La_law_441 ct hr.1 hr.2 (B_La_law_444 (fun _ z => absurd rfl z) (fun _ _ => vp01) (fun _ _ _ => B_La_law_468 hk) (fun _ _ z => absurd hE z) (fun z => absurd rfl z))))
  · obtain ⟨wm2, cm, hM2⟩ := m_sideNo (l := l) (x := bI fl) hM h1
    have ct := m_thrown (l := l) hM2
    have hk := k _ _ _ _ _ g hX2 hM2
    obtain ⟨row, len, sc, me, at_, fo, wr, ne, df, dt, sg, fr, ex, W, ns_, ng_, nw, s1, s2, s3, o1, o2, o3, rm, rk, rf, rl, rfl, T, hs⟩ := hX
    obtain ⟨row', len', sc', me', at_', fo', wr', ne', df', dt', sg', fr', ex', W', ns_', ng_', nw', s1', s2', s3', o1', o2', o3', rm', rk', rf', rl', rfl, T', hs'⟩ := hX2
    obtain ⟨len9, ki9, pc9, be9, ma9, po9, ex9, fm9, to9, wh9, sc9, re9, hu9, tx9, fg9, wd9, rfl, T9⟩ := hM
    obtain ⟨len9', ki9', pc9', be9', ma9', po9', ex9', fm9', to9', wh9', sc9', re9', hu9', tx9', fg9', wd9', rfl, T9'⟩ := hM2
    refine B_La_law_414 (K_La_law_415 c hr.1 hr.2 (B_La_law_418 v1 (fun z => ?_) (fun z => ?_)))
    · have z := hf.mp z
      subst z
      exact K_La_law_435 cm hr.1 hr.2 (B_La_law_438 (K_La_law_441 ct hr.1 hr.2 (B_La_law_444 (fun _ _ => B_La_law_468 hk) (fun _ z => absurd z (by decide)) (fun _ z => absurd z (by decide)) (fun _ z => absurd z (by decide)) (fun z => absurd rfl z))))
    · have z : fl = true := by
        cases fl with
        | true => rfl
        | false => exact absurd (hf.mpr rfl) z
      subst z
      exact K_La_law_435 cm hr.1 hr.2 (B_La_law_438 (K_La_law_441 ct hr.1 hr.2 (B_La_law_444 (fun _ _ => B_La_law_468 hk) (fun _ z => absurd z (by decide)) (fun _ z => absurd z (by decide)) (fun _ z => absurd z (by decide)) (fun z => absurd rfl z))))
theorem L_side (hl9 : l.stackTraces = false) (v1 : vp_in (i + 1) sn) (hr : lR kc ns) (hX : XI G x t tq e m q s o r ch n w) (hM : MI G mo ta fa wa ch n th wm) (k : lK l G sa sn sf x t tq e m q s o r mo ta fa wa oa w0 Q (kc + 1) (ns + 6) i) : gA3 l G mx_La_law (tbL sa sn sf) w0 Q kc ns 399 [(0, .ref sa), (1, .ref x), (2, .ref mo), (3, .ref oa), (4, .int i)] [] (lw G w wm oa g) := by
  by_cases z : sf (Int32.toNatClampNeg (i + 1)) = 0
  · have h := L_side1 (fl := false) hl9 v1 ⟨fun _ => rfl, fun _ => z⟩ hr (g := g) hX hM k
    obtain ⟨row, len, sc, me, at_, fo, wr, ne, df, dt, sg, fr, ex, W, ns_, ng_, nw, s1, s2, s3, o1, o2, o3, rm, rk, rf, rl, rfl, T, hs⟩ := hX
    obtain ⟨len9, ki9, pc9, be9, ma9, po9, ex9, fm9, to9, wh9, sc9, re9, hu9, tx9, fg9, wd9, rfl, T9⟩ := hM
    exact B_La_law_399 v1 (fun _ => h) (fun y => absurd z y)
  · have h := L_side1 (fl := true) hl9 v1 ⟨fun y => absurd y z, fun y => absurd y (by decide)⟩ hr (g := g) hX hM k
    obtain ⟨row, len, sc, me, at_, fo, wr, ne, df, dt, sg, fr, ex, W, ns_, ng_, nw, s1, s2, s3, o1, o2, o3, rm, rk, rf, rl, rfl, T, hs⟩ := hX
    obtain ⟨len9, ki9, pc9, be9, ma9, po9, ex9, fm9, to9, wh9, sc9, re9, hu9, tx9, fg9, wd9, rfl, T9⟩ := hM
    exact B_La_law_399 v1 (fun y => absurd y z) (fun _ => h)
theorem L_compare (hl9 : l.stackTraces = false) (v1 : vp_in (i + 1) sn) (v2 : vp_in (i + 2) sn) (hr : lR kc ns) (hX : XI G x t tq e m q s o r ch n w) (hM : MI G mo ta fa wa ch n th wm) (k : lK l G sa sn sf x t tq e m q s o r mo ta fa wa oa w0 Q (kc + 1) (ns + 6) i) : gA3 l G mx_La_law (tbL sa sn sf) w0 Q kc ns 471 [(0, .ref sa), (1, .ref x), (2, .ref mo), (3, .ref oa), (4, .int i)] [] (lw G w wm oa g) := by
  obtain ⟨b, hb, hv⟩ := l_ex (lv2 (sf (Int32.toNatClampNeg (i + 1))) (sf (Int32.toNatClampNeg (i + 2))))
  have hC : tCh ch n := by
    obtain ⟨row, len, sc, me, at_, fo, wr, ne, df, dt, sg, fr, ex, W, ns_, ng_, nw, s1, s2, s3, o1, o2, o3, rm, rk, rf, rl, rfl, T, hs⟩ := hX
    exact T.2.1
  rcases h_compare (l := l) (oa := oa) (g := g) hl9 hb hX with ⟨ng, k9, d, L, es, w2, lead, pl, rest, lead2, pl2, h1, hk3, hbb, c, hX2, hz, hD⟩ | ⟨ng, k9, d, L, es, w2, h1, hbad, c, hX2⟩ | ⟨wv, w2, h1, c, hX2⟩
  · obtain ⟨wm2, none9, whole, scale, rest9, huge, cm, hM2, hno, hmk⟩ := m_compare (l := l) hb hM h1 hk3 hbb
    have h3 := (h1.dg hC).1
    have hag := ag_cmp hC h1 (by omega) hz hD hno hmk
    rw [← hag, ← hv] at cm
    rw [← hv] at c
    have ct := m_thrown (l := l) hM2
    have hE : lg_cmp (vp_updL g (Int32.toNatClampNeg 0) (Int32.toInt64 (zI (cV ng lead pl rest (decide (2 ^ 63 ≤ b)) lead2 pl2))) (Int32.toNatClampNeg 0)) (Int32.toInt64 (zI (cV ng lead pl rest (decide (2 ^ 63 ≤ b)) lead2 pl2))) = 0 := by rw [upd0]; exact lg0 _
    have hk := k _ _ _ _ _ (vp_updL g (Int32.toNatClampNeg 0) (Int32.toInt64 (zI (cV ng lead pl rest (decide (2 ^ 63 ≤ b)) lead2 pl2)))) hX2 hM2
    obtain ⟨row, len, sc, me, at_, fo, wr, ne, df, dt, sg, fr, ex, W, ns_, ng_, nw, s1, s2, s3, o1, o2, o3, rm, rk, rf, rl, rfl, T, hs⟩ := hX
    obtain ⟨row', len', sc', me', at_', fo', wr', ne', df', dt', sg', fr', ex', W', ns_', ng_', nw', s1', s2', s3', o1', o2', o3', rm', rk', rf', rl', rfl, T', hs'⟩ := hX2
    obtain ⟨len9, ki9, pc9, be9, ma9, po9, ex9, fm9, to9, wh9, sc9, re9, hu9, tx9, fg9, wd9, rfl, T9⟩ := hM
    obtain ⟨len9', ki9', pc9', be9', ma9', po9', ex9', fm9', to9', wh9', sc9', re9', hu9', tx9', fg9', wd9', rfl, T9'⟩ := hM2
    exact B_La_law_471 v1 v2 (K_La_law_495 c hr.1 hr.2 (B_La_law_498 v1 v2 (K_La_law_523 cm hr.1 hr.2 (B_La_law_526 (K_La_law_529 ct hr.1 hr.2 (B_La_law_532 (fun _ z => absurd rfl z) (fun _ _ => vp01) (fun _ _ _ => B_La_law_556 hk) (fun _ _ z => absurd hE z) (fun z => absurd rfl z)))))))
  · obtain ⟨wm2, cm, hM2⟩ := m_compareBad (l := l) hb hM h1 hbad
    rw [← hv] at c cm
    have ct := m_thrown (l := l) hM2
    have hk := k _ _ _ _ _ g hX2 hM2
    obtain ⟨row, len, sc, me, at_, fo, wr, ne, df, dt, sg, fr, ex, W, ns_, ng_, nw, s1, s2, s3, o1, o2, o3, rm, rk, rf, rl, rfl, T, hs⟩ := hX
    obtain ⟨row', len', sc', me', at_', fo', wr', ne', df', dt', sg', fr', ex', W', ns_', ng_', nw', s1', s2', s3', o1', o2', o3', rm', rk', rf', rl', rfl, T', hs'⟩ := hX2
    obtain ⟨len9, ki9, pc9, be9, ma9, po9, ex9, fm9, to9, wh9, sc9, re9, hu9, tx9, fg9, wd9, rfl, T9⟩ := hM
    obtain ⟨len9', ki9', pc9', be9', ma9', po9', ex9', fm9', to9', wh9', sc9', re9', hu9', tx9', fg9', wd9', rfl, T9'⟩ := hM2
    exact B_La_law_471 v1 v2 (K_La_law_495 c hr.1 hr.2 (B_La_law_498 v1 v2 (K_La_law_523 cm hr.1 hr.2 (B_La_law_526 (K_La_law_529 ct hr.1 hr.2 (B_La_law_532 (fun _ _ => B_La_law_556 hk) (fun _ z => absurd z (by decide)) (fun _ z => absurd z (by decide)) (fun _ z => absurd z (by decide)) (fun z => absurd rfl z)))))))
  · obtain ⟨wm2, cm, hM2⟩ := m_compareNo (l := l) (x := lN b) hM h1
    rw [← hv] at c cm
    have ct := m_thrown (l := l) hM2
    have hk := k _ _ _ _ _ g hX2 hM2
    obtain ⟨row, len, sc, me, at_, fo, wr, ne, df, dt, sg, fr, ex, W, ns_, ng_, nw, s1, s2, s3, o1, o2, o3, rm, rk, rf, rl, rfl, T, hs⟩ := hX
    obtain ⟨row', len', sc', me', at_', fo', wr', ne', df', dt', sg', fr', ex', W', ns_', ng_', nw', s1', s2', s3', o1', o2', o3', rm', rk', rf', rl', rfl, T', hs'⟩ := hX2
    obtain ⟨len9, ki9, pc9, be9, ma9, po9, ex9, fm9, to9, wh9, sc9, re9, hu9, tx9, fg9, wd9, rfl, T9⟩ := hM
    obtain ⟨len9', ki9', pc9', be9', ma9', po9', ex9', fm9', to9', wh9', sc9', re9', hu9', tx9', fg9', wd9', rfl, T9'⟩ := hM2
    exact B_La_law_471 v1 v2 (K_La_law_495 c hr.1 hr.2 (B_La_law_498 v1 v2 (K_La_law_523 cm hr.1 hr.2 (B_La_law_526 (K_La_law_529 ct hr.1 hr.2 (B_La_law_532 (fun _ _ => B_La_law_556 hk) (fun _ z => absurd z (by decide)) (fun _ z => absurd z (by decide)) (fun _ z => absurd z (by decide)) (fun z => absurd rfl z)))))))
end LawC
