/-! CONTRACTS: ExactReader, 3: the methods that throw -/
section Er3
variable {l : Launch} {G : gG} {x t tq e m q s o r : Nat} {ch : Nat → Nat} {n : Nat} {w : va_W}
theorem x_repeatBad {c k : Int32} (hl9 : l.stackTraces = false) (hX : XI G x t tq e m q s o r ch n w) (h : c < 1 ∨ (255 : Int32) < c ∨ k < 0) : gX3 l G mx_Er_repeat [.ref x, .int c, .int k] w "java/lang/IllegalArgumentException" w := by
  obtain ⟨row, len, sc, me, at_, fo, wr, ne, df, dt, sg, fr, ex, W, ns, ng, nw, s1, s2, s3, o1, o2, o3, rm, rk, rf, rl, rfl, T, hs⟩ := hX
  have bad := t_Er_repeat_16 (l := l) (G := G) (w0 := wX G x t tq e m q s o r row len sc me at_ fo wr ne df dt sg fr ex W ns ng nw s1 s2 s3 o1 o2 o3 rm rk rf rl) (lv := [(0, .ref x), (1, .int c), (2, .int k)]) (ws := wX G x t tq e m q s o r row len sc me at_ fo wr ne df dt sg fr ex W ns ng nw s1 s2 s3 o1 o2 o3 rm rk rf rl) hl9
  refine gX3.mk (by decide +kernel) (Nat.le_of_ble_eq_true rfl) rfl (B_Er_repeat_0 (fun _ => bad) (fun _ _ => bad) (fun z1 z2 z3 => ?_) (fun _ _ _ => bad))
  rcases h with h | h | h
  · exact absurd h z1
  · exact absurd h z2
  · exact absurd h (Int32.not_lt.mpr z3)
theorem x_repeat {c k : Nat} (hX : XI G x t tq e m q s o r ch n w) (hc1 : 1 ≤ c) (hc2 : c ≤ 255) (hk : k < 2 ^ 31) :
    ∃ w2, gC3 l G mx_Er_repeat [.ref x, .int (nI c), .int (nI k)] w (some (.int (if k ≤ 4096 - n then nI (n + k) else -1))) w2 1 6 ∧ XI G x t tq e m q s o r (if k ≤ 4096 - n then rpC ch n c k else ch) (if k ≤ 4096 - n then n + k else n) w2 := by
  obtain ⟨row, len, sc, me, at_, fo, wr, ne, df, dt, sg, fr, ex, W, ns, ng, nw, s1, s2, s3, o1, o2, o3, rm, rk, rf, rl, rfl, T, hs⟩ := hX
  have hn := T.2.1.1
  have hlen : len = nI n := T.1
  subst hlen
  have h1 : ¬ nI c < (1 : Int32) := fun z => by have := (nI_ltI (b := 1) (by omega) (by decide)).mp z; omega
  have h2 : ¬ (255 : Int32) < nI c := fun z => by have := (nI_ltI (a := 255) (by decide) (by omega)).mp z; omega
  have h3 : (0 : Int32) ≤ nI k := nI_le (a := 0) (Nat.zero_le _) hk
  have e4 : nI 4096 - nI n = nI (4096 - n) := pk_sub hn
  have h4 : nI k ≤ nI 4096 - nI n ↔ k ≤ 4096 - n := by
    rw [e4]
    exact nI_leI hk (by omega)
  have hlt : c < 256 := by omega
  have e5 : (Int32.toUInt32 (nI c) % 65536).toInt32 = nI c := v_char hlt
  by_cases hfit : k ≤ 4096 - n
  · rw [if_pos hfit, if_pos hfit, if_pos hfit]
    have L : ∀ (d i : Nat) (row : Nat → Int32) (sc : Int32) (w0 : va_W), i + d = k → tOk row (nI (n + i)) (rpC ch n c i) (n + i) → (sc = 0 ∨ (sc = 1 ∧ scn (rpC ch n c i) (n + i) me fo wr ne df dt sg fr ex s1 s2 s3)) →
        ∃ w2, gA3 l G mx_Er_repeat tb0 w0 (.inl (some (.int (nI (n + k))), w2, 1, 6)) 0 0 41 [(0, .ref x), (1, .int (nI c)), (2, .int (nI k)), (3, .int (nI i))] [] (wX G x t tq e m q s o r row (nI (n + i)) sc me at_ fo wr ne df dt sg fr ex W ns ng nw s1 s2 s3 o1 o2 o3 rm rk rf rl) ∧ XI G x t tq e m q s o r (rpC ch n c k) (n + k) w2 := by
      intro d
      induction d with
      | zero =>
        intro i row sc w0 hi T hs
        have : i = k := by omega
        subst this
        exact ⟨_, B_Er_repeat_41 (fun _ => ⟨1, 6, rfl, by decide, by decide⟩) (fun z => absurd (Int32.le_refl _) z), row, nI (n + i), sc, me, at_, fo, wr, ne, df, dt, sg, fr, ex, W, ns, ng, nw, s1, s2, s3, o1, o2, o3, rm, rk, rf, rl, rfl, T, hs⟩
      | succ d ih =>
        intro i row sc w0 hi T hs
        have hlt2 : ¬ nI k ≤ nI i := fun z => by have := (nI_leI (by omega) (by omega)).mp z; omega
        have T2 := tOk_app T (by omega : n + i < 4096) hc1 hc2
        rw [rpC_s] at T2
        obtain ⟨w2, g1, g2⟩ := ih (i + 1) (upd row (n + i) (nI c)) 0 w0 (by omega) T2 (Or.inl rfl)
        refine ⟨w2, B_Er_repeat_41 (fun z => absurd z hlt2) (fun _ => ?_), g2⟩
        rw [e5]
        refine K_Er_repeat_52 (c_Nt_append (by omega) hc1 hlt) (by decide) (by decide) (B_Er_repeat_55 ?_)
        have e1 : nI i + (1 : Int32) = nI (i + 1) := nI_1 i
        rw [e1]
        exact g1
    obtain ⟨w2, g1, g2⟩ := L k 0 row sc (wX G x t tq e m q s o r row (nI n) sc me at_ fo wr ne df dt sg fr ex W ns ng nw s1 s2 s3 o1 o2 o3 rm rk rf rl) (by omega) (by rw [rpC_0]; exact T) (by rw [rpC_0]; exact hs)
    exact ⟨w2, gC3.mk (by decide +kernel) (Nat.le_of_ble_eq_true rfl) rfl (B_Er_repeat_0 (fun z => absurd z h1) (fun _ z => absurd z h2) (fun _ _ _ => K_Er_repeat_31 c_Nt_room (by decide) (by decide) (B_Er_repeat_34 (fun _ => g1) (fun z => absurd (h4.mpr hfit) z))) (fun _ _ z => absurd h3 z)), g2⟩
  · rw [if_neg hfit, if_neg hfit, if_neg hfit]
    exact ⟨_, gC3.mk (by decide +kernel) (Nat.le_of_ble_eq_true rfl) rfl (B_Er_repeat_0 (fun z => absurd z h1) (fun _ z => absurd z h2) (fun _ _ _ => K_Er_repeat_31 c_Nt_room (by decide) (by decide) (B_Er_repeat_34 (fun z => absurd (h4.mp z) hfit) (fun _ => ⟨1, 6, rfl, by decide, by decide⟩))) (fun _ _ z => absurd h3 z)), row, nI n, sc, me, at_, fo, wr, ne, df, dt, sg, fr, ex, W, ns, ng, nw, s1, s2, s3, o1, o2, o3, rm, rk, rf, rl, rfl, T, hs⟩
theorem x_cutBad {k : Int32} (hl9 : l.stackTraces = false) (hX : XI G x t tq e m q s o r ch n w) (h : k < 0) : gX3 l G mx_Er_cut [.ref x, .int k] w "java/lang/IllegalArgumentException" w := by
  obtain ⟨row, len, sc, me, at_, fo, wr, ne, df, dt, sg, fr, ex, W, ns, ng, nw, s1, s2, s3, o1, o2, o3, rm, rk, rf, rl, rfl, T, hs⟩ := hX
  exact gX3.mk (by decide +kernel) (Nat.le_of_ble_eq_true rfl) rfl (B_Er_cut_0 (fun z => absurd h (Int32.not_lt.mpr z)) (fun _ => t_Er_cut_4 hl9))
theorem x_cut {k : Nat} (hX : XI G x t tq e m q s o r ch n w) (hk : k < 2 ^ 31) : ∃ w2, gC3 l G mx_Er_cut [.ref x, .int (nI k)] w (some (.int (nI (n - k)))) w2 1 6 ∧ XI G x t tq e m q s o r (cutC ch (n - k)) (n - k) w2 := by
  obtain ⟨row, len, sc, me, at_, fo, wr, ne, df, dt, sg, fr, ex, W, ns, ng, nw, s1, s2, s3, o1, o2, o3, rm, rk, rf, rl, rfl, T, hs⟩ := hX
  have hn := T.2.1.1
  have hlen : len = nI n := T.1
  subst hlen
  have h3 : (0 : Int32) ≤ nI k := nI_le (a := 0) (Nat.zero_le _) hk
  have c := c_Nt_dropLast (l := l) (G := G) (a := t) (q := tq) (row := row) (sc := sc) (me := me) (at_ := at_) (fo := fo) (wr := wr) (ne := ne) (df := df) (dt := dt) (sg := sg) (fr := fr) (ex := ex) (n := n) (k := k) (by omega) hk
  exact ⟨_, gC3.mk (by decide +kernel) (Nat.le_of_ble_eq_true rfl) rfl (B_Er_cut_0 (fun _ => K_Er_cut_19 c (by decide) (by decide) (B_Er_cut_22 ⟨1, 6, rfl, by decide, by decide⟩)) (fun z => absurd h3 z)), row, nI (n - k), 0, me, at_, fo, wr, ne, df, dt, sg, fr, ex, W, ns, ng, nw, s1, s2, s3, o1, o2, o3, rm, rk, rf, rl, rfl, tOk_cut T (by omega), Or.inl rfl⟩
theorem x_bits (hl9 : l.stackTraces = false) (hX : XI G x t tq e m q s o r ch n w) :
    (∃ ng k d L es w2 lead pl rest, scOk ch n ng k d L es ∧ gC3 l G mx_Er_bits [.ref x] w (some (.long (lN (bitV 0 ng k lead pl rest)))) w2 1 6 ∧ XI G x t tq e m q s o r ch n w2 ∧ (k ≠ 3 → szK ch k d L es lead pl rest)) ∨
    (∃ wv w2, scNo ch n wv ∧ gX3 l G mx_Er_bits [.ref x] w "java/lang/IllegalStateException" w2 ∧ XI G x t tq e m q s o r ch n w2) := by
  obtain ⟨row, len, sc, me, at_, fo, wr, ne, df, dt, sg, fr, ex, W, ns, ng, nw, s1, s2, s3, o1, o2, o3, rm, rk, rf, rl, rfl, T, hs⟩ := hX
  obtain ⟨me2, at2, fo2, wr2, ne2, df2, dt2, sg2, fr2, ex2, c, hc⟩ := x_scan (l := l) (G := G) (t := t) (tq := tq) (at_ := at_) T hs
  rcases hc with ⟨ng2, k, d, L, es, h1, h2, h3, h4, h5, h6⟩ | ⟨wv, h1, h2, h3, h4⟩
  · left
    subst h2 h4
    obtain ⟨hk3, _, _⟩ := h1.dg T.2.1
    have hne : ¬ nI k = (-1 : Int32) := nI_ne1 (by omega)
    obtain ⟨w2, lead, pl, rest, c2, hX2, hz⟩ := c_Er_bitsRead (l := l) (G := G) (x := x) (t := t) (tq := tq) (e := e) (m := m) (q := q) (s := s) (o := o) (r := r) (at_ := at2) (W := W) (ns := ns) (ng := ng) (nw := nw) (o1 := o1) (o2 := o2) (o3 := o3) (rm := rm) (rk := rk) (rf := rf) (rl := rl) (i := 0) (by decide) T h1 h5 h6 h3
    obtain ⟨row', len', sc', me', at', fo', wr', ne', df', dt', sg', fr', ex', W', ns', ng', nw', s1', s2', s3', o1', o2', o3', rm', rk', rf', rl', rfl, T', hs'⟩ := hX2
    exact ⟨ng2, k, d, L, es, _, lead, pl, rest, h1, gC3.mk (by decide +kernel) (Nat.le_of_ble_eq_true rfl) rfl (B_Er_bits_0 (K_Er_bits_4 c (by decide) (by decide) (B_Er_bits_7 (fun _ => K_Er_bits_32 c2 (by decide) (by decide) (B_Er_bits_35 ⟨1, 6, rfl, by decide, by decide⟩)) (fun z => absurd z hne)))), ⟨row', len', sc', me', at', fo', wr', ne', df', dt', sg', fr', ex', W', ns', ng', nw', s1', s2', s3', o1', o2', o3', rm', rk', rf', rl', rfl, T', hs'⟩, hz⟩
  · right
    subst h2
    exact ⟨wv, _, h1, gX3.mk (by decide +kernel) (Nat.le_of_ble_eq_true rfl) rfl (B_Er_bits_0 (K_Er_bits_4 c (by decide) (by decide) (B_Er_bits_7 (fun z => absurd rfl z) (fun _ => t_Er_bits_18 hl9)))), row, len, 1, me2, at2, -1, wr2, ne2, df2, dt2, sg2, fr2, ex2, W, ns, ng, nw, s1, s2, s3, o1, o2, o3, rm, rk, rf, rl, rfl, T, Or.inr ⟨rfl, Or.inr ⟨wv, h1, rfl, h3, h4⟩⟩⟩
theorem x_floatBits (hl9 : l.stackTraces = false) (hX : XI G x t tq e m q s o r ch n w) :
    (∃ ng k d L es w2 lead pl rest, scOk ch n ng k d L es ∧ gC3 l G mx_Er_floatBits [.ref x] w (some (.int (nI (bitV 1 ng k lead pl rest)))) w2 1 6 ∧ XI G x t tq e m q s o r ch n w2 ∧ (k ≠ 3 → szK ch k d L es lead pl rest)) ∨
    (∃ wv w2, scNo ch n wv ∧ gX3 l G mx_Er_floatBits [.ref x] w "java/lang/IllegalStateException" w2 ∧ XI G x t tq e m q s o r ch n w2) := by
  obtain ⟨row, len, sc, me, at_, fo, wr, ne, df, dt, sg, fr, ex, W, ns, ng, nw, s1, s2, s3, o1, o2, o3, rm, rk, rf, rl, rfl, T, hs⟩ := hX
  obtain ⟨me2, at2, fo2, wr2, ne2, df2, dt2, sg2, fr2, ex2, c, hc⟩ := x_scan (l := l) (G := G) (t := t) (tq := tq) (at_ := at_) T hs
  rcases hc with ⟨ng2, k, d, L, es, h1, h2, h3, h4, h5, h6⟩ | ⟨wv, h1, h2, h3, h4⟩
  · left
    subst h2 h4
    obtain ⟨hk3, _, _⟩ := h1.dg T.2.1
    have hne : ¬ nI k = (-1 : Int32) := nI_ne1 (by omega)
    obtain ⟨w2, lead, pl, rest, c2, hX2, hz⟩ := c_Er_bitsRead (l := l) (G := G) (x := x) (t := t) (tq := tq) (e := e) (m := m) (q := q) (s := s) (o := o) (r := r) (at_ := at2) (W := W) (ns := ns) (ng := ng) (nw := nw) (o1 := o1) (o2 := o2) (o3 := o3) (rm := rm) (rk := rk) (rf := rf) (rl := rl) (i := 1) (by decide) T h1 h5 h6 h3
    obtain ⟨row', len', sc', me', at', fo', wr', ne', df', dt', sg', fr', ex', W', ns', ng', nw', s1', s2', s3', o1', o2', o3', rm', rk', rf', rl', rfl, T', hs'⟩ := hX2
    exact ⟨ng2, k, d, L, es, _, lead, pl, rest, h1, gC3.mk (by decide +kernel) (Nat.le_of_ble_eq_true rfl) rfl (B_Er_floatBits_0 (K_Er_floatBits_4 c (by decide) (by decide) (B_Er_floatBits_7 (fun _ => K_Er_floatBits_32 c2 (by decide) (by decide) (B_Er_floatBits_35 ⟨1, 6, by rw [lN_i], by decide, by decide⟩)) (fun z => absurd z hne)))), ⟨row', len', sc', me', at', fo', wr', ne', df', dt', sg', fr', ex', W', ns', ng', nw', s1', s2', s3', o1', o2', o3', rm', rk', rf', rl', rfl, T', hs'⟩, hz⟩
  · right
    subst h2
    exact ⟨wv, _, h1, gX3.mk (by decide +kernel) (Nat.le_of_ble_eq_true rfl) rfl (B_Er_floatBits_0 (K_Er_floatBits_4 c (by decide) (by decide) (B_Er_floatBits_7 (fun z => absurd rfl z) (fun _ => t_Er_floatBits_18 hl9)))), row, len, 1, me2, at2, -1, wr2, ne2, df2, dt2, sg2, fr2, ex2, W, ns, ng, nw, s1, s2, s3, o1, o2, o3, rm, rk, rf, rl, rfl, T, Or.inr ⟨rfl, Or.inr ⟨wv, h1, rfl, h3, h4⟩⟩⟩
/-- what side answers -/
def sdV (i : Nat) (ng : Bool) (k lead : Nat) (pl : Int) (rest : Bool) : Int := if 2 ≤ k then 0 else if ng then -ro_S i lead pl rest else ro_S i lead pl rest
theorem x_side {fl : Bool} (hl9 : l.stackTraces = false) (hX : XI G x t tq e m q s o r ch n w) :
    (∃ ng k d L es w2 lead pl rest, scOk ch n ng k d L es ∧ gC3 l G mx_Er_side [.ref x, .int (bI fl)] w (some (.int (zI (sdV (if fl then 1 else 0) ng k lead pl rest)))) w2 1 6 ∧ XI G x t tq e m q s o r ch n w2 ∧ (k < 2 → szK ch k d L es lead pl rest)) ∨
    (∃ wv w2, scNo ch n wv ∧ gX3 l G mx_Er_side [.ref x, .int (bI fl)] w "java/lang/IllegalStateException" w2 ∧ XI G x t tq e m q s o r ch n w2) := by
  obtain ⟨row, len, sc, me, at_, fo, wr, ne, df, dt, sg, fr, ex, W, ns, ng, nw, s1, s2, s3, o1, o2, o3, rm, rk, rf, rl, rfl, T, hs⟩ := hX
  obtain ⟨me2, at2, fo2, wr2, ne2, df2, dt2, sg2, fr2, ex2, c, hc⟩ := x_scan (l := l) (G := G) (t := t) (tq := tq) (at_ := at_) T hs
  rcases hc with ⟨ng2, k, d, L, es, h1, h2, h3, h4, h5, h6⟩ | ⟨wv, h1, h2, h3, h4⟩
  · left
    subst h2 h4
    obtain ⟨hk3, _, _⟩ := h1.dg T.2.1
    have hne : ¬ nI k = (-1 : Int32) := nI_ne1 (by omega)
    have e2 : nI k = (2 : Int32) ↔ k = 2 := nI_eq (b := 2) (by omega) (by decide)
    have e3 : nI k = (3 : Int32) ↔ k = 3 := nI_eq (b := 3) (by omega) (by decide)
    by_cases hk : 2 ≤ k
    · have hv : zI (sdV (if fl then 1 else 0) ng2 k 0 0 false) = 0 := by unfold sdV; rw [if_pos hk]; rfl
      refine ⟨ng2, k, d, L, es, _, 0, 0, false, h1, ?_, ⟨row, len, 1, me2, at2, nI k, wr2, bI ng2, df2, dt2, sg2, fr2, ex2, W, ns, ng, nw, s1, s2, s3, o1, o2, o3, rm, rk, rf, rl, rfl, T, Or.inr ⟨rfl, Or.inl ⟨ng2, k, d, L, es, h1, rfl, h3, rfl, h5, h6⟩⟩⟩, fun z => absurd hk (by omega)⟩
      rw [hv]
      exact gC3.mk (by decide +kernel) (Nat.le_of_ble_eq_true rfl) rfl (B_Er_side_0 (K_Er_side_4 c (by decide) (by decide) (B_Er_side_7 (fun _ z => B_Er_side_50 ⟨1, 6, rfl, by decide, by decide⟩) (fun _ z y => by
          exfalso
          rcases (show k = 2 ∨ k = 3 by omega) with v | v
          · exact z (e2.mpr v)
          · exact y (e3.mpr v)) (fun _ _ _ => B_Er_side_50 ⟨1, 6, rfl, by decide, by decide⟩) (fun z => absurd z hne))))
    · have hk2 : k < 2 := by omega
      obtain ⟨W2, ns2, ng3, nw2, lead, pl, rest, c2, hz⟩ := c_Er_measureText (l := l) (G := G) (x := x) (t := t) (tq := tq) (e := e) (m := m) (q := q) (s := s) (o := o) (r := r) (at_ := at2) (wr := wr2) (ne := bI ng2) (W := W) (ns := ns) (ng := ng) (nw := nw) (o1 := o1) (o2 := o2) (o3 := o3) (rm := rm) (rk := rk) (rf := rf) (rl := rl) T h1 h5 h6
      have hi : (if fl then 1 else 0) < 2 := by cases fl <;> decide
      obtain ⟨m2, k2, f2, c3, c4⟩ := c_Ro_round (l := l) (G := G) (a := r) (b := s) (i := if fl then 1 else 0) (lead := lead) (pl := pl) (rest := rest) (m := rm) (k := rk) (f := rf) (s := rl) hi hz.lead hz.1 hz.2.1.1
      have hXX : XI G x t tq e m q s o r ch n (wX G x t tq e m q s o r row len 1 1 at2 (nI k) wr2 (bI ng2) df2 dt2 sg2 fr2 ex2 W2 ns2 ng3 nw2 (lN lead) (zI pl) (bI rest) o1 o2 o3 m2 k2 f2 (zI (ro_S (if fl then 1 else 0) lead pl rest))) :=
        ⟨row, len, 1, 1, at2, nI k, wr2, bI ng2, df2, dt2, sg2, fr2, ex2, W2, ns2, ng3, nw2, lN lead, zI pl, bI rest, o1, o2, o3, m2, k2, f2, zI (ro_S (if fl then 1 else 0) lead pl rest), rfl, T, Or.inr ⟨rfl, Or.inl ⟨ng2, k, d, L, es, h1, rfl, h3, rfl, h5, Or.inr ⟨rfl, lead, pl, rest, rfl, rfl, rfl, hz⟩⟩⟩⟩
      refine ⟨ng2, k, d, L, es, _, lead, pl, rest, h1, ?_, hXX, fun _ => hz⟩
      have fin : ∀ {w0 : va_W}, gA3 l G mx_Er_side tb0 w0 (.inl (some (.int (zI (sdV (if fl then 1 else 0) ng2 k lead pl rest))), wX G x t tq e m q s o r row len 1 1 at2 (nI k) wr2 (bI ng2) df2 dt2 sg2 fr2 ex2 W2 ns2 ng3 nw2 (lN lead) (zI pl) (bI rest) o1 o2 o3 m2 k2 f2 (zI (ro_S (if fl then 1 else 0) lead pl rest)), 1, 6)) 0 0 77 [(0, .ref x), (1, .int (bI fl))] [.ref (g_adE G (if fl then 1 else 0)), .ref s, .ref r] (wX G x t tq e m q s o r row len 1 1 at2 (nI k) wr2 (bI ng2) df2 dt2 sg2 fr2 ex2 W2 ns2 ng3 nw2 (lN lead) (zI pl) (bI rest) o1 o2 o3 rm rk rf rl) := by
        intro w0
        refine K_Er_side_77 c3 (by decide) (by decide) (B_Er_side_80 (fun z => B_Er_side_108 ⟨1, 6, ?_, by decide, by decide⟩) (fun z => B_Er_side_108 ⟨1, 6, ?_, by decide, by decide⟩))
        · rw [bI_0.mp z]
          unfold sdV
          rw [if_neg hk]
          rfl
        · have hng : ng2 = true := by
            cases ng2 with
            | true => rfl
            | false => exact absurd rfl z
          rw [hng, zI_neg]
          unfold sdV
          rw [if_neg hk, if_pos rfl]
      refine gC3.mk (by decide +kernel) (Nat.le_of_ble_eq_true rfl) rfl (B_Er_side_0 (K_Er_side_4 c (by decide) (by decide) (B_Er_side_7 (fun _ z => absurd (e2.mp z) (by omega)) (fun _ _ _ => K_Er_side_53 c2 (by decide) (by decide) (B_Er_side_56 (fun z => ?_) (fun z => ?_))) (fun _ _ z => absurd (e3.mp z) (by omega)) (fun z => absurd z hne))))
      · have z := bI_0.mp z
        subst z
        exact fin
      · have z : fl = true := by
          cases fl with
          | true => rfl
          | false => exact absurd rfl z
        subst z
        exact fin
  · right
    subst h2
    exact ⟨wv, _, h1, gX3.mk (by decide +kernel) (Nat.le_of_ble_eq_true rfl) rfl (B_Er_side_0 (K_Er_side_4 c (by decide) (by decide) (B_Er_side_7 (fun z => absurd rfl z) (fun z => absurd rfl z) (fun z => absurd rfl z) (fun _ => t_Er_side_18 hl9)))), row, len, 1, me2, at2, -1, wr2, ne2, df2, dt2, sg2, fr2, ex2, W, ns, ng, nw, s1, s2, s3, o1, o2, o3, rm, rk, rf, rl, rfl, T, Or.inr ⟨rfl, Or.inr ⟨wv, h1, rfl, h3, h4⟩⟩⟩
theorem f_nan_iff (b : Nat) : f_nan b = true ↔ dI < b % 2 ^ 63 := by
  have hI : dI = 2047 * 2 ^ 52 := rfl
  unfold f_nan
  rw [decide_eq_true_iff, hI]
  omega
theorem x_setD {a b : Nat} {z1 : Int64} {z2 z3 : Int32} (hb : b < 2 ^ 64) (hbb : ¬ dI < b % 2 ^ 63) :
    ∃ lead2 pl2, gCt l G m_Si_setDouble [.ref a, .long (lN b)] [oSi a z1 z2 z3] none (wZ a lead2 (zI pl2) false) ∧ dbl b lead2 pl2 ∧ lead2 < 2 ^ 63 ∧ -2000 ≤ pl2 ∧ pl2 ≤ 1073741824 := by
  have hI : dI = 2047 * 2 ^ 52 := rfl
  have hlow : b % 2 ^ 52 < 2 ^ 52 := Nat.mod_lt _ (by decide)
  by_cases hf : b / 2 ^ 52 % 2048 = 2047
  · have c := c_Si_setDoubleInf (l := l) (G := G) (a := a) (z1 := z1) (z2 := z2) (z3 := z3) hb hf
    rw [← zI_nat] at c
    exact ⟨2 ^ 62, 1073741824, c, Or.inr (Or.inl ⟨by omega, rfl, rfl⟩), by decide, by decide, by decide⟩
  · by_cases h0 : mD b = 0
    · refine ⟨0, kD b, c_Si_setDouble0 hb hf h0, Or.inl ⟨?_, rfl⟩, by decide, ?_, ?_⟩
      · unfold mD at h0
        split at h0 <;> omega
      · unfold kD
        split <;> omega
      · unfold kD
        split <;> omega
    · obtain ⟨j, hj⟩ := bin_ex (Nat.pos_of_ne_zero h0)
      have hj53 : j < 53 := (bin_lt hj 53).mp (mD_lt b)
      refine ⟨mD b * 2 ^ (62 - j), kD b - (62 - j : Nat), c_Si_setDouble hb hf hj, Or.inr (Or.inr ⟨?_, by omega, j, hj, rfl, rfl⟩), ?_, ?_, ?_⟩
      · intro z
        apply h0
        unfold mD
        split <;> omega
      · have := (bin_mul (c := 62 - j) hj).2
        rw [show j + (62 - j) + 1 = 63 by omega] at this
        exact this
      · unfold kD
        split <;> omega
      · unfold kD
        split <;> omega
theorem sgnZ (lead : Nat) (ng : Bool) : (if lead = 0 then (0 : Int32) else if ng then -1 else 1) = zI (if lead = 0 then (0 : Int) else if ng then -1 else 1) := by
  by_cases z : lead = 0
  · rw [if_pos z, if_pos z]; rfl
  · rw [if_neg z, if_neg z]
    cases ng <;> rfl
theorem sgnR (lead : Nat) (ng : Bool) : -1 ≤ (if lead = 0 then (0 : Int) else if ng then -1 else 1) ∧ (if lead = 0 then (0 : Int) else if ng then -1 else 1) ≤ 1 := by
  by_cases z : lead = 0
  · rw [if_pos z]; decide
  · rw [if_neg z]
    cases ng <;> decide
theorem x_compare {b : Nat} (hl9 : l.stackTraces = false) (hb : b < 2 ^ 64) (hX : XI G x t tq e m q s o r ch n w) :
    (∃ ng k d L es w2 lead pl rest lead2 pl2, scOk ch n ng k d L es ∧ k ≠ 3 ∧ ¬ dI < b % 2 ^ 63 ∧ gC3 l G mx_Er_compare [.ref x, .long (lN b)] w (some (.int (zI (cV ng lead pl rest (decide (2 ^ 63 ≤ b)) lead2 pl2)))) w2 1 6 ∧ XI G x t tq e m q s o r ch n w2 ∧ szK ch k d L es lead pl rest ∧ dbl b lead2 pl2) ∨
    (∃ ng k d L es w2, scOk ch n ng k d L es ∧ (k = 3 ∨ dI < b % 2 ^ 63) ∧ gX3 l G mx_Er_compare [.ref x, .long (lN b)] w "java/lang/IllegalArgumentException" w2 ∧ XI G x t tq e m q s o r ch n w2) ∨
    (∃ wv w2, scNo ch n wv ∧ gX3 l G mx_Er_compare [.ref x, .long (lN b)] w "java/lang/IllegalStateException" w2 ∧ XI G x t tq e m q s o r ch n w2) := by
  obtain ⟨row, len, sc, me, at_, fo, wr, ne, df, dt, sg, fr, ex, W, ns, ng, nw, s1, s2, s3, o1, o2, o3, rm, rk, rf, rl, rfl, T, hs⟩ := hX
  obtain ⟨me2, at2, fo2, wr2, ne2, df2, dt2, sg2, fr2, ex2, c, hc⟩ := x_scan (l := l) (G := G) (t := t) (tq := tq) (at_ := at_) T hs
  rcases hc with ⟨ng2, k, d, L, es, h1, h2, h3, h4, h5, h6⟩ | ⟨wv, h1, h2, h3, h4⟩
  · subst h2 h4
    obtain ⟨hk3, _, _⟩ := h1.dg T.2.1
    have hne : ¬ nI k = (-1 : Int32) := nI_ne1 (by omega)
    have e3 : nI k = (3 : Int32) ↔ k = 3 := nI_eq (b := 3) (by omega) (by decide)
    have cN := c_Fm_areNoNumber (l := l) (G := G) hb
    have hXs : XI G x t tq e m q s o r ch n (wX G x t tq e m q s o r row len 1 me2 at2 (nI k) wr2 (bI ng2) df2 dt2 sg2 fr2 ex2 W ns ng nw s1 s2 s3 o1 o2 o3 rm rk rf rl) :=
      ⟨row, len, 1, me2, at2, nI k, wr2, bI ng2, df2, dt2, sg2, fr2, ex2, W, ns, ng, nw, s1, s2, s3, o1, o2, o3, rm, rk, rf, rl, rfl, T, Or.inr ⟨rfl, Or.inl ⟨ng2, k, d, L, es, h1, rfl, h3, rfl, h5, h6⟩⟩⟩
    by_cases hk : k = 3
    · right; left
      exact ⟨ng2, k, d, L, es, _, h1, Or.inl hk, gX3.mk (by decide +kernel) (Nat.le_of_ble_eq_true rfl) rfl (B_Er_compare_0 (K_Er_compare_4 c (by decide) (by decide) (B_Er_compare_7 (fun _ _ => t_Er_compare_46 hl9) (fun _ z => absurd (e3.mpr hk) z) (fun z => absurd z hne)))), hXs⟩
    · by_cases hbb : dI < b % 2 ^ 63
      · right; left
        rw [if_pos ((f_nan_iff b).mpr hbb)] at cN
        exact ⟨ng2, k, d, L, es, _, h1, Or.inr hbb, gX3.mk (by decide +kernel) (Nat.le_of_ble_eq_true rfl) rfl (B_Er_compare_0 (K_Er_compare_4 c (by decide) (by decide) (B_Er_compare_7 (fun _ z => absurd (e3.mp z) hk) (fun _ _ => K_Er_compare_40 cN (by decide) (by decide) (B_Er_compare_43 (fun z => absurd z (by decide)) (fun _ => t_Er_compare_46 hl9))) (fun z => absurd z hne)))), hXs⟩
      · left
        rw [if_neg (fun z => hbb ((f_nan_iff b).mp z))] at cN
        obtain ⟨W2, ns2, ng3, nw2, lead, pl, rest, c2, hz⟩ := c_Er_measureText (l := l) (G := G) (x := x) (t := t) (tq := tq) (e := e) (m := m) (q := q) (s := s) (o := o) (r := r) (at_ := at2) (wr := wr2) (ne := bI ng2) (W := W) (ns := ns) (ng := ng) (nw := nw) (o1 := o1) (o2 := o2) (o3 := o3) (rm := rm) (rk := rk) (rf := rf) (rl := rl) T h1 h5 h6
        obtain ⟨lead2, pl2, c3, hD, l2, p1, p2⟩ := x_setD (l := l) (G := G) (a := o) (z1 := o1) (z2 := o2) (z3 := o3) hb hbb
        have hl63 : lead < 2 ^ 63 := by rcases hz.lead with v | v <;> omega
        have c4 := c_Si_signWith (l := l) (G := G) (a := s) (lead := lead) (pl := zI pl) (rest := rest) (ng := ng2) hl63
        have c5 := c_Si_signWith (l := l) (G := G) (a := o) (lead := lead2) (pl := zI pl2) (rest := false) (ng := decide (2 ^ 63 ≤ b)) l2
        have c6 := c_Si_order (l := l) (G := G) (a := s) (c := o) (lead := lead) (lead2 := lead2) (pl := pl) (pl2 := pl2) (rest := rest) (rest2 := false) hl63 l2 (by have := hz.1; omega) (by have := hz.2.1.1; omega) (by omega) (by omega)
        rw [sgnZ] at c4 c5
        have r1 := sgnR lead ng2
        have r2 := sgnR lead2 (decide (2 ^ 63 ≤ b))
        refine ⟨ng2, k, d, L, es, wX G x t tq e m q s o r row len 1 1 at2 (nI k) wr2 (bI ng2) df2 dt2 sg2 fr2 ex2 W2 ns2 ng3 nw2 (lN lead) (zI pl) (bI rest) (lN lead2) (zI pl2) (bI false) rm rk rf rl, lead, pl, rest, lead2, pl2, h1, hk, hbb, ?_, ⟨row, len, 1, 1, at2, nI k, wr2, bI ng2, df2, dt2, sg2, fr2, ex2, W2, ns2, ng3, nw2, lN lead, zI pl, bI rest, lN lead2, zI pl2, bI false, rm, rk, rf, rl, rfl, T, Or.inr ⟨rfl, Or.inl ⟨ng2, k, d, L, es, h1, rfl, h3, rfl, h5, Or.inr ⟨rfl, lead, pl, rest, rfl, rfl, rfl, hz⟩⟩⟩⟩, hz, hD⟩
        unfold cV
        generalize (if lead = 0 then (0 : Int) else if ng2 then -1 else 1) = S1 at *
        generalize (if lead2 = 0 then (0 : Int) else if decide (2 ^ 63 ≤ b) = true then -1 else 1) = S2 at *
        have fin : ∀ {w0 : va_W}, gA3 l G mx_Er_compare tb0 w0 (.inl (some (.int (zI (if S1 ≠ S2 then (if S1 < S2 then -1 else 1) else S1 * ordZ lead pl rest lead2 pl2))), wX G x t tq e m q s o r row len 1 1 at2 (nI k) wr2 (bI ng2) df2 dt2 sg2 fr2 ex2 W2 ns2 ng3 nw2 (lN lead) (zI pl) (bI rest) (lN lead2) (zI pl2) (bI false) rm rk rf rl, 1, 6)) 0 0 98 [(0, .ref x), (1, .long (lN b)), (3, .int (zI S1))] [.int (bI (decide (2 ^ 63 ≤ b))), .ref o] (wX G x t tq e m q s o r row len 1 1 at2 (nI k) wr2 (bI ng2) df2 dt2 sg2 fr2 ex2 W2 ns2 ng3 nw2 (lN lead) (zI pl) (bI rest) (lN lead2) (zI pl2) (bI false) rm rk rf rl) := by
          intro w0
          refine K_Er_compare_98 c5 (by decide) (by decide) (B_Er_compare_101 (fun z => ?_) (fun z => ?_))
          · have z := (zI_eq (by omega) (by omega) (by omega) (by omega)).mp z
            refine K_Er_compare_125 c6 (by decide) (by decide) (B_Er_compare_128 ⟨1, 6, ?_, by decide, by decide⟩)
            rw [zI_mul, if_neg (fun v => v z)]
          · have z : ¬ S1 = S2 := fun v => z (by rw [v])
            refine K_Er_compare_112 (c_JI_compare _ _) (by decide) (by decide) (B_Er_compare_115 ⟨1, 6, ?_, by decide, by decide⟩)
            rw [if_pos z]
            have hlt : zI S1 < zI S2 ↔ S1 < S2 := zI_lt (by omega) (by omega) (by omega) (by omega)
            have heq : zI S1 = zI S2 ↔ S1 = S2 := zI_eq (by omega) (by omega) (by omega) (by omega)
            by_cases v : S1 < S2
            · rw [if_pos v, if_pos (hlt.mpr v)]; rfl
            · rw [if_neg v, if_neg (fun y => v (hlt.mp y)), if_neg (fun y => z (heq.mp y))]; rfl
        refine gC3.mk (by decide +kernel) (Nat.le_of_ble_eq_true rfl) rfl (B_Er_compare_0 (K_Er_compare_4 c (by decide) (by decide) (B_Er_compare_7 (fun _ z => absurd (e3.mp z) hk) (fun _ _ => K_Er_compare_40 cN (by decide) (by decide) (B_Er_compare_43 (fun _ => K_Er_compare_57 c2 (by decide) (by decide) (B_Er_compare_60 (K_Er_compare_65 c3 (by decide) (by decide) (B_Er_compare_68 (K_Er_compare_79 c4 (by decide) (by decide) (B_Er_compare_82 (fun z => ?_) (fun z => ?_))))))) (fun z => absurd rfl z))) (fun z => absurd z hne))))
        · have z := (ob_l hb).mp z
          rw [decide_eq_false z] at fin
          exact fin
        · have z : 2 ^ 63 ≤ b := by
            by_cases v : 2 ^ 63 ≤ b
            · exact v
            · exact absurd ((ob_l hb).mpr v) z
          rw [decide_eq_true z] at fin
          exact fin
  · right; right
    subst h2
    exact ⟨wv, _, h1, gX3.mk (by decide +kernel) (Nat.le_of_ble_eq_true rfl) rfl (B_Er_compare_0 (K_Er_compare_4 c (by decide) (by decide) (B_Er_compare_7 (fun z => absurd rfl z) (fun z => absurd rfl z) (fun _ => t_Er_compare_18 hl9)))), row, len, 1, me2, at2, -1, wr2, ne2, df2, dt2, sg2, fr2, ex2, W, ns, ng, nw, s1, s2, s3, o1, o2, o3, rm, rk, rf, rl, rfl, T, Or.inr ⟨rfl, Or.inr ⟨wv, h1, rfl, h3, h4⟩⟩⟩
end Er3
