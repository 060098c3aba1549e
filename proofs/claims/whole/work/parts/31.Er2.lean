/-! CONTRACTS: ExactReader, 2: measureText, bitsRead -/
theorem frF_le : ∀ (L : List (Option Nat)) (seen : Bool) (f : Nat), frF seen f L ≤ f + L.length := by
  intro L
  induction L with
  | nil => intro _ f; exact Nat.le_refl _
  | cons x L ih =>
    intro seen f
    simp only [List.length_cons]
    cases x with
    | none => have := ih true f; simp only [frF]; omega
    | some d =>
      simp only [frF]
      cases seen with
      | true => have := ih true (f + 1); simp only [if_true]; omega
      | false => have := ih false f; simp only [Bool.false_eq_true, if_false]; omega
theorem scOk.dg {ch : Nat → Nat} {n : Nat} {ng : Bool} {k d : Nat} {L : List (Option Nat)} {es : List Nat} (hC : tCh ch n) (h : scOk ch n ng k d L es) : k ≤ 3 ∧ (k = 0 → d ≤ n ∧ dgL ch 10 false d L) ∧ (k = 1 → d ≤ n ∧ dgL ch 16 false d L) := by
  obtain ⟨b, e, hb, _, hB, _⟩ := h
  have hbn := bl_le hC (Nat.zero_le _) hb
  have hs := sgn_le hC hbn
  rcases hB with h | h | h | h
  · exact ⟨by omega, fun z => by omega, fun z => by omega⟩
  · exact ⟨by omega, fun z => by omega, fun z => by omega⟩
  · obtain ⟨_, _, h3, h4, h5, h6⟩ := h
    have := isX_le hC h3
    exact ⟨by omega, fun z => by omega, fun _ => ⟨by omega, by rw [h5]; exact h6.1⟩⟩
  · obtain ⟨_, _, h3, h4, h5, h6⟩ := h
    exact ⟨by omega, fun _ => ⟨by omega, by rw [h5]; exact h6.1⟩, fun z => by omega⟩
section Er2
variable {l : Launch} {G : gG} {x t tq e m q s o r : Nat} {ch : Nat → Nat} {n : Nat}
def msd (ch : Nat → Nat) (k d : Nat) (L : List (Option Nat)) (es : List Nat) (me : Int32) (s1 : Int64) (s2 s3 : Int32) : Prop :=
  me = 0 ∨ (me = 1 ∧ ∃ lead pl rest, s1 = lN lead ∧ s2 = zI pl ∧ s3 = bI rest ∧ szK ch k d L es lead pl rest)
theorem c_Er_measureText {row : Nat → Int32} {len me at_ wr ne df dt sg fr ex : Int32} {W : Nat → Int32} {ns ng nw : Int32} {s1 : Int64} {s2 s3 : Int32} {o1 : Int64} {o2 o3 : Int32} {rm : Int64} {rk rf rl : Int32} {k d : Nat} {L : List (Option Nat)} {es : List Nat} {neg : Bool} (T : tOk row len ch n) (hk : scOk ch n neg k d L es)
    (hd : k < 2 → df = nI d ∧ dt = nI (d + L.length) ∧ sg = nI (sgF 0 L) ∧ fr = nI (frF false 0 L) ∧ ex = eC ch (d + L.length) es) (hm : msd ch k d L es me s1 s2 s3) :
    ∃ W2 ns2 ng2 nw2 lead pl rest, gCt l G m_Er_measureText [.ref x] (wX G x t tq e m q s o r row len 1 me at_ (nI k) wr ne df dt sg fr ex W ns ng nw s1 s2 s3 o1 o2 o3 rm rk rf rl) none (wX G x t tq e m q s o r row len 1 1 at_ (nI k) wr ne df dt sg fr ex W2 ns2 ng2 nw2 (lN lead) (zI pl) (bI rest) o1 o2 o3 rm rk rf rl) ∧ szK ch k d L es lead pl rest := by
  obtain ⟨hk3, hk0, hk1⟩ := hk.dg T.2.1
  have hn := T.2.1.1
  have e0 : nI k = 0 ↔ k = 0 := nI_eq (b := 0) (by omega) (by decide)
  have e1 : nI k = (1 : Int32) ↔ k = 1 := nI_eq (b := 1) (by omega) (by decide)
  rcases hm with hm | ⟨hm, lead, pl, rest, h1, h2, h3, h4⟩
  · subst hm
    rcases (show k = 0 ∨ k = 1 ∨ 2 ≤ k by omega) with z | z | z
    · obtain ⟨hd0, hL⟩ := hk0 z
      obtain ⟨f1, f2, f3, f4, f5⟩ := hd (by omega)
      have hlen := dgL_lt T.2.1 _ _ _ hd0 hL
      have hfr := frF_le L false 0
      obtain ⟨r1, r2⟩ := eZ_rng ch (d + L.length) es
      obtain ⟨W2, s2', g2, w2, lead, pl, rest, c, p1, p2, hz⟩ := c_Ms_decimal (l := l) (G := G) (e := e) (n := m) (q := q) (t := t) (tq := tq) (a := s) (W := W) (ns := ns) (ng := ng) (nw := nw) (sc := 1) (me := 1) (at_ := at_) (fo := nI k) (wr := wr) (ne := ne) (z1 := s1) (z2 := s2) (z3 := s3) T hd0 f1 f2 hL f3 f4 (f5.trans (eC_eZ _ _ _)) r1 r2 (by omega)
      refine ⟨W2, s2', g2, w2, lead, pl, rest, gCt.mk (by decide +kernel) (Nat.le_of_ble_eq_true rfl) rfl (b_Er_measureText_0 (fun _ _ y => absurd (e0.mpr z) y) (fun _ _ _ => k_Er_measureText_70 c (b_Er_measureText_73 (b_Er_measureText_83 ⟨rfl, rfl⟩))) (fun _ y => ?_) (fun y => absurd rfl y)), by omega, ⟨by omega, fun _ => by omega⟩, Or.inl ⟨z, hz⟩⟩
      have := e1.mp y
      omega
    · obtain ⟨hd0, hL⟩ := hk1 z
      obtain ⟨f1, f2, f3, f4, f5⟩ := hd (by omega)
      have hlen := dgL_lt T.2.1 _ _ _ hd0 hL
      have hfr := frF_le L false 0
      obtain ⟨r1, r2⟩ := eZ_rng ch (d + L.length) es
      obtain ⟨lead, pl, rest, c, p1, p2, hz⟩ := c_Ms_hexadecimal (l := l) (G := G) (e := e) (n := m) (q := q) (t := t) (tq := tq) (a := s) (W := W) (ns := ns) (ng := ng) (nw := nw) (sc := 1) (me := 1) (at_ := at_) (fo := nI k) (wr := wr) (ne := ne) (sg := sg) (z1 := s1) (z2 := s2) (z3 := s3) T hd0 f1 f2 hL f4 (f5.trans (eC_eZ _ _ _)) r1 r2 (by omega)
      exact ⟨W, ns, ng, nw, lead, pl, rest, gCt.mk (by decide +kernel) (Nat.le_of_ble_eq_true rfl) rfl (b_Er_measureText_0 (fun _ y => absurd (e1.mpr z) y) (fun _ y => absurd (e1.mpr z) y) (fun _ _ => k_Er_measureText_42 c (b_Er_measureText_45 (b_Er_measureText_83 ⟨rfl, rfl⟩))) (fun y => absurd rfl y)), by omega, ⟨by omega, fun _ => by omega⟩, Or.inr (Or.inl ⟨z, hz⟩)⟩
    · refine ⟨W, ns, ng, nw, 2 ^ 62, 1073741824, false, gCt.mk (by decide +kernel) (Nat.le_of_ble_eq_true rfl) rfl (b_Er_measureText_0 (fun _ _ _ => k_Er_measureText_80 c_Si_setInfinite (b_Er_measureText_83 ⟨rfl, rfl⟩)) (fun _ _ y => ?_) (fun _ y => ?_) (fun y => absurd rfl y)), by decide, ⟨by decide, fun y => absurd y (by omega)⟩, Or.inr (Or.inr ⟨z, rfl, rfl, rfl⟩)⟩
      · have := e0.mp y; omega
      · have := e1.mp y; omega
  · subst hm h1 h2 h3
    exact ⟨W, ns, ng, nw, lead, pl, rest, gCt.mk (by decide +kernel) (Nat.le_of_ble_eq_true rfl) rfl (b_Er_measureText_0 (fun y => absurd y (by decide)) (fun y => absurd y (by decide)) (fun y => absurd y (by decide)) (fun _ => ⟨rfl, rfl⟩)), h4⟩
theorem ro_B_le {i lead : Nat} {pl : Int} {rest : Bool} (hi : i < 2) : ro_B i lead pl rest ≤ f_inf i * 2 ^ (f_p i - 1) := by
  unfold ro_B
  split
  · exact Nat.zero_le _
  · unfold rc_bits
    split
    · have h1 : 1 * 2 ^ (f_p i - 1) ≤ f_inf i * 2 ^ (f_p i - 1) := Nat.mul_le_mul_right _ (by have := (f_rng hi).2.2.1; omega)
      omega
    · exact Nat.min_le_right _ _
theorem f_sgn {i : Nat} (hi : i < 2) : f_inf i * 2 ^ (f_p i - 1) < 2 ^ (f_p i - 1 + f_e i) ∧ f_p i - 1 + f_e i < 64 := by
  rcases (show i = 0 ∨ i = 1 by omega) with rfl | rfl <;> decide +kernel
def bitV (i : Nat) (ng : Bool) (k lead : Nat) (pl : Int) (rest : Bool) : Nat :=
  if k = 3 then f_inf i * 2 ^ (f_p i - 1) + 2 ^ (f_p i - 2) else ro_B i lead pl rest + (if ng then 2 ^ (f_p i - 1 + f_e i) else 0)
theorem c_Er_bitsRead {i : Nat} {row : Nat → Int32} {len me at_ wr df dt sg fr ex : Int32} {W : Nat → Int32} {ns ng nw : Int32} {s1 : Int64} {s2 s3 : Int32} {o1 : Int64} {o2 o3 : Int32} {rm : Int64} {rk rf rl : Int32} {k d : Nat} {L : List (Option Nat)} {es : List Nat} {neg : Bool} (hi : i < 2) (T : tOk row len ch n) (hk : scOk ch n neg k d L es)
    (hd : k < 2 → df = nI d ∧ dt = nI (d + L.length) ∧ sg = nI (sgF 0 L) ∧ fr = nI (frF false 0 L) ∧ ex = eC ch (d + L.length) es) (hm : msd ch k d L es me s1 s2 s3) (hwr : wr = -1) :
    ∃ w2 lead pl rest, gCt l G m_Er_bitsRead [.ref x, .ref (g_adE G i)] (wX G x t tq e m q s o r row len 1 me at_ (nI k) wr (bI neg) df dt sg fr ex W ns ng nw s1 s2 s3 o1 o2 o3 rm rk rf rl) (some (.long (lN (bitV i neg k lead pl rest)))) w2 ∧ XI G x t tq e m q s o r ch n w2 ∧ (k ≠ 3 → szK ch k d L es lead pl rest) := by
  obtain ⟨hk3, _, _⟩ := hk.dg T.2.1
  have e3 : nI k = (3 : Int32) ↔ k = 3 := nI_eq (b := 3) (by omega) (by decide)
  by_cases z : k = 3
  · refine ⟨_, 0, 0, false, gCt.mk (by decide +kernel) (Nat.le_of_ble_eq_true rfl) rfl (b_Er_bitsRead_0 (fun y => absurd (e3.mpr z) y) (fun _ => k_Er_bitsRead_12 hi (c_Fm_bitsOfNoNumber hi) (b_Er_bitsRead_15 ⟨vl ?_, rfl⟩))), ⟨row, len, 1, me, at_, nI k, wr, bI neg, df, dt, sg, fr, ex, W, ns, ng, nw, s1, s2, s3, o1, o2, o3, rm, rk, rf, rl, rfl, T, Or.inr ⟨rfl, Or.inl ⟨neg, k, d, L, es, hk, rfl, hwr, rfl, hd, hm⟩⟩⟩, fun y => absurd z y⟩
    unfold bitV
    rw [if_pos z]
  · obtain ⟨W2, ns2, ng2, nw2, lead, pl, rest, c, hz⟩ := c_Er_measureText (l := l) (G := G) (x := x) (t := t) (tq := tq) (e := e) (m := m) (q := q) (s := s) (o := o) (r := r) (at_ := at_) (wr := wr) (ne := bI neg) (W := W) (ns := ns) (ng := ng) (nw := nw) (o1 := o1) (o2 := o2) (o3 := o3) (rm := rm) (rk := rk) (rf := rf) (rl := rl) T hk hd hm
    obtain ⟨m2, k2, f2, c2, c3⟩ := c_Ro_round (l := l) (G := G) (a := r) (b := s) (i := i) (lead := lead) (pl := pl) (rest := rest) (m := rm) (k := rk) (f := rf) (s := rl) hi hz.lead hz.1 hz.2.1.1
    refine ⟨wX G x t tq e m q s o r row len 1 1 at_ (nI k) wr (bI neg) df dt sg fr ex W2 ns2 ng2 nw2 (lN lead) (zI pl) (bI rest) o1 o2 o3 m2 k2 f2 (zI (ro_S i lead pl rest)), lead, pl, rest, gCt.mk (by decide +kernel) (Nat.le_of_ble_eq_true rfl) rfl (b_Er_bitsRead_0 (fun _ => k_Er_bitsRead_17 c (b_Er_bitsRead_20 (k_Er_bitsRead_29 c2 (b_Er_bitsRead_32 (k_Er_bitsRead_37 c3 (b_Er_bitsRead_40 (fun y => b_Er_bitsRead_61 ⟨vl ?_, rfl⟩) (fun y => k_Er_bitsRead_53 hi (c_Fm_signBit hi) (b_Er_bitsRead_56 (b_Er_bitsRead_61 ⟨vl ?_, rfl⟩))))))))) (fun y => absurd (e3.mp y) z)), ⟨row, len, 1, 1, at_, nI k, wr, bI neg, df, dt, sg, fr, ex, W2, ns2, ng2, nw2, lN lead, zI pl, bI rest, o1, o2, o3, m2, k2, f2, zI (ro_S i lead pl rest), rfl, T, Or.inr ⟨rfl, Or.inl ⟨neg, k, d, L, es, hk, rfl, hwr, rfl, hd, Or.inr ⟨rfl, lead, pl, rest, rfl, rfl, rfl, hz⟩⟩⟩⟩, fun _ => hz⟩
    · unfold bitV
      rw [if_neg z, bI_0.mp y]
      rfl
    · have hn : neg = true := by
        cases neg with
        | true => rfl
        | false => exact absurd rfl y
      have hB := ro_B_le (lead := lead) (pl := pl) (rest := rest) hi
      obtain ⟨h1, h2⟩ := f_sgn hi
      unfold bitV
      rw [if_neg z, hn, if_pos rfl]
      have hlt : ro_B i lead pl rest + 1 * 2 ^ (f_p i - 1 + f_e i) < 2 ^ 64 := by
        have h3 : 2 ^ (f_p i - 1 + f_e i) ≤ 2 ^ 63 := Nat.pow_le_pow_right (by decide) (by omega)
        omega
      have := g_or' (k := f_p i - 1 + f_e i) (a := ro_B i lead pl rest) (b := 1) rfl (by omega) hlt
      rw [Nat.one_mul] at this
      rw [this]
end Er2
