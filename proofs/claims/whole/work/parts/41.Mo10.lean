/-! CONTRACTS: the model, 10: findHexadecimal -/
def fl (Q : Nat) (i : Int) : Nat := Q * 2 ^ (-i).toNat / 2 ^ i.toNat
theorem fl_step (Q : Nat) (i : Int) : fl Q (i - 1) = 2 * fl Q i + qb Q (i - 1) := by
  unfold fl qb
  rcases Int.le_total i 0 with z | z
  · rw [if_pos (by omega), show (i - 1).toNat = 0 by omega, show i.toNat = 0 by omega, Nat.pow_zero, Nat.div_one, Nat.div_one, show (-(i - 1)).toNat = (-i).toNat + 1 by omega, Nat.pow_succ, ← Nat.mul_assoc]
    omega
  · rcases (show i = 0 ∨ 1 ≤ i by omega) with y | y
    · subst y
      rw [if_pos (by decide)]
      show Q * 2 ^ 1 / 2 ^ 0 = 2 * (Q * 2 ^ 0 / 2 ^ 0) + 0
      simp
      omega
    · rw [if_neg (by omega), show (-(i - 1)).toNat = 0 by omega, show (-i).toNat = 0 by omega, Nat.pow_zero, Nat.mul_one, show i.toNat = (i - 1).toNat + 1 by omega, Nat.pow_succ, ← Nat.div_div_eq_div_mul]
      omega
theorem qb_lt (Q : Nat) (i : Int) : qb Q i < 2 := by
  unfold qb
  split
  · decide
  · exact Nat.mod_lt _ (by decide)
theorem mod_bit (Q r : Nat) : Q % 2 ^ (r + 1) = Q % 2 ^ r + 2 ^ r * (Q / 2 ^ r % 2) := by
  rw [Nat.pow_succ, Nat.mod_mul]
theorem rc_fl2 {Q : Nat} {i : Int} : rc_cls (Q * 2 ^ (-i).toNat % 2 ^ i.toNat) (2 ^ i.toNat) = if qb Q (i - 1) = 1 then (if Q % 2 ^ (i - 1).toNat ≠ 0 then 3 else 2) else if Q % 2 ^ (i - 1).toNat ≠ 0 then 1 else 0 := by
  rcases (show i ≤ 0 ∨ 1 ≤ i by omega) with z | z
  · have e : qb Q (i - 1) = 0 := by unfold qb; rw [if_pos (by omega)]
    rw [e, show i.toNat = 0 by omega, show (i - 1).toNat = 0 by omega, Nat.pow_zero, Nat.mod_one, Nat.mod_one]
    rfl
  · obtain ⟨r, hr⟩ : ∃ r : Nat, i = r + 1 := ⟨(i - 1).toNat, by omega⟩
    subst hr
    have e : qb Q ((r : Int) + 1 - 1) = Q / 2 ^ r % 2 := by
      unfold qb
      rw [if_neg (by omega), show ((r : Int) + 1 - 1).toNat = r by omega]
    have hb : Q / 2 ^ r % 2 < 2 := Nat.mod_lt _ (by decide)
    have hm : Q % 2 ^ r < 2 ^ r := Nat.mod_lt _ (Nat.two_pow_pos r)
    have hp := Nat.two_pow_pos r
    rw [e, show (-((r : Int) + 1)).toNat = 0 by omega, Nat.pow_zero, Nat.mul_one, show ((r : Int) + 1).toNat = r + 1 by omega, show ((r : Int) + 1 - 1).toNat = r by omega, mod_bit, Nat.pow_succ]
    unfold rc_cls
    generalize Q / 2 ^ r % 2 = b at *
    generalize Q % 2 ^ r = v at *
    generalize 2 ^ r = w at *
    rcases (show b = 0 ∨ b = 1 by omega) with y | y
    · subst y
      rw [Nat.mul_zero, Nat.add_zero, if_neg (by decide : ¬ (0 : Nat) = 1)]
      by_cases x : v = 0
      · rw [if_pos x, if_neg (by omega)]
      · rw [if_neg x, if_pos x, if_pos (by omega)]
    · subst y
      rw [Nat.mul_one, if_pos (rfl : (1 : Nat) = 1), if_neg (by omega), if_neg (by omega)]
      by_cases x : v = 0
      · rw [if_pos (by omega : 2 * (v + w) = w * 2), if_neg (by omega)]
      · rw [if_neg (by omega : ¬ 2 * (v + w) = w * 2), if_pos x]
section Mo10
variable {l : Launch} {G : gG} {m ta fa wa : Nat} {th len ki pc be : Int32} {tx fg wd : Nat → Int32}
theorem a_Mo_more {w0 w1 : va_W} {ds : Nat → Nat} {M pt r : Nat} {E : Int} {fm to : Int32} {wh sc : Int64} {re hu : Int32} {x1 x2 x3 x4 : Int32} {x5 : Int64} (hM : M ≤ 4096) (hpt : pt ≤ 4096) (hds : ∀ j, j < M → ds j < 16) (hfg : ∀ j, j < M → fg j = nI (ds j)) (hE1 : -100000000000 ≤ E) (hE2 : E ≤ 100000000000)
    (fin : ∀ x10, gAt l G m_Mo_findHexadecimal w0 none w1 268 [(0, .ref m), (1, .int x1), (2, .int x2), (3, .int x3), (4, .int x4), (5, .long x5), (7, .int (bI (decide (nx ds M % 2 ^ r ≠ 0)))), (8, .long (zL (E - 4 * ((M : Int) - pt)))), (10, .long x10)] [] (wM G m ta fa wa th len ki pc be (nI M) (nI pt) (zL E) fm to wh sc re hu tx fg wd)) (hr : r ≤ 100000) :
    ∀ (d : Nat), d ≤ r → (nx ds M % 2 ^ r ≠ 0 ↔ nx ds M % 2 ^ d ≠ 0) → gAt l G m_Mo_findHexadecimal w0 none w1 229 [(0, .ref m), (1, .int x1), (2, .int x2), (3, .int x3), (4, .int x4), (5, .long x5), (7, .int (0 : Int32)), (8, .long (zL (E - 4 * ((M : Int) - pt)))), (10, .long (zL (E - 4 * ((M : Int) - pt) + d - 1)))] [] (wM G m ta fa wa th len ki pc be (nI M) (nI pt) (zL E) fm to wh sc re hu tx fg wd) := by
  intro d
  induction d with
  | zero =>
    intro _ hd
    have h0 : ¬ nx ds M % 2 ^ r ≠ 0 := fun z => hd.mp z (by rw [Nat.pow_zero, Nat.mod_one])
    rw [decide_eq_false h0] at fin
    have hlt : lg_cmp (zL (E - 4 * ((M : Int) - pt) + (0 : Nat) - 1)) (zL (E - 4 * ((M : Int) - pt))) < 0 := by
      rw [lgc_lt, zL_lt (by omega) (by omega) (by omega) (by omega)]
      omega
    exact b_Mo_findHexadecimal_229 (fun _ => fin _) (fun z => absurd hlt z) (fun z => absurd hlt z)
  | succ d ih =>
    intro hdr hd
    have hlt : ¬ lg_cmp (zL (E - 4 * ((M : Int) - pt) + (d + 1 : Nat) - 1)) (zL (E - 4 * ((M : Int) - pt))) < 0 := by
      rw [lgc_lt, zL_lt (by omega) (by omega) (by omega) (by omega)]
      omega
    have cb := c_Mo_bitAt (l := l) (G := G) (m := m) (ta := ta) (fa := fa) (wa := wa) (th := th) (len := len) (ki := ki) (pc := pc) (be := be) (tx := tx) (wd := wd) (fm := fm) (to := to) (wh := wh) (sc := sc) (re := re) (hu := hu) (pw := E - 4 * ((M : Int) - pt) + (d + 1 : Nat) - 1) hM hpt hds hfg hE1 hE2 (by omega) (by omega)
    have ei : E - 4 * ((M : Int) - pt) + (d + 1 : Nat) - 1 - E + 4 * ((M : Int) - pt) = (d : Int) := by omega
    have eq : qb (nx ds M) (d : Int) = nx ds M / 2 ^ d % 2 := by
      unfold qb
      rw [if_neg (by omega), Int.toNat_natCast]
    rw [ei, eq] at cb
    have hb : nx ds M / 2 ^ d % 2 < 2 := Nat.mod_lt _ (by decide)
    have e1 : nI (nx ds M / 2 ^ d % 2) = (1 : Int32) ↔ nx ds M / 2 ^ d % 2 = 1 := nI_eq (b := 1) (by omega) (by decide)
    have hmb := mod_bit (nx ds M) d
    refine b_Mo_findHexadecimal_229 (fun z => absurd z hlt) (fun _ z => absurd rfl z) (fun _ _ => k_Mo_findHexadecimal_245 cb (b_Mo_findHexadecimal_248 (fun z => b_Mo_findHexadecimal_257 ?_) (fun z => b_Mo_findHexadecimal_257 ?_)))
    · have z : nx ds M / 2 ^ d % 2 = 0 := by
        have : ¬ nx ds M / 2 ^ d % 2 = 1 := fun y => z (e1.mpr y)
        omega
      rw [z, Nat.mul_zero, Nat.add_zero] at hmb
      have e2 : zL (E - 4 * ((M : Int) - pt) + (d + 1 : Nat) - 1) - (1 : Int64) = zL (E - 4 * ((M : Int) - pt) + (d : Nat) - 1) := by
        rw [show (1 : Int64) = zL 1 from rfl, zL_sub]
        congr 1
        omega
      rw [e2]
      exact ih (by omega) (by rw [hmb] at hd; exact hd)
    · have z := e1.mp z
      rw [z, Nat.mul_one] at hmb
      have hp := Nat.two_pow_pos d
      have hne : nx ds M % 2 ^ r ≠ 0 := hd.mpr (by rw [hmb]; exact Nat.ne_of_gt (Nat.lt_of_lt_of_le hp (Nat.le_add_left _ _)))
      rw [decide_eq_true hne] at fin
      exact b_Mo_findHexadecimal_229 (fun _ => fin _) (fun _ _ => fin _) (fun _ y => absurd y (by decide))
theorem a_Mo_whole {w0 w1 : va_W} {ds : Nat → Nat} {M pt : Nat} {E scale : Int} {fm to : Int32} {re hu : Int32} {x1 x2 x3 x4 : Int32} {x5 : Int64} (hM : M ≤ 4096) (hpt : pt ≤ 4096) (hds : ∀ j, j < M → ds j < 16) (hfg : ∀ j, j < M → fg j = nI (ds j)) (hE1 : -100000000000 ≤ E) (hE2 : E ≤ 100000000000) (hs1 : -5000 ≤ scale) (hs2 : scale ≤ 5000)
    (fin : gAt l G m_Mo_findHexadecimal w0 none w1 229 [(0, .ref m), (1, .int x1), (2, .int x2), (3, .int x3), (4, .int x4), (5, .long x5), (7, .int (0 : Int32)), (8, .long (zL (E - 4 * ((M : Int) - pt)))), (10, .long (zL (scale - 2)))] [] (wM G m ta fa wa th len ki pc be (nI M) (nI pt) (zL E) fm to (lN (fl (nx ds M) (scale - (E - 4 * ((M : Int) - pt))))) (zL scale) re hu tx fg wd)) :
    ∀ (d : Nat), d ≤ 10000 → gAt l G m_Mo_findHexadecimal w0 none w1 156 [(0, .ref m), (1, .int x1), (2, .int x2), (3, .int x3), (4, .int x4), (5, .long x5), (7, .long (zL (scale + d - 1)))] [] (wM G m ta fa wa th len ki pc be (nI M) (nI pt) (zL E) fm to (lN (fl (nx ds M) (scale + d - (E - 4 * ((M : Int) - pt))))) (zL scale) re hu tx fg wd) := by
  intro d
  induction d with
  | zero =>
    intro _
    have hlt : lg_cmp (zL (scale + (0 : Nat) - 1)) (zL scale) < 0 := by
      rw [lgc_lt, zL_lt (by omega) (by omega) (by omega) (by omega)]
      omega
    have ee : ((4 : Int64) * (Int32.toInt64 (nI pt - nI M))) + zL E = zL (E - 4 * ((M : Int) - pt)) := by
      rw [← zI_nat, ← zI_nat, zI_sub, zI_l (by omega) (by omega), show (4 : Int64) = zL 4 from rfl, zL_mul, zL_add]
      congr 1
      omega
    have e2 : zL scale - (2 : Int64) = zL (scale - 2) := by rw [show (2 : Int64) = zL 2 from rfl, zL_sub]
    have e3 : scale + ((0 : Nat) : Int) - (E - 4 * ((M : Int) - pt)) = scale - (E - 4 * ((M : Int) - pt)) := by omega
    rw [e3]
    refine b_Mo_findHexadecimal_156 (fun _ => ?_) (fun z => absurd hlt z)
    rw [ee, e2]
    exact fin
  | succ d ih =>
    intro hd
    have hlt : ¬ lg_cmp (zL (scale + (d + 1 : Nat) - 1)) (zL scale) < 0 := by
      rw [lgc_lt, zL_lt (by omega) (by omega) (by omega) (by omega)]
      omega
    have cb := fun wh => c_Mo_bitAt (l := l) (G := G) (m := m) (ta := ta) (fa := fa) (wa := wa) (th := th) (len := len) (ki := ki) (pc := pc) (be := be) (tx := tx) (wd := wd) (fm := fm) (to := to) (wh := wh) (sc := zL scale) (re := re) (hu := hu) (pw := scale + (d + 1 : Nat) - 1) hM hpt hds hfg hE1 hE2 (by omega) (by omega)
    have ei : scale + ((d + 1 : Nat) : Int) - 1 - E + 4 * ((M : Int) - pt) = scale + ((d + 1 : Nat) : Int) - (E - 4 * ((M : Int) - pt)) - 1 := by omega
    rw [ei] at cb
    have hstep := fl_step (nx ds M) (scale + ((d + 1 : Nat) : Int) - (E - 4 * ((M : Int) - pt)))
    have en : scale + ((d + 1 : Nat) : Int) - (E - 4 * ((M : Int) - pt)) - 1 = scale + (d : Nat) - (E - 4 * ((M : Int) - pt)) := by omega
    have hq := qb_lt (nx ds M) (scale + ((d + 1 : Nat) : Int) - (E - 4 * ((M : Int) - pt)) - 1)
    refine b_Mo_findHexadecimal_156 (fun z => absurd z hlt) (fun _ => k_Mo_findHexadecimal_178 (cb _) (b_Mo_findHexadecimal_181 ?_))
    have e2 : zL (scale + ((d + 1 : Nat) : Int) - 1) - (1 : Int64) = zL (scale + (d : Nat) - 1) := by
      rw [show (1 : Int64) = zL 1 from rfl, zL_sub]
      congr 1
      omega
    rw [e2, nI_l (by omega), show (2 : Int64) = lN 2 from rfl, lN_mul, lN_add, ← hstep, en]
    exact ih (by omega)
theorem c_Mo_findHexadecimal {ds : Nat → Nat} {f0 M pt p jt : Nat} {E least : Int} {fm to : Int32} {wh sc : Int64} {re hu : Int32} (hM : M ≤ 4096) (hf0 : f0 < M) (hpt : pt ≤ 4096) (hds : ∀ j, j < M → ds j < 16) (hfg : ∀ j, j < M → fg j = nI (ds j)) (hE1 : -20000000000 ≤ E) (hE2 : E ≤ 20000000000) (hp1 : 2 ≤ p) (hp2 : p ≤ 53) (hl1 : -2000 ≤ least) (hl2 : least ≤ 0)
    (hb : bin (ds f0) jt) (hB : bin (nx ds M) (4 * (M - 1 - f0) + jt)) (h1 : -2000 ≤ 4 * ((pt : Int) - f0) - 4 + jt + E) (h2 : 4 * ((pt : Int) - f0) - 4 + jt + E ≤ 2000) :
    ∃ whole scale rest, gCt l G m_Mo_findHexadecimal [.ref m, .int (nI f0), .int (nI p), .int (zI least)] (wM G m ta fa wa th len ki pc be (nI M) (nI pt) (zL E) fm to wh sc re hu tx fg wd) none (wM G m ta fa wa th len ki pc be (nI M) (nI pt) (zL E) fm to (lN whole) (zL scale) (nI rest) 0 tx fg wd) ∧
      fR (nx ds M * 2 ^ (E - 4 * ((M : Int) - pt)).toNat) (2 ^ (-(E - 4 * ((M : Int) - pt))).toNat) p least whole scale rest ∧ scale ≤ 10000 := by
  have hd16 := hds f0 hf0
  have hjt : jt < 4 := (bin_lt hb 4).mp hd16
  generalize htop : 4 * ((pt : Int) - f0) - 4 + jt + E = top at *
  obtain ⟨scale, hsc⟩ : ∃ scale : Int, scale = if least < top - p + 1 then top - p + 1 else least := ⟨_, rfl⟩
  have hs1 : least ≤ scale := by rw [hsc]; split <;> omega
  have hs2 : scale ≤ 2000 := by rw [hsc]; split <;> omega
  have hs3 : top - p + 1 ≤ scale := by rw [hsc]; split <;> omega
  generalize hend : E - 4 * ((M : Int) - pt) = En at *
  have hit : top - En = (4 * (M - 1 - f0) + jt : Nat) := by omega
  have hlow : ∀ i : Int, top + 1 - En ≤ i → fl (nx ds M) i = 0 := by
    intro i hi
    unfold fl
    rw [show (-i).toNat = 0 by omega, Nat.pow_zero, Nat.mul_one]
    exact Nat.div_eq_of_lt ((bin_lt hB _).mpr (by omega))
  obtain ⟨rest, hrest⟩ : ∃ rest, rest = rc_cls (nx ds M * 2 ^ (-(scale - En)).toNat % 2 ^ (scale - En).toNat) (2 ^ (scale - En).toNat) := ⟨_, rfl⟩
  have hflt : fl (nx ds M) (scale - En) < 2 ^ p := by
    unfold fl
    rw [Nat.div_lt_iff_lt_mul (Nat.two_pow_pos _), ← Nat.pow_add]
    have hB2 := bin_mul (c := (-(scale - En)).toNat) hB
    exact (bin_lt hB2 _).mpr (by omega)
  have hpw : 2 ^ p ≤ 2 ^ 53 := Nat.pow_le_pow_right (by decide) hp2
  have hfR : fR (nx ds M * 2 ^ En.toNat) (2 ^ (-En).toNat) p least (fl (nx ds M) (scale - En)) scale rest := by
    refine ⟨fC_one ((-En).toNat + (-(scale - En)).toNat) (En.toNat + (scale - En).toNat) (by omega) ?_, hs1, hflt, ?_⟩
    · have e1 : nx ds M * 2 ^ En.toNat * 2 ^ ((-En).toNat + (-(scale - En)).toNat) = nx ds M * 2 ^ (-(scale - En)).toNat * (2 ^ En.toNat * 2 ^ (-En).toNat) := by
        rw [Nat.pow_add, mul4]
      have e2 : 2 ^ (-En).toNat * 2 ^ (En.toNat + (scale - En).toNat) = 2 ^ (scale - En).toNat * (2 ^ En.toNat * 2 ^ (-En).toNat) := by
        rw [← Nat.pow_add, ← Nat.pow_add, ← Nat.pow_add]
        congr 1
        omega
      rw [e1, e2, fI1_mul (Nat.mul_pos (Nat.two_pow_pos _) (Nat.two_pow_pos _))]
      exact ⟨rfl, hrest⟩
    · by_cases z : least < top - p + 1
      · right
        rw [if_pos z] at hsc
        unfold fl
        have hB2 := bin_mul (c := (-(scale - En)).toNat) hB
        rw [Nat.le_div_iff_mul_le (Nat.two_pow_pos _), ← Nat.pow_add]
        exact Nat.le_trans (Nat.pow_le_pow_right (by decide) (by omega)) hB2.1
      · left
        rw [if_neg z] at hsc
        exact hsc
  refine ⟨fl (nx ds M) (scale - En), scale, rest, ?_, hfR, by omega⟩
  -- the end: the bit behind, and more
  have fin : ∀ (w0 : va_W) (x1 x2 x3 x4 : Int32) (x5 : Int64), gAt l G m_Mo_findHexadecimal w0 none (wM G m ta fa wa th len ki pc be (nI M) (nI pt) (zL E) fm to (lN (fl (nx ds M) (scale - En))) (zL scale) (nI rest) 0 tx fg wd) 229 [(0, .ref m), (1, .int x1), (2, .int x2), (3, .int x3), (4, .int x4), (5, .long x5), (7, .int (0 : Int32)), (8, .long (zL En)), (10, .long (zL (scale - 2)))] [] (wM G m ta fa wa th len ki pc be (nI M) (nI pt) (zL E) fm to (lN (fl (nx ds M) (scale - En))) (zL scale) 1 0 tx fg wd) := by
    intro w0 x1 x2 x3 x4 x5
    have cb := c_Mo_bitAt (l := l) (G := G) (m := m) (ta := ta) (fa := fa) (wa := wa) (th := th) (len := len) (ki := ki) (pc := pc) (be := be) (tx := tx) (wd := wd) (fm := fm) (to := to) (wh := lN (fl (nx ds M) (scale - En))) (sc := zL scale) (re := 1) (hu := 0) (E := E) (pw := scale - 1) hM hpt hds hfg (by omega) (by omega) (by omega) (by omega)
    rw [show scale - 1 - E + 4 * ((M : Int) - pt) = scale - En - 1 by omega] at cb
    have hq := qb_lt (nx ds M) (scale - En - 1)
    have e1 : nI (qb (nx ds M) (scale - En - 1)) = (1 : Int32) ↔ qb (nx ds M) (scale - En - 1) = 1 := nI_eq (b := 1) (by omega) (by decide)
    have hrest2 := hrest
    rw [rc_fl2] at hrest2
    have tail : ∀ x10 : Int64, gAt l G m_Mo_findHexadecimal w0 none (wM G m ta fa wa th len ki pc be (nI M) (nI pt) (zL E) fm to (lN (fl (nx ds M) (scale - En))) (zL scale) (nI rest) 0 tx fg wd) 268 [(0, .ref m), (1, .int x1), (2, .int x2), (3, .int x3), (4, .int x4), (5, .long x5), (7, .int (bI (decide (nx ds M % 2 ^ (scale - En - 1).toNat ≠ 0)))), (8, .long (zL En)), (10, .long x10)] [] (wM G m ta fa wa th len ki pc be (nI M) (nI pt) (zL E) fm to (lN (fl (nx ds M) (scale - En))) (zL scale) 1 0 tx fg wd) := by
      intro x10
      refine b_Mo_findHexadecimal_268 ?_
      rw [show zL scale - (1 : Int64) = zL (scale - 1) by rw [show (1 : Int64) = zL 1 from rfl, zL_sub]]
      refine k_Mo_findHexadecimal_276 cb (b_Mo_findHexadecimal_279 (fun y x => b_Mo_findHexadecimal_306 ⟨rfl, ?_⟩) (fun y x => b_Mo_findHexadecimal_306 ⟨rfl, ?_⟩) (fun y x => b_Mo_findHexadecimal_306 ⟨rfl, ?_⟩) (fun y x => b_Mo_findHexadecimal_306 ⟨rfl, ?_⟩))
      · have y : ¬ qb (nx ds M) (scale - En - 1) = 1 := fun v => y (e1.mpr v)
        have x := of_decide_eq_false (bI_0.mp x)
        rw [if_neg y, if_neg x] at hrest2
        rw [hrest2]; rfl
      · have y : ¬ qb (nx ds M) (scale - En - 1) = 1 := fun v => y (e1.mpr v)
        have x : nx ds M % 2 ^ (scale - En - 1).toNat ≠ 0 := fun v => x (bI_0.mpr (decide_eq_false (fun u => u v)))
        rw [if_neg y, if_pos x] at hrest2
        rw [hrest2]; rfl
      · have y := e1.mp y
        have x := of_decide_eq_false (bI_0.mp x)
        rw [if_pos y, if_neg x] at hrest2
        rw [hrest2]; rfl
      · have y := e1.mp y
        have x : nx ds M % 2 ^ (scale - En - 1).toNat ≠ 0 := fun v => x (bI_0.mpr (decide_eq_false (fun u => u v)))
        rw [if_pos y, if_pos x] at hrest2
        rw [hrest2]; rfl
    by_cases z : 1 ≤ scale - En - 1
    · have hr : (scale - En - 1).toNat ≤ 100000000000 := by omega
      by_cases zr : (scale - En - 1).toNat ≤ 100000
      · have hm := a_Mo_more (l := l) (G := G) (m := m) (ta := ta) (fa := fa) (wa := wa) (th := th) (len := len) (ki := ki) (pc := pc) (be := be) (tx := tx) (wd := wd) (fm := fm) (to := to) (wh := lN (fl (nx ds M) (scale - En))) (sc := zL scale) (re := 1) (hu := 0) (w0 := w0) (w1 := wM G m ta fa wa th len ki pc be (nI M) (nI pt) (zL E) fm to (lN (fl (nx ds M) (scale - En))) (zL scale) (nI rest) 0 tx fg wd) (x1 := x1) (x2 := x2) (x3 := x3) (x4 := x4) (x5 := x5) (E := E) (r := (scale - En - 1).toNat) hM hpt hds hfg (by omega) (by omega) (fun x10 => by rw [hend]; exact tail x10) zr (scale - En - 1).toNat (Nat.le_refl _) Iff.rfl
        rw [hend, show En + ((scale - En - 1).toNat : Nat) - 1 = scale - 2 by omega] at hm
        exact hm
      · exfalso
        omega
    · have tl := tail (zL (scale - 2))
      rw [show (scale - En - 1).toNat = 0 by omega, Nat.pow_zero, Nat.mod_one] at tl
      have hlt : lg_cmp (zL (scale - 2)) (zL En) < 0 := by
        rw [lgc_lt, zL_lt (by omega) (by omega) (by omega) (by omega)]
        omega
      exact b_Mo_findHexadecimal_229 (fun _ => tl) (fun y => absurd hlt y) (fun y => absurd hlt y)
  -- the beginning
  have hv : ∀ v0 : Nat, v0 = jt + 1 → gAt l G m_Mo_findHexadecimal (wM G m ta fa wa th len ki pc be (nI M) (nI pt) (zL E) fm to wh sc re hu tx fg wd) none (wM G m ta fa wa th len ki pc be (nI M) (nI pt) (zL E) fm to (lN (fl (nx ds M) (scale - En))) (zL scale) (nI rest) 0 tx fg wd) 44 [(0, .ref m), (1, .int (nI f0)), (2, .int (nI p)), (3, .int (zI least))] [.int (nI v0)] (wM G m ta fa wa th len ki pc be (nI M) (nI pt) (zL E) fm to wh sc re hu tx fg wd) := by
    intro v0 hv0
    subst hv0
    have et : ((((4 : Int64) * (Int32.toInt64 (nI pt - nI f0))) - (5 : Int64)) + (Int32.toInt64 (nI (jt + 1)))) + zL E = zL top := by
      rw [← zI_nat pt, ← zI_nat f0, zI_sub, zI_l (by omega) (by omega), nI_l (by omega), ← zL_nat, show (4 : Int64) = zL 4 from rfl, show (5 : Int64) = zL 5 from rfl, zL_mul, zL_sub, zL_add, zL_add]
      congr 1
      omega
    have el : (zI least).toInt64 = zL least := zI_l (by omega) (by omega)
    have ep : (nI p).toInt64 = zL p := by rw [nI_l (by omega), zL_nat]
    have c2 : lg_cmp (zL top) (2000 : Int64) ≤ 0 := by
      rw [lgc_le0, show (2000 : Int64) = zL 2000 from rfl, zL_lt (by decide) (by decide) (by omega) (by omega)]
      omega
    have c3 : 0 ≤ lg_cmp (zL top) (-2000 : Int64) := by
      rw [lgc_ge, show (-2000 : Int64) = zL (-2000) by decide +kernel, zL_lt (by omega) (by omega) (by decide) (by decide)]
      omega
    have es : (zL top - (Int32.toInt64 (nI p))) + (1 : Int64) = zL (top - p + 1) := by
      rw [ep, show (1 : Int64) = zL 1 from rfl, zL_sub, zL_add]
    have c4 : lg_cmp (zL (top - p + 1)) (zL least) ≤ 0 ↔ ¬ least < top - p + 1 := by
      rw [lgc_le0, zL_lt (by omega) (by omega) (by omega) (by omega)]
    have go : gAt l G m_Mo_findHexadecimal (wM G m ta fa wa th len ki pc be (nI M) (nI pt) (zL E) fm to wh sc re hu tx fg wd) none (wM G m ta fa wa th len ki pc be (nI M) (nI pt) (zL E) fm to (lN (fl (nx ds M) (scale - En))) (zL scale) (nI rest) 0 tx fg wd) 149 [(0, .ref m), (1, .int (nI f0)), (2, .int (nI p)), (3, .int (zI least)), (4, .int (nI (jt + 1))), (5, .long (zL top))] [.long (zL scale), .ref m] (wM G m ta fa wa th len ki pc be (nI M) (nI pt) (zL E) fm to (0 : Int64) (zL least) 1 0 tx fg wd) := by
      refine b_Mo_findHexadecimal_149 ?_
      rcases Int.lt_or_le top scale with y | y
      · have h0 := hlow (scale - En) (by omega)
        have hlt : lg_cmp (zL top) (zL scale) < 0 := by
          rw [lgc_lt, zL_lt (by omega) (by omega) (by omega) (by omega)]
          exact y
        have f2 := fin (wM G m ta fa wa th len ki pc be (nI M) (nI pt) (zL E) fm to wh sc re hu tx fg wd) (nI f0) (nI p) (zI least) (nI (jt + 1)) (zL top)
        rw [h0] at f2 ⊢
        have ee : ((4 : Int64) * (Int32.toInt64 (nI pt - nI M))) + zL E = zL En := by
          rw [← zI_nat, ← zI_nat, zI_sub, zI_l (by omega) (by omega), show (4 : Int64) = zL 4 from rfl, zL_mul, zL_add]
          congr 1
          omega
        have e2 : zL scale - (2 : Int64) = zL (scale - 2) := by rw [show (2 : Int64) = zL 2 from rfl, zL_sub]
        refine b_Mo_findHexadecimal_156 (fun _ => ?_) (fun z => absurd hlt z)
        rw [ee, e2]
        exact f2
      · obtain ⟨d, hd⟩ : ∃ d : Nat, top + 1 - scale = d := ⟨_, (Int.toNat_of_nonneg (by omega)).symm⟩
        have hw := a_Mo_whole (l := l) (G := G) (m := m) (ta := ta) (fa := fa) (wa := wa) (th := th) (len := len) (ki := ki) (pc := pc) (be := be) (tx := tx) (wd := wd) (fm := fm) (to := to) (re := 1) (hu := 0) (w0 := wM G m ta fa wa th len ki pc be (nI M) (nI pt) (zL E) fm to wh sc re hu tx fg wd) (w1 := wM G m ta fa wa th len ki pc be (nI M) (nI pt) (zL E) fm to (lN (fl (nx ds M) (scale - En))) (zL scale) (nI rest) 0 tx fg wd) (x1 := nI f0) (x2 := nI p) (x3 := zI least) (x4 := nI (jt + 1)) (x5 := zL top) (E := E) (scale := scale) hM hpt hds hfg (by omega) (by omega) (by omega) (by omega) (by rw [hend]; exact fin _ _ _ _ _ _) d (by omega)
        rw [hend, hlow (scale + d - En) (by omega), show scale + (d : Int) - 1 = top by omega] at hw
        exact hw
    refine b_Mo_findHexadecimal_44 (fun _ => ?_) (fun z => ?_)
    · rw [et]
      refine b_Mo_findHexadecimal_87 ⟨rfl, rfl⟩ (fun z => absurd rfl z) (fun _ _ z => ?_) (fun _ _ z => ?_) (fun _ z => absurd c3 z)
      · rw [es, el] at z
        rw [if_neg (c4.mp z)] at hsc
        rw [el, ← hsc]
        rw [← hsc] at go
        exact go
      · rw [es, el] at z
        have z : least < top - p + 1 := by
          by_cases y : least < top - p + 1
          · exact y
          · exact absurd (c4.mpr y) z
        rw [if_pos z] at hsc
        rw [es, el, ← hsc]
        exact go
    · rw [et] at z
      exact absurd c2 z
  have hin : vp_in (nI f0) 4096 := vp_in_nI (by omega) (by decide)
  have hfd : fg (Int32.toNatClampNeg (nI f0)) = nI (ds f0) := by rw [nI_clamp (by omega), hfg f0 hf0]
  have d8 : nI (ds f0) < (8 : Int32) ↔ ds f0 < 2 ^ 3 := nI_ltI (b := 8) (by omega) (by decide)
  have d4 : nI (ds f0) < (4 : Int32) ↔ ds f0 < 2 ^ 2 := nI_ltI (b := 4) (by omega) (by decide)
  have d2 : nI (ds f0) < (2 : Int32) ↔ ds f0 < 2 ^ 1 := nI_ltI (b := 2) (by omega) (by decide)
  rw [bin_lt hb] at d8 d4 d2
  refine gCt.mk (by decide +kernel) (Nat.le_of_ble_eq_true rfl) rfl (b_Mo_findHexadecimal_0 hin (fun _ => hin) (fun _ _ => hin) (fun y1 y2 y3 => hv 1 ?_) (fun y1 y2 y3 => hv 2 ?_) (fun y1 y2 => hv 3 ?_) (fun y1 => hv 4 ?_))
  · rw [hfd] at y3
    have := d2.mp y3
    omega
  · rw [hfd] at y2 y3
    have := d4.mp y2
    have : ¬ jt < 1 := fun v => y3 (d2.mpr v)
    omega
  · rw [hfd] at y1 y2
    have := d8.mp y1
    have : ¬ jt < 2 := fun v => y2 (d4.mpr v)
    omega
  · rw [hfd] at y1
    have : ¬ jt < 3 := fun v => y1 (d8.mpr v)
    omega
end Mo10
