/-! CONTRACTS: the model, 13: bits, floatBits, side -/
theorem rc_bits_le {p f w u : Nat} (hf : 1 ≤ f) : rc_bits p f w u ≤ f * 2 ^ (p - 1) := by
  unfold rc_bits
  split
  · have h1 : 1 * 2 ^ (p - 1) ≤ f * 2 ^ (p - 1) := Nat.mul_le_mul_right _ hf
    omega
  · exact Nat.min_le_right _ _
theorem mB_le {i whole rest : Nat} {scale : Int} {huge : Bool} (hi : i < 2) : mB i whole scale rest huge ≤ f_inf i * 2 ^ (f_p i - 1) := by
  unfold mB
  split
  · exact Nat.le_refl _
  · exact rc_bits_le (by have := (f_rng hi).2.2.1; omega)
/-- the digits, as the model has them -/
def dsF (L : List (Option Nat)) (j : Nat) : Nat := (dF L).getD j 0
theorem dgs_dF {b : Nat} (hb : 0 < b) : ∀ L, dgs b L → ∀ j, dsF L j < b := by
  intro L
  induction L with
  | nil => intro _ j; exact hb
  | cons x L ih =>
    intro h j
    cases x with
    | none => exact ih h j
    | some d =>
      cases j with
      | zero => exact h.1
      | succ j => exact ih h.2 j
theorem ptF_le : ∀ (L : List (Option Nat)) (c : Nat), ptF c L ≤ c + L.length := by
  intro L
  induction L with
  | nil => intro c; exact Nat.le_refl _
  | cons x L ih =>
    intro c
    simp only [List.length_cons]
    cases x with
    | none => simp only [ptF]; omega
    | some d => have := ih (c + 1); simp only [ptF]; omega
/-- what the model finds of the text -/
def mK (ch : Nat → Nat) (k d : Nat) (L : List (Option Nat)) (es : List Nat) (p : Nat) (least : Int) (whole : Nat) (scale : Int) (rest : Nat) (huge : Bool) : Prop :=
  mF (mNumV k (dsF L) (dF L).length (ptF 0 L) (eMz ch (d + L.length) es)) (mDenV k (dF L).length (ptF 0 L) (eMz ch (d + L.length) es)) p least whole scale rest huge
theorem exL_of {ch : Nat → Nat} {n : Nat} {ng : Bool} {k d : Nat} {L : List (Option Nat)} {es : List Nat} (h : scOk ch n ng k d L es) (hk : k < 2) : ∃ q, exL ch q es ∨ es = [] := by
  obtain ⟨b, e, hb, _, hB, _⟩ := h
  rcases hB with h | h | h | h
  · omega
  · omega
  · exact ⟨_, Or.inl h.2.2.2.2.2.2.2.2.1⟩
  · rcases h.2.2.2.2.2.2.2 with h | h
    · exact ⟨_, Or.inl h.2.1⟩
    · exact ⟨0, Or.inr h.2.1⟩
theorem eMz_rng {ch : Nat → Nat} {n : Nat} {ng : Bool} {k d : Nat} {L : List (Option Nat)} {es : List Nat} (h : scOk ch n ng k d L es) (hk : k < 2) (p1 : Nat) : -10000000000 ≤ eMz ch p1 es ∧ eMz ch p1 es ≤ 10000000000 := by
  have : satM 0 es ≤ 10000000000 := by
    obtain ⟨q, h | h⟩ := exL_of h hk
    · exact satM_le es q 0 h (by decide)
    · subst h; decide
  unfold eMz
  split <;> omega
section Mo13
variable {l : Launch} {G : gG} {m ta fa wa : Nat} {th len pc be ma po : Int32} {ex : Int64} {fm to : Int32} {wh sc : Int64} {re hu : Int32} {tx fg wd : Nat → Int32} {ch : Nat → Nat} {n : Nat} {w : va_W}
theorem x_sizeRead {i k d : Nat} {ng : Bool} {L : List (Option Nat)} {es : List Nat} (hi : i < 2) (hk : k < 2) (T : tOk tx len ch n) (hs : scOk ch n ng k d L es) (hm : mNum ch k d L es ma po ex fg) :
    ∃ W2 fm2 to2 whole scale rest huge, gCt l G m_Mo_sizeRead [.ref m, .int (nI (f_p i)), .int (zI (f_least i))] (wM G m ta fa wa th len (nI k) pc be ma po ex fm to wh sc re hu tx fg wd) (some (.long (lN (mB i whole scale rest huge)))) (wM G m ta fa wa th len (nI k) pc be ma po ex fm2 to2 (lN whole) (zL scale) (nI rest) (bI huge) tx fg W2) ∧ mK ch k d L es (f_p i) (f_least i) whole scale rest huge := by
  obtain ⟨h1, h2, h3, h4⟩ := hm hk
  subst h1 h2 h3
  obtain ⟨_, g0, g1⟩ := hs.dg T.2.1
  have hn := T.2.1.1
  have hr := eMz_rng hs hk (d + L.length)
  have hdL := dF_len L
  have hpl := ptF_le L 0
  have key : d + L.length ≤ n ∧ dgs (if k = 0 then 10 else 16) L := by
    rcases (show k = 0 ∨ k = 1 by omega) with z | z
    · obtain ⟨a, b⟩ := g0 z
      rw [if_pos z]
      exact ⟨dgL_lt T.2.1 _ _ _ a b, dgL_dgs (Or.inl rfl) _ _ _ b⟩
    · obtain ⟨a, b⟩ := g1 z
      rw [if_neg (by omega)]
      exact ⟨dgL_lt T.2.1 _ _ _ a b, dgL_dgs (Or.inr rfl) _ _ _ b⟩
  exact c_Mo_sizeRead (ds := dsF L) hi hk (by omega) (by omega) (fun j _ => dgs_dF (by split <;> decide) L key.2 j) h4 (by omega) (by omega)
theorem c_Mo_sizeRead2 {i k : Nat} (hi : i < 2) (hk : k = 2 ∨ k = 3) : gCt l G m_Mo_sizeRead [.ref m, .int (nI (f_p i)), .int (zI (f_least i))] (wM G m ta fa wa th len (nI k) pc be ma po ex fm to wh sc re hu tx fg wd) (some (.long (lN (f_inf i * 2 ^ (f_p i - 1) + (if k = 3 then 2 ^ (f_p i - 2) else 0))))) (wM G m ta fa wa th len (nI k) pc be ma po ex fm to wh sc re hu tx fg wd) := by
  rcases (show i = 0 ∨ i = 1 by omega) with rfl | rfl
  · rcases hk with rfl | rfl
    · exact gCt.mk (by decide +kernel) (Nat.le_of_ble_eq_true rfl) rfl (b_Mo_sizeRead_0 (fun z => absurd z (by decide)) (fun _ z => absurd (by decide) z) (fun _ _ => b_Mo_sizeRead_23 (fun _ => b_Mo_sizeRead_44 ⟨vl (by decide +kernel), rfl⟩) (fun z => absurd z (by decide))))
    · exact gCt.mk (by decide +kernel) (Nat.le_of_ble_eq_true rfl) rfl (b_Mo_sizeRead_0 (fun z => absurd z (by decide)) (fun _ z => absurd (by decide) z) (fun _ _ => b_Mo_sizeRead_23 (fun z => absurd (by decide) z) (fun _ => b_Mo_sizeRead_44 ⟨vl (by decide +kernel), rfl⟩)))
  · rcases hk with rfl | rfl
    · exact gCt.mk (by decide +kernel) (Nat.le_of_ble_eq_true rfl) rfl (b_Mo_sizeRead_0 (fun z => absurd z (by decide)) (fun _ _ => b_Mo_sizeRead_23 (fun _ => b_Mo_sizeRead_44 ⟨vl (by decide +kernel), rfl⟩) (fun z => absurd z (by decide))) (fun _ z => absurd z (by decide)))
    · exact gCt.mk (by decide +kernel) (Nat.le_of_ble_eq_true rfl) rfl (b_Mo_sizeRead_0 (fun z => absurd z (by decide)) (fun _ _ => b_Mo_sizeRead_23 (fun z => absurd (by decide) z) (fun _ => b_Mo_sizeRead_44 ⟨vl (by decide +kernel), rfl⟩)) (fun _ z => absurd z (by decide)))
/-- the size that the model reads -/
def mSz (i k whole : Nat) (scale : Int) (rest : Nat) (huge : Bool) : Nat := if k < 2 then mB i whole scale rest huge else f_inf i * 2 ^ (f_p i - 1) + (if k = 3 then 2 ^ (f_p i - 2) else 0)
theorem y_sizeRead {i k d : Nat} {ng : Bool} {L : List (Option Nat)} {es : List Nat} (hi : i < 2) (T : tOk tx len ch n) (hs : scOk ch n ng k d L es) (hm : mNum ch k d L es ma po ex fg) :
    ∃ W2 fm2 to2 wh2 sc2 re2 hu2 whole scale rest huge, gCt l G m_Mo_sizeRead [.ref m, .int (nI (f_p i)), .int (zI (f_least i))] (wM G m ta fa wa th len (nI k) pc be ma po ex fm to wh sc re hu tx fg wd) (some (.long (lN (mSz i k whole scale rest huge)))) (wM G m ta fa wa th len (nI k) pc be ma po ex fm2 to2 wh2 sc2 re2 hu2 tx fg W2) ∧ (k < 2 → mK ch k d L es (f_p i) (f_least i) whole scale rest huge) := by
  by_cases z : k < 2
  · obtain ⟨W2, fm2, to2, whole, scale, rest, huge, c, h⟩ := x_sizeRead (l := l) (G := G) (m := m) (ta := ta) (fa := fa) (wa := wa) (th := th) (pc := pc) (be := be) (fm := fm) (to := to) (wh := wh) (sc := sc) (re := re) (hu := hu) (wd := wd) hi z T hs hm
    refine ⟨W2, fm2, to2, lN whole, zL scale, nI rest, bI huge, whole, scale, rest, huge, ?_, fun _ => h⟩
    unfold mSz
    rw [if_pos z]
    exact c
  · have h3 := (hs.dg T.2.1).1
    refine ⟨wd, fm, to, wh, sc, re, hu, 0, 0, 0, false, ?_, fun y => absurd y z⟩
    unfold mSz
    rw [if_neg z]
    exact c_Mo_sizeRead2 hi (by omega)
theorem m_bitsNo {wv : Nat} (h : MI G m ta fa wa ch n th w) (hs : scNo ch n wv) : ∃ w2, gCt l G m_Mo_bits [.ref m] w (some (.long 0)) w2 ∧ MI G m ta fa wa ch n 1 w2 := by
  obtain ⟨len, ki, pc, be, ma, po, ex, fm, to, wh, sc, re, hu, tx, fg, wd, rfl, T⟩ := h
  obtain ⟨ki2, be2, ma2, po2, ex2, fg2, c⟩ := c_Mo_scanNo (l := l) (G := G) (m := m) (ta := ta) (fa := fa) (wa := wa) (th := th) (ki := ki) (pc := pc) (be := be) (ma := ma) (po := po) (ex := ex) (fm := fm) (to := to) (wh := wh) (sc := sc) (re := re) (hu := hu) (fg := fg) (wd := wd) T hs
  exact ⟨_, gCt.mk (by decide +kernel) (Nat.le_of_ble_eq_true rfl) rfl (b_Mo_bits_0 (k_Mo_bits_2 c (b_Mo_bits_5 (fun _ => b_Mo_bits_13 (fun z => absurd z (by decide)) (fun _ => ⟨rfl, rfl⟩)) (fun z => absurd rfl z)))), len, _, _, _, ma2, po2, ex2, fm, to, wh, sc, re, hu, tx, fg2, wd, rfl, T⟩
theorem m_floatBitsNo {wv : Nat} (h : MI G m ta fa wa ch n th w) (hs : scNo ch n wv) : ∃ w2, gCt l G m_Mo_floatBits [.ref m] w (some (.int 0)) w2 ∧ MI G m ta fa wa ch n 1 w2 := by
  obtain ⟨len, ki, pc, be, ma, po, ex, fm, to, wh, sc, re, hu, tx, fg, wd, rfl, T⟩ := h
  obtain ⟨ki2, be2, ma2, po2, ex2, fg2, c⟩ := c_Mo_scanNo (l := l) (G := G) (m := m) (ta := ta) (fa := fa) (wa := wa) (th := th) (ki := ki) (pc := pc) (be := be) (ma := ma) (po := po) (ex := ex) (fm := fm) (to := to) (wh := wh) (sc := sc) (re := re) (hu := hu) (fg := fg) (wd := wd) T hs
  exact ⟨_, gCt.mk (by decide +kernel) (Nat.le_of_ble_eq_true rfl) rfl (b_Mo_floatBits_0 (k_Mo_floatBits_2 c (b_Mo_floatBits_5 (fun _ => b_Mo_floatBits_13 (fun z => absurd z (by decide)) (fun _ => ⟨rfl, rfl⟩)) (fun z => absurd rfl z)))), len, _, _, _, ma2, po2, ex2, fm, to, wh, sc, re, hu, tx, fg2, wd, rfl, T⟩
theorem m_sideNo {wv : Nat} {x : Int32} (h : MI G m ta fa wa ch n th w) (hs : scNo ch n wv) : ∃ w2, gCt l G m_Mo_side [.ref m, .int x] w (some (.int 0)) w2 ∧ MI G m ta fa wa ch n 1 w2 := by
  obtain ⟨len, ki, pc, be, ma, po, ex, fm, to, wh, sc, re, hu, tx, fg, wd, rfl, T⟩ := h
  obtain ⟨ki2, be2, ma2, po2, ex2, fg2, c⟩ := c_Mo_scanNo (l := l) (G := G) (m := m) (ta := ta) (fa := fa) (wa := wa) (th := th) (ki := ki) (pc := pc) (be := be) (ma := ma) (po := po) (ex := ex) (fm := fm) (to := to) (wh := wh) (sc := sc) (re := re) (hu := hu) (fg := fg) (wd := wd) T hs
  exact ⟨_, gCt.mk (by decide +kernel) (Nat.le_of_ble_eq_true rfl) rfl (b_Mo_side_0 (k_Mo_side_2 c (b_Mo_side_5 (fun _ => b_Mo_side_13 (fun _ => b_Mo_side_31 ⟨rfl, rfl⟩) (fun z => absurd (by decide) z) (fun z => absurd (by decide) z) (fun z => absurd (by decide) z)) (fun z => absurd rfl z)))), len, _, _, _, ma2, po2, ex2, fm, to, wh, sc, re, hu, tx, fg2, wd, rfl, T⟩
theorem mSz_lt {i k whole rest : Nat} {scale : Int} {huge : Bool} (hi : i < 2) (hk : k < 3) : mSz i k whole scale rest huge < 2 ^ (f_p i - 1 + f_e i) := by
  have h1 := (f_sgn hi).1
  unfold mSz
  split
  · have := mB_le (whole := whole) (rest := rest) (scale := scale) (huge := huge) hi
    omega
  · rw [if_neg (by omega)]
    omega
theorem m_bits {ng : Bool} {k d : Nat} {L : List (Option Nat)} {es : List Nat} (h : MI G m ta fa wa ch n th w) (hs : scOk ch n ng k d L es) :
    ∃ w2 whole scale rest huge, gCt l G m_Mo_bits [.ref m] w (some (.long (lN (mSz 0 k whole scale rest huge + (if ng ∧ k ≠ 3 then 2 ^ 63 else 0))))) w2 ∧ MI G m ta fa wa ch n 0 w2 ∧ (k < 2 → mK ch k d L es 53 (-1074) whole scale rest huge) := by
  obtain ⟨len, ki, pc, be, ma, po, ex, fm, to, wh, sc, re, hu, tx, fg, wd, rfl, T⟩ := h
  obtain ⟨ma2, po2, ex2, fg2, c, hm⟩ := c_Mo_scan (l := l) (G := G) (m := m) (ta := ta) (fa := fa) (wa := wa) (th := th) (ki := ki) (pc := pc) (be := be) (ma := ma) (po := po) (ex := ex) (fm := fm) (to := to) (wh := wh) (sc := sc) (re := re) (hu := hu) (fg := fg) (wd := wd) T hs
  obtain ⟨W2, fm2, to2, wh2, sc2, re2, hu2, whole, scale, rest, huge, c2, hK⟩ := y_sizeRead (l := l) (G := G) (m := m) (ta := ta) (fa := fa) (wa := wa) (th := 0) (pc := nI n) (be := bI ng) (fm := fm) (to := to) (wh := wh) (sc := sc) (re := re) (hu := hu) (wd := wd) (i := 0) (by decide) T hs hm
  have h3 := (hs.dg T.2.1).1
  have k3 : (3 : Int32) ≤ nI k ↔ 3 ≤ k := nI_leI (a := 3) (by decide) (by omega)
  refine ⟨_, whole, scale, rest, huge, gCt.mk (by decide +kernel) (Nat.le_of_ble_eq_true rfl) rfl (b_Mo_bits_0 (k_Mo_bits_2 c (b_Mo_bits_5 (fun z => absurd z (by decide)) (fun _ => b_Mo_bits_13 (fun _ => k_Mo_bits_31 c2 (b_Mo_bits_34 (fun z => b_Mo_bits_58 (b_Mo_bits_59 ⟨vl ?_, rfl⟩)) (fun z y => b_Mo_bits_58 (b_Mo_bits_59 ⟨vl ?_, rfl⟩)) (fun z y => b_Mo_bits_59 ⟨vl ?_, rfl⟩))) (fun z => absurd (by decide) z))))), ⟨len, _, _, _, ma2, po2, ex2, fm2, to2, wh2, sc2, re2, hu2, tx, fg2, W2, rfl, T⟩, hK⟩
  · have z := bI_0.mp z
    rw [if_neg (fun v => by rw [z] at v; exact absurd v.1 (by decide)), Nat.add_zero]
  · have y := k3.mp y
    rw [if_neg (fun v => v.2 (by omega)), Nat.add_zero]
  · have y : ¬ 3 ≤ k := fun v => y (k3.mpr v)
    have hng : ng = true := by
      cases ng with
      | true => rfl
      | false => exact absurd rfl z
    rw [if_pos ⟨hng, by omega⟩]
    have hlt : mSz 0 k whole scale rest huge < 2 ^ 63 := mSz_lt (i := 0) (by decide) (by omega)
    have := g_or' (k := 63) (a := mSz 0 k whole scale rest huge) (b := 1) rfl hlt (by omega)
    rw [Nat.one_mul] at this
    rw [show (-9223372036854775808 : Int64) = lN (2 ^ 63) by decide +kernel, this]
theorem m_floatBits {ng : Bool} {k d : Nat} {L : List (Option Nat)} {es : List Nat} (h : MI G m ta fa wa ch n th w) (hs : scOk ch n ng k d L es) :
    ∃ w2 whole scale rest huge, gCt l G m_Mo_floatBits [.ref m] w (some (.int (nI (mSz 1 k whole scale rest huge + (if ng ∧ k ≠ 3 then 2 ^ 31 else 0))))) w2 ∧ MI G m ta fa wa ch n 0 w2 ∧ (k < 2 → mK ch k d L es 24 (-149) whole scale rest huge) := by
  obtain ⟨len, ki, pc, be, ma, po, ex, fm, to, wh, sc, re, hu, tx, fg, wd, rfl, T⟩ := h
  obtain ⟨ma2, po2, ex2, fg2, c, hm⟩ := c_Mo_scan (l := l) (G := G) (m := m) (ta := ta) (fa := fa) (wa := wa) (th := th) (ki := ki) (pc := pc) (be := be) (ma := ma) (po := po) (ex := ex) (fm := fm) (to := to) (wh := wh) (sc := sc) (re := re) (hu := hu) (fg := fg) (wd := wd) T hs
  obtain ⟨W2, fm2, to2, wh2, sc2, re2, hu2, whole, scale, rest, huge, c2, hK⟩ := y_sizeRead (l := l) (G := G) (m := m) (ta := ta) (fa := fa) (wa := wa) (th := 0) (pc := nI n) (be := bI ng) (fm := fm) (to := to) (wh := wh) (sc := sc) (re := re) (hu := hu) (wd := wd) (i := 1) (by decide) T hs hm
  have h3 := (hs.dg T.2.1).1
  have k3 : (3 : Int32) ≤ nI k ↔ 3 ≤ k := nI_leI (a := 3) (by decide) (by omega)
  refine ⟨_, whole, scale, rest, huge, gCt.mk (by decide +kernel) (Nat.le_of_ble_eq_true rfl) rfl (b_Mo_floatBits_0 (k_Mo_floatBits_2 c (b_Mo_floatBits_5 (fun z => absurd z (by decide)) (fun _ => b_Mo_floatBits_13 (fun _ => k_Mo_floatBits_31 c2 (b_Mo_floatBits_34 (fun z => b_Mo_floatBits_58 (b_Mo_floatBits_59 ⟨vi ?_, rfl⟩)) (fun z y => b_Mo_floatBits_58 (b_Mo_floatBits_59 ⟨vi ?_, rfl⟩)) (fun z y => b_Mo_floatBits_59 ⟨vi ?_, rfl⟩))) (fun z => absurd (by decide) z))))), ⟨len, _, _, _, ma2, po2, ex2, fm2, to2, wh2, sc2, re2, hu2, tx, fg2, W2, rfl, T⟩, hK⟩
  · have z := bI_0.mp z
    rw [if_neg (fun v => by rw [z] at v; exact absurd v.1 (by decide)), Nat.add_zero, lN_i]
  · have y := k3.mp y
    rw [if_neg (fun v => v.2 (by omega)), Nat.add_zero, lN_i]
  · have y : ¬ 3 ≤ k := fun v => y (k3.mpr v)
    have hng : ng = true := by
      cases ng with
      | true => rfl
      | false => exact absurd rfl z
    rw [if_pos ⟨hng, by omega⟩]
    have hlt : mSz 1 k whole scale rest huge < 2 ^ 31 := mSz_lt (i := 1) (by decide) (by omega)
    have := g_or' (k := 31) (a := mSz 1 k whole scale rest huge) (b := 1) rfl hlt (by omega)
    rw [Nat.one_mul] at this
    have h2 := congrArg Int64.toInt32 this
    rw [Int64.toInt32_or, lN_i (mSz 1 k whole scale rest huge + 2 ^ 31)] at h2
    rw [← h2]
    congr 1
end Mo13
