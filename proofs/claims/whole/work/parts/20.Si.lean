/-! CONTRACTS: Integer, Long; Size -/
def bin (u j : Nat) : Prop := 2 ^ j ≤ u ∧ u < 2 ^ (j + 1)
theorem bin_lt {u j : Nat} (h : bin u j) (m : Nat) : u < 2 ^ m ↔ j < m := by
  constructor
  · intro z
    rcases Nat.lt_or_ge j m with w | w
    · exact w
    · have := Nat.pow_le_pow_right (n := 2) (by decide) w
      have := h.1
      omega
  · intro z
    exact Nat.lt_of_lt_of_le h.2 (Nat.pow_le_pow_right (by decide) z)
theorem bin_div {u j c : Nat} (h : bin u j) (hc : c ≤ j) : bin (u / 2 ^ c) (j - c) := by
  have p : 0 < 2 ^ c := Nat.two_pow_pos c
  constructor
  · rw [Nat.le_div_iff_mul_le p, ← Nat.pow_add, Nat.sub_add_cancel hc]
    exact h.1
  · rw [Nat.div_lt_iff_lt_mul p, ← Nat.pow_add, show j - c + 1 + c = j + 1 by omega]
    exact h.2
theorem bin_ex {u : Nat} (h : 0 < u) : ∃ j, bin u j := ⟨Nat.log2 u, Nat.log2_self_le (by omega), Nat.lt_log2_self⟩
theorem bin_mul {u j c : Nat} (h : bin u j) : bin (u * 2 ^ c) (j + c) := by
  constructor
  · rw [Nat.pow_add]; exact Nat.mul_le_mul_right _ h.1
  · rw [show j + c + 1 = j + 1 + c by omega, Nat.pow_add]; exact (Nat.mul_lt_mul_right (Nat.two_pow_pos c)).mpr h.2
section SiS
variable {l : Launch} {G : gG}
theorem a_JI_nlz1 {w0 : va_W} {u j t : Nat} (h : bin u j) (hj : j < 2) (ht : j ≤ t) : gAt l G m_JI_numberOfLeadingZeros w0 (some (.int (nI (t - j)))) [] 73 [(0, .int (nI u)), (1, .int (nI t))] [] [] := by
  refine b_JI_numberOfLeadingZeros_73 ⟨vi ?_, rfl⟩
  have hu : u < 4 := (bin_lt h 2).mpr hj
  have e : ((nI u).toUInt32 >>> (Int32.toUInt32 (1 : Int32) &&& Int32.toUInt32 31)).toInt32 = nI (u / 2 ^ 1) := pk_ushrN (by omega) 1 1 (by decide)
  rw [e]
  have e2 : u / 2 ^ 1 = j := by
    rcases (show j = 0 ∨ j = 1 by omega) with rfl | rfl
    · have := h.1; have := h.2; omega
    · have := h.1; have := h.2; omega
  rw [e2, pk_sub ht]
theorem nlz_sub {t c : Nat} (h : c ≤ t) (ht : t < 2 ^ 31) : nI t + (-nI c) = nI (t - c) := by
  rw [← Int32.sub_eq_add_neg]
  exact pk_sub h
theorem c_JI_nlz {u k : Nat} (h : bin u k) (hk : k ≤ 31) : gCt l G m_JI_numberOfLeadingZeros [.int (nI u)] [] (some (.int (nI (31 - k)))) [] := by
  have hu32 : u < 2 ^ 32 := (bin_lt h 32).mpr (by omega)
  have S1 : ∀ u j t, bin u j → j < 4 → j ≤ t → t < 2 ^ 31 → gAt l G m_JI_numberOfLeadingZeros [] (some (.int (nI (t - j)))) [] 61 [(0, .int (nI u)), (1, .int (nI t))] [] [] := by
    intro u j t hb hj ht ht2
    have hu : u < 2 ^ 4 := (bin_lt hb 4).mpr hj
    refine b_JI_numberOfLeadingZeros_61 (fun z => ?_) (fun z => ?_)
    · have z : u < 2 ^ 2 := (nI_ltI (b := 4) (by omega) (by decide)).mp z
      exact a_JI_nlz1 hb ((bin_lt hb 2).mp z) ht
    · have z : ¬ u < 2 ^ 2 := fun w => z (nI_lt (b := 4) w (by decide))
      have hj2 : 2 ≤ j := by rcases Nat.lt_or_ge j 2 with w | w; exact absurd ((bin_lt hb 2).mpr w) z; exact w
      have e : ((nI u).toUInt32 >>> (Int32.toUInt32 (2 : Int32) &&& Int32.toUInt32 31)).toInt32 = nI (u / 2 ^ 2) := pk_ushrN (by omega) 2 2 (by decide)
      have e2 : nI t + (-2 : Int32) = nI (t - 2) := nlz_sub (c := 2) (by omega) ht2
      rw [e, e2, show t - j = t - 2 - (j - 2) by omega]
      exact a_JI_nlz1 (bin_div hb hj2) (by omega) (by omega)
  have S2 : ∀ u j t, bin u j → j < 8 → j ≤ t → t < 2 ^ 31 → gAt l G m_JI_numberOfLeadingZeros [] (some (.int (nI (t - j)))) [] 48 [(0, .int (nI u)), (1, .int (nI t))] [] [] := by
    intro u j t hb hj ht ht2
    have hu : u < 2 ^ 8 := (bin_lt hb 8).mpr hj
    refine b_JI_numberOfLeadingZeros_48 (fun z => ?_) (fun z => ?_)
    · have z : u < 2 ^ 4 := (nI_ltI (b := 16) (by omega) (by decide)).mp z
      exact S1 u j t hb ((bin_lt hb 4).mp z) ht ht2
    · have z : ¬ u < 2 ^ 4 := fun w => z (nI_lt (b := 16) w (by decide))
      have hj2 : 4 ≤ j := by rcases Nat.lt_or_ge j 4 with w | w; exact absurd ((bin_lt hb 4).mpr w) z; exact w
      have e : ((nI u).toUInt32 >>> (Int32.toUInt32 (4 : Int32) &&& Int32.toUInt32 31)).toInt32 = nI (u / 2 ^ 4) := pk_ushrN (by omega) 4 4 (by decide)
      have e2 : nI t + (-4 : Int32) = nI (t - 4) := nlz_sub (c := 4) (by omega) ht2
      rw [e, e2, show t - j = t - 4 - (j - 4) by omega]
      exact S1 _ _ _ (bin_div hb hj2) (by omega) (by omega) (by omega)
  have S3 : ∀ u j t, bin u j → j < 16 → j ≤ t → t < 2 ^ 31 → gAt l G m_JI_numberOfLeadingZeros [] (some (.int (nI (t - j)))) [] 33 [(0, .int (nI u)), (1, .int (nI t))] [] [] := by
    intro u j t hb hj ht ht2
    have hu : u < 2 ^ 16 := (bin_lt hb 16).mpr hj
    refine b_JI_numberOfLeadingZeros_33 (fun z => ?_) (fun z => ?_)
    · have z : u < 2 ^ 8 := (nI_ltI (b := 256) (by omega) (by decide)).mp z
      exact S2 u j t hb ((bin_lt hb 8).mp z) ht ht2
    · have z : ¬ u < 2 ^ 8 := fun w => z (nI_lt (b := 256) w (by decide))
      have hj2 : 8 ≤ j := by rcases Nat.lt_or_ge j 8 with w | w; exact absurd ((bin_lt hb 8).mpr w) z; exact w
      have e : ((nI u).toUInt32 >>> (Int32.toUInt32 (8 : Int32) &&& Int32.toUInt32 31)).toInt32 = nI (u / 2 ^ 8) := pk_ushrN (by omega) 8 8 (by decide)
      have e2 : nI t + (-8 : Int32) = nI (t - 8) := nlz_sub (c := 8) (by omega) ht2
      rw [e, e2, show t - j = t - 8 - (j - 8) by omega]
      exact S2 _ _ _ (bin_div hb hj2) (by omega) (by omega) (by omega)
  rcases Nat.lt_or_ge k 31 with hk31 | hk31
  · have hu31 : u < 2 ^ 31 := (bin_lt h 31).mpr hk31
    have hu0 : 0 < u := Nat.lt_of_lt_of_le (Nat.two_pow_pos k) h.1
    have h0 : (0 : Int32) < nI u := nI_lt (a := 0) hu0 hu31
    refine gCt.mk (by decide +kernel) (Nat.le_of_ble_eq_true rfl) rfl (b_JI_numberOfLeadingZeros_0 (fun _ z => ?_) (fun _ z => ?_) (fun z => absurd h0 z) (fun z => absurd h0 z))
    · have z : u < 2 ^ 16 := (nI_ltI (b := 65536) hu31 (by decide)).mp z
      exact S3 u k 31 h ((bin_lt h 16).mp z) (by omega) (by decide)
    · have z : ¬ u < 2 ^ 16 := fun w => z (nI_lt (b := 65536) w (by decide))
      have hj2 : 16 ≤ k := by rcases Nat.lt_or_ge k 16 with w | w; exact absurd ((bin_lt h 16).mpr w) z; exact w
      have e : ((nI u).toUInt32 >>> (Int32.toUInt32 (16 : Int32) &&& Int32.toUInt32 31)).toInt32 = nI (u / 2 ^ 16) := pk_ushrN (by omega) 16 16 (by decide)
      rw [e, show 31 - k = 15 - (k - 16) by omega]
      exact S3 _ _ 15 (bin_div h hj2) (by omega) (by omega) (by decide)
  · have hk : k = 31 := by omega
    subst hk
    have h31 := h.1
    have ht : (nI u).toInt = (u : Int) - 4294967296 := by
      have e := zI_nat u
      rw [← e]
      have e2 : zI (u : Int) = zI ((u : Int) - 4294967296) := by
        rw [← zI_sub]
        have q : zI 4294967296 = 0 := by decide
        rw [q]
        simp
      rw [e2, zI_toInt (by omega) (by omega)]
    have hneg : ¬ (0 : Int32) < nI u := by
      rw [Int32.lt_iff_toInt_lt, ht]
      have : (0 : Int32).toInt = 0 := rfl
      omega
    have hne : ¬ nI u = 0 := by
      intro z
      rw [z] at ht
      have : (0 : Int32).toInt = 0 := rfl
      omega
    exact gCt.mk (by decide +kernel) (Nat.le_of_ble_eq_true rfl) rfl (b_JI_numberOfLeadingZeros_0 (fun z => absurd z hneg) (fun z => absurd z hneg) (fun _ _ => b_JI_numberOfLeadingZeros_14 ⟨rfl, rfl⟩) (fun _ z => absurd z hne))
theorem c_JL_nlz {u k : Nat} (h : bin u k) (hk : k ≤ 62) : gCt l G m_JL_numberOfLeadingZeros [.long (lN u)] [] (some (.int (nI (63 - k)))) [] := by
  have hu : u < 2 ^ 63 := (bin_lt h 63).mpr (by omega)
  have e : ((lN u).toUInt64 >>> ((Int32.toInt64 (32 : Int32)).toUInt64 &&& Int64.toUInt64 63)).toInt64 = lN (u / 2 ^ 32) := wb_shr (k := 32) (by omega) (by decide)
  have hi : nI (u / 2 ^ 32) = 0 ↔ u / 2 ^ 32 = 0 := nI_eq (b := 0) (by omega) (by decide)
  refine gCt.mk (by decide +kernel) (Nat.le_of_ble_eq_true rfl) rfl (b_JL_numberOfLeadingZeros_0 (fun z => ?_) (fun z => ?_))
  · rw [e, lN_i] at z ⊢
    have z : ¬ u / 2 ^ 32 = 0 := fun w => z (hi.mpr w)
    have hk2 : 32 ≤ k := by
      rcases Nat.lt_or_ge k 32 with w | w
      · have := (bin_lt h 32).mpr w
        exact absurd (Nat.div_eq_of_lt this) z
      · exact w
    rw [show 63 - k = 31 - (k - 32) by omega]
    exact k_JL_numberOfLeadingZeros_22 (c_JI_nlz (bin_div h hk2) (by omega)) (b_JL_numberOfLeadingZeros_25 ⟨rfl, rfl⟩)
  · rw [e, lN_i] at z ⊢
    have z := hi.mp z
    have hu32 : u < 2 ^ 32 := by omega
    have hk2 := (bin_lt h 32).mp hu32
    rw [lN_i]
    refine k_JL_numberOfLeadingZeros_14 (c_JI_nlz h (by omega)) (b_JL_numberOfLeadingZeros_17 (b_JL_numberOfLeadingZeros_25 ⟨vi ?_, rfl⟩))
    rw [show (32 : Int32) = nI 32 from rfl, nI_add, show 32 + (31 - k) = 63 - k by omega]
theorem c_JI_compare (x y : Int32) : gCt l G m_JI_compare [.int x, .int y] [] (some (.int (if x < y then -1 else if x = y then 0 else 1))) [] := by
  refine gCt.mk (by decide +kernel) (Nat.le_of_ble_eq_true rfl) rfl (b_JI_compare_0 (fun h1 h2 => b_JI_compare_19 ⟨vi ?_, rfl⟩) (fun h1 h2 => b_JI_compare_19 ⟨vi ?_, rfl⟩) (fun h1 => b_JI_compare_19 ⟨vi ?_, rfl⟩))
  · rw [if_neg (Int32.not_lt.mpr h1), if_neg h2]
  · rw [if_neg (Int32.not_lt.mpr h1), if_pos h2]
  · rw [if_pos (Int32.not_le.mp h1)]
theorem lgc_lt {x y : Int64} : lg_cmp x y < 0 ↔ x < y := by
  unfold lg_cmp
  by_cases h1 : y < x
  · rw [if_pos h1]
    exact ⟨fun z => absurd z (by decide), fun z => absurd (Int64.lt_trans z h1) (Int64.lt_irrefl)⟩
  · rw [if_neg h1]
    by_cases h2 : x = y
    · rw [if_pos h2]
      exact ⟨fun z => absurd z (by decide), fun z => by rw [h2] at z; exact absurd z Int64.lt_irrefl⟩
    · rw [if_neg h2]
      exact ⟨fun _ => Int64.lt_of_le_of_ne (Int64.not_lt.mp h1) h2, fun _ => by decide⟩
theorem lgc_eq {x y : Int64} : lg_cmp x y = 0 ↔ x = y := by
  unfold lg_cmp
  by_cases h1 : y < x
  · rw [if_pos h1]
    exact ⟨fun z => absurd z (by decide), fun z => by rw [z] at h1; exact absurd h1 Int64.lt_irrefl⟩
  · rw [if_neg h1]
    by_cases h2 : x = y
    · rw [if_pos h2]; exact ⟨fun _ => h2, fun _ => rfl⟩
    · rw [if_neg h2]
      exact ⟨fun z => absurd z (by decide), fun z => absurd z h2⟩
theorem lgc_ge {x y : Int64} : 0 ≤ lg_cmp x y ↔ ¬ x < y := by
  rw [← lgc_lt, Int32.not_lt]
theorem c_JL_compare (x y : Int64) : gCt l G m_JL_compare [.long x, .long y] [] (some (.int (if x < y then -1 else if x = y then 0 else 1))) [] := by
  refine gCt.mk (by decide +kernel) (Nat.le_of_ble_eq_true rfl) rfl (b_JL_compare_0 (fun h1 h2 => b_JL_compare_21 ⟨vi ?_, rfl⟩) (fun h1 h2 => b_JL_compare_21 ⟨vi ?_, rfl⟩) (fun h1 => b_JL_compare_21 ⟨vi ?_, rfl⟩))
  · rw [if_neg (lgc_ge.mp h1), if_neg (fun z => h2 (lgc_eq.mpr z))]
  · rw [if_neg (lgc_ge.mp h1), if_pos (lgc_eq.mp h2)]
  · have h1 : x < y := by
      by_cases z : x < y
      · exact z
      · exact absurd (lgc_ge.mpr z) h1
    rw [if_pos h1]
/-- what has been pushed: Q -/
def pRep (Q lead place : Nat) (rest : Bool) : Prop := lead = Q / 2 ^ place ∧ rest = decide (Q % 2 ^ place ≠ 0) ∧ lead < 2 ^ 63 ∧ (0 < place → 2 ^ 62 ≤ lead)
abbrev wZ (a lead : Nat) (place : Int32) (rest : Bool) : va_W := [oSi a (lN lead) place (bI rest)]
variable {a : Nat}
theorem c_Si_begin {z1 : Int64} {z2 z3 : Int32} : gCt l G m_Si_begin [.ref a] [oSi a z1 z2 z3] none (wZ a 0 (nI 0) false) :=
  gCt.mk (by decide +kernel) (Nat.le_of_ble_eq_true rfl) rfl (b_Si_begin_0 ⟨rfl, rfl⟩)
theorem full_iff {lead : Nat} (h : lead < 2 ^ 63) : lg_cmp (lN lead) (4611686018427387904 : Int64) < 0 ↔ lead < 2 ^ 62 := by
  rw [lgc_lt]
  exact pk_lLT (b := 2 ^ 62) h (by decide)
theorem bI_or (x y : Bool) : bI x ||| bI y = bI (x || y) := by cases x <;> cases y <;> decide
theorem pRep_step {Q lead place b w : Nat} {rest : Bool} (h : pRep Q lead place rest) (hf : 2 ^ 62 ≤ lead) (hb : b < 2 ^ w) : pRep (Q * 2 ^ w + b) lead (place + w) (rest || decide (b ≠ 0)) := by
  obtain ⟨h1, h2, h3, h4⟩ := h
  have hp : 0 < 2 ^ w := Nat.two_pow_pos w
  have e : 2 ^ (place + w) = 2 ^ w * 2 ^ place := by rw [Nat.pow_add, Nat.mul_comm]
  have ed : (Q * 2 ^ w + b) / 2 ^ w = Q := by
    rw [Nat.mul_comm, Nat.mul_add_div hp, Nat.div_eq_of_lt hb, Nat.add_zero]
  have em : (Q * 2 ^ w + b) % 2 ^ w = b := by
    rw [Nat.mul_comm, Nat.mul_add_mod, Nat.mod_eq_of_lt hb]
  refine ⟨?_, ?_, h3, fun _ => hf⟩
  · rw [e, ← Nat.div_div_eq_div_mul, ed]; exact h1
  · rw [e, Nat.mod_mul, ed, em, h2]
    by_cases z : b = 0
    · subst z
      by_cases y : Q % 2 ^ place = 0
      · simp [y]
      · have : ¬ (2 ^ w * (Q % 2 ^ place) = 0) := fun q => by rcases Nat.mul_eq_zero.mp q with q | q <;> omega
        simp [y]
        exact this
    · simp [z]
theorem c_Si_pushBit {Q lead place b : Nat} {rest : Bool} (hb : b < 2) (h : pRep Q lead place rest) : ∃ lead2 place2 rest2, gCt l G m_Si_pushBit [.ref a, .int (nI b)] (wZ a lead (nI place) rest) none (wZ a lead2 (nI place2) rest2) ∧ pRep (2 * Q + b) lead2 place2 rest2 := by
  have hfull := full_iff h.2.2.1
  have hb0 : nI b = 0 ↔ b = 0 := nI_eq (b := 0) (by omega) (by decide)
  rcases Nat.lt_or_ge lead (2 ^ 62) with z | z
  · refine ⟨2 * lead + b, place, rest, gCt.mk (by decide +kernel) (Nat.le_of_ble_eq_true rfl) rfl (b_Si_pushBit_0 (fun _ => b_Si_pushBit_55 ⟨rfl, ?_⟩) (fun w => absurd (hfull.mpr z) w) (fun w => absurd (hfull.mpr z) w)), ?_⟩
    · have e1 : lN lead <<< ((Int32.toInt64 (1 : Int32)) &&& 63) = lN (lead * 2 ^ 1) := wb_shl lead (k := 1) (by decide)
      have e2 : (nI b).toInt64 = lN b := nI_l (by omega)
      rw [e1, e2, g_or (k := 1) (b := lead) (a := b) rfl (by omega) (by omega), show lead * 2 ^ 1 + b = 2 * lead + b by omega]
    · obtain ⟨h1, h2, h3, h4⟩ := h
      have hp0 : place = 0 := by
        rcases Nat.eq_zero_or_pos place with w | w
        · exact w
        · have := h4 w; omega
      subst hp0
      rw [Nat.pow_zero, Nat.div_one] at h1
      subst h1
      refine ⟨by rw [Nat.pow_zero, Nat.div_one], ?_, by omega, fun w => by omega⟩
      rw [h2, Nat.pow_zero, Nat.mod_one, Nat.mod_one]
  · have key : ∀ v : Bool, v = decide (b ≠ 0) → gAt l G m_Si_pushBit (wZ a lead (nI place) rest) none (wZ a lead (nI (place + 1)) (rest || decide (b ≠ 0))) 35 [(0, .ref a), (1, .int (nI b))] [.int (bI v), .int (bI rest), .ref a] (wZ a lead (nI (place + 1)) rest) := by
      intro v hv
      subst hv
      refine b_Si_pushBit_35 ?_ (b_Si_pushBit_55 ⟨rfl, ?_⟩)
      · rw [bI_or]; exact ⟨bI_nar _, bI_fit _⟩
      · rw [bI_or]
    have e1 : nI place + (1 : Int32) = nI (place + 1) := nI_1 place
    refine ⟨lead, place + 1, rest || decide (b ≠ 0), gCt.mk (by decide +kernel) (Nat.le_of_ble_eq_true rfl) rfl (b_Si_pushBit_0 (fun w => ?_) (fun _ w => ?_) (fun _ w => ?_)), ?_⟩
    · have := hfull.mp w; omega
    · rw [e1]; exact key false (decide_eq_false (by simp [hb0.mp w])).symm
    · rw [e1]; exact key true (decide_eq_true (show b ≠ 0 from fun q => w (hb0.mpr q))).symm
    · have := pRep_step (w := 1) h z (by omega : b < 2 ^ 1)
      rw [show 2 * Q + b = Q * 2 ^ 1 + b by omega]
      exact this
theorem nI_0w {u : Nat} (hu : u < 2 ^ 32) : nI u = 0 ↔ u = 0 := by
  constructor
  · intro z
    have := congrArg (fun x : Int32 => x.toBitVec.toNat) z
    simp only [pk_tn hu] at this
    exact this
  · intro z; subst z; rfl
theorem c_Si_push {Q lead place u w : Nat} {rest : Bool} (hw : w ≤ 32) (hw1 : 1 ≤ w) (hu : u < 2 ^ w) (h : pRep Q lead place rest) : ∃ lead2 place2 rest2, gCt l G m_Si_push [.ref a, .int (nI u), .int (nI w)] (wZ a lead (nI place) rest) none (wZ a lead2 (nI place2) rest2) ∧ pRep (Q * 2 ^ w + u) lead2 place2 rest2 := by
  have hu32 : u < 2 ^ 32 := Nat.lt_of_lt_of_le hu (Nat.pow_le_pow_right (by decide) hw)
  have hfull := full_iff h.2.2.1
  rcases Nat.lt_or_ge lead (2 ^ 62) with z | z
  · have loop : ∀ k, k ≤ w → ∀ lead1 place1 rest1, pRep (Q * 2 ^ (w - k) + u / 2 ^ k) lead1 place1 rest1 → ∃ lead2 place2 rest2, gAt l G m_Si_push (wZ a lead (nI place) rest) none (wZ a lead2 (nI place2) rest2) 44 [(0, .ref a), (1, .int (nI u)), (2, .int (nI w)), (3, .int (nI k - 1))] [] (wZ a lead1 (nI place1) rest1) ∧ pRep (Q * 2 ^ w + u) lead2 place2 rest2 := by
      intro k
      induction k with
      | zero =>
        intro _ lead1 place1 rest1 h1
        rw [Nat.sub_zero, Nat.pow_zero, Nat.div_one] at h1
        exact ⟨lead1, place1, rest1, b_Si_push_44 (fun _ => ⟨rfl, rfl⟩) (fun w => absurd (by decide) w), h1⟩
      | succ k ih =>
        intro hk lead1 place1 rest1 h1
        have e0 : nI (k + 1) - 1 = nI k := nI_pred k
        have e1 : ((nI u).toUInt32 >>> ((nI k).toUInt32 &&& Int32.toUInt32 31)).toInt32 = nI (u / 2 ^ k) := pk_ushrN hu32 (nI k) k (nf_sl k (by omega))
        have e2 : nI (u / 2 ^ k) &&& (1 : Int32) = nI (u / 2 ^ k % 2) := pk_andN (Nat.lt_of_le_of_lt (Nat.div_le_self _ _) hu32) 1 (by decide)
        obtain ⟨lead3, place3, rest3, c3, h3⟩ := c_Si_pushBit (l := l) (G := G) (a := a) (b := u / 2 ^ k % 2) (Nat.mod_lt _ (by decide)) h1
        have e3 : 2 * (Q * 2 ^ (w - (k + 1)) + u / 2 ^ (k + 1)) + u / 2 ^ k % 2 = Q * 2 ^ (w - k) + u / 2 ^ k := by
          have q1 : 2 ^ (w - k) = 2 * 2 ^ (w - (k + 1)) := by rw [show w - k = w - (k + 1) + 1 by omega, Nat.pow_succ, Nat.mul_comm]
          have q2 : u / 2 ^ (k + 1) = u / 2 ^ k / 2 := by rw [Nat.pow_succ, Nat.div_div_eq_div_mul]
          rw [q1, q2, Nat.mul_add, Nat.mul_left_comm]
          omega
        rw [e3] at h3
        obtain ⟨lead4, place4, rest4, c4, h4⟩ := ih (by omega) lead3 place3 rest3 h3
        refine ⟨lead4, place4, rest4, ?_, h4⟩
        rw [e0]
        refine b_Si_push_44 (fun w => absurd w (nI_pos (by omega))) (fun _ => ?_)
        rw [e1, e2]
        refine k_Si_push_54 c3 (b_Si_push_57 ?_)
        have e4 : nI k + (-1 : Int32) = nI k - 1 := (Int32.sub_eq_add_neg _ _).symm
        rw [e4]
        exact c4
    obtain ⟨lead2, place2, rest2, c2, h2⟩ := loop w (Nat.le_refl _) lead place rest (by rw [Nat.sub_self, Nat.pow_zero, Nat.mul_one, Nat.div_eq_of_lt hu, Nat.add_zero]; exact h)
    exact ⟨lead2, place2, rest2, gCt.mk (by decide +kernel) (Nat.le_of_ble_eq_true rfl) rfl (b_Si_push_0 (fun _ => c2) (fun w => absurd (hfull.mpr z) w) (fun w => absurd (hfull.mpr z) w)), h2⟩
  · have key : ∀ v : Bool, v = decide (u ≠ 0) → gAt l G m_Si_push (wZ a lead (nI place) rest) none (wZ a lead (nI (place + w)) (rest || decide (u ≠ 0))) 35 [(0, .ref a), (1, .int (nI u)), (2, .int (nI w))] [.int (bI v), .int (bI rest), .ref a] (wZ a lead (nI (place + w)) rest) := by
      intro v hv
      subst hv
      refine b_Si_push_35 ?_ ⟨rfl, ?_⟩
      · rw [bI_or]; exact ⟨bI_nar _, bI_fit _⟩
      · rw [bI_or]
    have e1 : nI place + nI w = nI (place + w) := nI_add place w
    refine ⟨lead, place + w, rest || decide (u ≠ 0), gCt.mk (by decide +kernel) (Nat.le_of_ble_eq_true rfl) rfl (b_Si_push_0 (fun q => ?_) (fun _ q => ?_) (fun _ q => ?_)), pRep_step h z hu⟩
    · have := hfull.mp q; omega
    · rw [e1]; exact key false (decide_eq_false (by simp [(nI_0w hu32).mp q])).symm
    · rw [e1]; exact key true (decide_eq_true (show u ≠ 0 from fun y => q ((nI_0w hu32).mpr y))).symm
theorem c_Si_set0 {z1 : Int64} {z2 z3 k : Int32} : gCt l G m_Si_set [.ref a, .long (lN 0), .int k] [oSi a z1 z2 z3] none (wZ a 0 k false) := by
  refine gCt.mk (by decide +kernel) (Nat.le_of_ble_eq_true rfl) rfl (b_Si_set_0 (fun z => absurd (by decide) z) (fun _ => b_Si_set_16 ⟨rfl, ?_⟩))
  have e1 : lN 0 <<< ((Int32.toInt64 (0 : Int32)) &&& 63) = lN 0 := by decide
  have e2 : k - (0 : Int32) = k := by simp
  rw [e1, e2]
  rfl
theorem c_Si_set {z1 : Int64} {z2 z3 k : Int32} {v j : Nat} (h : bin v j) (hj : j ≤ 62) : gCt l G m_Si_set [.ref a, .long (lN v), .int k] [oSi a z1 z2 z3] none (wZ a (v * 2 ^ (62 - j)) (k - nI (62 - j)) false) := by
  have hv : v < 2 ^ 63 := (bin_lt h 63).mpr (by omega)
  have hv0 : 0 < v := Nat.lt_of_lt_of_le (Nat.two_pow_pos j) h.1
  refine gCt.mk (by decide +kernel) (Nat.le_of_ble_eq_true rfl) rfl (b_Si_set_0 (fun _ => k_Si_set_11 (c_JL_nlz h hj) (b_Si_set_14 (b_Si_set_16 ⟨rfl, ?_⟩))) (fun z => ?_))
  · have e1 : nI (63 - j) - (1 : Int32) = nI (62 - j) := by
      rw [show 63 - j = 62 - j + 1 by omega]
      exact nI_pred _
    have e2 : lN v <<< ((Int32.toInt64 (nI (62 - j))) &&& 63) = lN (v * 2 ^ (62 - j)) := wb_shl v (by omega)
    rw [e1, e2]
    rfl
  · have := (lg_cmp0 hv).mp z
    omega
theorem c_Si_setInfinite {z1 : Int64} {z2 z3 : Int32} : gCt l G m_Si_setInfinite [.ref a] [oSi a z1 z2 z3] none (wZ a (2 ^ 62) (nI 1073741824) false) := by
  have c := c_Si_set (l := l) (G := G) (a := a) (z1 := z1) (z2 := z2) (z3 := z3) (k := 1073741824) (v := 2 ^ 62) (j := 62) ⟨Nat.le_refl _, by decide⟩ (by decide)
  have e : (1073741824 : Int32) - nI (62 - 62) = nI 1073741824 := by decide
  rw [e] at c
  exact gCt.mk (by decide +kernel) (Nat.le_of_ble_eq_true rfl) rfl (b_Si_setInfinite_0 (k_Si_setInfinite_6 c (b_Si_setInfinite_9 ⟨rfl, rfl⟩)))
theorem c_Si_end0 {lead : Nat} {place lp : Int32} {rest more : Bool} (h0 : lead = 0) : gCt l G m_Si_end [.ref a, .int lp, .int (bI more)] (wZ a lead place rest) none (wZ a 0 (lp + place) (rest || more)) := by
  subst h0
  have key : ∀ v : Bool, v = (rest || more) → gAt l G m_Si_end (wZ a 0 place rest) none (wZ a 0 (lp + place) (rest || more)) 33 [(0, .ref a), (1, .int lp), (2, .int (bI more)), (3, .int (bI rest))] [.int (bI v), .ref a] (wZ a 0 (lp + place) false) := fun v hv => by
    subst hv
    exact b_Si_end_33 ⟨bI_nar _, bI_fit _⟩ ⟨rfl, rfl⟩
  refine gCt.mk (by decide +kernel) (Nat.le_of_ble_eq_true rfl) rfl (b_Si_end_0 (k_Si_end_16 c_Si_set0 (b_Si_end_19 (fun z => b_Si_end_28 (key true ?_)) (fun z1 z2 => key false ?_) (fun z1 z2 => b_Si_end_28 (key true ?_)))))
  · cases rest with
    | true => rfl
    | false => exact absurd rfl z
  · rw [bI_0.mp z1, bI_0.mp z2]; rfl
  · cases more with
    | true => rw [Bool.or_true]
    | false => exact absurd rfl z2
theorem c_Si_end {lead j : Nat} {place lp : Int32} {rest more : Bool} (h : bin lead j) (hj : j ≤ 62) : gCt l G m_Si_end [.ref a, .int lp, .int (bI more)] (wZ a lead place rest) none (wZ a (lead * 2 ^ (62 - j)) (lp + place - nI (62 - j)) (rest || more)) := by
  have key : ∀ v : Bool, v = (rest || more) → gAt l G m_Si_end (wZ a lead place rest) none (wZ a (lead * 2 ^ (62 - j)) (lp + place - nI (62 - j)) (rest || more)) 33 [(0, .ref a), (1, .int lp), (2, .int (bI more)), (3, .int (bI rest))] [.int (bI v), .ref a] (wZ a (lead * 2 ^ (62 - j)) (lp + place - nI (62 - j)) false) := fun v hv => by
    subst hv
    exact b_Si_end_33 ⟨bI_nar _, bI_fit _⟩ ⟨rfl, rfl⟩
  refine gCt.mk (by decide +kernel) (Nat.le_of_ble_eq_true rfl) rfl (b_Si_end_0 (k_Si_end_16 (c_Si_set h hj) (b_Si_end_19 (fun z => b_Si_end_28 (key true ?_)) (fun z1 z2 => key false ?_) (fun z1 z2 => b_Si_end_28 (key true ?_)))))
  · cases rest with
    | true => rfl
    | false => exact absurd rfl z
  · rw [bI_0.mp z1, bI_0.mp z2]; rfl
  · cases more with
    | true => rw [Bool.or_true]
    | false => exact absurd rfl z2
end SiS
