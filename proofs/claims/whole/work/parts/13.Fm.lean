/-! CONTRACTS: Format -/
theorem gCt.mk {l : Launch} {G : gG} {M : gM} {av : List Value} {w0 : va_W} {res : Option Value} {w1 : va_W} {lv : List (Nat × Value)} (hy : plainName M.1.cls = true) (hn : (lg_sl av).length ≤ M.2.2.1) (hl : lv_args 0 av = lv) (h : gAt l G M w0 res w1 0 lv [] w0) : gCt l G M av w0 res w1 := gCt.of hy hn (by rw [hl]; exact h)
theorem vi {a b : Int32} (h : a = b) : some (Value.int a) = some (Value.int b) := by rw [h]
theorem vl {a b : Int64} (h : a = b) : some (Value.long a) = some (Value.long b) := by rw [h]
def f_p (i : Nat) : Nat := if i = 0 then 53 else 24
def f_e (i : Nat) : Nat := if i = 0 then 11 else 8
def f_inf (i : Nat) : Nat := if i = 0 then 2047 else 255
def f_least (i : Nat) : Int := if i = 0 then -1074 else -149
theorem c_Fm_infiniteField {l : Launch} {G : gG} {i : Nat} (hi : i < 2) : gCt l G m_Fm_infiniteField [.ref (g_adE G i)] [] (some (.int (nI (f_inf i)))) [] :=
  gCt.mk (by decide +kernel) (Nat.le_of_ble_eq_true rfl) rfl (b_Fm_infiniteField_0 hi ⟨vi (by rcases (show i = 0 ∨ i = 1 by omega) with rfl | rfl <;> decide +kernel), rfl⟩)
theorem c_Fm_hiddenBit {l : Launch} {G : gG} {i : Nat} (hi : i < 2) : gCt l G m_Fm_hiddenBit [.ref (g_adE G i)] [] (some (.long (lN (2 ^ (f_p i - 1))))) [] :=
  gCt.mk (by decide +kernel) (Nat.le_of_ble_eq_true rfl) rfl (b_Fm_hiddenBit_0 hi ⟨vl (by rcases (show i = 0 ∨ i = 1 by omega) with rfl | rfl <;> decide +kernel), rfl⟩)
theorem c_Fm_signBit {l : Launch} {G : gG} {i : Nat} (hi : i < 2) : gCt l G m_Fm_signBit [.ref (g_adE G i)] [] (some (.long (lN (2 ^ (f_p i - 1 + f_e i))))) [] :=
  gCt.mk (by decide +kernel) (Nat.le_of_ble_eq_true rfl) rfl (b_Fm_signBit_0 hi hi ⟨vl (by rcases (show i = 0 ∨ i = 1 by omega) with rfl | rfl <;> decide +kernel), rfl⟩)
theorem c_Fm_exponentOf {l : Launch} {G : gG} {i : Nat} (hi : i < 2) (x : Int32) : gCt l G m_Fm_exponentOf [.ref (g_adE G i), .int x] [] (some (.int (x - 1 + zI (f_least i)))) [] :=
  gCt.mk (by decide +kernel) (Nat.le_of_ble_eq_true rfl) rfl (b_Fm_exponentOf_0 hi ⟨vi (by rcases (show i = 0 ∨ i = 1 by omega) with rfl | rfl <;> rfl), rfl⟩)
theorem f_low {k b : Nat} (hb : b < 2 ^ 64) (hk : k < 64) : lN b &&& (lN (2 ^ k) - 1) = lN (b % 2 ^ k) := by
  have h : lN (2 ^ k) - 1 = lN (2 ^ k - 1) := lN_sub (Nat.two_pow_pos k)
  rw [h, wb_mask hb hk]
theorem c_Fm_lowField {l : Launch} {G : gG} {i b : Nat} (hi : i < 2) (hb : b < 2 ^ 64) : gCt l G m_Fm_lowField [.ref (g_adE G i), .long (lN b)] [] (some (.long (lN (b % 2 ^ (f_p i - 1))))) [] :=
  gCt.mk (by decide +kernel) (Nat.le_of_ble_eq_true rfl) rfl (b_Fm_lowField_0 (k_Fm_lowField_2 hi (c_Fm_hiddenBit hi) (b_Fm_lowField_5 ⟨vl (f_low hb (by unfold f_p; split <;> decide)).symm, rfl⟩)))
theorem c_Fm_exponentField {l : Launch} {G : gG} {b : Nat} (hb : b < 2 ^ 64) : gCt l G m_Fm_exponentField [.ref (g_adE G 0), .long (lN b)] [] (some (.int (nI (b / 2 ^ 52 % 2048)))) [] := by
  refine gCt.mk (by decide +kernel) (Nat.le_of_ble_eq_true rfl) rfl (b_Fm_exponentField_0 (by decide) (k_Fm_exponentField_10 (by decide) (c_Fm_infiniteField (by decide)) (b_Fm_exponentField_13 ⟨vi ?_, rfl⟩)))
  have e : (Int64.toUInt64 (lN b) >>> ((Int32.toInt64 ((g_eF0.2.2.2.getD 0 0) - (1 : Int32))).toUInt64 &&& Int64.toUInt64 63)).toInt64 = lN (b / 2 ^ 52) := wb_shr (k := 52) hb (by decide)
  rw [e, lN_i]
  exact (pk_andN (n := b / 2 ^ 52) (by omega) (m := nI (f_inf 0)) 11 (by decide +kernel)).symm
theorem c_Fm_bitsOf {l : Launch} {G : gG} {i f b : Nat} (hi : i < 2) (hf : f ≤ f_inf i) (hb : b < 2 ^ 64) : gCt l G m_Fm_bitsOf [.ref (g_adE G i), .int (nI f), .long (lN b)] [] (some (.long (lN (f * 2 ^ (f_p i - 1) + b % 2 ^ (f_p i - 1))))) [] := by
  refine gCt.mk (by decide +kernel) (Nat.le_of_ble_eq_true rfl) rfl (b_Fm_bitsOf_0 hi (k_Fm_bitsOf_11 hi (c_Fm_lowField hi hb) (b_Fm_bitsOf_14 ⟨vl ?_, rfl⟩)))
  have hf2 : f ≤ 2047 := by
    unfold f_inf at hf
    split at hf <;> omega
  rw [nI_l (by omega)]
  have e : lN f <<< ((Int32.toInt64 ((g_eF0.2.2.2.getD i 0) - (1 : Int32))) &&& 63) = lN (f * 2 ^ (f_p i - 1)) := by
    rcases (show i = 0 ∨ i = 1 by omega) with rfl | rfl
    · exact wb_shl f (k := 52) (by decide)
    · exact wb_shl f (k := 23) (by decide)
  rw [e]
  refine (g_or rfl (Nat.mod_lt _ (Nat.two_pow_pos _)) ?_).symm
  rcases (show i = 0 ∨ i = 1 by omega) with rfl | rfl
  · have : b % 2 ^ (f_p 0 - 1) < 2 ^ 52 := Nat.mod_lt _ (by decide)
    show f * 2 ^ 52 + _ < _
    omega
  · have : b % 2 ^ (f_p 1 - 1) < 2 ^ 23 := Nat.mod_lt _ (by decide)
    show f * 2 ^ 23 + _ < _
    omega
theorem c_Fm_bitsOfNoNumber {l : Launch} {G : gG} {i : Nat} (hi : i < 2) : gCt l G m_Fm_bitsOfNoNumber [.ref (g_adE G i)] [] (some (.long (lN (f_inf i * 2 ^ (f_p i - 1) + 2 ^ (f_p i - 2))))) [] := by
  have e : ((lN (2 ^ (f_p i - 1))).toUInt64 >>> ((Int32.toInt64 (1 : Int32)).toUInt64 &&& Int64.toUInt64 63)).toInt64 = lN (2 ^ (f_p i - 2)) := by
    rcases (show i = 0 ∨ i = 1 by omega) with rfl | rfl <;> decide +kernel
  have e2 : 2 ^ (f_p i - 2) % 2 ^ (f_p i - 1) = 2 ^ (f_p i - 2) := by
    rcases (show i = 0 ∨ i = 1 by omega) with rfl | rfl <;> decide +kernel
  have h := c_Fm_bitsOf (l := l) (G := G) (i := i) (f := f_inf i) (b := 2 ^ (f_p i - 2)) hi (Nat.le_refl _) (by rcases (show i = 0 ∨ i = 1 by omega) with rfl | rfl <;> decide +kernel)
  rw [e2] at h
  exact gCt.mk (by decide +kernel) (Nat.le_of_ble_eq_true rfl) rfl (b_Fm_bitsOfNoNumber_0 (k_Fm_bitsOfNoNumber_2 hi (c_Fm_infiniteField hi) (b_Fm_bitsOfNoNumber_5 (k_Fm_bitsOfNoNumber_6 hi (c_Fm_hiddenBit hi) (b_Fm_bitsOfNoNumber_9 (by rw [e]; exact k_Fm_bitsOfNoNumber_11 hi h (b_Fm_bitsOfNoNumber_14 ⟨rfl, rfl⟩)))))))
theorem lg_cmp0 {a : Nat} (h : a < 2 ^ 63) : lg_cmp (lN a) 0 = 0 ↔ a = 0 := by
  have e := pk_lEQ (a := a) (b := 0) h (by decide)
  have e2 := pk_lLT (a := 0) (b := a) (by decide) h
  unfold lg_cmp
  constructor
  · intro q
    rcases Nat.eq_zero_or_pos a with z | z
    · exact z
    · have : (0 : Int64) < lN a := e2.mpr z
      rw [if_pos this] at q
      exact absurd q (by decide)
  · intro q
    subst q
    decide
def f_nan (b : Nat) : Bool := b / 2 ^ 52 % 2048 = 2047 ∧ b % 2 ^ 52 ≠ 0
theorem c_Fm_areNoNumber {l : Launch} {G : gG} {b : Nat} (hb : b < 2 ^ 64) : gCt l G m_Fm_areNoNumber [.long (lN b)] [] (some (.int (if f_nan b then 1 else 0))) [] := by
  refine gCt.mk (by decide +kernel) (Nat.le_of_ble_eq_true rfl) rfl (b_Fm_areNoNumber_0 (k_Fm_areNoNumber_4 (c_Fm_exponentField hb) (b_Fm_areNoNumber_7 (k_Fm_areNoNumber_10 (c_Fm_infiniteField (by decide)) (b_Fm_areNoNumber_13 (fun h => ?_) (fun h => k_Fm_areNoNumber_20 (c_Fm_lowField (by decide) hb) (b_Fm_areNoNumber_23 (fun h2 => ?_) (fun h2 => ?_))))))))
  · have q : ¬ (f_nan b = true) := fun z => h (by
      have z := of_decide_eq_true z
      rw [z.1]; rfl)
    rw [if_neg q]
    exact b_Fm_areNoNumber_32 (b_Fm_areNoNumber_33 ⟨rfl, rfl, rfl⟩)
  · have q : ¬ (f_nan b = true) := fun z => by
      have z := of_decide_eq_true z
      exact z.2 ((lg_cmp0 (Nat.lt_trans (Nat.mod_lt _ (by decide)) (by decide))).mp h2)
    rw [if_neg q]
    exact b_Fm_areNoNumber_32 (b_Fm_areNoNumber_33 ⟨rfl, rfl, rfl⟩)
  · have q : f_nan b = true := decide_eq_true ⟨(nI_eq (by omega) (by decide)).mp h, fun z => h2 ((lg_cmp0 (Nat.lt_trans (Nat.mod_lt _ (by decide)) (by decide))).mpr z)⟩
    rw [if_pos q]
    exact b_Fm_areNoNumber_33 ⟨rfl, rfl, rfl⟩
