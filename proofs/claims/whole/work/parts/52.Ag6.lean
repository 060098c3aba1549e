/-! AGREE, 6: compare -/
theorem nv_all {ds : Nat → Nat} {i : Nat} : nv ds 0 i = 0 ↔ ∀ j, j < i → ds j = 0 := by
  constructor
  · intro h j hj
    by_cases x : ds j = 0
    · exact x
    · exfalso
      have key : ∀ i, (∃ j, j < i ∧ ds j ≠ 0) → nv ds 0 i ≠ 0 := by
        intro i
        induction i with
        | zero => intro ⟨j, h1, _⟩; omega
        | succ i ih =>
          intro ⟨j, h1, h2⟩ q
          rw [nv, Nat.zero_add] at q
          rcases (show j < i ∨ j = i by omega) with v | v
          · have := ih ⟨j, v, h2⟩
            omega
          · rw [v] at h2; omega
      exact key _ ⟨j, hj, x⟩ h
  · intro h
    have := nv_skip (ds := ds) (f0 := i) h 0
    rw [Nat.add_zero] at this
    rw [this]
    rfl
theorem nx_all {ds : Nat → Nat} {i : Nat} : nx ds i = 0 ↔ ∀ j, j < i → ds j = 0 := by
  constructor
  · intro h j hj
    by_cases x : ds j = 0
    · exact x
    · exfalso
      have key : ∀ i, (∃ j, j < i ∧ ds j ≠ 0) → nx ds i ≠ 0 := by
        intro i
        induction i with
        | zero => intro ⟨j, h1, _⟩; omega
        | succ i ih =>
          intro ⟨j, h1, h2⟩ q
          rw [nx] at q
          rcases (show j < i ∨ j = i by omega) with v | v
          · have := ih ⟨j, v, h2⟩
            omega
          · rw [v] at h2; omega
      exact key _ ⟨j, hj, x⟩ h
  · intro h
    exact nx_skip h _ (Nat.le_refl _)
theorem lead_none {ch : Nat → Nat} {n k d lead : Nat} {ng rs : Bool} {L : List (Option Nat)} {es : List Nat} {pl : Int} (hC : tCh ch n) (hs : scOk ch n ng k d L es) (hz : szK ch k d L es lead pl rs) : lead = 0 ↔ k < 2 ∧ ∀ j, j < (dF L).length → dsF L j = 0 := by
  obtain ⟨_, g0, g1⟩ := hs.dg hC
  rcases hz.2.2 with ⟨h, hd⟩ | ⟨h, hd⟩ | ⟨h, hd, _⟩
  · subst h
    obtain ⟨hd0, hL⟩ := g0 rfl
    have hsg := acc_sg0 (dgL_dgs (Or.inl rfl) _ _ _ hL)
    have e : acc 10 0 L = 0 ↔ ∀ j, j < (dF L).length → dsF L j = 0 := by rw [acc_nv]; exact nv_all
    rw [← e]
    rcases hd with ⟨h1, h2, _⟩ | ⟨h1, _, h2, _⟩ | ⟨h1, _, h2, _⟩ | ⟨h1, _, _, h2, _⟩
    · exact ⟨fun _ => ⟨by decide, hsg.1 h1⟩, fun _ => h2⟩
    all_goals
      have h3 := hsg.2.1 h1
      have h4 : 0 < 10 ^ (sgF 0 L - 1) := Nat.pow_pos (by decide)
      exact ⟨fun z => by omega, fun z => by omega⟩
  · subst h
    have e : acc 16 0 L = 0 ↔ ∀ j, j < (dF L).length → dsF L j = 0 := by rw [acc_nx]; exact nx_all
    rw [← e]
    rcases hd with ⟨h1, h2, _⟩ | ⟨h1, h2, _⟩
    · exact ⟨fun _ => ⟨by decide, h1⟩, fun _ => h2⟩
    · exact ⟨fun z => by omega, fun z => absurd z.2 h1⟩
  · exact ⟨fun z => by omega, fun z => by omega⟩
/-- the size of a double -/
def dbl (b lead2 : Nat) (pl2 : Int) : Prop :=
  (b % 2 ^ 63 = 0 ∧ lead2 = 0) ∨ (b % 2 ^ 63 = dI ∧ lead2 = 2 ^ 62 ∧ pl2 = 1073741824) ∨
  (b % 2 ^ 63 ≠ 0 ∧ b % 2 ^ 63 < dI ∧ ∃ j, bin (mD b) j ∧ lead2 = mD b * 2 ^ (62 - j) ∧ pl2 = kD b - (62 - j : Nat))
theorem ord_mCs {ch : Nat → Nat} {n k d lead whole rest b lead2 : Nat} {ng rs huge : Bool} {L : List (Option Nat)} {es : List Nat} {pl scale pl2 : Int} (hC : tCh ch n) (hs : scOk ch n ng k d L es) (hk : k < 3) (hz : szK ch k d L es lead pl rs) (hl0 : lead ≠ 0) (hb0 : b % 2 ^ 63 ≠ 0) (hD : dbl b lead2 pl2) (hm : k < 2 → b % 2 ^ 63 ≠ dI → mK ch k d L es 53 (-1074) whole scale rest huge) :
    ordZ lead pl rs lead2 pl2 = mCs k (b % 2 ^ 63) whole scale rest huge := by
  have hn := lead_none hC hs hz
  rcases hD with ⟨h, _⟩ | ⟨h1, h2, h3⟩ | ⟨h1, h2, j, h3, h4, h5⟩
  · exact absurd h hb0
  · -- the double is infinite
    unfold mCs
    rw [if_pos (Or.inr h1), if_pos h1]
    rcases (show k = 2 ∨ k < 2 by omega) with z | z
    · rcases hz.2.2 with ⟨h, _⟩ | ⟨h, _⟩ | ⟨_, p1, p2, p3⟩
      · omega
      · omega
      · rw [if_neg (fun v => v z), p1, p2, p3, h2, h3]
        decide
    · have hp := hz.2.1.2 z
      rw [if_pos (by omega)]
      unfold ordZ
      rw [if_pos (by omega)]
  · have hj : j < 53 := (bin_lt h3 53).mp (mD_lt b)
    obtain ⟨m1, m2, m3, m4, m5⟩ := sb_mk rfl h2
    rcases (show k = 2 ∨ k < 2 by omega) with z | z
    · unfold mCs
      rw [if_pos (Or.inl z), if_neg (fun v => v z), if_neg (by omega)]
      rcases hz.2.2 with ⟨h, _⟩ | ⟨h, _⟩ | ⟨_, p1, p2, p3⟩
      · omega
      · omega
      · unfold ordZ
        rw [if_neg (by omega), if_pos (by omega)]
    · obtain ⟨num, den, hd, hF, hA, hnum⟩ := ag_cases hC hs z hz (hm z (by omega))
      rcases hA with ⟨a1, a2, _⟩ | ⟨a1, a2, a3, a4, a5⟩ | ⟨a1, a2, a3, a4, a5⟩ | ⟨a1, a2, a3, a4, a5, a6⟩
      · exact absurd a2 hl0
      · have hbig := mF_big (i := 0) (by decide) hd a5 hF
        have hU : (if huge then dI else rc_bits 53 2047 whole ((scale - (-1074)).toNat + 1)) = dI := by
          rcases hbig with y | ⟨y1, y2, y3⟩
          · rw [if_pos y]
          · rw [if_neg (by rw [y1]; decide)]
            have e1 : f_p 0 - 1 = 53 - 1 := rfl
            have e2 : f_inf 0 = 2047 := rfl
            have e3 : f_least 0 = -1074 := rfl
            rw [e1] at y2
            rw [e2, e3] at y3
            unfold rc_bits
            rw [if_neg (by omega), dI_e]
            refine Nat.min_eq_right ?_
            rw [← dI_e]
            exact Nat.le_trans (Nat.mul_le_mul_right _ y3) (Nat.le_add_right _ _)
        unfold mCs
        rw [if_neg (by omega), hU, if_pos (Or.inl rfl)]
        unfold ordZ
        rw [if_neg (by omega), if_pos (by omega)]
      · obtain ⟨s1, s2, s3⟩ := mF_small (i := 0) (by decide) a1 a5 hF
        subst s1 s2 s3
        have hU : rc_bits 53 2047 0 ((scale - (-1074)).toNat + 1) = 0 := by
          unfold rc_bits
          rw [if_pos (by decide)]
        have hI : 0 < dI := by decide +kernel
        unfold mCs
        simp only [Bool.false_eq_true, if_false]
        rw [hU, if_neg (by omega), if_neg (by omega), if_pos (by omega)]
        unfold ordZ
        rw [if_pos (by omega)]
      · subst a6
        have hm62 : 2 ^ 62 ≤ lead2 ∧ lead2 < 2 ^ 63 := by
          have := bin_mul (c := 62 - j) h3
          rw [show j + (62 - j) = 62 by omega] at this
          rw [h4]
          exact this
        obtain ⟨K, hK⟩ : ∃ K : Nat, K = (-pl).toNat + (-pl2).toNat + (-scale).toNat + (-kD b).toNat := ⟨_, rfl⟩
        rw [ord_sgn hd a4 a2 a3 hm62.1 hm62.2 K (by omega) (by omega), mCs_sgn hd rfl h2 (by omega) a5 K (by omega) (by omega)]
        congr 1
        rw [h4, Nat.mul_assoc, Nat.mul_left_comm (2 ^ (62 - j)), ← Nat.pow_add]
        congr 3
        omega
def cV (ng : Bool) (lead : Nat) (pl : Int) (rs ob : Bool) (lead2 : Nat) (pl2 : Int) : Int :=
  if (if lead = 0 then (0 : Int) else if ng then -1 else 1) ≠ (if lead2 = 0 then (0 : Int) else if ob then -1 else 1) then
    (if (if lead = 0 then (0 : Int) else if ng then -1 else 1) < (if lead2 = 0 then (0 : Int) else if ob then -1 else 1) then -1 else 1)
  else (if lead = 0 then (0 : Int) else if ng then -1 else 1) * ordZ lead pl rs lead2 pl2
theorem dbl_0 {b lead2 : Nat} {pl2 : Int} (h : dbl b lead2 pl2) : lead2 = 0 ↔ b % 2 ^ 63 = 0 := by
  rcases h with ⟨h1, h2⟩ | ⟨h1, h2, h3⟩ | ⟨h1, h2, j, h3, h4, h5⟩
  · exact ⟨fun _ => h1, fun _ => h2⟩
  · have : 0 < dI := by decide +kernel
    exact ⟨fun z => by omega, fun z => by omega⟩
  · have h6 := (bin_mul (c := 62 - j) h3).1
    have h7 := Nat.two_pow_pos (j + (62 - j))
    rw [← h4] at h6
    exact ⟨fun z => by omega, fun z => absurd z h1⟩
theorem ag_cmp {ch : Nat → Nat} {n k d lead whole rest b lead2 : Nat} {ng rs huge none : Bool} {L : List (Option Nat)} {es : List Nat} {pl scale pl2 : Int} (hC : tCh ch n) (hs : scOk ch n ng k d L es) (hk : k < 3) (hz : szK ch k d L es lead pl rs) (hD : dbl b lead2 pl2)
    (hnone : none = true ↔ k < 2 ∧ ∀ j, j < (dF L).length → dsF L j = 0) (hm : none = false → b % 2 ^ 63 ≠ 0 → k < 2 → b % 2 ^ 63 ≠ dI → ng = decide (2 ^ 63 ≤ b) → mK ch k d L es 53 (-1074) whole scale rest huge) :
    cV ng lead pl rs (decide (2 ^ 63 ≤ b)) lead2 pl2 = mC ng k (decide (2 ^ 63 ≤ b)) (b % 2 ^ 63) none (mCs k (b % 2 ^ 63) whole scale rest huge) := by
  have e1 := (lead_none hC hs hz).trans hnone.symm
  have e2 := dbl_0 hD
  have key : none = false → b % 2 ^ 63 ≠ 0 → ng = decide (2 ^ 63 ≤ b) → ordZ lead pl rs lead2 pl2 = mCs k (b % 2 ^ 63) whole scale rest huge := by
    intro h1 h2 h3
    exact ord_mCs hC hs hk hz (fun z => by rw [e1.mp z] at h1; exact absurd h1 (by decide)) h2 hD (fun h4 h5 => hm h1 h2 h4 h5 h3)
  unfold cV mC
  generalize mCs k (b % 2 ^ 63) whole scale rest huge = c at *
  generalize b % 2 ^ 63 = sb at *
  generalize decide (2 ^ 63 ≤ b) = ob at *
  generalize ordZ lead pl rs lead2 pl2 = v at *
  simp only [e1, e2]
  by_cases z : sb = 0
  · cases none <;> cases ng <;> cases ob <;> simp [z]
  · cases none with
    | true => cases ng <;> cases ob <;> simp [z]
    | false =>
      cases ng <;> cases ob <;> simp [z]
      · exact key rfl z rfl
      · exact key rfl z rfl
