/-! AGREE, 5: compare, the model's side and both -/
theorem rc_cls0 {r D : Nat} : rc_cls r D = 0 ↔ r = 0 := by
  unfold rc_cls
  constructor
  · intro h
    by_cases z : r = 0
    · exact z
    · rw [if_neg z] at h
      split at h
      · exact absurd h (by decide)
      · split at h <;> exact absurd h (by decide)
  · intro h; rw [if_pos h]
theorem nle1 {U sb D : Nat} (h : U < sb) (hf : sb < D) : ¬ (U = D ∨ sb < U) := by omega
theorem nle2 {sb D : Nat} (hf : sb < D) : ¬ (sb = D ∨ sb < sb) := by omega
theorem mCs_sgn {num den k b sb whole rest : Nat} {scale : Int} (hd : 0 < den) (hsb : b % 2 ^ 63 = sb) (hf : sb < dI) (hk : k ≠ 2) (f : fR num den 53 (-1074) whole scale rest) (K : Nat) (h1 : 0 ≤ K + scale) (h2 : 0 ≤ K + kD b) :
    mCs k sb whole scale rest false = sg3 (num * 2 ^ K) (mD b * (den * 2 ^ (K + kD b).toNat)) := by
  obtain ⟨m1, m2, m3, m4, m5⟩ := sb_mk hsb hf
  obtain ⟨f1, f2, f3, f4⟩ := f
  obtain ⟨e1, e2⟩ := f1 K (K + scale).toNat (by omega)
  have hDs : 0 < den * 2 ^ (K + scale).toNat := Nat.mul_pos hd (Nat.two_pow_pos _)
  have hDk : 0 < den * 2 ^ (K + kD b).toNat := Nat.mul_pos hd (Nat.two_pow_pos _)
  have hdm := Nat.div_add_mod (num * 2 ^ K) (den * 2 ^ (K + scale).toNat)
  have hml := Nat.mod_lt (num * 2 ^ K) hDs
  rw [← e1] at hdm
  have hr0 : rest = 0 ↔ num * 2 ^ K % (den * 2 ^ (K + scale).toNat) = 0 := by rw [e2]; exact rc_cls0
  have hI : dI = 2047 * 2 ^ 52 := rfl
  obtain ⟨U, hU⟩ : ∃ U, U = rc_bits 53 2047 whole ((scale - (-1074)).toNat + 1) := ⟨_, rfl⟩
  have hU2 : U = if whole < 2 ^ 52 then whole else min (((scale + 1074).toNat + 1) * 2 ^ 52 + (whole - 2 ^ 52)) dI := by
    rw [hU]
    unfold rc_bits
    rw [show scale - (-1074) = scale + 1074 by omega, dI_e, show (2 : Nat) ^ (53 - 1) = 2 ^ 52 from rfl]
  have ecs : mCs k sb whole scale rest false = if U = dI ∨ sb < U then 1 else if U < sb then -1 else if rest = 0 then 0 else 1 := by
    unfold mCs
    rw [if_neg (by omega)]
    simp only [Bool.false_eq_true, if_false]
    rw [← hU]
  rw [ecs]
  unfold sg3
  generalize hA : num * 2 ^ K = A at *
  generalize hr : A % (den * 2 ^ (K + scale).toNat) = r at *
  generalize hu : (scale + 1074).toNat = u at *
  generalize hv : (kD b + 1074).toNat = v at *
  rcases Int.lt_trichotomy scale (kD b) with c | c | c
  · -- scale below
    have hm52 : 2 ^ 52 ≤ mD b := m3.resolve_left (by omega)
    rw [if_neg (by omega)] at m5
    have hlt : U < sb := by
      rw [hU2]
      have g : (u + 2) * 2 ^ 52 ≤ (v + 1) * 2 ^ 52 := Nat.mul_le_mul_right _ (by omega)
      split
      · omega
      · refine Nat.lt_of_le_of_lt (Nat.min_le_left _ _) ?_
        rw [Nat.add_mul] at g ⊢
        omega
    have gA : A < mD b * (den * 2 ^ (K + kD b).toNat) := by
      have g1 : 2 * (den * 2 ^ (K + scale).toNat) ≤ den * 2 ^ (K + kD b).toNat := by
        have : den * 2 ^ ((K + scale).toNat + 1) ≤ den * 2 ^ (K + kD b).toNat := Nat.mul_le_mul_left _ (Nat.pow_le_pow_right (by decide) (by omega))
        rw [Nat.pow_succ, ← Nat.mul_assoc] at this
        omega
      have g2 : 2 ^ 52 * (2 * (den * 2 ^ (K + scale).toNat)) ≤ mD b * (den * 2 ^ (K + kD b).toNat) := Nat.mul_le_mul hm52 g1
      have g3 : den * 2 ^ (K + scale).toNat * (whole + 1) ≤ den * 2 ^ (K + scale).toNat * 2 ^ 53 := Nat.mul_le_mul_left _ f3
      rw [Nat.mul_add] at g3
      generalize mD b * (den * 2 ^ (K + kD b).toNat) = X at *
      generalize den * 2 ^ (K + scale).toNat = D at *
      omega
    rw [if_pos gA, if_neg (nle1 hlt hf), if_pos hlt]
  · -- the same place
    rw [c] at hdm hml hDs
    rw [Nat.mul_comm (mD b)]
    have huv : u = v := by omega
    subst huv
    have hsU : ∀ x, x < 2 ^ 53 → (x < 2 ^ 52 → u = 0) → (if x < 2 ^ 52 then x else (u + 1) * 2 ^ 52 + (x - 2 ^ 52)) = u * 2 ^ 52 + x := by
      intro x hx h0
      by_cases z : x < 2 ^ 52
      · rw [if_pos z, h0 z]; omega
      · rw [if_neg z, Nat.add_mul]; omega
    have w0 : whole < 2 ^ 52 → u = 0 := fun z => by
      rcases f4 with f4 | f4
      · omega
      · have : 2 ^ (53 - 1) = 2 ^ 52 := rfl
        omega
    have d0 : mD b < 2 ^ 52 → u = 0 := fun z => by
      rcases m3 with m3 | m3
      · omega
      · omega
    rw [hsU _ m1 d0] at m5
    have hU3 : U = min (u * 2 ^ 52 + whole) dI := by
      have := hsU whole f3 w0
      rw [hU2]
      by_cases z : whole < 2 ^ 52
      · rw [if_pos z]
        rw [if_pos z] at this
        rw [← this]
        refine (Nat.min_eq_left ?_).symm
        omega
      · rw [if_neg z]
        rw [if_neg z] at this
        rw [this]
    generalize den * 2 ^ (K + kD b).toNat = D at *
    rcases Nat.lt_trichotomy whole (mD b) with w | w | w
    · have g : D * (whole + 1) ≤ D * mD b := Nat.mul_le_mul_left _ w
      rw [Nat.mul_add] at g
      have hlt : U < sb := by rw [hU3]; exact Nat.lt_of_le_of_lt (Nat.min_le_left _ _) (by omega)
      rw [if_pos (by omega : A < D * mD b), if_neg (nle1 hlt hf), if_pos hlt]
    · have hUe : U = sb := by
        rw [hU3, w, ← m5]
        exact Nat.min_eq_left (by omega)
      rw [← w, hUe, if_neg (nle2 hf), if_neg (Nat.lt_irrefl _), if_neg (by omega : ¬ A < D * whole)]
      by_cases y : rest = 0
      · have := hr0.mp y
        rw [if_pos y, if_pos (by omega)]
      · have : r ≠ 0 := fun q => y (hr0.mpr q)
        rw [if_neg y, if_neg (by omega)]
    · have g : D * (mD b + 1) ≤ D * whole := Nat.mul_le_mul_left _ w
      rw [Nat.mul_add] at g
      have hgt : U = dI ∨ sb < U := by
        rw [hU3]
        rcases Nat.le_total (u * 2 ^ 52 + whole) dI with y | y
        · rw [Nat.min_eq_left y]; right; omega
        · rw [Nat.min_eq_right y]; left; rfl
      rw [if_pos hgt, if_neg (by omega), if_neg (by omega)]
  · -- scale above
    have hw52 : 2 ^ 52 ≤ whole := f4.resolve_left (by omega)
    have hgt : U = dI ∨ sb < U := by
      rw [hU2, if_neg (by omega)]
      rcases Nat.le_total ((u + 1) * 2 ^ 52 + (whole - 2 ^ 52)) dI with y | y
      · rw [Nat.min_eq_left y]
        right
        have g : (v + 2) * 2 ^ 52 ≤ (u + 1) * 2 ^ 52 := Nat.mul_le_mul_right _ (by omega)
        rw [m5]
        split
        · rw [Nat.add_mul] at g ⊢
          omega
        · rw [Nat.add_mul] at g ⊢
          omega
      · rw [Nat.min_eq_right y]; left; rfl
    have gA : mD b * (den * 2 ^ (K + kD b).toNat) < A := by
      have g1 : 2 * (den * 2 ^ (K + kD b).toNat) ≤ den * 2 ^ (K + scale).toNat := by
        have : den * 2 ^ ((K + kD b).toNat + 1) ≤ den * 2 ^ (K + scale).toNat := Nat.mul_le_mul_left _ (Nat.pow_le_pow_right (by decide) (by omega))
        rw [Nat.pow_succ, ← Nat.mul_assoc] at this
        omega
      have g2 : 2 * (den * 2 ^ (K + kD b).toNat) * 2 ^ 52 ≤ den * 2 ^ (K + scale).toNat * whole := Nat.mul_le_mul g1 hw52
      have g3 : mD b * (den * 2 ^ (K + kD b).toNat) < 2 ^ 53 * (den * 2 ^ (K + kD b).toNat) := (Nat.mul_lt_mul_right hDk).mpr m1
      generalize mD b * (den * 2 ^ (K + kD b).toNat) = X at *
      generalize den * 2 ^ (K + scale).toNat * whole = Y at *
      generalize den * 2 ^ (K + kD b).toNat = D at *
      omega
    rw [if_pos hgt, if_neg (by omega), if_neg (by omega)]
