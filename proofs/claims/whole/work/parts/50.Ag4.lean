/-! AGREE, 4: compare -/
def sg3 (A X : Nat) : Int := if A < X then -1 else if A = X then 0 else 1
theorem ord_sgn {num den lead lead2 : Nat} {pl pl2 : Int} {rs : Bool} (hd : 0 < den) (z : zR num den lead pl rs) (hl1 : 2 ^ 62 ≤ lead) (hl2 : lead < 2 ^ 63) (hm1 : 2 ^ 62 ≤ lead2) (hm2 : lead2 < 2 ^ 63) (K : Nat) (h1 : 0 ≤ K + pl) (h2 : 0 ≤ K + pl2) :
    ordZ lead pl rs lead2 pl2 = sg3 (num * 2 ^ K) (lead2 * (den * 2 ^ (K + pl2).toNat)) := by
  obtain ⟨z1, z2⟩ := z K (K + pl).toNat (by omega)
  have hA0 : 0 < den * 2 ^ (K + pl).toNat := Nat.mul_pos hd (Nat.two_pow_pos _)
  have hA2 : 0 < den * 2 ^ (K + pl2).toNat := Nat.mul_pos hd (Nat.two_pow_pos _)
  have hdm := Nat.div_add_mod (num * 2 ^ K) (den * 2 ^ (K + pl).toNat)
  have hml := Nat.mod_lt (num * 2 ^ K) hA0
  rw [← z1] at hdm
  unfold ordZ sg3
  by_cases c1 : pl < pl2
  · have g : 2 * (den * 2 ^ (K + pl).toNat) ≤ den * 2 ^ (K + pl2).toNat := by
      have : den * 2 ^ ((K + pl).toNat + 1) ≤ den * 2 ^ (K + pl2).toNat := Nat.mul_le_mul_left _ (Nat.pow_le_pow_right (by decide) (by omega))
      rw [Nat.pow_succ, ← Nat.mul_assoc] at this
      omega
    have g2 : 2 ^ 62 * (2 * (den * 2 ^ (K + pl).toNat)) ≤ lead2 * (den * 2 ^ (K + pl2).toNat) := Nat.mul_le_mul hm1 g
    have g3 : den * 2 ^ (K + pl).toNat * (lead + 1) ≤ den * 2 ^ (K + pl).toNat * 2 ^ 63 := Nat.mul_le_mul_left _ hl2
    rw [if_pos c1, if_pos]
    generalize den * 2 ^ (K + pl).toNat = D at *
    generalize lead2 * (den * 2 ^ (K + pl2).toNat) = X at *
    rw [Nat.mul_add] at g3
    omega
  · rw [if_neg c1]
    by_cases c2 : pl2 < pl
    · have g : 2 * (den * 2 ^ (K + pl2).toNat) ≤ den * 2 ^ (K + pl).toNat := by
        have : den * 2 ^ ((K + pl2).toNat + 1) ≤ den * 2 ^ (K + pl).toNat := Nat.mul_le_mul_left _ (Nat.pow_le_pow_right (by decide) (by omega))
        rw [Nat.pow_succ, ← Nat.mul_assoc] at this
        omega
      have g2 : 2 * (den * 2 ^ (K + pl2).toNat) * 2 ^ 62 ≤ den * 2 ^ (K + pl).toNat * lead := Nat.mul_le_mul g hl1
      have g3 : lead2 * (den * 2 ^ (K + pl2).toNat) < 2 ^ 63 * (den * 2 ^ (K + pl2).toNat) := (Nat.mul_lt_mul_right hA2).mpr hm2
      rw [if_pos c2, if_neg, if_neg]
      · generalize den * 2 ^ (K + pl2).toNat = D at *
        generalize den * 2 ^ (K + pl).toNat * lead = Y at *
        generalize num * 2 ^ K % (den * 2 ^ (K + pl).toNat) = r at *
        omega
      · generalize den * 2 ^ (K + pl2).toNat = D at *
        generalize den * 2 ^ (K + pl).toNat * lead = Y at *
        generalize num * 2 ^ K % (den * 2 ^ (K + pl).toNat) = r at *
        omega
    · rw [if_neg c2]
      have ep : pl2 = pl := by omega
      subst ep
      rw [Nat.mul_comm lead2]
      generalize num * 2 ^ K % (den * 2 ^ (K + pl2).toNat) = r at *
      generalize den * 2 ^ (K + pl2).toNat = D at *
      generalize num * 2 ^ K = A at *
      rcases Nat.lt_trichotomy lead lead2 with c | c | c
      · have g : D * (lead + 1) ≤ D * lead2 := Nat.mul_le_mul_left _ c
        rw [Nat.mul_add] at g
        rw [if_pos c, if_pos (by omega)]
      · subst c
        rw [z2, if_neg (Nat.lt_irrefl _), if_neg (Nat.lt_irrefl _), if_neg (by omega : ¬ A < D * lead)]
        by_cases y : r = 0
        · rw [if_pos (by omega : A = D * lead), if_neg (by simp [y])]
        · rw [if_neg (by omega : ¬ A = D * lead), if_pos (by simp [y])]
      · have g : D * (lead2 + 1) ≤ D * lead := Nat.mul_le_mul_left _ c
        rw [Nat.mul_add] at g
        rw [if_neg (by omega), if_pos c, if_neg (by omega), if_neg (by omega)]
/-- the bits of a double, told by its whole number and its exponent -/
theorem sb_mk {b sb : Nat} (h : b % 2 ^ 63 = sb) (hf : sb < dI) : (mD b < 2 ^ 53) ∧ (-1074 ≤ kD b) ∧ (kD b = -1074 ∨ 2 ^ 52 ≤ mD b) ∧ kD b ≤ 971 ∧ sb = (if mD b < 2 ^ 52 then mD b else ((kD b + 1074).toNat + 1) * 2 ^ 52 + (mD b - 2 ^ 52)) := by
  have hI : dI = 2047 * 2 ^ 52 := rfl
  have e1 : b / 2 ^ 52 % 2048 = sb / 2 ^ 52 := by omega
  have e2 : b % 2 ^ 52 = sb % 2 ^ 52 := by omega
  have hlow : sb % 2 ^ 52 < 2 ^ 52 := Nat.mod_lt _ (by decide)
  have hdm := Nat.div_add_mod sb (2 ^ 52)
  have hq : sb / 2 ^ 52 < 2047 := by
    rw [Nat.div_lt_iff_lt_mul (by decide)]
    rw [hI] at hf
    exact hf
  unfold mD kD
  rw [e1, e2]
  by_cases z : sb / 2 ^ 52 = 0
  · rw [if_pos z, if_pos z, if_pos hlow]
    exact ⟨by omega, by decide, Or.inl rfl, by decide, by omega⟩
  · rw [if_neg z, if_neg z, if_neg (by omega)]
    exact ⟨by omega, by omega, Or.inr (by omega), by omega, by omega⟩
