/-! NUMBERS, 1: what is left behind a cut, rounding, bits -/
def rc_cls (r D : Nat) : Nat := if r = 0 then 0 else if 2 * r < D then 1 else if 2 * r = D then 2 else 3
theorem rc_fl {N d j0 j : Nat} (h : j0 ≤ j) : N / (d * 2 ^ j) = N / (d * 2 ^ j0) / 2 ^ (j - j0) := by
  rw [Nat.div_div_eq_div_mul, Nat.mul_assoc, ← Nat.pow_add, Nat.add_sub_cancel' h]
theorem rc_pw {d j0 j : Nat} (h : j0 ≤ j) : d * 2 ^ j = d * 2 ^ j0 * 2 ^ (j - j0) := by
  rw [Nat.mul_assoc, ← Nat.pow_add, Nat.add_sub_cancel' h]
theorem rc_aux {a r0 low half : Nat} (h : r0 < a) (hh : 1 ≤ half) : rc_cls (r0 + a * low) (a * (2 * half)) = if low = 0 ∧ r0 = 0 then 0 else if half < low ∨ (low = half ∧ r0 ≠ 0) then 3 else if low = half then 2 else 1 := by
  have ha : 0 < a := Nat.lt_of_le_of_lt (Nat.zero_le _) h
  have e : a * (2 * half) = 2 * (a * half) := Nat.mul_left_comm a 2 half
  have nz : ¬ (low = 0 ∧ r0 = 0) → r0 + a * low ≠ 0 := by
    intro z q
    apply z
    have q1 : a * low = 0 := by omega
    have q2 : r0 = 0 := by omega
    rcases Nat.mul_eq_zero.mp q1 with p | p
    · omega
    · exact ⟨p, q2⟩
  unfold rc_cls
  rw [e]
  by_cases z : low = 0 ∧ r0 = 0
  · rw [if_pos z, z.1, z.2]
    simp
  · rw [if_neg (nz z), if_neg z]
    rcases Nat.lt_trichotomy low half with c | c | c
    · have h1 : a * (low + 1) ≤ a * half := Nat.mul_le_mul_left a c
      rw [Nat.mul_add] at h1
      rw [if_pos (by omega), if_neg (by omega), if_neg (by omega)]
    · subst c
      by_cases q : r0 = 0
      · rw [if_neg (by omega), if_pos (by omega), if_neg (by omega), if_pos rfl]
      · rw [if_neg (by omega), if_neg (by omega), if_pos (Or.inr ⟨rfl, q⟩)]
    · have h1 : a * (half + 1) ≤ a * low := Nat.mul_le_mul_left a c
      rw [Nat.mul_add] at h1
      rw [if_neg (by omega), if_neg (by omega), if_pos (Or.inl c)]
/-- the rest behind the cut at j, told by the bits of the quotient at j0 and the rest there -/
theorem rc_lead {N d j0 j : Nat} (hd : 0 < d) (h : j0 < j) : rc_cls (N % (d * 2 ^ j)) (d * 2 ^ j) =
    if N / (d * 2 ^ j0) % 2 ^ (j - j0) = 0 ∧ N % (d * 2 ^ j0) = 0 then 0 else if 2 ^ (j - j0 - 1) < N / (d * 2 ^ j0) % 2 ^ (j - j0) ∨ (N / (d * 2 ^ j0) % 2 ^ (j - j0) = 2 ^ (j - j0 - 1) ∧ N % (d * 2 ^ j0) ≠ 0) then 3 else if N / (d * 2 ^ j0) % 2 ^ (j - j0) = 2 ^ (j - j0 - 1) then 2 else 1 := by
  have e : d * 2 ^ j = d * 2 ^ j0 * 2 ^ (j - j0) := rc_pw (Nat.le_of_lt h)
  have e2 : 2 ^ (j - j0) = 2 * 2 ^ (j - j0 - 1) := by
    have q : j - j0 = (j - j0 - 1) + 1 := by omega
    calc 2 ^ (j - j0) = 2 ^ ((j - j0 - 1) + 1) := by rw [← q]
      _ = 2 * 2 ^ (j - j0 - 1) := Nat.pow_succ'
  have hp : 0 < d * 2 ^ j0 := Nat.mul_pos hd (Nat.two_pow_pos _)
  rw [e, Nat.mod_mul, e2]
  exact rc_aux (Nat.mod_lt _ hp) (Nat.two_pow_pos _)
/-- rounding to even -/
def rc_up (w c : Nat) : Nat := if c = 3 ∨ (c = 2 ∧ w % 2 = 1) then w + 1 else w
/-- bits of a size: w at the exponent field i (from 1 on), p bits, all above the highest exponent f is infinite -/
def rc_bits (p f w i : Nat) : Nat := if w < 2 ^ (p - 1) then w else min (i * 2 ^ (p - 1) + (w - 2 ^ (p - 1))) (f * 2 ^ (p - 1))
