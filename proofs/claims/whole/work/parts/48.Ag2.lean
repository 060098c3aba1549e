/-! AGREE, 2: bits and sides -/
theorem fC_tiny {num den whole rest : Nat} {scale : Int} (hn : num ≠ 0) (h : fC num den whole scale rest) (K j : Nat) (hj : (j : Int) = K + scale) (hlt : 2 * (num * 2 ^ K) < den * 2 ^ j) : whole = 0 ∧ rest = 1 := by
  obtain ⟨h1, h2⟩ := h K j hj
  have hlt2 : num * 2 ^ K < den * 2 ^ j := by omega
  have hne : num * 2 ^ K ≠ 0 := Nat.ne_of_gt (Nat.mul_pos (Nat.pos_of_ne_zero hn) (Nat.two_pow_pos K))
  refine ⟨by rw [h1, Nat.div_eq_of_lt hlt2], ?_⟩
  rw [h2, Nat.mod_eq_of_lt hlt2]
  unfold rc_cls
  rw [if_neg hne, if_pos hlt]
theorem mBS_tiny {i : Nat} {scale : Int} (hi : i < 2) : mB i 0 scale 1 false = 0 ∧ mS i 0 scale 1 false = -1 := by
  have hp := Nat.two_pow_pos (f_p i - 1)
  have hB : mB i 0 scale 1 false = 0 := by
    have e : mB i 0 scale 1 false = rc_bits (f_p i) (f_inf i) 0 ((scale - f_least i).toNat + 1) := rfl
    rw [e]
    unfold rc_bits
    rw [if_pos hp]
  refine ⟨hB, ?_⟩
  have hne : ¬ 0 = f_inf i * 2 ^ (f_p i - 1) := by
    have := (f_rng hi).2.2.1
    have : 0 < f_inf i * 2 ^ (f_p i - 1) := Nat.mul_pos (by omega) hp
    omega
  unfold mS
  rw [hB, if_neg hne, if_neg (by decide), if_neg (by decide)]
theorem mF_small {i num den whole rest : Nat} {scale : Int} {huge : Bool} (hi : i < 2) (hn : num ≠ 0) (hs : num * 2 ^ 1080 < den) (h : mF num den (f_p i) (f_least i) whole scale rest huge) : whole = 0 ∧ rest = 1 ∧ huge = false := by
  obtain ⟨p1, p2, i1, i2, l1, l2⟩ := f_rng hi
  rcases h with ⟨h, _⟩ | ⟨_, ⟨h1, h2, h3, h4⟩, h5, _⟩ | ⟨_, h, _⟩ | ⟨_, _, h1, h2, _, h3⟩
  · exact absurd h hn
  · have ht := fC_tiny hn h1 1080 (1080 + scale).toNat (by omega) (by
      have e : den * 2 ^ 2 ≤ den * 2 ^ (1080 + scale).toNat := Nat.mul_le_mul_left _ (Nat.pow_le_pow_right (by decide) (by omega))
      rw [show (2 : Nat) ^ 2 = 4 from rfl] at e
      omega)
    exact ⟨ht.1, ht.2, h5⟩
  · exfalso
    have g1 : num ≤ num * 2 ^ 1080 := Nat.le_mul_of_pos_right _ (Nat.two_pow_pos _)
    have g2 : den ≤ den * 2 ^ 1300 := Nat.le_mul_of_pos_right _ (Nat.two_pow_pos _)
    generalize num * 2 ^ 1080 = a at *
    generalize den * 2 ^ 1300 = b at *
    omega
  · exact ⟨h2, h3, h1⟩
theorem mF_big {i num den whole rest : Nat} {scale : Int} {huge : Bool} (hi : i < 2) (hd : 0 < den) (hb : den * 2 ^ 1030 ≤ num) (h : mF num den (f_p i) (f_least i) whole scale rest huge) : huge = true ∨ (huge = false ∧ 2 ^ (f_p i - 1) ≤ whole ∧ f_inf i ≤ (scale - f_least i).toNat + 1) := by
  obtain ⟨p1, p2, i1, i2, l1, l2⟩ := f_rng hi
  have hpos : 0 < den * 2 ^ 1030 := Nat.mul_pos hd (Nat.two_pow_pos _)
  rcases h with ⟨h, _⟩ | ⟨_, ⟨h1, h2, h3, h4⟩, h5, _⟩ | ⟨_, _, h, _⟩ | ⟨_, h, _⟩
  · rw [h] at hb
    exact absurd hb (Nat.not_le.mpr hpos)
  · right
    have e1 := (h1 (-scale).toNat scale.toNat (by omega)).1
    have hA : 0 < den * 2 ^ scale.toNat := Nat.mul_pos hd (Nat.two_pow_pos _)
    rw [e1, Nat.div_lt_iff_lt_mul hA] at h3
    have g : den * 2 ^ (1030 + (-scale).toNat) < den * 2 ^ (f_p i + scale.toNat) := by
      rw [Nat.pow_add, Nat.pow_add, ← Nat.mul_assoc, Nat.mul_left_comm den]
      exact Nat.lt_of_le_of_lt (Nat.mul_le_mul_right _ hb) h3
    have g2 : 1030 + (-scale).toNat < f_p i + scale.toNat := by
      rcases Nat.lt_or_ge (1030 + (-scale).toNat) (f_p i + scale.toNat) with z | z
      · exact z
      · have := Nat.mul_le_mul_left den (Nat.pow_le_pow_right (n := 2) (by decide) z)
        exact absurd g (Nat.not_lt.mpr this)
    refine ⟨h5, h4.resolve_left (by omega), ?_⟩
    rcases (show i = 0 ∨ i = 1 by omega) with rfl | rfl
    · have q1 : f_p 0 = 53 := rfl
      have q2 : f_inf 0 = 2047 := rfl
      have q3 : f_least 0 = -1074 := rfl
      rw [q2, q3]
      rw [q1] at g2
      omega
    · have q1 : f_p 1 = 24 := rfl
      have q2 : f_inf 1 = 255 := rfl
      have q3 : f_least 1 = -149 := rfl
      rw [q2, q3]
      rw [q1] at g2
      omega
  · exact Or.inl h
  · exfalso
    have g1 : num ≤ num * 2 ^ 1300 := Nat.le_mul_of_pos_right _ (Nat.two_pow_pos _)
    have g2 : den ≤ den * 2 ^ 1030 := Nat.le_mul_of_pos_right _ (Nat.two_pow_pos _)
    generalize num * 2 ^ 1300 = a at *
    generalize den * 2 ^ 1030 = b at *
    omega
theorem mBS_big {i whole rest : Nat} {scale : Int} {huge : Bool} (h : huge = true ∨ (huge = false ∧ 2 ^ (f_p i - 1) ≤ whole ∧ f_inf i ≤ (scale - f_least i).toNat + 1)) : mB i whole scale rest huge = f_inf i * 2 ^ (f_p i - 1) ∧ mS i whole scale rest huge = 1 := by
  have hB : mB i whole scale rest huge = f_inf i * 2 ^ (f_p i - 1) := by
    rcases h with h | ⟨h1, h2, h3⟩
    · unfold mB; rw [if_pos h]
    · unfold mB
      rw [if_neg (by rw [h1]; decide)]
      have hup := rc_up_le whole rest
      unfold rc_bits
      rw [if_neg (by omega)]
      exact Nat.min_eq_right (Nat.le_trans (Nat.mul_le_mul_right _ h3) (Nat.le_add_right _ _))
  refine ⟨hB, ?_⟩
  unfold mS
  rw [if_pos hB]
theorem pow_cmp {d a b : Nat} (h : d * 2 ^ a < d * 2 ^ b) : a < b := by
  rcases Nat.lt_or_ge a b with z | z
  · exact z
  · exact absurd h (Nat.not_lt.mpr (Nat.mul_le_mul_left d (Nat.pow_le_pow_right (by decide) z)))
/-- in the middle: the places agree -/
theorem ag_scale {i num den lead whole rest : Nat} {pl scale : Int} {rs : Bool} (hd : 0 < den) (z : zR num den lead pl rs) (hl1 : 2 ^ 62 ≤ lead) (hl2 : lead < 2 ^ 63) (f : fR num den (f_p i) (f_least i) whole scale rest) (hi : i < 2) : scale = f_least i + kF i pl := by
  obtain ⟨p1, p2, i1, i2, l1, l2⟩ := f_rng hi
  obtain ⟨f1, f2, f3, f4⟩ := f
  obtain ⟨K, hK⟩ : ∃ K : Nat, K = (-pl).toNat + (-scale).toNat := ⟨_, rfl⟩
  have z1 := (z K (K + pl).toNat (by omega)).1
  have e1 := (f1 K (K + scale).toNat (by omega)).1
  have hA0 : 0 < den * 2 ^ (K + pl).toNat := Nat.mul_pos hd (Nat.two_pow_pos _)
  have hA : 0 < den * 2 ^ (K + scale).toNat := Nat.mul_pos hd (Nat.two_pow_pos _)
  rw [z1, Nat.le_div_iff_mul_le hA0, Nat.mul_left_comm, ← Nat.pow_add] at hl1
  rw [z1, Nat.div_lt_iff_lt_mul hA0, Nat.mul_left_comm, ← Nat.pow_add] at hl2
  rw [e1, Nat.div_lt_iff_lt_mul hA, Nat.mul_left_comm, ← Nat.pow_add] at f3
  have g1 := pow_cmp (Nat.lt_of_le_of_lt hl1 f3)
  unfold kF
  rcases f4 with f4 | f4
  · omega
  · rw [e1, Nat.le_div_iff_mul_le hA, Nat.mul_left_comm, ← Nat.pow_add] at f4
    have g2 := pow_cmp (Nat.lt_of_le_of_lt f4 hl2)
    omega
theorem ag_mid {i num den lead whole rest : Nat} {pl scale : Int} {rs : Bool} (hd : 0 < den) (hn : num ≠ 0) (z : zR num den lead pl rs) (hl1 : 2 ^ 62 ≤ lead) (hl2 : lead < 2 ^ 63) (f : fR num den (f_p i) (f_least i) whole scale rest) (hi : i < 2) : ro_B i lead pl rs = mB i whole scale rest false ∧ ro_S i lead pl rs = mS i whole scale rest false := by
  obtain ⟨p1, p2, i1, i2, l1, l2⟩ := f_rng hi
  have hsc := ag_scale hd z hl1 hl2 f hi
  obtain ⟨f1, f2, f3, f4⟩ := f
  have hDe : ro_D i pl = scale - pl := by unfold ro_D; omega
  have hD10 : 1 ≤ scale - pl := by rw [hsc]; unfold kF; omega
  obtain ⟨K, hK⟩ : ∃ K : Nat, K = (-pl).toNat + (-scale).toNat := ⟨_, rfl⟩
  obtain ⟨z1, z2⟩ := z K (K + pl).toNat (by omega)
  obtain ⟨e1, e2⟩ := f1 K (K + scale).toNat (by omega)
  have hA0 : 0 < den * 2 ^ (K + pl).toNat := Nat.mul_pos hd (Nat.two_pow_pos _)
  by_cases hD : 63 < ro_D i pl
  · have hb : ro_B i lead pl rs = 0 ∧ ro_S i lead pl rs = -1 := by
      constructor
      · unfold ro_B; rw [if_pos (Or.inr hD)]
      · unfold ro_S; rw [if_neg (by omega), if_pos hD]
    have hlt : 2 * (num * 2 ^ K) < den * 2 ^ (K + scale).toNat := by
      have hl3 := hl2
      rw [z1, Nat.div_lt_iff_lt_mul hA0, Nat.mul_left_comm, ← Nat.pow_add] at hl3
      have g : den * 2 ^ (63 + (K + pl).toNat + 1) ≤ den * 2 ^ (K + scale).toNat := Nat.mul_le_mul_left _ (Nat.pow_le_pow_right (by decide) (by omega))
      rw [Nat.pow_succ, ← Nat.mul_assoc] at g
      omega
    have ht := fC_tiny hn f1 K (K + scale).toNat (by omega) hlt
    rw [ht.1, ht.2, hb.1, hb.2, (mBS_tiny hi).1, (mBS_tiny hi).2]
    exact ⟨rfl, rfl⟩
  · have ej : (K + scale).toNat - (K + pl).toNat = (ro_D i pl).toNat := by omega
    have hw : ro_w i lead pl = whole := by
      unfold ro_w
      rw [e1, rc_fl (j0 := (K + pl).toNat) (j := (K + scale).toNat) (by omega), ← z1, ej]
    have hc : ro_cc i lead pl rs = rest := by
      unfold ro_cc ro_c
      rw [e2, rc_lead hd (j0 := (K + pl).toNat) (j := (K + scale).toNat) (by omega), ← z1, ej, z2]
      have q : ∀ x : Nat, (decide (x ≠ 0) = false) ↔ x = 0 := fun x => by simp
      have q2 : ∀ x : Nat, (decide (x ≠ 0) = true) ↔ x ≠ 0 := fun x => by simp
      simp only [q, q2]
    have hk : (scale - f_least i).toNat = kF i pl := by omega
    have hB : ro_B i lead pl rs = mB i whole scale rest false := by
      have eB : mB i whole scale rest false = rc_bits (f_p i) (f_inf i) (rc_up whole rest) ((scale - f_least i).toNat + 1) := rfl
      rw [eB, hk]
      unfold ro_B
      rw [if_neg (by omega), hw, hc]
    refine ⟨hB, ?_⟩
    unfold ro_S mS
    rw [if_neg (by omega), if_neg hD, hB, hw, hc]
    unfold ro_l
    by_cases y : mB i whole scale rest false = f_inf i * 2 ^ (f_p i - 1)
    · rw [if_pos y, if_pos y]
    · rw [if_neg y, if_neg y]
      by_cases x : rest = 0
      · rw [if_pos x, if_neg (by omega), if_pos x]
      · by_cases v : rest = 3 ∨ (rest = 2 ∧ whole % 2 = 1)
        · simp only [if_pos v, if_neg x]
        · simp only [if_neg v, if_neg x]
