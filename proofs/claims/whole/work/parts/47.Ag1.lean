/-! AGREE, 1: what both read is the same -/
theorem frF_true : ∀ (L : List (Option Nat)) (f : Nat), frF true f L = f + (dF L).length := by
  intro L
  induction L with
  | nil => intro f; rfl
  | cons x L ih =>
    intro f
    cases x with
    | none => exact ih f
    | some d =>
      simp only [frF, dF, List.length_cons, if_true]
      rw [ih]
      omega
theorem frF_ptF : ∀ (L : List (Option Nat)) (c : Nat), frF false 0 L + ptF c L = c + (dF L).length := by
  intro L
  induction L with
  | nil => intro c; simp [frF, ptF, dF]
  | cons x L ih =>
    intro c
    cases x with
    | none =>
      simp only [frF, ptF, dF]
      rw [frF_true]
      omega
    | some d =>
      simp only [frF, ptF, dF, List.length_cons, Bool.false_eq_true, if_false]
      have := ih (c + 1)
      omega
theorem acc_add (b : Nat) : ∀ (L : List (Option Nat)) (Q : Nat), acc b Q L = Q * b ^ (dF L).length + acc b 0 L := by
  intro L
  induction L with
  | nil => intro Q; simp [acc, dF]
  | cons x L ih =>
    intro Q
    cases x with
    | none => exact ih Q
    | some d =>
      simp only [acc, dF, List.length_cons]
      rw [ih (Q * b + d), ih (0 * b + d), Nat.zero_mul, Nat.zero_add, Nat.pow_succ, Nat.add_mul, Nat.mul_assoc, Nat.mul_comm b, Nat.add_assoc]
theorem nv_cons (ds : Nat → Nat) : ∀ i, nv ds 0 (i + 1) = ds 0 * 10 ^ i + nv (fun j => ds (j + 1)) 0 i := by
  intro i
  induction i with
  | zero => simp [nv]
  | succ i ih =>
    rw [nv, ih, nv, Nat.pow_succ, Nat.zero_add, Nat.zero_add, Nat.add_mul, Nat.mul_assoc, Nat.add_assoc]
theorem nx_cons (ds : Nat → Nat) : ∀ i, nx ds (i + 1) = ds 0 * 16 ^ i + nx (fun j => ds (j + 1)) i := by
  intro i
  induction i with
  | zero => simp [nx]
  | succ i ih =>
    rw [nx, ih, nx, Nat.pow_succ, Nat.add_mul, Nat.mul_assoc, Nat.add_assoc]
theorem acc_nv : ∀ (L : List (Option Nat)), acc 10 0 L = nv (dsF L) 0 (dF L).length := by
  intro L
  induction L with
  | nil => rfl
  | cons x L ih =>
    cases x with
    | none => exact ih
    | some d =>
      simp only [acc, dF, List.length_cons]
      rw [acc_add, nv_cons, ih, Nat.zero_mul, Nat.zero_add]
      rfl
theorem acc_nx : ∀ (L : List (Option Nat)), acc 16 0 L = nx (dsF L) (dF L).length := by
  intro L
  induction L with
  | nil => rfl
  | cons x L ih =>
    cases x with
    | none => exact ih
    | some d =>
      simp only [acc, dF, List.length_cons]
      rw [acc_add, nx_cons, ih, Nat.zero_mul, Nat.zero_add]
      rfl
theorem sat_eq : ∀ (es : List Nat) (c m : Nat), ((c = m ∧ c < 1000000) ∨ (c = 1000000 ∧ 1000000 ≤ m)) → ((satC c es = satM m es ∧ satC c es < 1000000) ∨ (satC c es = 1000000 ∧ 1000000 ≤ satM m es)) := by
  intro es
  induction es with
  | nil => intro c m h; exact h
  | cons d es ih =>
    intro c m h
    refine ih _ _ ?_
    rcases h with ⟨h1, h2⟩ | ⟨h1, h2⟩
    · subst h1
      rw [if_pos (by omega)]
      rcases Nat.lt_or_ge (c * 10 + d) 1000000 with z | z
      · exact Or.inl ⟨by omega, by omega⟩
      · exact Or.inr ⟨by omega, by omega⟩
    · right
      refine ⟨by omega, ?_⟩
      split <;> omega
theorem e_eq (ch : Nat → Nat) (p1 : Nat) (es : List Nat) : eZ ch p1 es = eMz ch p1 es ∨ (eZ ch p1 es = 1000000 ∧ 1000000 ≤ eMz ch p1 es) ∨ (eZ ch p1 es = -1000000 ∧ eMz ch p1 es ≤ -1000000) := by
  have h := sat_eq es 0 0 (Or.inl ⟨rfl, by decide⟩)
  unfold eZ eMz
  rcases h with ⟨h1, _⟩ | ⟨h1, h2⟩
  · rw [h1]; exact Or.inl rfl
  · rw [h1]
    split
    · exact Or.inr (Or.inr ⟨by omega, by omega⟩)
    · exact Or.inr (Or.inl ⟨by omega, by omega⟩)
/-- above all: both give infinity -/
theorem ro_big {i lead : Nat} {pl : Int} {rest : Bool} (hi : i < 2) (hl1 : 2 ^ 62 ≤ lead) (hl2 : lead < 2 ^ 63) (hp : 967 ≤ pl) : ro_B i lead pl rest = f_inf i * 2 ^ (f_p i - 1) ∧ ro_S i lead pl rest = 1 := by
  obtain ⟨p1, p2, i1, i2, l1, l2⟩ := f_rng hi
  have hD : ro_D i pl ≤ 63 := by unfold ro_D kF; omega
  have hk : 0 < kF i pl := by unfold kF; omega
  have hw := (ro_w_le hi hl2 hD).2 hk hl1
  have hup := rc_up_le (ro_w i lead pl) (ro_cc i lead pl rest)
  have hB : ro_B i lead pl rest = f_inf i * 2 ^ (f_p i - 1) := by
    unfold ro_B
    rw [if_neg (by omega)]
    unfold rc_bits
    rw [if_neg (by omega)]
    refine Nat.min_eq_right ?_
    have : f_inf i ≤ kF i pl + 1 := by
      rcases (show i = 0 ∨ i = 1 by omega) with rfl | rfl
      · show 2047 ≤ (pl + 63 - 53 - (-1074)).toNat + 1
        omega
      · show 255 ≤ (pl + 63 - 24 - (-149)).toNat + 1
        omega
    exact Nat.le_trans (Nat.mul_le_mul_right _ this) (Nat.le_add_right _ _)
  refine ⟨hB, ?_⟩
  unfold ro_S
  rw [if_neg (by omega), if_neg (by omega), if_pos hB]
/-- below all -/
theorem ro_small {i lead : Nat} {pl : Int} {rest : Bool} (hi : i < 2) (hl1 : 2 ^ 62 ≤ lead) (hp : pl ≤ -1142) : ro_B i lead pl rest = 0 ∧ ro_S i lead pl rest = -1 := by
  obtain ⟨p1, p2, i1, i2, l1, l2⟩ := f_rng hi
  have hD : 63 < ro_D i pl := by unfold ro_D kF; omega
  constructor
  · unfold ro_B
    rw [if_pos (Or.inr hD)]
  · unfold ro_S
    rw [if_neg (by omega), if_pos hD]
