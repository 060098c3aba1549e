/-! AGREE, 3: the cases -/
theorem p311b : 2 ^ 1030 ≤ 10 ^ 311 := by decide +kernel
theorem p330 : 2 ^ 1080 ≤ 10 ^ 330 := by decide +kernel
/-- class and model: none, far above, far below, or the same number -/
def agC (num den p : Nat) (least : Int) (lead : Nat) (pl : Int) (rs : Bool) (whole : Nat) (scale : Int) (rest : Nat) (huge : Bool) : Prop :=
  (num = 0 ∧ lead = 0 ∧ rs = false) ∨
  (num ≠ 0 ∧ 2 ^ 62 ≤ lead ∧ lead < 2 ^ 63 ∧ 967 ≤ pl ∧ den * 2 ^ 1030 ≤ num) ∨
  (num ≠ 0 ∧ 2 ^ 62 ≤ lead ∧ lead < 2 ^ 63 ∧ pl ≤ -1142 ∧ num * 2 ^ 1080 < den) ∨
  (num ≠ 0 ∧ 2 ^ 62 ≤ lead ∧ lead < 2 ^ 63 ∧ zR num den lead pl rs ∧ fR num den p least whole scale rest ∧ huge = false)
theorem zR_big {num den lead : Nat} {pl : Int} {rs : Bool} (hd : 0 < den) (z : zR num den lead pl rs) (hl2 : lead < 2 ^ 63) (hb : den * 2 ^ 1030 ≤ num) : 967 < pl := by
  have z1 := (z (-pl).toNat pl.toNat (by omega)).1
  have hA : 0 < den * 2 ^ pl.toNat := Nat.mul_pos hd (Nat.two_pow_pos _)
  rw [z1, Nat.div_lt_iff_lt_mul hA, Nat.mul_left_comm, ← Nat.pow_add] at hl2
  have g : den * 2 ^ (1030 + (-pl).toNat) < den * 2 ^ (63 + pl.toNat) := by
    rw [Nat.pow_add 2 1030, ← Nat.mul_assoc]
    exact Nat.lt_of_le_of_lt (Nat.mul_le_mul_right _ hb) hl2
  have := pow_cmp g
  omega
theorem zR_small {num den lead : Nat} {pl : Int} {rs : Bool} (hd : 0 < den) (z : zR num den lead pl rs) (hl1 : 2 ^ 62 ≤ lead) (hs : num * 2 ^ 1080 < den) : pl ≤ -1142 := by
  have z1 := (z (-pl).toNat pl.toNat (by omega)).1
  have hA : 0 < den * 2 ^ pl.toNat := Nat.mul_pos hd (Nat.two_pow_pos _)
  rw [z1, Nat.le_div_iff_mul_le hA, Nat.mul_left_comm, ← Nat.pow_add] at hl1
  have g : den * 2 ^ (62 + pl.toNat + 1080) < den * 2 ^ (-pl).toNat := by
    rw [Nat.pow_add 2 _ 1080, ← Nat.mul_assoc]
    refine Nat.lt_of_le_of_lt (Nat.mul_le_mul_right _ hl1) ?_
    rw [Nat.mul_right_comm]
    exact (Nat.mul_lt_mul_right (Nat.two_pow_pos _)).mpr hs
  have := pow_cmp g
  omega
theorem le_1300 {num den : Nat} (h : den * 2 ^ 1300 ≤ num) : den * 2 ^ 1030 ≤ num :=
  Nat.le_trans (Nat.mul_le_mul_left _ (Nat.pow_le_pow_right (by decide) (by decide))) h
theorem lt_1300 {num den : Nat} (h : num * 2 ^ 1300 < den) : num * 2 ^ 1080 < den :=
  Nat.lt_of_le_of_lt (Nat.mul_le_mul_left _ (Nat.pow_le_pow_right (by decide) (by decide))) h
theorem ag_zR {num den p lead whole rest : Nat} {least pl scale : Int} {rs huge : Bool} (hd : 0 < den) (hn : num ≠ 0) (z : zR num den lead pl rs) (hl1 : 2 ^ 62 ≤ lead) (hl2 : lead < 2 ^ 63) (h : mF num den p least whole scale rest huge) : agC num den p least lead pl rs whole scale rest huge := by
  rcases h with ⟨h, _⟩ | ⟨_, h1, h2, _⟩ | ⟨_, h, _⟩ | ⟨_, h, _⟩
  · exact absurd h hn
  · exact Or.inr (Or.inr (Or.inr ⟨hn, hl1, hl2, z, h1, h2⟩))
  · have hb := le_1300 h
    have := zR_big hd z hl2 hb
    exact Or.inr (Or.inl ⟨hn, hl1, hl2, by omega, hb⟩)
  · have hs := lt_1300 h
    exact Or.inr (Or.inr (Or.inl ⟨hn, hl1, hl2, zR_small hd z hl1 hs, hs⟩))
theorem dec_big {T s : Nat} {la : Int} (hs : 0 < s) (hT : 10 ^ (s - 1) ≤ T) (h : 310 < la + s - 1) : 10 ^ (-la).toNat * 2 ^ 1030 ≤ T * 10 ^ la.toNat := by
  refine Nat.le_trans (Nat.mul_le_mul_left _ p311b) ?_
  refine Nat.le_trans ?_ (Nat.mul_le_mul_right _ hT)
  rw [← Nat.pow_add, ← Nat.pow_add]
  exact Nat.pow_le_pow_right (by decide) (by omega)
theorem dec_small {T s : Nat} {la : Int} (hT : T < 10 ^ s) (h : la + s - 1 < -330) : T * 10 ^ la.toNat * 2 ^ 1080 < 10 ^ (-la).toNat := by
  have g1 : T * 10 ^ la.toNat < 10 ^ s * 10 ^ la.toNat := (Nat.mul_lt_mul_right (Nat.pow_pos (by decide))).mpr hT
  have g2 := (Nat.mul_lt_mul_right (Nat.two_pow_pos 1080)).mpr g1
  refine Nat.lt_of_lt_of_le g2 (Nat.le_trans (Nat.mul_le_mul_left _ p330) ?_)
  rw [← Nat.pow_add, ← Nat.pow_add]
  exact Nat.pow_le_pow_right (by decide) (by omega)
theorem ag_cases {ch : Nat → Nat} {n k d p lead whole rest : Nat} {ng rs huge : Bool} {L : List (Option Nat)} {es : List Nat} {least pl scale : Int} (hC : tCh ch n) (hs : scOk ch n ng k d L es) (hk : k < 2) (hz : szK ch k d L es lead pl rs) (hm : mK ch k d L es p least whole scale rest huge) :
    ∃ num den, 0 < den ∧ mF num den p least whole scale rest huge ∧ agC num den p least lead pl rs whole scale rest huge ∧ (num = 0 ↔ ∀ j, j < (dF L).length → dsF L j = 0) := by
  obtain ⟨_, g0, g1⟩ := hs.dg hC
  have hn := hC.1
  have hfp := frF_ptF L 0
  have hdl := dF_len L
  have hee := e_eq ch (d + L.length) es
  have hmr := eMz_rng hs hk (d + L.length)
  have hzero : ∀ (b : Nat), (∀ j, j < (dF L).length → dsF L j = 0) ↔ (dF L).length = (dF L).length ∧ ∀ j, j < (dF L).length → dsF L j = 0 := fun _ => ⟨fun h => ⟨rfl, h⟩, fun h => h.2⟩
  unfold mK at hm
  rcases (show k = 0 ∨ k = 1 by omega) with hk0 | hk1
  · subst hk0
    obtain ⟨hd0, hL⟩ := g0 rfl
    have hlen := dgL_lt hC _ _ _ hd0 hL
    have hdg := dgL_dgs (Or.inl rfl) _ _ _ hL
    have hsg := acc_sg0 hdg
    have hsl := sgF_le L 0
    have hdc : dcZ (acc 10 0 L) (sgF 0 L) (eZ ch (d + L.length) es - (frF false 0 L : Nat)) lead pl rs := by
      rcases hz.2.2 with h | h | h
      · exact h.2
      · exact absurd h.1 (by decide)
      · exact absurd h.1 (by decide)
    have eN : mNumV 0 (dsF L) (dF L).length (ptF 0 L) (eMz ch (d + L.length) es) = acc 10 0 L * 10 ^ (eMz ch (d + L.length) es - (frF false 0 L : Nat)).toNat := by
      rw [acc_nv]
      unfold mNumV
      rw [if_pos rfl, show (ptF 0 L : Int) + eMz ch (d + L.length) es - (dF L).length = eMz ch (d + L.length) es - (frF false 0 L : Nat) by omega]
    have eD : mDenV 0 (dF L).length (ptF 0 L) (eMz ch (d + L.length) es) = 10 ^ (-(eMz ch (d + L.length) es - (frF false 0 L : Nat))).toNat := by
      unfold mDenV
      rw [if_pos rfl, show (ptF 0 L : Int) + eMz ch (d + L.length) es - (dF L).length = eMz ch (d + L.length) es - (frF false 0 L : Nat) by omega]
    rw [eN, eD] at hm
    have hdpos : 0 < 10 ^ (-(eMz ch (d + L.length) es - (frF false 0 L : Nat))).toNat := Nat.pow_pos (by decide)
    have hp10 : 0 < 10 ^ (eMz ch (d + L.length) es - (frF false 0 L : Nat)).toNat := Nat.pow_pos (by decide)
    have hall : acc 10 0 L = 0 ↔ ∀ j, j < (dF L).length → dsF L j = 0 := by
      rw [acc_nv]
      constructor
      · intro h j hj
        by_cases x : dsF L j = 0
        · exact x
        · exfalso
          -- a digit that is not 0 makes the number not 0
          have key : ∀ i, (∃ j, j < i ∧ dsF L j ≠ 0) → nv (dsF L) 0 i ≠ 0 := by
            intro i
            induction i with
            | zero => intro ⟨j, h1, _⟩; omega
            | succ i ih =>
              intro ⟨j, h1, h2⟩ q
              rw [nv, Nat.zero_add] at q
              rcases (show j < i ∨ j = i by omega) with v | v
              · have := ih ⟨j, v, h2⟩
                omega
              · rw [v] at h2; omega
          exact key _ ⟨j, hj, x⟩ h
      · intro h
        have := nv_skip (ds := dsF L) (f0 := (dF L).length) h 0
        rw [Nat.add_zero] at this
        rw [this]
        rfl
    refine ⟨_, _, hdpos, hm, ?_, ?_⟩
    · rcases Nat.eq_zero_or_pos (sgF 0 L) with zs | zs
      · have hT := hsg.1 zs
        left
        rcases hdc with h | h | h | h
        · exact ⟨by rw [hT, Nat.zero_mul], h.2.1, h.2.2⟩
        · omega
        · omega
        · omega
      · have hT := hsg.2.1 zs
        have hT2 := hsg.2.2
        have hTpos : 0 < acc 10 0 L := Nat.lt_of_lt_of_le (Nat.pow_pos (by decide)) hT
        have hne : acc 10 0 L * 10 ^ (eMz ch (d + L.length) es - (frF false 0 L : Nat)).toNat ≠ 0 := Nat.ne_of_gt (Nat.mul_pos hTpos hp10)
        have p62 : (2 : Nat) ^ 62 ≤ 2 ^ 62 ∧ (2 : Nat) ^ 62 < 2 ^ 63 := by decide
        rcases hdc with h | ⟨_, h1, h2, h3, _⟩ | ⟨_, h1, h2, h3, _⟩ | ⟨_, h1, h2, h3, h4, h5⟩
        · omega
        · have hb := dec_big (la := eMz ch (d + L.length) es - (frF false 0 L : Nat)) zs hT (by omega)
          rw [h2, h3]
          exact Or.inr (Or.inl ⟨hne, p62.1, p62.2, by decide, hb⟩)
        · have hb := dec_small (la := eMz ch (d + L.length) es - (frF false 0 L : Nat)) hT2 (by omega)
          rw [h2, h3]
          exact Or.inr (Or.inr (Or.inl ⟨hne, p62.1, p62.2, by decide, hb⟩))
        · have heq : eZ ch (d + L.length) es = eMz ch (d + L.length) es := by omega
          rw [heq] at h5
          exact ag_zR hdpos hne h5 h3 h4 hm
    · rw [← hall]
      constructor
      · intro h
        rcases Nat.mul_eq_zero.mp h with h | h
        · exact h
        · exact absurd h (Nat.ne_of_gt hp10)
      · intro h; rw [h, Nat.zero_mul]
  · subst hk1
    obtain ⟨hd0, hL⟩ := g1 rfl
    have hlen := dgL_lt hC _ _ _ hd0 hL
    have hdg := dgL_dgs (Or.inr rfl) _ _ _ hL
    have hQ : acc 16 0 L < 2 ^ 16384 := by
      have h1 := acc_lt (b := 16) (by decide) L 0 0 hdg (by decide)
      have h2 : 16 ^ (0 + L.length) ≤ 16 ^ 4096 := Nat.pow_le_pow_right (by decide) (by omega)
      have h3 : 16 ^ 4096 = 2 ^ 16384 := by rw [show 16 = 2 ^ 4 from rfl, ← Nat.pow_mul]
      rw [h3] at h2
      exact Nat.lt_of_lt_of_le h1 h2
    have hhx : hxZ (acc 16 0 L) (eZ ch (d + L.length) es - 4 * (frF false 0 L : Nat)) lead pl rs := by
      rcases hz.2.2 with h | h | h
      · exact absurd h.1 (by decide)
      · exact h.2
      · exact absurd h.1 (by decide)
    have eN : mNumV 1 (dsF L) (dF L).length (ptF 0 L) (eMz ch (d + L.length) es) = acc 16 0 L * 2 ^ (eMz ch (d + L.length) es - 4 * (frF false 0 L : Nat)).toNat := by
      rw [acc_nx]
      unfold mNumV
      rw [if_neg (by decide), show eMz ch (d + L.length) es - 4 * (((dF L).length : Int) - ptF 0 L) = eMz ch (d + L.length) es - 4 * (frF false 0 L : Nat) by omega]
    have eD : mDenV 1 (dF L).length (ptF 0 L) (eMz ch (d + L.length) es) = 2 ^ (-(eMz ch (d + L.length) es - 4 * (frF false 0 L : Nat))).toNat := by
      unfold mDenV
      rw [if_neg (by decide), show eMz ch (d + L.length) es - 4 * (((dF L).length : Int) - ptF 0 L) = eMz ch (d + L.length) es - 4 * (frF false 0 L : Nat) by omega]
    rw [eN, eD] at hm
    have hdpos : 0 < 2 ^ (-(eMz ch (d + L.length) es - 4 * (frF false 0 L : Nat))).toNat := Nat.two_pow_pos _
    have hp2 : 0 < 2 ^ (eMz ch (d + L.length) es - 4 * (frF false 0 L : Nat)).toNat := Nat.two_pow_pos _
    have hall : acc 16 0 L = 0 ↔ ∀ j, j < (dF L).length → dsF L j = 0 := by
      rw [acc_nx]
      constructor
      · intro h j hj
        by_cases x : dsF L j = 0
        · exact x
        · exfalso
          have key : ∀ i, (∃ j, j < i ∧ dsF L j ≠ 0) → nx (dsF L) i ≠ 0 := by
            intro i
            induction i with
            | zero => intro ⟨j, h1, _⟩; omega
            | succ i ih =>
              intro ⟨j, h1, h2⟩ q
              rw [nx] at q
              rcases (show j < i ∨ j = i by omega) with v | v
              · have := ih ⟨j, v, h2⟩
                omega
              · rw [v] at h2; omega
          exact key _ ⟨j, hj, x⟩ h
      · intro h
        exact nx_skip h _ (Nat.le_refl _)
    refine ⟨_, _, hdpos, hm, ?_, ?_⟩
    · rcases hhx with ⟨h1, h2, h3⟩ | ⟨h1, h2, h3, h4⟩
      · exact Or.inl ⟨by rw [h1, Nat.zero_mul], h2, h3⟩
      · have hQpos : 1 ≤ acc 16 0 L := Nat.pos_of_ne_zero h1
        have hne : acc 16 0 L * 2 ^ (eMz ch (d + L.length) es - 4 * (frF false 0 L : Nat)).toNat ≠ 0 := Nat.ne_of_gt (Nat.mul_pos hQpos hp2)
        have big : ∀ E : Int, 900000 ≤ E - 4 * (frF false 0 L : Nat) → 2 ^ (-(E - 4 * (frF false 0 L : Nat))).toNat * 2 ^ 1030 ≤ acc 16 0 L * 2 ^ (E - 4 * (frF false 0 L : Nat)).toNat := by
          intro E hE
          rw [← Nat.pow_add]
          refine Nat.le_trans ?_ (Nat.le_mul_of_pos_left _ hQpos)
          exact Nat.pow_le_pow_right (by decide) (by omega)
        have sml : ∀ E : Int, E - 4 * (frF false 0 L : Nat) ≤ -900000 → acc 16 0 L * 2 ^ (E - 4 * (frF false 0 L : Nat)).toNat * 2 ^ 1080 < 2 ^ (-(E - 4 * (frF false 0 L : Nat))).toNat := by
          intro E hE
          rw [show (E - 4 * (frF false 0 L : Nat)).toNat = 0 by omega, Nat.pow_zero, Nat.mul_one]
          have := (Nat.mul_lt_mul_right (Nat.two_pow_pos 1080)).mpr hQ
          rw [← Nat.pow_add] at this
          exact Nat.lt_of_lt_of_le this (Nat.pow_le_pow_right (by decide) (by omega))
        rcases hee with he | ⟨he1, he2⟩ | ⟨he1, he2⟩
        · rw [he] at h4
          exact ag_zR hdpos hne h4 h2 h3 hm
        · have hb := big (eZ ch (d + L.length) es) (by omega)
          have := zR_big (Nat.two_pow_pos _) h4 h3 hb
          exact Or.inr (Or.inl ⟨hne, h2, h3, by omega, big _ (by omega)⟩)
        · have hb := sml (eZ ch (d + L.length) es) (by omega)
          exact Or.inr (Or.inr (Or.inl ⟨hne, h2, h3, zR_small (Nat.two_pow_pos _) h4 h2 hb, sml _ (by omega)⟩))
    · rw [← hall]
      constructor
      · intro h
        rcases Nat.mul_eq_zero.mp h with h | h
        · exact h
        · exact absurd h (Nat.ne_of_gt hp2)
      · intro h; rw [h, Nat.zero_mul]
theorem ag_bits {ch : Nat → Nat} {n i k d lead whole rest : Nat} {ng rs huge : Bool} {L : List (Option Nat)} {es : List Nat} {pl scale : Int} (hi : i < 2) (hC : tCh ch n) (hs : scOk ch n ng k d L es) (hk : k < 2) (hz : szK ch k d L es lead pl rs) (hm : mK ch k d L es (f_p i) (f_least i) whole scale rest huge) :
    ro_B i lead pl rs = mB i whole scale rest huge ∧ ro_S i lead pl rs = mS i whole scale rest huge := by
  obtain ⟨num, den, hd, hF, hA, _⟩ := ag_cases hC hs hk hz hm
  have hp := Nat.two_pow_pos (f_p i - 1)
  have hinf : 0 < f_inf i * 2 ^ (f_p i - 1) := Nat.mul_pos (by have := (f_rng hi).2.2.1; omega) hp
  rcases hA with ⟨h1, h2, h3⟩ | ⟨h1, h2, h3, h4, h5⟩ | ⟨h1, h2, h3, h4, h5⟩ | ⟨h1, h2, h3, h4, h5, h6⟩
  · have hz0 : whole = 0 ∧ rest = 0 ∧ huge = false := by
      rcases hF with ⟨_, a, _, b, c⟩ | ⟨a, _⟩ | ⟨a, _⟩ | ⟨a, _⟩
      · exact ⟨a, b, c⟩
      · exact absurd h1 a
      · exact absurd h1 a
      · exact absurd h1 a
    obtain ⟨a, b, c⟩ := hz0
    subst a b c h2
    have hB : mB i 0 scale 0 false = 0 := by
      have e : mB i 0 scale 0 false = rc_bits (f_p i) (f_inf i) 0 ((scale - f_least i).toNat + 1) := rfl
      rw [e]
      unfold rc_bits
      rw [if_pos hp]
    constructor
    · rw [hB]; unfold ro_B; rw [if_pos (Or.inl rfl)]
    · unfold ro_S mS
      rw [if_pos rfl, hB, if_neg (by omega), if_pos rfl]
  · have a := ro_big (rest := rs) hi h2 h3 h4
    have b := mBS_big (rest := rest) (mF_big hi hd h5 hF)
    rw [a.1, a.2, b.1, b.2]
    exact ⟨rfl, rfl⟩
  · have a := ro_small (rest := rs) hi h2 h4
    obtain ⟨b1, b2, b3⟩ := mF_small hi h1 h5 hF
    subst b1 b2 b3
    have b := mBS_tiny (scale := scale) hi
    rw [a.1, a.2, b.1, b.2]
    exact ⟨rfl, rfl⟩
  · subst h6
    exact ag_mid hd h1 h4 h2 h3 h5 hi
