/-! CONTRACTS: Rounding.round and bitsOfSize together -/
def kF (i : Nat) (pl : Int) : Nat := (pl + 63 - f_p i - f_least i).toNat
def ro_D (i : Nat) (pl : Int) : Int := f_least i + kF i pl - pl
def ro_w (i lead : Nat) (pl : Int) : Nat := lead / 2 ^ (ro_D i pl).toNat
def ro_cc (i lead : Nat) (pl : Int) (rest : Bool) : Nat := ro_c lead (ro_D i pl).toNat rest
def ro_B (i lead : Nat) (pl : Int) (rest : Bool) : Nat := if lead = 0 ∨ 63 < ro_D i pl then 0 else rc_bits (f_p i) (f_inf i) (rc_up (ro_w i lead pl) (ro_cc i lead pl rest)) (kF i pl + 1)
def ro_S (i lead : Nat) (pl : Int) (rest : Bool) : Int := if lead = 0 then 0 else if 63 < ro_D i pl then -1 else if ro_B i lead pl rest = f_inf i * 2 ^ (f_p i - 1) then 1 else ro_l (ro_w i lead pl) (ro_cc i lead pl rest)
theorem rc_up_le (w c : Nat) : w ≤ rc_up w c ∧ rc_up w c ≤ w + 1 := by unfold rc_up; split <;> omega
/-- the number of bits that are kept -/
theorem ro_w_le {i lead : Nat} {pl : Int} (hi : i < 2) (hl : lead < 2 ^ 63) (hD : ro_D i pl ≤ 63) : ro_w i lead pl < 2 ^ f_p i ∧ (0 < kF i pl → 2 ^ 62 ≤ lead → 2 ^ (f_p i - 1) ≤ ro_w i lead pl) := by
  obtain ⟨p1, p2, i1, i2, l1, l2⟩ := f_rng hi
  have hd : 63 - f_p i ≤ (ro_D i pl).toNat := by unfold ro_D kF; omega
  constructor
  · unfold ro_w
    rw [Nat.div_lt_iff_lt_mul (Nat.two_pow_pos _), ← Nat.pow_add]
    exact Nat.lt_of_lt_of_le hl (Nat.pow_le_pow_right (by decide) (by omega))
  · intro hk h62
    have he : (ro_D i pl).toNat = 63 - f_p i := by unfold ro_D kF at *; omega
    unfold ro_w
    rw [he, Nat.le_div_iff_mul_le (Nat.two_pow_pos _), ← Nat.pow_add, show f_p i - 1 + (63 - f_p i) = 62 by omega]
    exact h62
section Ro2
variable {l : Launch} {G : gG} {a b : Nat}
theorem c_Ro_round {i lead : Nat} {pl : Int} {rest : Bool} {m : Int64} {k f s : Int32} (hi : i < 2) (hl : lead = 0 ∨ (2 ^ 62 ≤ lead ∧ lead < 2 ^ 63)) (h1 : -1073741824 ≤ pl) (h2 : pl ≤ 1073741824) :
    ∃ m2 k2 f2, gCt l G m_Ro_round [.ref a, .ref b, .ref (g_adE G i)] [oRo a m k f s, oSi b (lN lead) (zI pl) (bI rest)] none [oRo a m2 k2 f2 (zI (ro_S i lead pl rest)), oSi b (lN lead) (zI pl) (bI rest)] ∧
      gCt l G m_Ro_bitsOfSize [.ref a, .ref (g_adE G i)] [oRo a m2 k2 f2 (zI (ro_S i lead pl rest))] (some (.long (lN (ro_B i lead pl rest)))) [oRo a m2 k2 f2 (zI (ro_S i lead pl rest))] := by
  obtain ⟨p1, p2, i1, i2, l1, l2⟩ := f_rng hi
  have hl63 : lead < 2 ^ 63 := by omega
  have hK : (if g_eF1.2.2.2.getD i 0 < zI pl + (63 : Int32) - g_eF0.2.2.2.getD i 0 then zI pl + (63 : Int32) - g_eF0.2.2.2.getD i 0 else g_eF1.2.2.2.getD i 0) = zI (f_least i + kF i pl) := by
    rw [e_least hi, e_prec hi, show (63 : Int32) = zI 63 from rfl, zI_add, zI_sub]
    by_cases z : f_least i < pl + 63 - (f_p i : Nat)
    · rw [if_pos ((zI_lt (by omega) (by omega) (by omega) (by omega)).mpr z)]
      congr 1
      unfold kF
      omega
    · rw [if_neg (fun w => z ((zI_lt (by omega) (by omega) (by omega) (by omega)).mp w))]
      congr 1
      unfold kF
      omega
  have hkF : kF i pl < 2 ^ 30 + 2000 := by unfold kF; omega
  have hDr : zI (f_least i + kF i pl) - zI pl = zI (ro_D i pl) := by rw [zI_sub]; rfl
  have hDb : 0 ≤ ro_D i pl ∧ ro_D i pl < 2 ^ 31 := by unfold ro_D kF; omega
  have hD63 : zI (ro_D i pl) ≤ (63 : Int32) ↔ ro_D i pl ≤ 63 := zI_le (b := 63) (by omega) (by omega) (by decide) (by decide)
  have C0 := lg_cmp0 hl63
  by_cases z0 : lead = 0
  · subst z0
    have eS : ro_S i 0 pl rest = 0 := by unfold ro_S; rw [if_pos rfl]
    have eB : ro_B i 0 pl rest = 0 := by unfold ro_B; rw [if_pos (Or.inl rfl)]
    rw [eS, eB]
    refine ⟨lN 0, zI (f_least i + kF i pl), 0, gCt.mk (by decide +kernel) (Nat.le_of_ble_eq_true rfl) rfl (b_Ro_round_0 hi hi ?_ ?_ ?_), ?_⟩
    · rw [hK, hDr]
      intro q
      exact absurd (C0.mpr rfl) q
    · rw [hK, hDr]
      intro q
      exact absurd (C0.mpr rfl) q
    · rw [hK, hDr]
      intro _
      exact k_Ro_round_50 c_Ro_setWhole (b_Ro_round_53 (b_Ro_round_82 ⟨rfl, rfl⟩))
    · have c := c_Ro_bits (l := l) (G := G) (a := a) (i := i) (M := 0) (fl := kF i pl) (s := zI 0) hi (Nat.two_pow_pos _) (Or.inl (Nat.two_pow_pos _))
      rw [if_pos (Nat.two_pow_pos _)] at c
      exact c
  · have hl62 : 2 ^ 62 ≤ lead := by omega
    by_cases zD : 63 < ro_D i pl
    · have eS : ro_S i lead pl rest = -1 := by unfold ro_S; rw [if_neg z0, if_pos zD]
      have eB : ro_B i lead pl rest = 0 := by unfold ro_B; rw [if_pos (Or.inr zD)]
      rw [eS, eB]
      refine ⟨lN 0, zI (f_least i + kF i pl), 0, gCt.mk (by decide +kernel) (Nat.le_of_ble_eq_true rfl) rfl (b_Ro_round_0 hi hi ?_ ?_ ?_), ?_⟩
      · rw [hK, hDr]
        intro _ q
        have := hD63.mp q
        omega
      · rw [hK, hDr]
        intro _ _
        exact k_Ro_round_65 c_Ro_setWhole (b_Ro_round_68 (b_Ro_round_82 ⟨rfl, rfl⟩))
      · rw [hK, hDr]
        intro q
        exact absurd (C0.mp q) z0
      · have c := c_Ro_bits (l := l) (G := G) (a := a) (i := i) (M := 0) (fl := kF i pl) (s := zI (-1)) hi (Nat.two_pow_pos _) (Or.inl (Nat.two_pow_pos _))
        rw [if_pos (Nat.two_pow_pos _)] at c
        exact c
    · have zD2 : ro_D i pl ≤ 63 := by omega
      obtain ⟨hw1, hw2⟩ := ro_w_le hi hl63 zD2
      have hd10 : 10 ≤ (ro_D i pl).toNat := by unfold ro_D kF; omega
      have hdn : zI (ro_D i pl) = nI (ro_D i pl).toNat := by
        rw [← zI_nat]
        congr 1
        omega
      have hup := rc_up_le (ro_w i lead pl) (ro_cc i lead pl rest)
      have hpp : 2 ^ f_p i = 2 * 2 ^ (f_p i - 1) := by rw [← Nat.pow_succ', show (f_p i - 1).succ = f_p i by omega]
      have hB : ro_B i lead pl rest = rc_bits (f_p i) (f_inf i) (rc_up (ro_w i lead pl) (ro_cc i lead pl rest)) (kF i pl + 1) := by unfold ro_B; rw [if_neg (by omega)]
      have hS : ro_S i lead pl rest = if ro_B i lead pl rest = f_inf i * 2 ^ (f_p i - 1) then 1 else ro_l (ro_w i lead pl) (ro_cc i lead pl rest) := by unfold ro_S; rw [if_neg z0, if_neg zD]
      have c1 := c_Ro_roundLead (l := l) (G := G) (a := a) (b := b) (lead := lead) (d := (ro_D i pl).toNat) (rest := rest) (m := m) (k := zI (f_least i + kF i pl)) (f := 0) (s := s) (pl := zI pl) hl63 (by omega) (by omega)
      generalize hM : rc_up (ro_w i lead pl) (ro_cc i lead pl rest) = M at hup hB
      have hM' : rc_up (lead / 2 ^ (ro_D i pl).toNat) (ro_c lead (ro_D i pl).toNat rest) = M := hM
      rw [hM'] at c1
      generalize hFl : kF i pl = fl at *
      have key : fl < 1073750000 → ∃ m2 k2 f2, gCt l G m_Ro_round [.ref a, .ref b, .ref (g_adE G i)] [oRo a m k f s, oSi b (lN lead) (zI pl) (bI rest)] none [oRo a m2 k2 f2 (zI (ro_S i lead pl rest)), oSi b (lN lead) (zI pl) (bI rest)] ∧
      gCt l G m_Ro_bitsOfSize [.ref a, .ref (g_adE G i)] [oRo a m2 k2 f2 (zI (ro_S i lead pl rest))] (some (.long (lN (ro_B i lead pl rest)))) [oRo a m2 k2 f2 (zI (ro_S i lead pl rest))] := by
        intro hfl
        have c2 := c_Ro_carry (l := l) (G := G) (a := a) (i := i) (M := M) (fl := fl) (s := zI (ro_l (ro_w i lead pl) (ro_cc i lead pl rest))) hi (by omega) hfl
        have run : ∀ (m2 : Int64) (k2 f2 s2 : Int32), gCt l G m_Ro_carry [.ref a, .ref (g_adE G i)] [oRo a (lN M) (zI (f_least i + fl)) 0 (zI (ro_l (ro_w i lead pl) (ro_cc i lead pl rest)))] none [oRo a m2 k2 f2 s2] → gCt l G m_Ro_round [.ref a, .ref b, .ref (g_adE G i)] [oRo a m k f s, oSi b (lN lead) (zI pl) (bI rest)] none [oRo a m2 k2 f2 s2, oSi b (lN lead) (zI pl) (bI rest)] := by
          intro m2 k2 f2 s2 c3
          refine gCt.mk (by decide +kernel) (Nat.le_of_ble_eq_true rfl) rfl (b_Ro_round_0 hi hi ?_ ?_ ?_)
          · rw [hK, hDr, hdn]
            intro _ _
            exact k_Ro_round_74 c1 (b_Ro_round_77 (k_Ro_round_79 c3 (b_Ro_round_82 ⟨rfl, rfl⟩)))
          · rw [hK, hDr]
            intro _ q
            exact absurd (hD63.mpr zD2) q
          · rw [hK, hDr]
            intro q
            exact absurd (C0.mp q) z0
        by_cases zM : M < 2 ^ f_p i
        · rw [if_pos zM, if_pos zM] at c2
          by_cases zJ : fl + 1 < f_inf i
          · rw [if_pos zJ, if_pos zJ] at c2
            have c3 := c_Ro_bits (l := l) (G := G) (a := a) (i := i) (M := M) (fl := fl) (s := zI (ro_l (ro_w i lead pl) (ro_cc i lead pl rest))) hi zM (Or.inr (by omega))
            have hBv : ro_B i lead pl rest = if M < 2 ^ (f_p i - 1) then M else (fl + 1) * 2 ^ (f_p i - 1) + (M - 2 ^ (f_p i - 1)) := by
              rw [hB]
              unfold rc_bits
              by_cases y : M < 2 ^ (f_p i - 1)
              · rw [if_pos y, if_pos y]
              · rw [if_neg y, if_neg y]
                have q : (fl + 1 + 1) * 2 ^ (f_p i - 1) ≤ f_inf i * 2 ^ (f_p i - 1) := Nat.mul_le_mul_right _ (by omega)
                rw [Nat.add_mul (fl + 1) 1] at q
                exact Nat.min_eq_left (by omega)
            have hBn : ro_B i lead pl rest ≠ f_inf i * 2 ^ (f_p i - 1) := by
              rw [hBv]
              by_cases y : M < 2 ^ (f_p i - 1)
              · rw [if_pos y]
                have q : 1 * 2 ^ (f_p i - 1) ≤ f_inf i * 2 ^ (f_p i - 1) := Nat.mul_le_mul_right _ (by omega)
                omega
              · rw [if_neg y]
                have q : (fl + 1 + 1) * 2 ^ (f_p i - 1) ≤ f_inf i * 2 ^ (f_p i - 1) := Nat.mul_le_mul_right _ (by omega)
                rw [Nat.add_mul (fl + 1) 1] at q
                omega
            rw [← hBv] at c3
            rw [if_neg hBn] at hS
            rw [hS]
            exact ⟨_, _, _, run _ _ _ _ c2, c3⟩
          · rw [if_neg zJ, if_neg zJ] at c2
            have hw := hw2 (by omega) hl62
            have hBv : ro_B i lead pl rest = f_inf i * 2 ^ (f_p i - 1) := by
              rw [hB]
              unfold rc_bits
              rw [if_neg (by omega)]
              have q : f_inf i * 2 ^ (f_p i - 1) ≤ (fl + 1) * 2 ^ (f_p i - 1) := Nat.mul_le_mul_right _ (by omega)
              exact Nat.min_eq_right (by omega)
            rw [if_pos hBv] at hS
            rw [hS, hBv]
            exact ⟨_, _, _, run _ _ _ _ c2, c_Ro_bitsInf hi⟩
        · have hMe : M = 2 ^ f_p i := by omega
          rw [if_neg zM, if_neg zM] at c2
          by_cases zJ : fl + 1 + 1 < f_inf i
          · rw [if_pos zJ, if_pos zJ] at c2
            have c3 := c_Ro_bits (l := l) (G := G) (a := a) (i := i) (M := 2 ^ (f_p i - 1)) (fl := fl + 1) (s := zI (ro_l (ro_w i lead pl) (ro_cc i lead pl rest))) hi (by rw [hpp]; have := Nat.two_pow_pos (f_p i - 1); omega) (Or.inr (by omega))
            rw [if_neg (Nat.lt_irrefl _), Nat.sub_self, Nat.add_zero] at c3
            have q : (fl + 1 + 1 + 1) * 2 ^ (f_p i - 1) ≤ f_inf i * 2 ^ (f_p i - 1) := Nat.mul_le_mul_right _ (by omega)
            rw [Nat.add_mul (fl + 1 + 1) 1, Nat.add_mul (fl + 1) 1] at q
            have e9 : (fl + 1 + 1) * 2 ^ (f_p i - 1) = (fl + 1) * 2 ^ (f_p i - 1) + 1 * 2 ^ (f_p i - 1) := Nat.add_mul (fl + 1) 1 _
            have hp0 := Nat.two_pow_pos (f_p i - 1)
            have hBv : ro_B i lead pl rest = (fl + 1 + 1) * 2 ^ (f_p i - 1) := by
              rw [hB, hMe]
              unfold rc_bits
              rw [if_neg (by omega), hpp, e9]
              rw [Nat.min_eq_left (by omega)]
              omega
            have hBn : ro_B i lead pl rest ≠ f_inf i * 2 ^ (f_p i - 1) := by rw [hBv, e9]; omega
            rw [← hBv] at c3
            rw [if_neg hBn] at hS
            rw [hS]
            exact ⟨_, _, _, run _ _ _ _ c2, c3⟩
          · rw [if_neg zJ, if_neg zJ] at c2
            have q : f_inf i * 2 ^ (f_p i - 1) ≤ (fl + 1 + 1) * 2 ^ (f_p i - 1) := Nat.mul_le_mul_right _ (by omega)
            have e9 : (fl + 1 + 1) * 2 ^ (f_p i - 1) = (fl + 1) * 2 ^ (f_p i - 1) + 1 * 2 ^ (f_p i - 1) := Nat.add_mul (fl + 1) 1 _
            have hp0 := Nat.two_pow_pos (f_p i - 1)
            have hBv : ro_B i lead pl rest = f_inf i * 2 ^ (f_p i - 1) := by
              rw [hB, hMe]
              unfold rc_bits
              rw [if_neg (by omega), hpp]
              exact Nat.min_eq_right (by omega)
            rw [if_pos hBv] at hS
            rw [hS, hBv]
            exact ⟨_, _, _, run _ _ _ _ c2, c_Ro_bitsInf hi⟩
      exact key (by omega)
end Ro2
