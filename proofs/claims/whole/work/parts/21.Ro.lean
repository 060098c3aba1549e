/-! CONTRACTS: Rounding -/
theorem e_least {i : Nat} (hi : i < 2) : g_eF1.2.2.2.getD i 0 = zI (f_least i) := by rcases (show i = 0 ∨ i = 1 by omega) with rfl | rfl <;> decide +kernel
theorem e_prec {i : Nat} (hi : i < 2) : g_eF0.2.2.2.getD i 0 = zI (f_p i : Nat) := by rcases (show i = 0 ∨ i = 1 by omega) with rfl | rfl <;> decide +kernel
theorem f_rng {i : Nat} (hi : i < 2) : 24 ≤ f_p i ∧ f_p i ≤ 53 ∧ 255 ≤ f_inf i ∧ f_inf i ≤ 2047 ∧ -1074 ≤ f_least i ∧ f_least i ≤ -149 := by
  rcases (show i = 0 ∨ i = 1 by omega) with rfl | rfl <;> decide
def ro_c (lead d : Nat) (rest : Bool) : Nat := if lead % 2 ^ d = 0 ∧ rest = false then 0 else if 2 ^ (d - 1) < lead % 2 ^ d ∨ (lead % 2 ^ d = 2 ^ (d - 1) ∧ rest = true) then 3 else if lead % 2 ^ d = 2 ^ (d - 1) then 2 else 1
def ro_l (w c : Nat) : Int := if c = 3 ∨ (c = 2 ∧ w % 2 = 1) then 1 else if c = 0 then 0 else -1
theorem lgc_gt {x y : Int64} : 0 < lg_cmp x y ↔ y < x := by
  unfold lg_cmp
  by_cases h1 : y < x
  · rw [if_pos h1]; exact ⟨fun _ => h1, fun _ => by decide⟩
  · rw [if_neg h1]
    by_cases h2 : x = y
    · rw [if_pos h2]; exact ⟨fun z => absurd z (by decide), fun z => absurd z h1⟩
    · rw [if_neg h2]; exact ⟨fun z => absurd z (by decide), fun z => absurd z h1⟩
section RoS
variable {l : Launch} {G : gG} {a b : Nat}
theorem c_Ro_setWhole {m m2 : Int64} {k f s s2 : Int32} : gCt l G m_Ro_setWhole [.ref a, .long m2, .int s2] [oRo a m k f s] none [oRo a m2 k f s2] :=
  gCt.mk (by decide +kernel) (Nat.le_of_ble_eq_true rfl) rfl (b_Ro_setWhole_0 ⟨rfl, rfl⟩)
theorem c_Ro_roundLead {lead d : Nat} {rest : Bool} {m : Int64} {k f s pl : Int32} (hl : lead < 2 ^ 63) (hd1 : 1 ≤ d) (hd : d ≤ 63) : gCt l G m_Ro_roundLead [.ref a, .ref b, .int (nI d)] [oRo a m k f s, oSi b (lN lead) pl (bI rest)] none [oRo a (lN (rc_up (lead / 2 ^ d) (ro_c lead d rest))) k f (zI (ro_l (lead / 2 ^ d) (ro_c lead d rest))), oSi b (lN lead) pl (bI rest)] := by
  have E1 : lN lead &&& (((1 : Int64) <<< ((Int32.toInt64 (nI d)) &&& 63)) - (1 : Int64)) = lN (lead % 2 ^ d) := by
    have q : (1 : Int64) <<< ((Int32.toInt64 (nI d)) &&& 63) = lN (1 * 2 ^ d) := wb_shl 1 (by omega)
    rw [q, Nat.one_mul, f_low (by omega) (by omega)]
  have E2 : (1 : Int64) <<< ((Int32.toInt64 (nI d - (1 : Int32))) &&& 63) = lN (2 ^ (d - 1)) := by
    have q0 : nI d - (1 : Int32) = nI (d - 1) := pk_sub (a := d) (b := 1) hd1
    have q : (1 : Int64) <<< ((Int32.toInt64 (nI (d - 1))) &&& 63) = lN (1 * 2 ^ (d - 1)) := wb_shl 1 (by omega)
    rw [q0, q, Nat.one_mul]
  have E3 : (Int64.toUInt64 (lN lead) >>> ((Int32.toInt64 (nI d)).toUInt64 &&& Int64.toUInt64 63)).toInt64 = lN (lead / 2 ^ d) := wb_shr (by omega) (by omega)
  generalize hlow : lead % 2 ^ d = low at E1
  generalize hhalf : 2 ^ (d - 1) = half at E2
  generalize hw : lead / 2 ^ d = w at E3
  have hlow63 : low < 2 ^ 63 := by
    have := Nat.mod_le lead (2 ^ d)
    omega
  have hhalf63 : half < 2 ^ 63 := by rw [← hhalf]; exact Nat.pow_lt_pow_right (by decide) (by omega)
  have hhalf1 : 1 ≤ half := by rw [← hhalf]; exact Nat.two_pow_pos _
  have hw63 : w < 2 ^ 63 := by
    have := Nat.div_le_self lead (2 ^ d)
    omega
  have hc : ro_c lead d rest = if low = 0 ∧ rest = false then 0 else if half < low ∨ (low = half ∧ rest = true) then 3 else if low = half then 2 else 1 := by
    unfold ro_c
    rw [hlow, hhalf]
  have Cgt : 0 < lg_cmp (lN low) (lN half) ↔ half < low := by rw [lgc_gt]; exact pk_lLT hhalf63 hlow63
  have Ceq : lg_cmp (lN low) (lN half) = 0 ↔ low = half := by rw [lgc_eq]; exact pk_lEQ hlow63 hhalf63
  have C0 : lg_cmp (lN low) (0 : Int64) = 0 ↔ low = 0 := lg_cmp0 hlow63
  have Codd : lg_cmp (lN w &&& (1 : Int64)) (1 : Int64) = 0 ↔ w % 2 = 1 := by
    rw [wb_a1 (by omega), lgc_eq]
    exact pk_lEQ (b := 1) (by omega) (by decide)
  have fin : ∀ (M : Nat) (S : Int) (x9 v0 : Int32), M = rc_up w (ro_c lead d rest) → S = ro_l w (ro_c lead d rest) → gAt l G m_Ro_roundLead [oRo a m k f s, oSi b (lN lead) pl (bI rest)] none [oRo a (lN (rc_up w (ro_c lead d rest))) k f (zI (ro_l w (ro_c lead d rest))), oSi b (lN lead) pl (bI rest)] 124 [(0, .ref a), (1, .ref b), (2, .int (nI d)), (3, .long (lN w)), (5, .long (lN low)), (7, .long (lN half)), (9, .int x9), (10, .int v0)] [] [oRo a (lN M) k f (zI S), oSi b (lN lead) pl (bI rest)] := by
    intro M S x9 v0 h1 h2
    exact b_Ro_roundLead_124 ⟨rfl, by rw [h1, h2]⟩
  have hup : ∀ (x9 v0 : Int32), (half < low ∨ (low = half ∧ rest = true)) ∨ (low = half ∧ w % 2 = 1) → gAt l G m_Ro_roundLead [oRo a m k f s, oSi b (lN lead) pl (bI rest)] none [oRo a (lN (rc_up w (ro_c lead d rest))) k f (zI (ro_l w (ro_c lead d rest))), oSi b (lN lead) pl (bI rest)] 89 [(0, .ref a), (1, .ref b), (2, .int (nI d)), (3, .long (lN w)), (5, .long (lN low)), (7, .long (lN half)), (9, .int x9), (10, .int v0)] [] [oRo a m k f s, oSi b (lN lead) pl (bI rest)] := by
    intro x9 v0 hx
    have hcc : ro_c lead d rest = 3 ∨ (ro_c lead d rest = 2 ∧ w % 2 = 1) := by
      rw [hc, if_neg (by rcases hx with (h | ⟨h1, h2⟩) | ⟨h1, h2⟩ <;> omega)]
      by_cases q : half < low ∨ (low = half ∧ rest = true)
      · rw [if_pos q]; exact Or.inl rfl
      · rw [if_neg q]
        rcases hx with h | h
        · exact absurd h q
        · rw [if_pos h.1]; exact Or.inr ⟨rfl, h.2⟩
    have e1 : lN w + (1 : Int64) = lN (w + 1) := lN_1 w
    refine b_Ro_roundLead_89 ?_
    rw [e1]
    exact k_Ro_roundLead_94 c_Ro_setWhole (b_Ro_roundLead_97 (fin (w + 1) 1 x9 v0 (by unfold rc_up; rw [if_pos hcc]) (by unfold ro_l; rw [if_pos hcc])))
  have hdn : ∀ (x9 v0 : Int32), ¬ (half < low ∨ (low = half ∧ rest = true)) → ¬ (low = half ∧ w % 2 = 1) → (¬ ro_c lead d rest = 3 ∧ ¬ (ro_c lead d rest = 2 ∧ w % 2 = 1)) ∧ (ro_c lead d rest = 0 ↔ (low = 0 ∧ rest = false)) := by
    intro x9 v0 h1 h2
    rw [hc]
    by_cases q : low = 0 ∧ rest = false
    · rw [if_pos q]
      exact ⟨⟨by decide, by omega⟩, by simp [q]⟩
    · rw [if_neg q, if_neg h1]
      by_cases q2 : low = half
      · rw [if_pos q2]
        exact ⟨⟨by decide, fun z => h2 ⟨q2, z.2⟩⟩, by simp [q]⟩
      · rw [if_neg q2]
        exact ⟨⟨by decide, by omega⟩, by simp [q]⟩
  have at77 : ∀ (ab ti : Bool), (ab = true ↔ (half < low ∨ (low = half ∧ rest = true))) → (ti = true ↔ (low = half ∧ w % 2 = 1)) → gAt l G m_Ro_roundLead [oRo a m k f s, oSi b (lN lead) pl (bI rest)] none [oRo a (lN (rc_up w (ro_c lead d rest))) k f (zI (ro_l w (ro_c lead d rest))), oSi b (lN lead) pl (bI rest)] 77 [(0, .ref a), (1, .ref b), (2, .int (nI d)), (3, .long (lN w)), (5, .long (lN low)), (7, .long (lN half)), (9, .int (bI ab))] [.int (bI ti)] [oRo a m k f s, oSi b (lN lead) pl (bI rest)] := by
    intro ab ti h1 h2
    have tr : ∀ x : Bool, ¬ bI x = 0 → x = true := fun x hx => by
      cases x with
      | true => rfl
      | false => exact absurd rfl hx
    have nn : bI ab = 0 → bI ti = 0 → ¬ (half < low ∨ (low = half ∧ rest = true)) ∧ ¬ (low = half ∧ w % 2 = 1) := fun q1 q2 => ⟨fun z => by rw [h1.mpr z] at q1; exact absurd q1 (by decide), fun z => by rw [h2.mpr z] at q2; exact absurd q2 (by decide)⟩
    refine b_Ro_roundLead_77 (fun q => hup _ _ (Or.inl (h1.mp (tr _ q)))) (fun q1 q2 q3 => ?_) (fun q1 q2 q3 q4 => ?_) (fun q1 q2 q3 q4 => ?_) (fun _ q => hup _ _ (Or.inr (h2.mp (tr _ q))))
    · obtain ⟨n1, n2⟩ := nn q1 q2
      obtain ⟨n3, n4⟩ := hdn 0 0 n1 n2
      have z : ¬ low = 0 := fun y => q3 (C0.mpr y)
      have hn : ¬ (ro_c lead d rest = 3 ∨ (ro_c lead d rest = 2 ∧ w % 2 = 1)) := fun y => y.elim n3.1 n3.2
      exact b_Ro_roundLead_120 (k_Ro_roundLead_121 c_Ro_setWhole (fin w (-1) _ _ (by unfold rc_up; rw [if_neg hn]) (by unfold ro_l; rw [if_neg hn, if_neg (fun y => z (n4.mp y).1)])))
    · obtain ⟨n1, n2⟩ := nn q1 q2
      obtain ⟨n3, n4⟩ := hdn 0 0 n1 n2
      have z := tr _ q4
      have hn : ¬ (ro_c lead d rest = 3 ∨ (ro_c lead d rest = 2 ∧ w % 2 = 1)) := fun y => y.elim n3.1 n3.2
      exact b_Ro_roundLead_120 (k_Ro_roundLead_121 c_Ro_setWhole (fin w (-1) _ _ (by unfold rc_up; rw [if_neg hn]) (by unfold ro_l; rw [if_neg hn, if_neg (fun y => by have := (n4.mp y).2; rw [z] at this; cases this)])))
    · obtain ⟨n1, n2⟩ := nn q1 q2
      obtain ⟨n3, n4⟩ := hdn 0 0 n1 n2
      have hn : ¬ (ro_c lead d rest = 3 ∨ (ro_c lead d rest = 2 ∧ w % 2 = 1)) := fun y => y.elim n3.1 n3.2
      exact k_Ro_roundLead_121 c_Ro_setWhole (fin w 0 _ _ (by unfold rc_up; rw [if_neg hn]) (by unfold ro_l; rw [if_neg hn, if_pos (n4.mpr ⟨C0.mp q3, bI_0.mp q4⟩)]))
  have at54 : ∀ (ab : Bool), (ab = true ↔ (half < low ∨ (low = half ∧ rest = true))) → gAt l G m_Ro_roundLead [oRo a m k f s, oSi b (lN lead) pl (bI rest)] none [oRo a (lN (rc_up w (ro_c lead d rest))) k f (zI (ro_l w (ro_c lead d rest))), oSi b (lN lead) pl (bI rest)] 54 [(0, .ref a), (1, .ref b), (2, .int (nI d)), (3, .long (lN w)), (5, .long (lN low)), (7, .long (lN half))] [.int (bI ab)] [oRo a m k f s, oSi b (lN lead) pl (bI rest)] := by
    intro ab hab
    refine b_Ro_roundLead_54 (fun q => b_Ro_roundLead_76 (at77 ab false hab ⟨fun z => (by cases z), fun z => absurd (Ceq.mpr z.1) q⟩)) (fun q1 q2 => b_Ro_roundLead_76 (at77 ab false hab ⟨fun z => (by cases z), fun z => absurd (Codd.mpr z.2) q2⟩)) (fun q1 q2 => at77 ab true hab ⟨fun _ => ⟨Ceq.mp q1, Codd.mp q2⟩, fun _ => rfl⟩)
  refine gCt.mk (by decide +kernel) (Nat.le_of_ble_eq_true rfl) rfl (b_Ro_roundLead_0 ?_ ?_ ?_ ?_)
  · rw [E1, E2, E3]
    intro q
    exact b_Ro_roundLead_49 (at54 true ⟨fun _ => Or.inl (Cgt.mp q), fun _ => rfl⟩)
  · rw [E1, E2, E3]
    intro q1 q2
    refine b_Ro_roundLead_53 (at54 false ⟨fun z => (by cases z), fun z => ?_⟩)
    rcases z with z | z
    · exact absurd (Cgt.mpr z) q1
    · exact absurd (Ceq.mpr z.1) q2
  · rw [E1, E2, E3]
    intro q1 q2 q3
    refine b_Ro_roundLead_53 (at54 false ⟨fun z => (by cases z), fun z => ?_⟩)
    rcases z with z | z
    · exact absurd (Cgt.mpr z) q1
    · rw [z.2] at q3; exact absurd q3 (by decide)
  · rw [E1, E2, E3]
    intro q1 q2 q3
    refine b_Ro_roundLead_49 (at54 true ⟨fun _ => Or.inr ⟨Ceq.mp q2, ?_⟩, fun _ => rfl⟩)
    cases rest with
    | true => rfl
    | false => exact absurd rfl q3
/-- behind carry: k from least on; infinite from the field f_inf on -/
theorem c_Ro_carry {i M fl : Nat} {s : Int32} (hi : i < 2) (hM : M ≤ 2 ^ f_p i) (hfl : fl < 1073750000) : gCt l G m_Ro_carry [.ref a, .ref (g_adE G i)] [oRo a (lN M) (zI (f_least i + fl)) 0 s] none [oRo a (lN (if M < 2 ^ f_p i then M else 2 ^ (f_p i - 1))) (zI (f_least i + (if M < 2 ^ f_p i then fl else fl + 1 : Nat))) (if (if M < 2 ^ f_p i then fl else fl + 1) + 1 < f_inf i then 0 else 1) (if (if M < 2 ^ f_p i then fl else fl + 1) + 1 < f_inf i then s else 1)] := by
  obtain ⟨p1, p2, i1, i2, l1, l2⟩ := f_rng hi
  have hp53 : 2 ^ f_p i ≤ 2 ^ 53 := Nat.pow_le_pow_right (by decide) p2
  have hpp : 2 ^ f_p i = 2 * 2 ^ (f_p i - 1) := by rw [← Nat.pow_succ', show (f_p i - 1).succ = f_p i by omega]
  have e1 : (2 : Int64) * lN (2 ^ (f_p i - 1)) = lN (2 ^ f_p i) := by rw [show (2 : Int64) = lN 2 from rfl, lN_mul, ← hpp]
  have C : lg_cmp (lN M) (lN (2 ^ f_p i)) < 0 ↔ M < 2 ^ f_p i := by rw [lgc_lt]; exact pk_lLT (by omega) (by omega)
  have tail : ∀ (M2 fl2 : Nat), fl2 < 1073750002 → gAt l G m_Ro_carry [oRo a (lN M) (zI (f_least i + fl)) 0 s] none [oRo a (lN M2) (zI (f_least i + fl2)) (if fl2 + 1 < f_inf i then 0 else 1) (if fl2 + 1 < f_inf i then s else 1)] 36 [(0, .ref a), (1, .ref (g_adE G i))] [] [oRo a (lN M2) (zI (f_least i + fl2)) 0 s] := by
    intro M2 fl2 hfl2
    refine b_Ro_carry_36 (k_Ro_carry_42 hi (c_Fm_infiniteField hi) (b_Ro_carry_45 (k_Ro_carry_47 hi (c_Fm_exponentOf hi _) ?_)))
    have e2 : nI (f_inf i) - (1 : Int32) - 1 + zI (f_least i) = zI ((f_inf i : Int) - 2 + f_least i) := by
      rw [← zI_nat, show (1 : Int32) = zI 1 from rfl, zI_sub, zI_sub, zI_add]
      congr 1
      omega
    rw [e2]
    have hle : zI (f_least i + fl2) ≤ zI ((f_inf i : Int) - 2 + f_least i) ↔ fl2 + 1 < f_inf i := by
      rw [zI_le (by omega) (by omega) (by omega) (by omega)]
      omega
    refine b_Ro_carry_50 (fun z => ?_) (fun z => ?_)
    · have z := hle.mp z
      rw [if_pos z, if_pos z]
      exact b_Ro_carry_63 ⟨rfl, rfl⟩
    · have z : ¬ fl2 + 1 < f_inf i := fun w => z (hle.mpr w)
      rw [if_neg z, if_neg z]
      exact b_Ro_carry_63 ⟨rfl, rfl⟩
  refine gCt.mk (by decide +kernel) (Nat.le_of_ble_eq_true rfl) rfl (b_Ro_carry_0 (k_Ro_carry_8 hi (c_Fm_hiddenBit hi) ?_))
  refine b_Ro_carry_11 (fun z => ?_) (fun z => ?_)
  · rw [e1] at z
    have z := C.mp z
    rw [if_pos z, if_pos z]
    exact tail M fl (by omega)
  · rw [e1] at z
    have z : ¬ M < 2 ^ f_p i := fun w => z (C.mpr w)
    have hMe : M = 2 ^ f_p i := by omega
    rw [if_neg z, if_neg z]
    have e3 : (Int64.toUInt64 (lN M) >>> ((Int32.toInt64 (1 : Int32)).toUInt64 &&& Int64.toUInt64 63)).toInt64 = lN (M / 2 ^ 1) := wb_shr (k := 1) (by omega) (by decide)
    have e4 : M / 2 ^ 1 = 2 ^ (f_p i - 1) := by rw [hMe, hpp]; omega
    have e5 : zI (f_least i + fl) + (1 : Int32) = zI (f_least i + (fl + 1 : Nat)) := by
      rw [show (1 : Int32) = zI 1 from rfl, zI_add]
      congr 1
      omega
    rw [e3, e4, e5]
    exact tail _ (fl + 1) (by omega)
theorem c_Ro_bitsInf {i : Nat} {m : Int64} {k s : Int32} (hi : i < 2) : gCt l G m_Ro_bitsOfSize [.ref a, .ref (g_adE G i)] [oRo a m k 1 s] (some (.long (lN (f_inf i * 2 ^ (f_p i - 1))))) [oRo a m k 1 s] := by
  have c := c_Fm_bitsOf (l := l) (G := G) (i := i) (f := f_inf i) (b := 0) hi (Nat.le_refl _) (by decide)
  rw [Nat.zero_mod, Nat.add_zero] at c
  exact gCt.mk (by decide +kernel) (Nat.le_of_ble_eq_true rfl) rfl (b_Ro_bitsOfSize_0 (fun z => absurd z (by decide)) (fun _ => k_Ro_bitsOfSize_9 hi (c_Fm_infiniteField hi) (b_Ro_bitsOfSize_12 (k_Ro_bitsOfSize_13 hi c (b_Ro_bitsOfSize_16 ⟨rfl, rfl⟩)))))
theorem c_Ro_bits {i M fl : Nat} {s : Int32} (hi : i < 2) (hM : M < 2 ^ f_p i) (hfl : M < 2 ^ (f_p i - 1) ∨ fl + 1 ≤ f_inf i) : gCt l G m_Ro_bitsOfSize [.ref a, .ref (g_adE G i)] [oRo a (lN M) (zI (f_least i + fl)) 0 s] (some (.long (lN (if M < 2 ^ (f_p i - 1) then M else (fl + 1) * 2 ^ (f_p i - 1) + (M - 2 ^ (f_p i - 1)))))) [oRo a (lN M) (zI (f_least i + fl)) 0 s] := by
  obtain ⟨p1, p2, i1, i2, l1, l2⟩ := f_rng hi
  have hp53 : 2 ^ f_p i ≤ 2 ^ 53 := Nat.pow_le_pow_right (by decide) p2
  have hpp : 2 ^ f_p i = 2 * 2 ^ (f_p i - 1) := by rw [← Nat.pow_succ', show (f_p i - 1).succ = f_p i by omega]
  have C : 0 ≤ lg_cmp (lN M) (lN (2 ^ (f_p i - 1))) ↔ ¬ M < 2 ^ (f_p i - 1) := by
    rw [lgc_ge]
    exact not_congr (pk_lLT (by omega) (by omega))
  refine gCt.mk (by decide +kernel) (Nat.le_of_ble_eq_true rfl) rfl (b_Ro_bitsOfSize_0 (fun _ => k_Ro_bitsOfSize_22 hi (c_Fm_hiddenBit hi) (b_Ro_bitsOfSize_25 (fun _ => hi) (fun z => ?_) (fun z => ?_))) (fun z => absurd rfl z))
  · have z := C.mp z
    have hf : fl + 1 ≤ f_inf i := hfl.elim (fun w => absurd w z) id
    rw [if_neg z, e_least hi]
    have e1 : zI (f_least i + fl) - zI (f_least i) + (1 : Int32) = nI (fl + 1) := by
      rw [zI_sub, show (1 : Int32) = zI 1 from rfl, zI_add, ← zI_nat]
      congr 1
      omega
    rw [e1]
    have c := c_Fm_bitsOf (l := l) (G := G) (i := i) (f := fl + 1) (b := M) hi hf (by omega)
    have e2 : M % 2 ^ (f_p i - 1) = M - 2 ^ (f_p i - 1) := by
      rw [Nat.mod_eq_sub_mod (by omega), Nat.mod_eq_of_lt (by omega)]
    rw [e2] at c
    exact b_Ro_bitsOfSize_44 (k_Ro_bitsOfSize_51 hi c (b_Ro_bitsOfSize_54 ⟨rfl, rfl⟩))
  · have z : M < 2 ^ (f_p i - 1) := by
      rcases Nat.lt_or_ge M (2 ^ (f_p i - 1)) with w | w
      · exact w
      · exact absurd (C.mpr (by omega)) z
    rw [if_pos z]
    have c := c_Fm_bitsOf (l := l) (G := G) (i := i) (f := 0) (b := M) hi (by omega) (by omega)
    rw [Nat.mod_eq_of_lt z, Nat.zero_mul, Nat.zero_add] at c
    exact b_Ro_bitsOfSize_44 (k_Ro_bitsOfSize_51 hi c (b_Ro_bitsOfSize_54 ⟨rfl, rfl⟩))
end RoS
