/-! CONTRACTS: Measure, 4: decimal -/
def sgI (s X : Nat) : Prop := (s = 0 → X = 0) ∧ (0 < s → 10 ^ (s - 1) ≤ X) ∧ X < 10 ^ s
theorem acc_sg : ∀ (L : List (Option Nat)) (s X : Nat), dgs 10 L → sgI s X → sgI (sgF s L) (acc 10 X L) := by
  intro L
  induction L with
  | nil => intro s X _ h; exact h
  | cons x L ih =>
    intro s X hd h
    cases x with
    | none => exact ih s X hd h
    | some d =>
      refine ih _ _ hd.2 ?_
      obtain ⟨h1, h2, h3⟩ := h
      have hd1 := hd.1
      by_cases z : 0 < s ∨ 0 < d
      · rw [if_pos z]
        refine ⟨fun y => by omega, fun _ => ?_, ?_⟩
        · rw [Nat.add_sub_cancel]
          rcases Nat.eq_zero_or_pos s with y | y
          · subst y
            rw [Nat.pow_zero]
            omega
          · have := h2 y
            have e : 10 ^ s = 10 ^ (s - 1) * 10 := by rw [← Nat.pow_succ]; congr 1; omega
            rw [e]
            omega
        · rw [Nat.pow_succ]; omega
      · rw [if_neg z]
        have hs : s = 0 := by omega
        have hX := h1 hs
        subst hs hX
        have : d = 0 := by omega
        subst this
        exact ⟨fun _ => rfl, fun y => by omega, by decide⟩
theorem acc_sg0 {L : List (Option Nat)} (h : dgs 10 L) : sgI (sgF 0 L) (acc 10 0 L) := acc_sg L 0 0 h ⟨fun _ => rfl, fun y => by omega, by decide⟩
theorem sgF_le : ∀ (L : List (Option Nat)) (s : Nat), sgF s L ≤ s + L.length := by
  intro L
  induction L with
  | nil => intro s; exact Nat.le_refl _
  | cons x L ih =>
    intro s
    simp only [List.length_cons]
    cases x with
    | none => have := ih s; simp only [sgF]; omega
    | some d =>
      simp only [sgF]
      by_cases z : 0 < s ∨ 0 < d
      · rw [if_pos z]
        have := ih (s + 1)
        omega
      · rw [if_neg z]
        have := ih s
        omega
theorem p311 : 10 ^ 311 < 2 ^ (32 * 100) := by decide +kernel
theorem p899 : 2 ^ (32 * 93) ≤ 10 ^ 899 := by decide +kernel
theorem em4 : (-4000 : Int32) - nI (62 - 0) = zI (-4062) := by decide +kernel
theorem ep4 : (4000 : Int32) - nI (62 - 0) = zI 3938 := by decide +kernel
section Ms4
variable {l : Launch} {G : gG} {e n q t tq a : Nat} {row : Nat → Int32} {len sc me at_ fo wr ne df dt sg fr ex : Int32} {ch : Nat → Nat} {tn : Nat} {W : Nat → Int32} {ns ng nw : Int32}
/-- the size of a decimal: X with s significant digits, the last one at the place la -/
def dcZ (X s : Nat) (la : Int) (lead : Nat) (pl : Int) (rest : Bool) : Prop :=
  (s = 0 ∧ lead = 0 ∧ rest = false) ∨
  (0 < s ∧ 310 < la + s - 1 ∧ lead = 2 ^ 62 ∧ pl = 3938 ∧ rest = false) ∨
  (0 < s ∧ la + s - 1 < -330 ∧ lead = 2 ^ 62 ∧ pl = -4062 ∧ rest = false) ∨
  (0 < s ∧ -330 ≤ la + s - 1 ∧ la + s - 1 ≤ 310 ∧ 2 ^ 62 ≤ lead ∧ lead < 2 ^ 63 ∧ zR (X * 10 ^ la.toNat) (10 ^ (-la).toNat) lead pl rest)
theorem c_Ms_decimal {L : List (Option Nat)} {d0 f0 : Nat} {E : Int} {z1 : Int64} {z2 z3 : Int32} (T : tOk row len ch tn) (hd0 : d0 ≤ tn) (hdf : df = nI d0) (hdt : dt = nI (d0 + L.length)) (hL : dgL ch 10 false d0 L) (hsg : sg = nI (sgF 0 L)) (hfr : fr = nI f0) (hex : ex = zI E) (hE1 : -1000000 ≤ E) (hE2 : E ≤ 1000000) (hf : f0 ≤ 4096) :
    ∃ W2 s2 g2 w2 lead pl rest, gCt l G m_Ms_decimal [.ref e, .ref t, .ref a] (wH G e n q t tq a W ns ng nw row len sc me at_ fo wr ne df dt sg fr ex z1 z2 z3) none (wH G e n q t tq a W2 s2 g2 w2 row len sc me at_ fo wr ne df dt sg fr ex (lN lead) (zI pl) (bI rest)) ∧ -10000 ≤ pl ∧ pl ≤ 10000 ∧ dcZ (acc 10 0 L) (sgF 0 L) (E - f0) lead pl rest := by
  have hn := T.2.1.1
  have hlen := dgL_lt T.2.1 _ _ _ hd0 hL
  have hsgl := sgF_le L 0
  have hsgI := acc_sg0 (dgL_dgs (Or.inl rfl) _ _ _ hL)
  have eF : ((ex - fr) + sg) - (1 : Int32) = zI (E - f0 + (sgF 0 L : Nat) - 1) := by
    rw [hex, hfr, hsg, ← zI_nat, ← zI_nat, show (1 : Int32) = zI 1 from rfl, zI_sub, zI_add, zI_sub]
  have h0 : sg = 0 ↔ sgF 0 L = 0 := by rw [hsg]; exact nI_eq (b := 0) (by omega) (by decide)
  have hhi : zI (E - f0 + (sgF 0 L : Nat) - 1) ≤ (310 : Int32) ↔ E - f0 + (sgF 0 L : Nat) - 1 ≤ 310 := zI_le (b := 310) (by omega) (by omega) (by decide) (by decide)
  have hlo : (-330 : Int32) ≤ zI (E - f0 + (sgF 0 L : Nat) - 1) ↔ -330 ≤ E - f0 + (sgF 0 L : Nat) - 1 := by
    rw [show (-330 : Int32) = zI (-330) by decide +kernel]
    exact zI_le (by decide) (by decide) (by omega) (by omega)
  have hkeep : (if (900 : Int32) < sg then (900 : Int32) else sg) = nI (min (sgF 0 L) 900) := by
    rw [hsg]
    have hlt : (900 : Int32) < nI (sgF 0 L) ↔ 900 < sgF 0 L := nI_ltI (a := 900) (by decide) (by omega)
    by_cases y : 900 < sgF 0 L
    · rw [if_pos (hlt.mpr y), Nat.min_eq_right (by omega)]; rfl
    · rw [if_neg (fun v => y (hlt.mp v)), Nat.min_eq_left (by omega)]
  have one : bin 1 0 := ⟨by decide, by decide⟩
  rcases Nat.eq_zero_or_pos (sgF 0 L) with z | z
  · refine ⟨W, ns, ng, nw, 0, 0, false, gCt.mk (by decide +kernel) (Nat.le_of_ble_eq_true rfl) rfl (b_Ms_decimal_0 (fun y => absurd (h0.mpr z) y) (fun y => absurd (h0.mpr z) y) (fun y => absurd (h0.mpr z) y) (fun _ => k_Ms_decimal_30 c_Si_set0 (b_Ms_decimal_33 (b_Ms_decimal_109 ⟨rfl, rfl⟩)))), by decide, by decide, Or.inl ⟨z, rfl, rfl⟩⟩
  · have hz : ¬ sg = 0 := fun y => by have := h0.mp y; omega
    by_cases y1 : E - f0 + (sgF 0 L : Nat) - 1 ≤ 310
    · by_cases y2 : -330 ≤ E - f0 + (sgF 0 L : Nat) - 1
      · have hkL : min (sgF 0 L) 900 ≤ 900 := Nat.min_le_right _ _
        have hk1 : 1 ≤ min (sgF 0 L) 900 := by omega
        generalize hkd : min (sgF 0 L) 900 = kept at *
        obtain ⟨W2, s2, more, A, taken, c, hI, hN⟩ := c_Ms_loadDigits (l := l) (G := G) (e := e) (n := n) (q := q) (t := t) (tq := tq) (W := W) (ns := ns) (ng := ng) (nw := nw) (sc := sc) (me := me) (at_ := at_) (fo := fo) (wr := wr) (ne := ne) (sg := sg) (fr := fr) (ex := ex) (kept := kept) T hk1 hkL hd0 hdf hdt hL
        have hA1 : 1 ≤ A := by
          rw [hI.2.1]
          have h2 := hsgI.2.1 z
          rw [Nat.le_div_iff_mul_le (Nat.pow_pos (by decide)), Nat.one_mul]
          exact Nat.le_trans (Nat.pow_le_pow_right (by decide) (by omega)) h2
        have ep : (zI (E - f0 + (sgF 0 L : Nat) - 1) - nI kept) + (1 : Int32) = zI (E - f0 + (sgF 0 L : Nat) - kept) := by
          rw [← zI_nat, show (1 : Int32) = zI 1 from rfl, zI_sub, zI_add]
          congr 1
          omega
        have go : ∀ (W3 : Nat → Int32) (s3 lead : Nat) (pl : Int) (rest : Bool), gCt l G m_Ms_takeTimesTen [.ref e, .int (zI (E - f0 + (sgF 0 L : Nat) - kept)), .int (bI more), .ref a] (wK G e n q a W2 s2 (nI 0) (nI 1) z1 z2 z3) none (wK G e n q a W3 s3 (nI 0) (nI 1) (lN lead) (zI pl) (bI rest)) → gCt l G m_Ms_decimal [.ref e, .ref t, .ref a] (wH G e n q t tq a W ns ng nw row len sc me at_ fo wr ne df dt sg fr ex z1 z2 z3) none (wH G e n q t tq a W3 (nI s3) (nI 0) (nI 1) row len sc me at_ fo wr ne df dt sg fr ex (lN lead) (zI pl) (bI rest)) := by
          intro W3 s3 lead pl rest c3
          refine gCt.mk (by decide +kernel) (Nat.le_of_ble_eq_true rfl) rfl (b_Ms_decimal_0 (fun _ _ _ => ?_) (fun _ _ v => ?_) (fun _ v => ?_) (fun v => absurd v hz))
          · rw [eF, hkeep]
            refine k_Ms_decimal_90 c (b_Ms_decimal_93 ?_)
            rw [ep]
            exact k_Ms_decimal_106 c3 (a_lv [(0, .ref e), (1, .ref t), (2, .ref a), (3, .int (ex - fr)), (4, .int (zI (E - f0 + (sgF 0 L : Nat) - 1)))] [0, 1, 2, 3, 4] rfl (b_Ms_decimal_109 ⟨rfl, rfl⟩))
          · rw [eF] at v; exact absurd (hlo.mpr y2) v
          · rw [eF] at v; exact absurd (hhi.mpr y1) v
        by_cases y3 : 0 ≤ E - f0 + (sgF 0 L : Nat) - kept
        · have hks : kept = sgF 0 L := by omega
          obtain ⟨p, hp⟩ : ∃ p : Nat, E - f0 + (sgF 0 L : Nat) - kept = (p : Int) := ⟨_, (Int.toNat_of_nonneg y3).symm⟩
          have hla : E - f0 = (p : Int) := by omega
          have hAX : A = acc 10 0 L := by rw [hI.2.1, hks, Nat.sub_self, Nat.pow_zero, Nat.div_one]
          have hmo : more = false := by rw [hI.2.2.1, hks, Nat.sub_self, Nat.pow_zero, Nat.mod_one]; rfl
          have hfit : A * 5 ^ p < 2 ^ (32 * 100) := by
            have h1 := hsgI.2.2
            rw [← hAX] at h1
            have h2 : A * 5 ^ p ≤ 10 ^ sgF 0 L * 10 ^ p := Nat.mul_le_mul (Nat.le_of_lt h1) (Nat.pow_le_pow_left (by decide) p)
            rw [← Nat.pow_add] at h2
            have h3 : 10 ^ (sgF 0 L + p) ≤ 10 ^ 311 := Nat.pow_le_pow_right (by decide) (by omega)
            exact Nat.lt_of_le_of_lt (Nat.le_trans h2 h3) p311
          obtain ⟨W3, s3, lead, pl, rest, c3, p1, p2, p3, p4, p5⟩ := c_Ms_takeUp (l := l) (G := G) (e := e) (n := n) (q := q) (a := a) (g := nI 0) (w := nI 1) (z1 := z1) (z2 := z2) (z3 := z3) hN hA1 (by omega : p ≤ 2000) hfit
          rw [← hp, ← hmo] at c3
          refine ⟨W3, nI s3, nI 0, nI 1, lead, pl, rest, go _ _ _ _ _ c3, p1, p2, Or.inr (Or.inr (Or.inr ⟨z, y2, y1, p3, p4, ?_⟩))⟩
          rw [hla, ← hAX, Int.toNat_natCast, show (-(p : Int)).toNat = 0 by omega, Nat.pow_zero]
          exact p5
        · obtain ⟨c0, hc0⟩ : ∃ c : Nat, E - f0 + (sgF 0 L : Nat) - kept = -(c : Int) := ⟨(-(E - f0 + (sgF 0 L : Nat) - kept)).toNat, by omega⟩
          have ht : sgF 0 L - kept = 0 ∨ ra_w c0 ≤ s2 := by
            rcases Nat.eq_zero_or_pos (sgF 0 L - kept) with v | v
            · exact Or.inl v
            · right
              have hk9 : kept = 900 := by omega
              have hAbig : 10 ^ 899 ≤ A := by
                rw [hI.2.1, Nat.le_div_iff_mul_le (Nat.pow_pos (by decide)), ← Nat.pow_add]
                exact Nat.le_trans (Nat.pow_le_pow_right (by decide) (by omega)) (hsgI.2.1 z)
              have hlt : A < 2 ^ (32 * s2) := by
                have := sv_lt W2 s2 0
                rw [hN.2.1] at this
                exact this
              have hra : ra_w c0 ≤ 93 := by unfold ra_w; omega
              rcases Nat.lt_or_ge s2 (ra_w c0) with u | u
              · have h1 : 2 ^ (32 * s2) ≤ 2 ^ (32 * 93) := Nat.pow_le_pow_right (by decide) (by omega)
                exact absurd (Nat.lt_of_lt_of_le hlt (Nat.le_trans h1 (Nat.le_trans p899 hAbig))) (Nat.lt_irrefl _)
              · exact u
          obtain ⟨W3, s3, lead, pl, rest, c3, p1, p2, p3, p4, p5⟩ := c_Ms_takeDown (l := l) (G := G) (e := e) (n := n) (q := q) (a := a) (g := nI 0) (w := nI 1) (z1 := z1) (z2 := z2) (z3 := z3) hN hA1 (by omega : 1 ≤ c0) (by omega) hI.2.1 hI.2.2.1 ht
          rw [← hc0] at c3
          refine ⟨W3, nI s3, nI 0, nI 1, lead, pl, rest, go _ _ _ _ _ c3, p1, p2, Or.inr (Or.inr (Or.inr ⟨z, y2, y1, p3, p4, ?_⟩))⟩
          rw [show (E - (f0 : Int)).toNat = 0 by omega, Nat.pow_zero, Nat.mul_one, show (-(E - (f0 : Int))).toNat = c0 + (sgF 0 L - kept) by omega]
          exact p5
      · refine ⟨W, ns, ng, nw, 1 * 2 ^ (62 - 0), -4062, false, gCt.mk (by decide +kernel) (Nat.le_of_ble_eq_true rfl) rfl (b_Ms_decimal_0 (fun _ _ v => ?_) (fun _ _ _ => k_Ms_decimal_68 (c_Si_set one (by decide)) (b_Ms_decimal_71 (b_Ms_decimal_109 ⟨rfl, by rw [em4]⟩))) (fun _ v => ?_) (fun v => absurd v hz)), by decide, by decide, Or.inr (Or.inr (Or.inl ⟨z, by omega, by decide, rfl, rfl⟩))⟩
        · rw [eF] at v; exact absurd (hlo.mp v) y2
        · rw [eF] at v; exact absurd (hhi.mpr y1) v
    · refine ⟨W, ns, ng, nw, 1 * 2 ^ (62 - 0), 3938, false, gCt.mk (by decide +kernel) (Nat.le_of_ble_eq_true rfl) rfl (b_Ms_decimal_0 (fun _ v => ?_) (fun _ v => ?_) (fun _ _ => k_Ms_decimal_49 (c_Si_set one (by decide)) (b_Ms_decimal_52 (b_Ms_decimal_109 ⟨rfl, by rw [ep4]⟩))) (fun v => absurd v hz)), by decide, by decide, Or.inr (Or.inl ⟨z, by omega, by decide, rfl, rfl⟩)⟩
      · rw [eF] at v; exact absurd (hhi.mp v) y1
      · rw [eF] at v; exact absurd (hhi.mp v) y1
end Ms4
