/-! CONTRACTS: Measure, 3: takeTimesTen -/
theorem nI_u32 (w : Int32) : nI (u32 w) = w := by
  apply Int32.toBitVec_inj.mp
  show BitVec.ofNat 32 w.toBitVec.toNat = w.toBitVec
  apply BitVec.eq_of_toNat_eq
  rw [BitVec.toNat_ofNat]
  exact Nat.mod_eq_of_lt w.toBitVec.isLt
theorem fives_le (c : Nat) : 5 ^ c * 2 ^ 62 ≤ 2 ^ (32 * (ra_w c - 1)) := by
  have h3 : ∀ k, 5 ^ (3 * k) ≤ 2 ^ (7 * k) := by
    intro k
    rw [Nat.pow_mul, Nat.pow_mul]
    exact Nat.pow_le_pow_left (by decide) k
  have h4 : ∀ i, i < 3 → 5 ^ i ≤ 2 ^ (i + (i + 1)) ∧ (i = 0 → 5 ^ i = 1) := by decide
  have hc : c = 3 * (c / 3) + c % 3 := by omega
  have hi : c % 3 < 3 := Nat.mod_lt _ (by decide)
  generalize c / 3 = k at hc
  generalize c % 3 = i at hc hi
  subst hc
  have e : 5 ^ (3 * k + i) * 2 ^ 62 ≤ 2 ^ (7 * k) * (5 ^ i) * 2 ^ 62 := by
    rw [Nat.pow_add]
    exact Nat.mul_le_mul_right _ (Nat.mul_le_mul_right _ (h3 k))
  refine Nat.le_trans e ?_
  unfold ra_w
  rcases (show i = 0 ∨ i = 1 ∨ i = 2 by omega) with rfl | rfl | rfl
  · rw [Nat.pow_zero, Nat.mul_one, ← Nat.pow_add]
    exact Nat.pow_le_pow_right (by decide) (by omega)
  · have : 2 ^ (7 * k) * 5 ^ 1 * 2 ^ 62 ≤ 2 ^ (7 * k) * 2 ^ 3 * 2 ^ 62 := Nat.mul_le_mul_right _ (Nat.mul_le_mul_left _ (by decide))
    refine Nat.le_trans this ?_
    rw [← Nat.pow_add, ← Nat.pow_add]
    exact Nat.pow_le_pow_right (by decide) (by omega)
  · have : 2 ^ (7 * k) * 5 ^ 2 * 2 ^ 62 ≤ 2 ^ (7 * k) * 2 ^ 5 * 2 ^ 62 := Nat.mul_le_mul_right _ (Nat.mul_le_mul_left _ (by decide))
    refine Nat.le_trans this ?_
    rw [← Nat.pow_add, ← Nat.pow_add]
    exact Nat.pow_le_pow_right (by decide) (by omega)
section Ms3
variable {l : Launch} {G : gG} {e n q a : Nat}
abbrev wK (G : gG) (e n q a : Nat) (W : Nat → Int32) (s : Nat) (g w : Int32) (z1 : Int64) (z2 z3 : Int32) : va_W :=
  [oMs e n, oNa n q (nI s) g w, aI G q 100 W, oSi a z1 z2 z3]
theorem a_Ms_push {W : Nat → Int32} {s : Nat} {g w x1 x2 x4 x5 : Int32} (hs : s ≤ 100) : ∀ (k : Nat) (lead place : Nat) (rest : Bool), k ≤ s → pRep (sv W k (s - k)) lead place rest → ∃ lead2 place2 rest2, pRep (sv W 0 s) lead2 place2 rest2 ∧ ∀ w0 w1 : va_W,
    (∀ x6, gAt l G m_Ms_takeTimesTen w0 none w1 94 [(0, .ref e), (1, .int x1), (2, .int x2), (3, .ref a), (4, .int x4), (5, .int x5), (6, .int x6)] [.int x4, .int (x1 - x5), .ref a] (wK G e n q a W s g w (lN lead2) (nI place2) (bI rest2))) →
    gAt l G m_Ms_takeTimesTen w0 none w1 61 [(0, .ref e), (1, .int x1), (2, .int x2), (3, .ref a), (4, .int x4), (5, .int x5), (6, .int (zI ((k : Int) - 1)))] [] (wK G e n q a W s g w (lN lead) (nI place) (bI rest)) := by
  intro k
  induction k with
  | zero =>
    intro lead place rest hk hR
    exact ⟨lead, place, rest, hR, fun w0 w1 fin => b_Ms_takeTimesTen_61 (fun _ => fin _) (fun z => absurd (by decide +kernel) z)⟩
  | succ k ih =>
    intro lead place rest hk hR
    have hx : ¬ zI (((k + 1 : Nat) : Int) - 1) < 0 := fun z => by
      have := (zI_lt (b := 0) (by omega) (by omega) (by decide) (by decide)).mp z
      omega
    have ek : (((k + 1 : Nat) : Int) - 1) = (k : Int) := by omega
    obtain ⟨lead3, place3, rest3, c, hR3⟩ := c_Si_push (l := l) (G := G) (a := a) (u := u32 (W k)) (w := 32) (by decide) (by decide) (u32_lt _) hR
    have es : sv W (k + 1) (s - (k + 1)) * 2 ^ 32 + u32 (W k) = sv W k (s - k) := by
      rw [show s - k = (s - (k + 1)) + 1 by omega, sv]
      omega
    rw [es] at hR3
    rw [nI_u32] at c
    obtain ⟨lead2, place2, rest2, h1, h2⟩ := ih lead3 place3 rest3 (by omega) hR3
    refine ⟨lead2, place2, rest2, h1, fun w0 w1 fin => b_Ms_takeTimesTen_61 (fun z => absurd z hx) (fun _ => ?_)⟩
    have cw := c_Na_wordAt (l := l) (G := G) (a := n) (q := q) (W := W) (s := s) (g := g) (w := w) hs (k : Int) (by omega) (by omega)
    rw [if_neg (by omega), Int.toNat_natCast] at cw
    rw [ek]
    refine k_Ms_takeTimesTen_73 cw (b_Ms_takeTimesTen_76 (k_Ms_takeTimesTen_78 c (b_Ms_takeTimesTen_81 ?_)))
    have e2 : zI (k : Int) + (-1 : Int32) = zI ((k : Int) - 1) := by rw [em1, zI_add]; rfl
    rw [e2]
    exact h2 w0 w1 fin
theorem a_Ms_tail {W : Nat → Int32} {s Q : Nat} {g w x2 : Int32} {p r : Int} {r0 : Bool} {z1 : Int64} {z2 z3 : Int32} {w0 : va_W} (h : nN W s Q) (hQ : 1 ≤ Q) :
    ∃ lead place rest j, pRep Q lead place rest ∧ bin lead j ∧ j ≤ 62 ∧ place ≤ 3200 ∧
    gAt l G m_Ms_takeTimesTen w0 none (wK G e n q a W s g w (lN (lead * 2 ^ (62 - j))) (zI (p - r + place - (62 - j : Nat))) (bI (rest || r0))) 46 [(0, .ref e), (1, .int (zI p)), (2, .int x2), (3, .ref a), (4, .int (bI r0)), (5, .int (zI r))] [] (wK G e n q a W s g w z1 z2 z3) := by
  obtain ⟨hs, hv, ht⟩ := h
  obtain ⟨lead, place, rest, hR, hk⟩ := a_Ms_push (l := l) (G := G) (e := e) (n := n) (q := q) (a := a) (W := W) (s := s) (g := g) (w := w) (x1 := zI p) (x2 := x2) (x4 := bI r0) (x5 := zI r) hs s 0 0 false (Nat.le_refl _) (by rw [Nat.sub_self]; exact pRep_0)
  rw [hv] at hR
  have hQB : Q < 2 ^ 3200 := by
    have h1 := sv_lt W s 0
    rw [hv] at h1
    exact Nat.lt_of_lt_of_le h1 (Nat.pow_le_pow_right (by decide) (by omega))
  have hl : 0 < lead := by
    rcases Nat.eq_zero_or_pos place with z | z
    · have := hR.1
      rw [z, Nat.pow_zero, Nat.div_one] at this
      omega
    · have := hR.2.2.2 z; omega
  obtain ⟨j, hj⟩ := bin_ex hl
  have hj63 : j < 63 := (bin_lt hj 63).mp hR.2.2.1
  refine ⟨lead, place, rest, j, hR, hj, by omega, pRep_pl hR hQB, b_Ms_takeTimesTen_46 (k_Ms_takeTimesTen_47 c_Si_begin (b_Ms_takeTimesTen_50 ?_))⟩
  have e1 : nI s - (1 : Int32) = zI ((s : Int) - 1) := by rw [← zI_nat, show (1 : Int32) = zI 1 from rfl, zI_sub]
  rw [e1]
  refine hk _ _ (fun x6 => ?_)
  rw [zI_sub]
  refine k_Ms_takeTimesTen_94 (c_Si_end hj (by omega)) (b_Ms_takeTimesTen_97 ⟨rfl, ?_⟩)
  rw [← zI_nat place, ← zI_nat (62 - j), zI_add, zI_sub]
theorem lead_rng {lead j : Nat} (hj : bin lead j) (h : j ≤ 62) : 2 ^ 62 ≤ lead * 2 ^ (62 - j) ∧ lead * 2 ^ (62 - j) < 2 ^ 63 := by
  have hb := bin_mul (c := 62 - j) hj
  rw [show j + (62 - j) = 62 by omega] at hb
  exact hb
theorem c_Ms_takeUp {W : Nat → Int32} {s N p : Nat} {g w : Int32} {z1 : Int64} {z2 z3 : Int32} (h : nN W s N) (hN : 1 ≤ N) (hp : p ≤ 2000) (hfit : N * 5 ^ p < 2 ^ (32 * 100)) :
    ∃ W2 s2 lead pl rest, gCt l G m_Ms_takeTimesTen [.ref e, .int (zI p), .int (bI false), .ref a] (wK G e n q a W s g w z1 z2 z3) none (wK G e n q a W2 s2 g w (lN lead) (zI pl) (bI rest)) ∧ -10000 ≤ pl ∧ pl ≤ 10000 ∧ 2 ^ 62 ≤ lead ∧ lead < 2 ^ 63 ∧ zR (N * 10 ^ p) 1 lead pl rest := by
  obtain ⟨W2, s2, c, h2⟩ := c_Na_multiplyByFives (l := l) (G := G) (a := n) (q := q) (g := g) (w := w) h (by omega : p < 2 ^ 30) hfit
  obtain ⟨lead, place, rest, j, hR, hj, hj62, hpl, k⟩ := a_Ms_tail (l := l) (G := G) (e := e) (n := n) (q := q) (a := a) (g := g) (w := w) (x2 := bI false) (p := p) (r := 0) (r0 := false) (z1 := z1) (z2 := z2) (z3 := z3) (w0 := wK G e n q a W s g w z1 z2 z3) h2 (Nat.mul_pos hN (Nat.pow_pos (by decide)))
  have hr := lead_rng hj hj62
  have hn0 : ¬ zI (p : Int) < 0 := fun z => by
    have := (zI_lt (b := 0) (by omega) (by omega) (by decide) (by decide)).mp z
    omega
  refine ⟨W2, s2, lead * 2 ^ (62 - j), (p : Int) - 0 + place - (62 - j : Nat), rest || false, gCt.mk (by decide +kernel) (Nat.le_of_ble_eq_true rfl) rfl (b_Ms_takeTimesTen_0 (fun z => absurd z hn0) (fun _ => ?_)), by omega, by omega, hr.1, hr.2, ?_⟩
  · rw [zI_nat] at k ⊢
    exact k_Ms_takeTimesTen_15 c (b_Ms_takeTimesTen_18 k)
  · have := zR_end (X := N * 5 ^ p) (m := 1) (a := p) (b := 0) hR hj (by decide) (Nat.div_one _).symm (Or.inl rfl)
    rw [Nat.mod_one, Nat.pow_zero, Nat.mul_one, Nat.mul_assoc, ← Nat.mul_pow] at this
    exact this
theorem c_Ms_takeDown {W : Nat → Int32} {s N c t X : Nat} {g w : Int32} {more : Bool} {z1 : Int64} {z2 z3 : Int32} (h : nN W s N) (hN : 1 ≤ N) (hc1 : 1 ≤ c) (hc : c ≤ 1230) (hX : N = X / 10 ^ t) (hm : more = decide (X % 10 ^ t ≠ 0)) (ht : t = 0 ∨ ra_w c ≤ s) :
    ∃ W2 s2 lead pl rest, gCt l G m_Ms_takeTimesTen [.ref e, .int (zI (-(c : Int))), .int (bI more), .ref a] (wK G e n q a W s g w z1 z2 z3) none (wK G e n q a W2 s2 g w (lN lead) (zI pl) (bI rest)) ∧ -10000 ≤ pl ∧ pl ≤ 10000 ∧ 2 ^ 62 ≤ lead ∧ lead < 2 ^ 63 ∧ zR X (10 ^ (c + t)) lead pl rest := by
  have hneg : zI (-(c : Int)) < 0 := (zI_lt (b := 0) (by omega) (by omega) (by decide) (by decide)).mpr (by omega)
  have en : -zI (-(c : Int)) = nI c := by rw [zI_neg, Int.neg_neg, zI_nat]
  have h5 : 0 < 5 ^ c := Nat.pow_pos (by decide)
  have e10 : 5 ^ c * 2 ^ c = 10 ^ c := by rw [← Nat.mul_pow]
  have hraw : 4 ≤ ra_w c := by unfold ra_w; omega
  have hraw2 : ra_w c ≤ 100 := by unfold ra_w; omega
  have hs1 : 1 ≤ s := by
    rcases Nat.eq_zero_or_pos s with z | z
    · have := h.2.1
      rw [z] at this
      simp only [sv] at this
      omega
    · exact z
  have big : ∀ (V : Nat → Int32) (s2 Y : Nat), ra_w c ≤ s2 → nN V s2 Y → 2 ^ 62 ≤ Y / 5 ^ c := by
    intro V s2 Y hs2 hY
    rw [Nat.le_div_iff_mul_le h5, Nat.mul_comm]
    refine Nat.le_trans (fives_le c) ?_
    rcases hY.2.2 with z | z
    · omega
    · exact Nat.le_trans (Nat.pow_le_pow_right (by decide) (by omega)) z
  rcases Nat.lt_or_ge s (ra_w c) with z | z
  · have ht : t = 0 := by omega
    subst ht
    rw [Nat.pow_zero, Nat.div_one] at hX
    rw [Nat.pow_zero, Nat.mod_one] at hm
    have hm : more = false := hm
    subst hX hm
    obtain ⟨W2, c2, h2⟩ := c_Na_raise (l := l) (G := G) (a := n) (q := q) (g := g) (w := w) h hs1 hc z
    obtain ⟨W3, s3, c3, h3⟩ := c_Na_divideByFives (l := l) (G := G) (a := n) (q := q) (g := g) (w := w) h2 (by omega : c < 2 ^ 30)
    have hbig := big _ _ _ (Nat.le_refl _) h2
    obtain ⟨lead, place, rest, j, hR, hj, hj62, hpl, k⟩ := a_Ms_tail (l := l) (G := G) (e := e) (n := n) (q := q) (a := a) (g := g) (w := w) (x2 := bI false) (p := -(c : Int)) (r := (32 * (ra_w c - s) : Nat)) (r0 := decide (N * 2 ^ (32 * (ra_w c - s)) % 5 ^ c ≠ 0)) (z1 := z1) (z2 := z2) (z3 := z3) (w0 := wK G e n q a W s g w z1 z2 z3) h3 (by omega)
    have hr := lead_rng hj hj62
    refine ⟨W3, s3, lead * 2 ^ (62 - j), -(c : Int) - (32 * (ra_w c - s) : Nat) + place - (62 - j : Nat), (rest || decide (N * 2 ^ (32 * (ra_w c - s)) % 5 ^ c ≠ 0)), gCt.mk (by decide +kernel) (Nat.le_of_ble_eq_true rfl) rfl (b_Ms_takeTimesTen_0 (fun _ => ?_) (fun y => absurd hneg y)), by omega, by omega, hr.1, hr.2, ?_⟩
    · rw [en]
      refine k_Ms_takeTimesTen_27 c2 (b_Ms_takeTimesTen_30 ?_)
      rw [en]
      refine k_Ms_takeTimesTen_40 c3 (b_Ms_takeTimesTen_43 ?_)
      rw [bI_or, Bool.false_or]
      rw [zI_nat (32 * (ra_w c - s))] at k
      exact k
    · have := zR_end (X := N * 2 ^ (32 * (ra_w c - s))) (m := 5 ^ c) (a := 0) (b := c + 32 * (ra_w c - s)) hR hj h5 rfl (Or.inr hbig)
      rw [Nat.pow_zero, Nat.mul_one, Nat.pow_add 2 c, ← Nat.mul_assoc, e10, zR_mul (Nat.two_pow_pos _)] at this
      rw [Nat.add_zero, show (-(c : Int) - (32 * (ra_w c - s) : Nat) + place - (62 - j : Nat)) = (((0 : Nat) : Int) - (c + 32 * (ra_w c - s) : Nat) + place - (62 - j : Nat)) by omega]
      exact this
  · have c2 := c_Na_raise0 (l := l) (G := G) (a := n) (q := q) (g := g) (w := w) h hc z
    obtain ⟨W3, s3, c3, h3⟩ := c_Na_divideByFives (l := l) (G := G) (a := n) (q := q) (g := g) (w := w) h (by omega : c < 2 ^ 30)
    have hbig := big _ _ _ z h
    obtain ⟨lead, place, rest, j, hR, hj, hj62, hpl, k⟩ := a_Ms_tail (l := l) (G := G) (e := e) (n := n) (q := q) (a := a) (g := g) (w := w) (x2 := bI more) (p := -(c : Int)) (r := 0) (r0 := more || decide (N % 5 ^ c ≠ 0)) (z1 := z1) (z2 := z2) (z3 := z3) (w0 := wK G e n q a W s g w z1 z2 z3) h3 (by omega)
    have hr := lead_rng hj hj62
    refine ⟨W3, s3, lead * 2 ^ (62 - j), -(c : Int) - 0 + place - (62 - j : Nat), (rest || (more || decide (N % 5 ^ c ≠ 0))), gCt.mk (by decide +kernel) (Nat.le_of_ble_eq_true rfl) rfl (b_Ms_takeTimesTen_0 (fun _ => ?_) (fun y => absurd hneg y)), by omega, by omega, hr.1, hr.2, ?_⟩
    · rw [en]
      refine k_Ms_takeTimesTen_27 c2 (b_Ms_takeTimesTen_30 ?_)
      rw [en]
      refine k_Ms_takeTimesTen_40 c3 (b_Ms_takeTimesTen_43 ?_)
      rw [bI_or]
      exact k
    · have h10 : 0 < 10 ^ t := Nat.pow_pos (by decide)
      have := zR_end (X := X) (m := 10 ^ t * 5 ^ c) (a := 0) (b := c) hR hj (Nat.mul_pos h10 h5) (by rw [← Nat.div_div_eq_div_mul, ← hX]) (Or.inr hbig)
      rw [Nat.pow_zero, Nat.mul_one, Nat.mul_assoc, e10, Nat.mul_comm (10 ^ t), ← Nat.pow_add] at this
      rw [show (-(c : Int) - 0 + place - (62 - j : Nat)) = (((0 : Nat) : Int) - (c : Nat) + place - (62 - j : Nat)) by omega]
      have er : (more || decide (N % 5 ^ c ≠ 0)) = decide (X % (10 ^ t * 5 ^ c) ≠ 0) := by
        rw [hm, ← Bool.decide_or]
        refine decide_eq_decide.mpr ?_
        rw [mod_mul_ne h10, ← hX]
      rw [er]
      exact this
end Ms3
