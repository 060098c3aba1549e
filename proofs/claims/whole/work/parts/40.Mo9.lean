/-! CONTRACTS: the model, 9: findDecimal as a whole; bits of a hexadecimal -/
theorem mU10 : mU = 10 ^ 5960 := wB10 745
section Mo9
variable {l : Launch} {G : gG} {m ta fa wa : Nat} {th len ki pc be : Int32} {tx fg wd : Nat → Int32}
theorem c_Mo_findDecimal {ds : Nat → Nat} {f0 M pt p : Nat} {E least : Int} {fm to : Int32} {wh sc : Int64} {re hu : Int32} (hM : M ≤ 4096) (hf0 : f0 ≤ M) (hpt : pt ≤ 4096) (hds : ∀ j, j < M → ds j < 10) (hfg : ∀ j, j < M → fg j = nI (ds j)) (hE1 : -100000000000 ≤ E) (hE2 : E ≤ 100000000000) (hp1 : 2 ≤ p) (hp2 : p ≤ 53) (hl1 : -2000 ≤ least) (hl2 : least ≤ 0)
    (h1 : -400 ≤ (pt : Int) - f0 + E) (h2 : (pt : Int) - f0 + E ≤ 400) :
    ∃ W2 f t whole scale rest, gCt l G m_Mo_findDecimal [.ref m, .int (nI f0), .int (nI p), .int (zI least)] (wM G m ta fa wa th len ki pc be (nI M) (nI pt) (zL E) fm to wh sc re hu tx fg wd) none (wM G m ta fa wa th len ki pc be (nI M) (nI pt) (zL E) (nI f) (nI t) (lN whole) (zL scale) (nI rest) 0 tx fg W2) ∧
      fR (nv ds f0 (M - f0) * 10 ^ ((pt : Int) - f0 + E - (M - f0 : Nat)).toNat) (10 ^ (-((pt : Int) - f0 + E - (M - f0 : Nat))).toNat) p least whole scale rest ∧ scale ≤ 10000 := by
  have epl : (Int32.toInt64 (nI pt - nI f0)) + zL E = zL ((pt : Int) - f0 + E) := by
    rw [← zI_nat, ← zI_nat, zI_sub, zI_l (by omega) (by omega), zL_add]
  generalize hPl : (pt : Int) - f0 + E = Pl at *
  obtain ⟨W1, f1, t1, c, hW⟩ := c_Mo_writeOut (l := l) (G := G) (m := m) (ta := ta) (fa := fa) (wa := wa) (th := th) (len := len) (ki := ki) (pc := pc) (be := be) (po := nI pt) (ex := zL E) (wh := wh) (sc := sc) (re := re) (hu := 0) (tx := tx) (fg := fg) (fm := fm) (to := to) (wd := wd) hM hf0 hds hfg h1 h2
  generalize hD : M - f0 = D at *
  have hnv := nv_lt (f0 := f0) hds D (by omega)
  have hN0 : nv ds f0 D * 10 ^ ((5960 + Pl).toNat - D) < 10 ^ Pl.toNat * mU := by
    have g2 : nv ds f0 D * 10 ^ ((5960 + Pl).toNat - D) < 10 ^ D * 10 ^ ((5960 + Pl).toNat - D) := (Nat.mul_lt_mul_right (Nat.pow_pos (by decide))).mpr hnv
    rw [← Nat.pow_add] at g2
    rw [mU10, ← Nat.pow_add]
    exact Nat.lt_of_lt_of_le g2 (Nat.pow_le_pow_right (by decide) (by omega))
  obtain ⟨W2, f2, t2, whole, scale, rest, g, ⟨hC, hR2, hR3, hR4⟩, hsc⟩ := a_Mo_fd1 (l := l) (G := G) (m := m) (ta := ta) (fa := fa) (wa := wa) (th := th) (len := len) (ki := ki) (pc := pc) (be := be) (ma := nI M) (po := nI pt) (ex := zL E) (re := re) (hu := 0) (tx := tx) (fg := fg) (w0 := wM G m ta fa wa th len ki pc be (nI M) (nI pt) (zL E) fm to wh sc re hu tx fg wd) (p := p) (y := (5960 + Pl).toNat - D) (pl := Pl.toNat) (least := least) (wh := wh) (x1 := nI f0) (x4 := zL Pl) hp1 hp2 hl1 hl2 hN0 (by omega) (by omega) _ W1 _ f1 t1 0 (Nat.le_refl _) hW (by rw [Nat.pow_zero, Nat.mul_one]) (by rw [Nat.sub_zero]; exact Nat.dvd_mul_left _ _) (by omega)
  have c400 : lg_cmp (zL Pl) (400 : Int64) ≤ 0 ↔ Pl ≤ 400 := by
    rw [lgc_le0, show (400 : Int64) = zL 400 from rfl, zL_lt (by decide) (by decide) (by omega) (by omega)]
    omega
  have cm400 : 0 ≤ lg_cmp (zL Pl) (-400 : Int64) ↔ -400 ≤ Pl := by
    rw [lgc_ge, show (-400 : Int64) = zL (-400) by decide +kernel, zL_lt (by omega) (by omega) (by decide) (by decide)]
    omega
  refine ⟨W2, f2, t2, whole, scale, rest, gCt.mk (by decide +kernel) (Nat.le_of_ble_eq_true rfl) rfl (b_Mo_findDecimal_0 (fun _ => ?_) (fun z => ?_)), ⟨?_, hR2, hR3, hR4⟩, hsc⟩
  · rw [epl]
    refine b_Mo_findDecimal_29 ⟨rfl, rfl⟩ (fun z => absurd rfl z) (fun _ _ => ?_) (fun _ z => absurd (cm400.mpr h1) z)
    rw [zL_i]
    exact k_Mo_findDecimal_70 c (b_Mo_findDecimal_73 g)
  · rw [epl] at z
    exact absurd (c400.mpr h2) z
  · rcases Int.le_total 0 (Pl - D) with z | z
    · have e1 : nv ds f0 D * 10 ^ ((5960 + Pl).toNat - D) = nv ds f0 D * 10 ^ (Pl - (D : Nat)).toNat * 10 ^ 5960 := by
        rw [Nat.mul_assoc, ← Nat.pow_add]
        congr 2
        omega
      have e2 : (-(Pl - (D : Nat))).toNat = 0 := by omega
      rw [e2, Nat.pow_zero]
      rw [e1, mU10, ← Nat.one_mul (10 ^ 5960), ← Nat.mul_assoc, Nat.mul_one, fC_mul (Nat.pow_pos (by decide))] at hC
      exact hC
    · have e1 : (5960 + Pl).toNat - D = 5960 - (-(Pl - (D : Nat))).toNat := by omega
      have e2 : (Pl - (D : Nat)).toNat = 0 := by omega
      have e3 : mU = 10 ^ (-(Pl - (D : Nat))).toNat * 10 ^ (5960 - (-(Pl - (D : Nat))).toNat) := by
        rw [mU10, ← Nat.pow_add]
        congr 1
        omega
      rw [e2, Nat.pow_zero, Nat.mul_one]
      rw [e1, e3, fC_mul (Nat.pow_pos (by decide))] at hC
      exact hC
theorem c_Mo_findDecimalFar {f0 M pt : Nat} {pp : Int32} {E least : Int} {fm to : Int32} {wh sc : Int64} {re hu : Int32} (hM : M ≤ 4096) (hf0 : f0 ≤ M) (hpt : pt ≤ 4096) (hE1 : -100000000000 ≤ E) (hE2 : E ≤ 100000000000) (hl1 : -2000 ≤ least) (hl2 : least ≤ 0)
    (h1 : (pt : Int) - f0 + E < -400 ∨ 400 < (pt : Int) - f0 + E) :
    gCt l G m_Mo_findDecimal [.ref m, .int (nI f0), .int pp, .int (zI least)] (wM G m ta fa wa th len ki pc be (nI M) (nI pt) (zL E) fm to wh sc re hu tx fg wd) none (wM G m ta fa wa th len ki pc be (nI M) (nI pt) (zL E) fm to (lN 0) (zL least) 1 (bI (decide (400 < (pt : Int) - f0 + E))) tx fg wd) := by
  have epl : (Int32.toInt64 (nI pt - nI f0)) + zL E = zL ((pt : Int) - f0 + E) := by
    rw [← zI_nat, ← zI_nat, zI_sub, zI_l (by omega) (by omega), zL_add]
  generalize hPl : (pt : Int) - f0 + E = Pl at *
  have c400 : lg_cmp (zL Pl) (400 : Int64) ≤ 0 ↔ Pl ≤ 400 := by
    rw [lgc_le0, show (400 : Int64) = zL 400 from rfl, zL_lt (by decide) (by decide) (by omega) (by omega)]
    omega
  have cm400 : 0 ≤ lg_cmp (zL Pl) (-400 : Int64) ↔ -400 ≤ Pl := by
    rw [lgc_ge, show (-400 : Int64) = zL (-400) by decide +kernel, zL_lt (by omega) (by omega) (by decide) (by decide)]
    omega
  have el : (zI least).toInt64 = zL least := zI_l (by omega) (by omega)
  refine gCt.mk (by decide +kernel) (Nat.le_of_ble_eq_true rfl) rfl (b_Mo_findDecimal_0 (fun z => ?_) (fun z => ?_))
  · rw [epl] at z ⊢
    have z := c400.mp z
    rw [decide_eq_false (by omega)]
    refine b_Mo_findDecimal_29 ⟨rfl, rfl⟩ (fun y => absurd rfl y) (fun _ y => ?_) (fun _ _ => b_Mo_findDecimal_48 ⟨rfl, by rw [el]; rfl⟩)
    have := cm400.mp y
    omega
  · rw [epl] at z ⊢
    have z : ¬ Pl ≤ 400 := fun y => z (c400.mpr y)
    rw [decide_eq_true (by omega)]
    exact b_Mo_findDecimal_29 ⟨rfl, rfl⟩ (fun _ => b_Mo_findDecimal_48 ⟨rfl, by rw [el]; rfl⟩) (fun y => absurd y (by decide)) (fun y => absurd y (by decide))
def nx (ds : Nat → Nat) : Nat → Nat
  | 0 => 0
  | i + 1 => nx ds i * 16 + ds i
theorem nx_lt {ds : Nat → Nat} : ∀ M, (∀ j, j < M → ds j < 16) → nx ds M < 16 ^ M := by
  intro M
  induction M with
  | zero => intro _; exact Nat.one_pos
  | succ M ih =>
    intro h
    have h1 := ih (fun j hj => h j (by omega))
    have h2 := h M (by omega)
    rw [nx, Nat.pow_succ]
    omega
theorem nx_dg {ds : Nat → Nat} : ∀ M, (∀ j, j < M → ds j < 16) → ∀ c, c < M → nx ds M / 16 ^ c % 16 = ds (M - 1 - c) := by
  intro M
  induction M with
  | zero => intro _ c hc; exact absurd hc (Nat.not_lt_zero _)
  | succ M ih =>
    intro h c hc
    have h2 := h M (by omega)
    rw [nx]
    cases c with
    | zero =>
      rw [Nat.pow_zero, Nat.div_one, Nat.sub_zero, Nat.add_sub_cancel]
      omega
    | succ c =>
      rw [Nat.pow_succ', ← Nat.div_div_eq_div_mul, show (nx ds M * 16 + ds M) / 16 = nx ds M by omega, ih (fun j hj => h j (by omega)) c (by omega)]
      congr 1
      omega
def qb (Q : Nat) (i : Int) : Nat := if i < 0 then 0 else Q / 2 ^ i.toNat % 2
theorem sh_bit : ∀ d, d < 16 → ∀ s, s < 4 → (nI d >>> (nI s &&& 31)) &&& (1 : Int32) = nI (d / 2 ^ s % 2) := by decide +kernel
theorem bit16 {P s : Nat} (hs : s < 4) : P % 16 / 2 ^ s % 2 = P / 2 ^ s % 2 := by
  rcases (show s = 0 ∨ s = 1 ∨ s = 2 ∨ s = 3 by omega) with rfl | rfl | rfl | rfl
  · simp only [Nat.pow_zero, Nat.div_one]; omega
  · simp only [Nat.pow_one]; omega
  · rw [show 2 ^ 2 = 4 from rfl]; omega
  · rw [show 2 ^ 3 = 8 from rfl]; omega
theorem c_Mo_bitAt {ds : Nat → Nat} {M pt : Nat} {E pw : Int} {fm to : Int32} {wh sc : Int64} {re hu : Int32} (hM : M ≤ 4096) (hpt : pt ≤ 4096) (hds : ∀ j, j < M → ds j < 16) (hfg : ∀ j, j < M → fg j = nI (ds j)) (hE1 : -100000000000 ≤ E) (hE2 : E ≤ 100000000000) (hw1 : -200000000000 ≤ pw) (hw2 : pw ≤ 200000000000) :
    gCt l G m_Mo_bitAt [.ref m, .long (zL pw)] (wM G m ta fa wa th len ki pc be (nI M) (nI pt) (zL E) fm to wh sc re hu tx fg wd) (some (.int (nI (qb (nx ds M) (pw - E + 4 * ((M : Int) - pt)))))) (wM G m ta fa wa th len ki pc be (nI M) (nI pt) (zL E) fm to wh sc re hu tx fg wd) := by
  have e0 : zL pw - zL E = zL (pw - E) := zL_sub _ _
  generalize hp' : pw - E = P at *
  have hP1 : -300000000000 ≤ P := by omega
  have hP2 : P ≤ 300000000000 := by omega
  have hpts : (nI pt).toInt64 = zL pt := by rw [nI_l (by omega), zL_nat]
  have hMs : (nI M).toInt64 = zL M := by rw [nI_l (by omega), zL_nat]
  have hQ := nx_lt M hds
  have eat : (Int32.toInt64 (nI pt) - (1 : Int64)) - zL (P / 4) = zL ((pt : Int) - 1 - P / 4) := by
    rw [hpts, show (1 : Int64) = zL 1 from rfl, zL_sub, zL_sub]
  have k31 : gAt l G m_Mo_bitAt (wM G m ta fa wa th len ki pc be (nI M) (nI pt) (zL E) fm to wh sc re hu tx fg wd) (some (.int (nI (qb (nx ds M) (P + 4 * ((M : Int) - pt)))))) (wM G m ta fa wa th len ki pc be (nI M) (nI pt) (zL E) fm to wh sc re hu tx fg wd) 31 [(0, .ref m), (1, .long (zL pw)), (3, .long (zL P))] [.long (zL (P / 4))] (wM G m ta fa wa th len ki pc be (nI M) (nI pt) (zL E) fm to wh sc re hu tx fg wd) := by
    have c0 : lg_cmp (zL ((pt : Int) - 1 - P / 4)) (0 : Int64) < 0 ↔ (pt : Int) - 1 - P / 4 < 0 := by
      rw [lgc_lt, show (0 : Int64) = zL 0 from rfl, zL_lt (by omega) (by omega) (by decide) (by decide)]
    have cM : lg_cmp (zL ((pt : Int) - 1 - P / 4)) (Int32.toInt64 (nI M)) < 0 ↔ (pt : Int) - 1 - P / 4 < M := by
      rw [lgc_lt, hMs, zL_lt (by omega) (by omega) (by omega) (by omega)]
    refine b_Mo_bitAt_31 (fun z => ?_) (fun z y => ?_) (fun z y => ?_) (fun z y => ?_)
    · rw [eat] at z
      have z := c0.mp z
      have hq : qb (nx ds M) (P + 4 * ((M : Int) - pt)) = 0 := by
        unfold qb
        by_cases x : P + 4 * ((M : Int) - pt) < 0
        · rw [if_pos x]
        · rw [if_neg x]
          have e16 : (16 : Nat) ^ M = 2 ^ (4 * M) := by rw [Nat.pow_mul]
          rw [e16] at hQ
          have : nx ds M < 2 ^ (P + 4 * ((M : Int) - pt)).toNat := Nat.lt_of_lt_of_le hQ (Nat.pow_le_pow_right (by decide) (by omega))
          rw [Nat.div_eq_of_lt this, Nat.zero_mod]
      rw [hq]
      exact b_Mo_bitAt_63 (b_Mo_bitAt_87 ⟨rfl, rfl⟩)
    · rw [eat] at z y ⊢
      have z : ¬ (pt : Int) - 1 - P / 4 < 0 := fun x => z (c0.mpr x)
      have y := cM.mp y
      obtain ⟨k, hk⟩ : ∃ k : Nat, (pt : Int) - 1 - P / 4 = k := ⟨_, (Int.toNat_of_nonneg (by omega)).symm⟩
      rw [hk, zL_i, zI_nat]
      exact vp_in_nI (by omega) (by decide)
    · rw [eat] at z y ⊢
      have z : ¬ (pt : Int) - 1 - P / 4 < 0 := fun x => z (c0.mpr x)
      have y := cM.mp y
      obtain ⟨k, hk⟩ : ∃ k : Nat, (pt : Int) - 1 - P / 4 = k := ⟨_, (Int.toNat_of_nonneg (by omega)).symm⟩
      obtain ⟨s, hs⟩ : ∃ s : Nat, P - 4 * (P / 4) = s := ⟨_, (Int.toNat_of_nonneg (by omega)).symm⟩
      obtain ⟨i, hi⟩ : ∃ i : Nat, P + 4 * ((M : Int) - pt) = i := ⟨_, (Int.toNat_of_nonneg (by omega)).symm⟩
      have es : Int64.toInt32 (zL P - (4 : Int64) * zL (P / 4)) = nI s := by
        rw [show (4 : Int64) = zL 4 from rfl, zL_mul, zL_sub, hs, zL_i, zI_nat]
      rw [es, hk, zL_i, zI_nat, nI_clamp (by omega), hfg k (by omega), sh_bit (ds k) (hds k (by omega)) s (by omega), hi]
      refine b_Mo_bitAt_87 ⟨vi ?_, rfl⟩
      unfold qb
      rw [if_neg (by omega), Int.toNat_natCast]
      have hik : i = 4 * (M - 1 - k) + s := by omega
      have hd := nx_dg M hds (M - 1 - k) (by omega)
      rw [show M - 1 - (M - 1 - k) = k by omega] at hd
      rw [← hd, bit16 (by omega), hik, Nat.pow_add, Nat.pow_mul, ← Nat.div_div_eq_div_mul]
    · rw [eat] at z y
      have y : ¬ (pt : Int) - 1 - P / 4 < M := fun x => y (cM.mpr x)
      have hq : qb (nx ds M) (P + 4 * ((M : Int) - pt)) = 0 := by
        unfold qb
        rw [if_pos (by omega)]
      rw [hq]
      exact b_Mo_bitAt_63 (b_Mo_bitAt_87 ⟨rfl, rfl⟩)
  have cP : lg_cmp (zL P) (0 : Int64) < 0 ↔ P < 0 := by
    rw [lgc_lt, show (0 : Int64) = zL 0 from rfl, zL_lt (by omega) (by omega) (by decide) (by decide)]
  refine gCt.mk (by decide +kernel) (Nat.le_of_ble_eq_true rfl) rfl (b_Mo_bitAt_0 (fun z => ?_) (fun z => ?_))
  · rw [e0] at z ⊢
    have z := cP.mp z
    have ed : -(((3 : Int64) - zL P) / (4 : Int64)) = zL (P / 4) := by
      obtain ⟨u, hu⟩ : ∃ u : Nat, 3 - P = u := ⟨_, (Int.toNat_of_nonneg (by omega)).symm⟩
      rw [show (3 : Int64) = zL 3 from rfl, zL_sub, hu, zL_nat, show (4 : Int64) = lN 4 from rfl, pk_lDiv (by omega) (by decide) (by decide), ← zL_nat, zL_neg]
      congr 1
      omega
    rw [ed]
    exact k31
  · rw [e0] at z ⊢
    have z : ¬ P < 0 := fun y => z (cP.mpr y)
    have ed : zL P / (4 : Int64) = zL (P / 4) := by
      obtain ⟨u, hu⟩ : ∃ u : Nat, P = u := ⟨_, (Int.toNat_of_nonneg (by omega)).symm⟩
      rw [hu, zL_nat, show (4 : Int64) = lN 4 from rfl, pk_lDiv (by omega) (by decide) (by decide), ← zL_nat]
      congr 1
    rw [ed]
    exact k31
end Mo9
