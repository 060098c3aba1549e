/-! CONTRACTS: the model, 11: find -/
/-- what the model finds of num / den -/
def mF (num den p : Nat) (least : Int) (whole : Nat) (scale : Int) (rest : Nat) (huge : Bool) : Prop :=
  (num = 0 ∧ whole = 0 ∧ scale = least ∧ rest = 0 ∧ huge = false) ∨
  (num ≠ 0 ∧ fR num den p least whole scale rest ∧ huge = false ∧ scale ≤ 10000) ∨
  (num ≠ 0 ∧ den * 2 ^ 1300 ≤ num ∧ huge = true ∧ whole = 0 ∧ scale = least ∧ rest = 1) ∨
  (num ≠ 0 ∧ num * 2 ^ 1300 < den ∧ huge = false ∧ whole = 0 ∧ scale = least ∧ rest = 1)
theorem nv_skip {ds : Nat → Nat} {f0 : Nat} (h : ∀ j, j < f0 → ds j = 0) : ∀ i, nv ds 0 (f0 + i) = nv ds f0 i := by
  have h0 : ∀ i, i ≤ f0 → nv ds 0 i = 0 := by
    intro i
    induction i with
    | zero => intro _; rfl
    | succ i ih =>
      intro hi
      rw [nv, ih (by omega), Nat.zero_mul, Nat.zero_add, Nat.zero_add, h i (by omega)]
  intro i
  induction i with
  | zero => exact h0 f0 (Nat.le_refl _)
  | succ i ih =>
    rw [← Nat.add_assoc, nv, ih, nv, Nat.zero_add]
theorem nv_ge {ds : Nat → Nat} {f0 : Nat} (h : ds f0 ≠ 0) : ∀ i, 10 ^ i ≤ nv ds f0 (i + 1) := by
  intro i
  induction i with
  | zero => rw [nv, nv, Nat.add_zero]; omega
  | succ i ih =>
    rw [nv, Nat.pow_succ]
    omega
theorem nx_skip {ds : Nat → Nat} {f0 : Nat} (h : ∀ j, j < f0 → ds j = 0) : ∀ i, i ≤ f0 → nx ds i = 0 := by
  intro i
  induction i with
  | zero => intro _; rfl
  | succ i ih =>
    intro hi
    rw [nx, ih (by omega), Nat.zero_mul, Nat.zero_add, h i (by omega)]
theorem nx_bin {ds : Nat → Nat} {f0 jt M : Nat} (h : ∀ j, j < f0 → ds j = 0) (hds : ∀ j, j < M → ds j < 16) (hb : bin (ds f0) jt) : ∀ i, f0 + i < M → bin (nx ds (f0 + i + 1)) (4 * i + jt) := by
  intro i
  induction i with
  | zero =>
    intro _
    rw [Nat.add_zero, nx, nx_skip h f0 (Nat.le_refl _), Nat.zero_mul, Nat.zero_add, show 4 * 0 + jt = jt by omega]
    exact hb
  | succ i ih =>
    intro hi
    have h1 := ih (by omega)
    have h2 := hds (f0 + (i + 1)) (by omega)
    have en : nx ds (f0 + (i + 1) + 1) = nx ds (f0 + i + 1) * 16 + ds (f0 + (i + 1)) := rfl
    rw [en]
    obtain ⟨a, b⟩ := h1
    have e : 4 * (i + 1) + jt = 4 + (4 * i + jt) := by omega
    constructor
    · rw [e, Nat.pow_add, show 2 ^ 4 = 16 from rfl]
      omega
    · rw [e, show 4 + (4 * i + jt) + 1 = 4 + (4 * i + jt + 1) by omega, Nat.pow_add 2 4, show 2 ^ 4 = 16 from rfl]
      omega
theorem p400 : 2 ^ 1300 ≤ 10 ^ 400 := by decide +kernel
section Mo11
variable {l : Launch} {G : gG} {m ta fa wa : Nat} {th len pc be : Int32} {tx fg wd : Nat → Int32}
theorem c_Mo_findHexFar {ds : Nat → Nat} {f0 M pt jt : Nat} {pp : Int32} {ki : Int32} {E least : Int} {fm to : Int32} {wh sc : Int64} {re hu : Int32} (hM : M ≤ 4096) (hf0 : f0 < M) (hpt : pt ≤ 4096) (hds : ∀ j, j < M → ds j < 16) (hfg : ∀ j, j < M → fg j = nI (ds j)) (hE1 : -20000000000 ≤ E) (hE2 : E ≤ 20000000000) (hl1 : -2000 ≤ least) (hl2 : least ≤ 0)
    (hb : bin (ds f0) jt) (h1 : 4 * ((pt : Int) - f0) - 4 + jt + E < -2000 ∨ 2000 < 4 * ((pt : Int) - f0) - 4 + jt + E) :
    gCt l G m_Mo_findHexadecimal [.ref m, .int (nI f0), .int pp, .int (zI least)] (wM G m ta fa wa th len ki pc be (nI M) (nI pt) (zL E) fm to wh sc re hu tx fg wd) none (wM G m ta fa wa th len ki pc be (nI M) (nI pt) (zL E) fm to (lN 0) (zL least) 1 (bI (decide (2000 < 4 * ((pt : Int) - f0) - 4 + jt + E))) tx fg wd) := by
  have hd16 := hds f0 hf0
  have hjt : jt < 4 := (bin_lt hb 4).mp hd16
  generalize htop : 4 * ((pt : Int) - f0) - 4 + jt + E = top at *
  have hv : ∀ v0 : Nat, v0 = jt + 1 → gAt l G m_Mo_findHexadecimal (wM G m ta fa wa th len ki pc be (nI M) (nI pt) (zL E) fm to wh sc re hu tx fg wd) none (wM G m ta fa wa th len ki pc be (nI M) (nI pt) (zL E) fm to (lN 0) (zL least) 1 (bI (decide (2000 < top))) tx fg wd) 44 [(0, .ref m), (1, .int (nI f0)), (2, .int pp), (3, .int (zI least))] [.int (nI v0)] (wM G m ta fa wa th len ki pc be (nI M) (nI pt) (zL E) fm to wh sc re hu tx fg wd) := by
    intro v0 hv0
    subst hv0
    have et : ((((4 : Int64) * (Int32.toInt64 (nI pt - nI f0))) - (5 : Int64)) + (Int32.toInt64 (nI (jt + 1)))) + zL E = zL top := by
      rw [← zI_nat pt, ← zI_nat f0, zI_sub, zI_l (by omega) (by omega), nI_l (by omega), ← zL_nat, show (4 : Int64) = zL 4 from rfl, show (5 : Int64) = zL 5 from rfl, zL_mul, zL_sub, zL_add, zL_add]
      congr 1
      omega
    have el : (zI least).toInt64 = zL least := zI_l (by omega) (by omega)
    have c2 : lg_cmp (zL top) (2000 : Int64) ≤ 0 ↔ top ≤ 2000 := by
      rw [lgc_le0, show (2000 : Int64) = zL 2000 from rfl, zL_lt (by decide) (by decide) (by omega) (by omega)]
      omega
    have c3 : 0 ≤ lg_cmp (zL top) (-2000 : Int64) ↔ -2000 ≤ top := by
      rw [lgc_ge, show (-2000 : Int64) = zL (-2000) by decide +kernel, zL_lt (by omega) (by omega) (by decide) (by decide)]
      omega
    refine b_Mo_findHexadecimal_44 (fun z => ?_) (fun z => ?_)
    · rw [et] at z ⊢
      have z := c2.mp z
      rw [decide_eq_false (by omega)]
      have nz : ¬ 0 ≤ lg_cmp (zL top) (-2000 : Int64) := fun y => by have := c3.mp y; omega
      exact b_Mo_findHexadecimal_87 ⟨rfl, rfl⟩ (fun y => absurd rfl y) (fun _ y => absurd y nz) (fun _ y => absurd y nz) (fun _ _ => b_Mo_findHexadecimal_122 ⟨rfl, by rw [el]; rfl⟩)
    · rw [et] at z ⊢
      have z : ¬ top ≤ 2000 := fun y => z (c2.mpr y)
      rw [decide_eq_true (by omega)]
      exact b_Mo_findHexadecimal_87 ⟨rfl, rfl⟩ (fun _ => b_Mo_findHexadecimal_122 ⟨rfl, by rw [el]; rfl⟩) (fun y => absurd y (by decide)) (fun y => absurd y (by decide)) (fun y => absurd y (by decide))
  have hin : vp_in (nI f0) 4096 := vp_in_nI (by omega) (by decide)
  have hfd : fg (Int32.toNatClampNeg (nI f0)) = nI (ds f0) := by rw [nI_clamp (by omega), hfg f0 hf0]
  have d8 : nI (ds f0) < (8 : Int32) ↔ ds f0 < 2 ^ 3 := nI_ltI (b := 8) (by omega) (by decide)
  have d4 : nI (ds f0) < (4 : Int32) ↔ ds f0 < 2 ^ 2 := nI_ltI (b := 4) (by omega) (by decide)
  have d2 : nI (ds f0) < (2 : Int32) ↔ ds f0 < 2 ^ 1 := nI_ltI (b := 2) (by omega) (by decide)
  rw [bin_lt hb] at d8 d4 d2
  refine gCt.mk (by decide +kernel) (Nat.le_of_ble_eq_true rfl) rfl (b_Mo_findHexadecimal_0 hin (fun _ => hin) (fun _ _ => hin) (fun y1 y2 y3 => hv 1 ?_) (fun y1 y2 y3 => hv 2 ?_) (fun y1 y2 => hv 3 ?_) (fun y1 => hv 4 ?_))
  · rw [hfd] at y3
    have := d2.mp y3
    omega
  · rw [hfd] at y2 y3
    have := d4.mp y2
    have : ¬ jt < 1 := fun v => y3 (d2.mpr v)
    omega
  · rw [hfd] at y1 y2
    have := d8.mp y1
    have : ¬ jt < 2 := fun v => y2 (d4.mpr v)
    omega
  · rw [hfd] at y1
    have : ¬ jt < 3 := fun v => y1 (d8.mpr v)
    omega
def mNumV (k : Nat) (ds : Nat → Nat) (M pt : Nat) (E : Int) : Nat := if k = 0 then nv ds 0 M * 10 ^ ((pt : Int) + E - M).toNat else nx ds M * 2 ^ (E - 4 * ((M : Int) - pt)).toNat
def mDenV (k M pt : Nat) (E : Int) : Nat := if k = 0 then 10 ^ (-((pt : Int) + E - M)).toNat else 2 ^ (-(E - 4 * ((M : Int) - pt))).toNat
theorem c_Mo_find {ds : Nat → Nat} {k M pt p : Nat} {E least : Int} {fm to : Int32} {wh sc : Int64} {re hu : Int32} (hk : k < 2) (hM : M ≤ 4096) (hpt : pt ≤ 4096) (hds : ∀ j, j < M → ds j < (if k = 0 then 10 else 16)) (hfg : ∀ j, j < M → fg j = nI (ds j)) (hE1 : -20000000000 ≤ E) (hE2 : E ≤ 20000000000) (hp1 : 2 ≤ p) (hp2 : p ≤ 53) (hl1 : -2000 ≤ least) (hl2 : least ≤ 0) :
    ∃ W2 fm2 to2 whole scale rest huge, gCt l G m_Mo_find [.ref m, .int (nI p), .int (zI least)] (wM G m ta fa wa th len (nI k) pc be (nI M) (nI pt) (zL E) fm to wh sc re hu tx fg wd) none (wM G m ta fa wa th len (nI k) pc be (nI M) (nI pt) (zL E) fm2 to2 (lN whole) (zL scale) (nI rest) (bI huge) tx fg W2) ∧ mF (mNumV k ds M pt E) (mDenV k M pt E) p least whole scale rest huge := by
  have h16 : ∀ j, j < M → ds j < 16 := fun j hj => by have := hds j hj; split at this <;> omega
  have el : (zI least).toInt64 = zL least := zI_l (by omega) (by omega)
  have k0 : nI k = 0 ↔ k = 0 := nI_eq (b := 0) (by omega) (by decide)
  have loop : ∀ (d f0 : Nat) (w0 : va_W), f0 + d = M → (∀ j, j < f0 → ds j = 0) →
      ∃ W2 fm2 to2 whole scale rest huge, gAt l G m_Mo_find w0 none (wM G m ta fa wa th len (nI k) pc be (nI M) (nI pt) (zL E) fm2 to2 (lN whole) (zL scale) (nI rest) (bI huge) tx fg W2) 2 [(0, .ref m), (1, .int (nI p)), (2, .int (zI least)), (3, .int (nI f0))] [] (wM G m ta fa wa th len (nI k) pc be (nI M) (nI pt) (zL E) fm to wh sc re hu tx fg wd) ∧ mF (mNumV k ds M pt E) (mDenV k M pt E) p least whole scale rest huge := by
    intro d
    induction d with
    | zero =>
      intro f0 w0 hf hz
      have hf : f0 = M := by omega
      subst hf
      refine ⟨wd, fm, to, 0, least, 0, false, b_Mo_find_2 (fun _ => b_Mo_find_25 (fun z => absurd rfl z) (fun z => absurd rfl z) (fun _ => b_Mo_find_81 ⟨rfl, by rw [el]; rfl⟩)) (fun z => absurd (Int32.le_refl _) z) (fun z => absurd (Int32.le_refl _) z) (fun z => absurd (Int32.le_refl _) z), Or.inl ⟨?_, rfl, rfl, rfl, rfl⟩⟩
      unfold mNumV
      have e1 := nv_skip hz 0
      rw [Nat.add_zero] at e1
      split
      · rw [e1]; show 0 * _ = 0; rw [Nat.zero_mul]
      · rw [nx_skip hz f0 (Nat.le_refl _), Nat.zero_mul]
    | succ d ih =>
      intro f0 w0 hf hz
      have hlt : ¬ nI M ≤ nI f0 := fun y => by have := (nI_leI (by omega) (by omega)).mp y; omega
      have hd16 := h16 f0 (by omega)
      have h0 : fg (Int32.toNatClampNeg (nI f0)) = 0 ↔ ds f0 = 0 := by
        rw [nI_clamp (by omega), hfg f0 (by omega)]
        exact nI_eq (b := 0) (by omega) (by decide)
      by_cases z : ds f0 = 0
      · obtain ⟨W2, fm2, to2, whole, scale, rest, huge, g, hm⟩ := ih (f0 + 1) w0 (by omega) (fun j hj => by
          rcases (show j < f0 ∨ j = f0 by omega) with y | y
          · exact hz j y
          · rw [y]; exact z)
        refine ⟨W2, fm2, to2, whole, scale, rest, huge, b_Mo_find_2 (fun y => absurd y hlt) (fun _ => vp_in_nI (by omega) (by decide)) (fun _ y => absurd (h0.mpr z) y) (fun _ _ => ?_), hm⟩
        have e1 : nI f0 + (1 : Int32) = nI (f0 + 1) := nI_1 f0
        rw [e1]
        exact g
      · have hne : ¬ nI f0 = nI M := fun y => by have := (nI_eq (by omega) (by omega)).mp y; omega
        have wrap : ∀ w1 : va_W, gAt l G m_Mo_find w0 none w1 25 [(0, .ref m), (1, .int (nI p)), (2, .int (zI least)), (3, .int (nI f0))] [] (wM G m ta fa wa th len (nI k) pc be (nI M) (nI pt) (zL E) fm to wh sc re hu tx fg wd) → gAt l G m_Mo_find w0 none w1 2 [(0, .ref m), (1, .int (nI p)), (2, .int (zI least)), (3, .int (nI f0))] [] (wM G m ta fa wa th len (nI k) pc be (nI M) (nI pt) (zL E) fm to wh sc re hu tx fg wd) :=
          fun w1 g => b_Mo_find_2 (fun y => absurd y hlt) (fun _ => vp_in_nI (by omega) (by decide)) (fun _ _ => g) (fun _ y => absurd (h0.mp y) z)
        rcases (show k = 0 ∨ k = 1 by omega) with hk0 | hk1
        · subst hk0
          simp only [if_true] at hds
          have env : nv ds 0 M = nv ds f0 (M - f0) := by
            have := nv_skip hz (M - f0)
            rw [show f0 + (M - f0) = M by omega] at this
            exact this
          have hge := nv_ge z (M - f0 - 1)
          rw [show M - f0 - 1 + 1 = M - f0 by omega, ← env] at hge
          have hpos : 0 < nv ds 0 M := Nat.lt_of_lt_of_le (Nat.pow_pos (by decide)) hge
          have hltT := nv_lt (f0 := 0) hds M (by omega)
          have hlt2 := nv_lt (f0 := f0) hds (M - f0) (by omega)
          rw [← env] at hlt2
          have eN : mNumV 0 ds M pt E = nv ds 0 M * 10 ^ ((pt : Int) + E - M).toNat := rfl
          have eD : mDenV 0 M pt E = 10 ^ (-((pt : Int) + E - M)).toNat := rfl
          have hnz : mNumV 0 ds M pt E ≠ 0 := by
            rw [eN]
            exact Nat.ne_of_gt (Nat.mul_pos hpos (Nat.pow_pos (by decide)))
          by_cases hfar : (pt : Int) - f0 + E < -400 ∨ 400 < (pt : Int) - f0 + E
          · have c := c_Mo_findDecimalFar (l := l) (G := G) (m := m) (ta := ta) (fa := fa) (wa := wa) (th := th) (len := len) (ki := nI 0) (pc := pc) (be := be) (tx := tx) (fg := fg) (wd := wd) (f0 := f0) (M := M) (pt := pt) (pp := nI p) (E := E) (least := least) (fm := fm) (to := to) (wh := wh) (sc := sc) (re := re) (hu := hu) hM (by omega) hpt (by omega) (by omega) hl1 hl2 hfar
            refine ⟨wd, fm, to, 0, least, 1, decide (400 < (pt : Int) - f0 + E), wrap _ (b_Mo_find_25 (fun _ y => absurd rfl y) (fun _ _ => k_Mo_find_68 c (b_Mo_find_71 (b_Mo_find_81 ⟨rfl, rfl⟩))) (fun y => absurd y hne)), ?_⟩
            by_cases y : 400 < (pt : Int) - f0 + E
            · refine Or.inr (Or.inr (Or.inl ⟨hnz, ?_, decide_eq_true y, rfl, rfl, rfl⟩))
              rw [eN, eD]
              have g1 : 10 ^ (-((pt : Int) + E - M)).toNat * 10 ^ 400 ≤ 10 ^ (M - f0 - 1) * 10 ^ ((pt : Int) + E - M).toNat := by
                rw [← Nat.pow_add, ← Nat.pow_add]
                exact Nat.pow_le_pow_right (by decide) (by omega)
              exact Nat.le_trans (Nat.mul_le_mul_left _ p400) (Nat.le_trans g1 (Nat.mul_le_mul_right _ hge))
            · refine Or.inr (Or.inr (Or.inr ⟨hnz, ?_, decide_eq_false y, rfl, rfl, rfl⟩))
              rw [eN, eD]
              have g1 : 10 ^ (M - f0) * 10 ^ ((pt : Int) + E - M).toNat * 10 ^ 400 ≤ 10 ^ (-((pt : Int) + E - M)).toNat := by
                rw [← Nat.pow_add, ← Nat.pow_add]
                exact Nat.pow_le_pow_right (by decide) (by omega)
              have g2 : nv ds 0 M * 10 ^ ((pt : Int) + E - M).toNat < 10 ^ (M - f0) * 10 ^ ((pt : Int) + E - M).toNat := (Nat.mul_lt_mul_right (Nat.pow_pos (by decide))).mpr hlt2
              have g3 := (Nat.mul_lt_mul_right (Nat.two_pow_pos 1300)).mpr g2
              exact Nat.lt_of_lt_of_le g3 (Nat.le_trans (Nat.mul_le_mul_left _ p400) g1)
          · obtain ⟨W2, f, t, whole, scale, rest, c, hR, hsc⟩ := c_Mo_findDecimal (l := l) (G := G) (m := m) (ta := ta) (fa := fa) (wa := wa) (th := th) (len := len) (ki := nI 0) (pc := pc) (be := be) (tx := tx) (fg := fg) (wd := wd) (f0 := f0) (M := M) (pt := pt) (p := p) (E := E) (least := least) (fm := fm) (to := to) (wh := wh) (sc := sc) (re := re) (hu := hu) hM (by omega) hpt hds hfg (by omega) (by omega) hp1 hp2 hl1 hl2 (by omega) (by omega)
            refine ⟨W2, nI f, nI t, whole, scale, rest, false, wrap _ (b_Mo_find_25 (fun _ y => absurd rfl y) (fun _ _ => k_Mo_find_68 c (b_Mo_find_71 (b_Mo_find_81 ⟨rfl, rfl⟩))) (fun y => absurd y hne)), Or.inr (Or.inl ⟨hnz, ?_, rfl, hsc⟩)⟩
            rw [eN, eD, env]
            rw [show (pt : Int) - f0 + E - (M - f0 : Nat) = (pt : Int) + E - M by omega] at hR
            exact hR
        · subst hk1
          obtain ⟨jt, hb⟩ := bin_ex (Nat.pos_of_ne_zero z)
          have hjt : jt < 4 := (bin_lt hb 4).mp hd16
          have hB := nx_bin hz h16 hb (M - 1 - f0) (by omega)
          rw [show f0 + (M - 1 - f0) + 1 = M by omega] at hB
          have hk0 : ¬ nI 1 = (0 : Int32) := by decide
          have hpos : 0 < nx ds M := Nat.lt_of_lt_of_le (Nat.two_pow_pos _) hB.1
          have eN : mNumV 1 ds M pt E = nx ds M * 2 ^ (E - 4 * ((M : Int) - pt)).toNat := rfl
          have eD : mDenV 1 M pt E = 2 ^ (-(E - 4 * ((M : Int) - pt))).toNat := rfl
          have hnz : mNumV 1 ds M pt E ≠ 0 := by
            rw [eN]
            exact Nat.ne_of_gt (Nat.mul_pos hpos (Nat.two_pow_pos _))
          by_cases hfar : 4 * ((pt : Int) - f0) - 4 + jt + E < -2000 ∨ 2000 < 4 * ((pt : Int) - f0) - 4 + jt + E
          · have c := c_Mo_findHexFar (l := l) (G := G) (m := m) (ta := ta) (fa := fa) (wa := wa) (th := th) (len := len) (ki := nI 1) (pc := pc) (be := be) (tx := tx) (fg := fg) (wd := wd) (f0 := f0) (M := M) (pt := pt) (pp := nI p) (E := E) (least := least) (fm := fm) (to := to) (wh := wh) (sc := sc) (re := re) (hu := hu) hM (by omega) hpt h16 hfg hE1 hE2 hl1 hl2 hb hfar
            refine ⟨wd, fm, to, 0, least, 1, decide (2000 < 4 * ((pt : Int) - f0) - 4 + jt + E), wrap _ (b_Mo_find_25 (fun _ _ => k_Mo_find_78 c (b_Mo_find_81 ⟨rfl, rfl⟩)) (fun _ y => absurd y hk0) (fun y => absurd y hne)), ?_⟩
            by_cases y : 2000 < 4 * ((pt : Int) - f0) - 4 + jt + E
            · refine Or.inr (Or.inr (Or.inl ⟨hnz, ?_, decide_eq_true y, rfl, rfl, rfl⟩))
              rw [eN, eD, ← Nat.pow_add]
              refine Nat.le_trans ?_ (Nat.mul_le_mul_right _ hB.1)
              rw [← Nat.pow_add]
              exact Nat.pow_le_pow_right (by decide) (by omega)
            · refine Or.inr (Or.inr (Or.inr ⟨hnz, ?_, decide_eq_false y, rfl, rfl, rfl⟩))
              rw [eN, eD]
              have hB2 := bin_mul (c := 1300) (bin_mul (c := (E - 4 * ((M : Int) - pt)).toNat) hB)
              exact (bin_lt hB2 _).mpr (by omega)
          · obtain ⟨whole, scale, rest, c, hR, hsc⟩ := c_Mo_findHexadecimal (l := l) (G := G) (m := m) (ta := ta) (fa := fa) (wa := wa) (th := th) (len := len) (ki := nI 1) (pc := pc) (be := be) (tx := tx) (fg := fg) (wd := wd) (f0 := f0) (M := M) (pt := pt) (p := p) (E := E) (least := least) (fm := fm) (to := to) (wh := wh) (sc := sc) (re := re) (hu := hu) hM (by omega) hpt h16 hfg hE1 hE2 hp1 hp2 hl1 hl2 hb hB (by omega) (by omega)
            exact ⟨wd, fm, to, whole, scale, rest, false, wrap _ (b_Mo_find_25 (fun _ _ => k_Mo_find_78 c (b_Mo_find_81 ⟨rfl, rfl⟩)) (fun _ y => absurd y hk0) (fun y => absurd y hne)), Or.inr (Or.inl ⟨hnz, by rw [eN, eD]; exact hR, rfl, hsc⟩)⟩
  obtain ⟨W2, fm2, to2, whole, scale, rest, huge, g, hm⟩ := loop M 0 (wM G m ta fa wa th len (nI k) pc be (nI M) (nI pt) (zL E) fm to wh sc re hu tx fg wd) (by omega) (fun j hj => absurd hj (Nat.not_lt_zero _))
  exact ⟨W2, fm2, to2, whole, scale, rest, huge, gCt.mk (by decide +kernel) (Nat.le_of_ble_eq_true rfl) rfl (b_Mo_find_0 g), hm⟩
end Mo11
