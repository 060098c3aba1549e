/-! CONTRACTS: the model, 8: findDecimal -/
theorem rc_mul {r D c : Nat} (hc : 0 < c) : rc_cls (r * c) (D * c) = rc_cls r D := by
  unfold rc_cls
  have e0 : r * c = 0 ↔ r = 0 := by
    constructor
    · intro h
      rcases Nat.mul_eq_zero.mp h with h | h
      · exact h
      · omega
    · intro h; rw [h, Nat.zero_mul]
  have e1 : 2 * (r * c) < D * c ↔ 2 * r < D := by rw [← Nat.mul_assoc]; exact Nat.mul_lt_mul_right hc
  have e2 : 2 * (r * c) = D * c ↔ 2 * r = D := by rw [← Nat.mul_assoc]; exact Nat.mul_left_inj (by omega)
  by_cases z0 : r = 0
  · rw [if_pos (e0.mpr z0), if_pos z0]
  · rw [if_neg (fun h => z0 (e0.mp h)), if_neg z0]
    by_cases z1 : 2 * r < D
    · rw [if_pos (e1.mpr z1), if_pos z1]
    · rw [if_neg (fun h => z1 (e1.mp h)), if_neg z1]
      by_cases z2 : 2 * r = D
      · rw [if_pos (e2.mpr z2), if_pos z2]
      · rw [if_neg (fun h => z2 (e2.mp h)), if_neg z2]
def fI1 (n d whole rest : Nat) : Prop := whole = n / d ∧ rest = rc_cls (n % d) d
theorem fI1_mul {n d whole rest c : Nat} (hc : 0 < c) : fI1 (n * c) (d * c) whole rest ↔ fI1 n d whole rest := by
  unfold fI1
  rw [Nat.mul_div_mul_right _ _ hc, Nat.mul_mod_mul_right, rc_mul hc]
/-- whole and rest tell num / den in units of 2 to the scale -/
def fC (num den whole : Nat) (scale : Int) (rest : Nat) : Prop := ∀ K j : Nat, (j : Int) = K + scale → fI1 (num * 2 ^ K) (den * 2 ^ j) whole rest
theorem fC_one {num den whole rest : Nat} {scale : Int} (K j : Nat) (hj : (j : Int) = K + scale) (h : fI1 (num * 2 ^ K) (den * 2 ^ j) whole rest) : fC num den whole scale rest := by
  intro K2 j2 hj2
  rcases Nat.le_total K K2 with z | z
  · obtain ⟨t, rfl⟩ := Nat.exists_eq_add_of_le z
    have e : j2 = j + t := by omega
    subst e
    have := (fI1_mul (c := 2 ^ t) (Nat.two_pow_pos t)).mpr h
    rw [Nat.mul_assoc, Nat.mul_assoc, ← Nat.pow_add, ← Nat.pow_add] at this
    exact this
  · obtain ⟨t, rfl⟩ := Nat.exists_eq_add_of_le z
    have e : j = j2 + t := by omega
    subst e
    rw [Nat.pow_add, Nat.pow_add, ← Nat.mul_assoc, ← Nat.mul_assoc] at h
    exact (fI1_mul (c := 2 ^ t) (Nat.two_pow_pos t)).mp h
theorem fC_mul {num den whole rest c : Nat} {scale : Int} (hc : 0 < c) : fC (num * c) (den * c) whole scale rest ↔ fC num den whole scale rest := by
  have key : ∀ K j, fI1 (num * c * 2 ^ K) (den * c * 2 ^ j) whole rest ↔ fI1 (num * 2 ^ K) (den * 2 ^ j) whole rest := by
    intro K j
    rw [Nat.mul_right_comm num, Nat.mul_right_comm den]
    exact fI1_mul hc
  constructor
  · intro h K j hj; exact (key K j).mp (h K j hj)
  · intro h K j hj; exact (key K j).mpr (h K j hj)
def fR (num den p : Nat) (least : Int) (whole : Nat) (scale : Int) (rest : Nat) : Prop :=
  fC num den whole scale rest ∧ least ≤ scale ∧ whole < 2 ^ p ∧ (scale = least ∨ 2 ^ (p - 1) ≤ whole)
theorem lgc_le0 {x y : Int64} : lg_cmp x y ≤ 0 ↔ ¬ y < x := by rw [← lgc_gt, Int32.not_lt]
theorem mW_t {W : Nat → Int32} {N f t : Nat} (h : mW W N f t) {x : Nat} (hx : 8 ≤ x) (hd : 10 ^ x ∣ N) : t ≤ 798 := by
  obtain ⟨h1, h2, h3, h4, h5, h6, h7, h8⟩ := h
  rcases Nat.lt_or_ge t 799 with z | z
  · omega
  · have ht : t = 799 := by omega
    subst ht
    have h8 : dg N 799 ≠ 0 := h8.resolve_left (by decide)
    unfold dg at h8
    rw [Nat.sub_self, Nat.pow_zero, Nat.div_one] at h8
    obtain ⟨q, rfl⟩ := hd
    have e : 10 ^ x = wB * 10 ^ (x - 8) := by
      rw [wB10', ← Nat.pow_add]
      congr 1
      omega
    rw [e, Nat.mul_assoc, Nat.mul_mod_right] at h8
    exact absurd rfl h8
theorem mW_f {W : Nat → Int32} {N f t : Nat} (h : mW W N f t) (hN : N / mU < 10000000000000000) : 53 ≤ f := by
  obtain ⟨h1, h2, h3, h4, h5, h6, h7, h8⟩ := h
  rcases Nat.lt_or_ge f 53 with z | z
  · have h6 : dg N f ≠ 0 := h6.resolve_left (by omega)
    have q : wB ^ (799 - f) ≤ N := by
      rcases Nat.lt_or_ge N (wB ^ (799 - f)) with y | y
      · exact absurd (by unfold dg; rw [Nat.div_eq_of_lt y, Nat.zero_mod]) h6
      · exact y
    have hge : 10000000000000000 ≤ N / mU := by
      unfold mU
      rw [Nat.le_div_iff_mul_le (wBp _), show 10000000000000000 = wB ^ 2 from rfl, ← Nat.pow_add]
      exact Nat.le_trans (Nat.pow_le_pow_right wB_pos (by omega)) q
    omega
  · exact z
theorem mU_s : mU = wB * wB ^ 744 := by unfold mU; rw [Nat.mul_comm, ← Nat.pow_succ]
/-- what tail and more say of the rest -/
theorem mW_rest {W : Nat → Int32} {N f t : Nat} (h : mW W N f t) : rc_cls (N % mU) mU = if t = 54 then 0 else if dg N 55 < 50000000 then 1 else if 50000000 < dg N 55 ∨ 55 < t then 3 else 2 := by
  obtain ⟨h1, h2, h3, h4, h5, h6, h7, h8⟩ := h
  by_cases z : t = 54
  · subst z
    rw [if_pos rfl]
    have : N % mU = 0 := Nat.mod_eq_zero_of_dvd h7
    rw [this]
    rfl
  · rw [if_neg z]
    have h8 : dg N t ≠ 0 := h8.resolve_left z
    have hd := dg_lt N 55
    have eR : N % mU = wB ^ 744 * dg N 55 + N % wB ^ 744 := by
      unfold dg
      rw [mU_s, Nat.mul_comm wB, Nat.mod_mul, Nat.add_comm]
    have hr : N % wB ^ 744 < wB ^ 744 := Nat.mod_lt _ (wBp _)
    have hnz : 55 < t → N % wB ^ 744 ≠ 0 := by
      intro y q
      exact h8 (dg_below (t := 55) (Nat.dvd_of_mod_eq_zero q) y h3)
    have hz : t = 55 → N % wB ^ 744 = 0 ∧ dg N 55 ≠ 0 := by
      intro y
      subst y
      exact ⟨Nat.mod_eq_zero_of_dvd h7, h8⟩
    have hne : N % mU ≠ 0 := by
      rw [eR]
      rcases (show t = 55 ∨ 55 < t by omega) with y | y
      · have := (hz y).2
        have h9 : wB ^ 744 * 1 ≤ wB ^ 744 * dg N 55 := Nat.mul_le_mul_left _ (by omega)
        have := wBp 744
        omega
      · have := hnz y
        exact Nat.ne_of_gt (Nat.lt_of_lt_of_le (Nat.pos_of_ne_zero this) (Nat.le_add_left _ _))
    have eU : mU = wB ^ 744 * 100000000 := by
      rw [mU_s, Nat.mul_comm]
      exact congrArg (fun z => wB ^ 744 * z) wB_v
    unfold rc_cls
    rw [if_neg hne, eR, eU]
    generalize hw : wB ^ 744 = w at *
    generalize dg N 55 = u at *
    generalize N % w = v at *
    by_cases y1 : u < 50000000
    · have : w * (u + 1) ≤ w * 50000000 := Nat.mul_le_mul_left _ (by omega)
      rw [Nat.mul_add] at this
      rw [if_pos y1, if_pos (by omega)]
    · rw [if_neg y1]
      have g1 : w * 50000000 ≤ w * u := Nat.mul_le_mul_left _ (by omega)
      rw [if_neg (by omega)]
      by_cases y2 : 50000000 < u
      · have : w * 50000001 ≤ w * u := Nat.mul_le_mul_left _ (by omega)
        rw [if_pos (Or.inl y2), if_neg (by omega)]
      · have hu : u = 50000000 := by omega
        subst hu
        rcases (show t = 55 ∨ 55 < t by omega) with y | y
        · have := (hz y).1
          rw [if_pos (by omega : 2 * (w * 50000000 + v) = w * 100000000), if_neg (by omega)]
        · have := hnz y
          rw [if_pos (Or.inr y), if_neg (by omega)]
section Mo8
variable {l : Launch} {G : gG} {m ta fa wa : Nat} {th len ki pc be ma po : Int32} {ex : Int64} {re hu : Int32} {tx fg : Nat → Int32}
theorem a_Mo_fdEnd {w0 : va_W} {W : Nat → Int32} {N f t p : Nat} {s : Int} {wh : Int64} {x1 x3 : Int32} {x4 : Int64} (h : mW W N f t) (hN : N / mU < 10000000000000000) :
    gAt l G m_Mo_findDecimal w0 none (wM G m ta fa wa th len ki pc be ma po ex (nI f) (nI t) (lN (N / mU)) (zL s) (nI (rc_cls (N % mU) mU)) hu tx fg W) 146 [(0, .ref m), (1, .int x1), (2, .int (nI p)), (3, .int x3), (4, .long x4)] [] (wM G m ta fa wa th len ki pc be ma po ex (nI f) (nI t) wh (zL s) re hu tx fg W) := by
  have hwp := c_Mo_wholePart (l := l) (G := G) (m := m) (ta := ta) (fa := fa) (wa := wa) (th := th) (len := len) (ki := ki) (pc := pc) (be := be) (ma := ma) (po := po) (ex := ex) (wh := wh) (sc := zL s) (re := re) (hu := hu) (tx := tx) (fg := fg) h
  rw [Nat.min_eq_left (by omega)] at hwp
  rw [mW_rest h]
  obtain ⟨h1, h2, h3, h4, h5, h6, h7, h8⟩ := h
  have t54 : nI t ≤ (54 : Int32) ↔ t ≤ 54 := nI_leI (b := 54) (by omega) (by decide)
  have t55 : nI t ≤ (55 : Int32) ↔ t ≤ 55 := nI_leI (b := 55) (by omega) (by decide)
  have q54 : nI t = (54 : Int32) ↔ t = 54 := nI_eq (b := 54) (by omega) (by decide)
  have hd := dg_lt N 55
  have d1 : (50000000 : Int32) ≤ nI (dg N 55) ↔ 50000000 ≤ dg N 55 := nI_leI (a := 50000000) (by decide) (by omega)
  have d2 : (50000000 : Int32) < nI (dg N 55) ↔ 50000000 < dg N 55 := nI_ltI (a := 50000000) (by decide) (by omega)
  have w55 : W (Int32.toNatClampNeg (55 : Int32)) = nI (dg N 55) := h4 55 (by decide)
  have tail : ∀ v : Nat, (54 < t → v = dg N 55) → ∀ w0 : va_W, gAt l G m_Mo_findDecimal w0 none (wM G m ta fa wa th len ki pc be ma po ex (nI f) (nI t) (lN (N / mU)) (zL s) (nI (if t = 54 then 0 else if dg N 55 < 50000000 then 1 else if 50000000 < dg N 55 ∨ 55 < t then 3 else 2)) hu tx fg W) 174 [(0, .ref m), (1, .int x1), (2, .int (nI p)), (3, .int x3), (4, .long x4)] [.int (nI v)] (wM G m ta fa wa th len ki pc be ma po ex (nI f) (nI t) (lN (N / mU)) (zL s) re hu tx fg W) := by
    intro v hv w0
    have go : ∀ mo : Bool, (mo = true ↔ 55 < t) → gAt l G m_Mo_findDecimal w0 none (wM G m ta fa wa th len ki pc be ma po ex (nI f) (nI t) (lN (N / mU)) (zL s) (nI (if t = 54 then 0 else if dg N 55 < 50000000 then 1 else if 50000000 < dg N 55 ∨ 55 < t then 3 else 2)) hu tx fg W) 190 [(0, .ref m), (1, .int x1), (2, .int (nI p)), (3, .int x3), (4, .long x4), (6, .int (nI v))] [.int (bI mo)] (wM G m ta fa wa th len ki pc be ma po ex (nI f) (nI t) (lN (N / mU)) (zL s) re hu tx fg W) := by
      intro mo hmo
      by_cases z : t = 54
      · exact b_Mo_findDecimal_190 (fun y => absurd (q54.mpr z) y) (fun y => absurd (q54.mpr z) y) (fun y => absurd (q54.mpr z) y) (fun y => absurd (q54.mpr z) y) (fun _ => b_Mo_findDecimal_234 ⟨rfl, by rw [if_pos z]; rfl⟩)
      · have hv := hv (by omega)
        subst hv
        refine b_Mo_findDecimal_190 (fun _ y1 y2 => b_Mo_findDecimal_229 (b_Mo_findDecimal_234 ⟨rfl, ?_⟩)) (fun _ y1 y2 y3 => b_Mo_findDecimal_234 ⟨rfl, ?_⟩) (fun _ y1 y2 y3 => b_Mo_findDecimal_229 (b_Mo_findDecimal_234 ⟨rfl, ?_⟩)) (fun _ y1 => b_Mo_findDecimal_234 ⟨rfl, ?_⟩) (fun y => absurd (q54.mp y) z)
        · have y1 := d1.mp y1
          rw [if_neg z, if_neg (by omega), if_pos (Or.inl (d2.mp y2))]; rfl
        · have y1 := d1.mp y1
          have y2 : ¬ 50000000 < dg N 55 := fun x => y2 (d2.mpr x)
          have y3 := bI_0.mp y3
          have y4 : ¬ 55 < t := fun x => by rw [hmo.mpr x] at y3; exact absurd y3 (by decide)
          rw [if_neg z, if_neg (by omega), if_neg (by omega)]; rfl
        · have y1 := d1.mp y1
          have y4 : 55 < t := hmo.mp (by
            cases mo with
            | true => rfl
            | false => exact absurd rfl y3)
          rw [if_neg z, if_neg (by omega), if_pos (Or.inr y4)]; rfl
        · have y1 : ¬ 50000000 ≤ dg N 55 := fun x => y1 (d1.mpr x)
          rw [if_neg z, if_pos (by omega)]; rfl
    refine b_Mo_findDecimal_174 (fun z => go false ⟨fun x => absurd x (by decide), fun x => ?_⟩) (fun z => go true ⟨fun _ => ?_, fun _ => rfl⟩)
    · have := t55.mp z; omega
    · have : ¬ t ≤ 55 := fun x => z (t55.mpr x)
      omega
  refine b_Mo_findDecimal_146 (k_Mo_findDecimal_148 hwp (b_Mo_findDecimal_151 (fun z => tail 0 (fun y => ?_) w0) (fun _ => (show vp_in (nI 55) 800 from vp_in_nI (by decide) (by decide))) (fun z => ?_)))
  · have := t54.mp z; omega
  · rw [w55]
    exact tail (dg N 55) (fun _ => rfl) w0
theorem a_Mo_fd2 {w0 : va_W} {N0 p : Nat} {least : Int} {wh : Int64} {x1 : Int32} {x4 : Int64} (hp1 : 2 ≤ p) (hp2 : p ≤ 53) (hl1 : -2000 ≤ least) (hl2 : least ≤ 0) :
    ∀ (d : Nat) (W : Nat → Int32) (N f t a b : Nat) (s : Int), (s - least).toNat ≤ d → mW W N f t → N / mU < 2 ^ p → least ≤ s → s ≤ 10000 → s = (b : Int) - a → N0 * 2 ^ a = N * 2 ^ b →
    ∃ W2 f2 t2 whole scale rest, gAt l G m_Mo_findDecimal w0 none (wM G m ta fa wa th len ki pc be ma po ex (nI f2) (nI t2) (lN whole) (zL scale) (nI rest) hu tx fg W2) 106 [(0, .ref m), (1, .int x1), (2, .int (nI p)), (3, .int (zI least)), (4, .long x4)] [] (wM G m ta fa wa th len ki pc be ma po ex (nI f) (nI t) wh (zL s) re hu tx fg W) ∧ fR N0 mU p least whole scale rest ∧ scale ≤ 10000 := by
  have hpw : 2 ^ p ≤ 2 ^ 53 := Nat.pow_le_pow_right (by decide) hp2
  have hpp : 2 * 2 ^ (p - 1) = 2 ^ p := by rw [← Nat.pow_succ']; congr 1; omega
  have esh : (1 : Int64) <<< ((Int32.toInt64 (nI p - (1 : Int32))) &&& 63) = lN (2 ^ (p - 1)) := by
    have e : nI p - (1 : Int32) = nI (p - 1) := pk_sub (b := 1) (by omega)
    have := wb_shl 1 (k := p - 1) (by omega)
    rw [Nat.one_mul] at this
    rw [e]
    exact this
  have hle : (zI least).toInt64 = zL least := zI_l (by omega) (by omega)
  have hU : 0 < mU := wBp _
  intro d
  induction d with
  | zero =>
    intro W N f t a b s hd hW hN hs1 hs2 hs hab
    have hsl : s = least := by omega
    have hwp := c_Mo_wholePart (l := l) (G := G) (m := m) (ta := ta) (fa := fa) (wa := wa) (th := th) (len := len) (ki := ki) (pc := pc) (be := be) (ma := ma) (po := po) (ex := ex) (wh := wh) (sc := zL s) (re := re) (hu := hu) (tx := tx) (fg := fg) hW
    have fin := a_Mo_fdEnd (l := l) (G := G) (m := m) (ta := ta) (fa := fa) (wa := wa) (th := th) (len := len) (ki := ki) (pc := pc) (be := be) (ma := ma) (po := po) (ex := ex) (re := re) (hu := hu) (tx := tx) (fg := fg) (w0 := w0) (p := p) (s := s) (wh := wh) (x1 := x1) (x3 := zI least) (x4 := x4) hW (by omega)
    refine ⟨W, f, t, N / mU, s, rc_cls (N % mU) mU, b_Mo_findDecimal_106 (k_Mo_findDecimal_107 hwp (b_Mo_findDecimal_110 (fun _ => fin) (fun _ _ => fin) (fun _ z => ?_))), ⟨fC_one a b (by omega) ?_, hs1, hN, Or.inl hsl⟩, hs2⟩
    · rw [hle, hsl, lgc_le0] at z
      exact absurd Int64.lt_irrefl z
    · rw [hab, fI1_mul (Nat.two_pow_pos b)]
      exact ⟨rfl, rfl⟩
  | succ d ih =>
    intro W N f t a b s hd hW hN hs1 hs2 hs hab
    have hwp := c_Mo_wholePart (l := l) (G := G) (m := m) (ta := ta) (fa := fa) (wa := wa) (th := th) (len := len) (ki := ki) (pc := pc) (be := be) (ma := ma) (po := po) (ex := ex) (wh := wh) (sc := zL s) (re := re) (hu := hu) (tx := tx) (fg := fg) hW
    rw [Nat.min_eq_left (by omega)] at hwp
    have fin := a_Mo_fdEnd (l := l) (G := G) (m := m) (ta := ta) (fa := fa) (wa := wa) (th := th) (len := len) (ki := ki) (pc := pc) (be := be) (ma := ma) (po := po) (ex := ex) (re := re) (hu := hu) (tx := tx) (fg := fg) (w0 := w0) (p := p) (s := s) (wh := wh) (x1 := x1) (x3 := zI least) (x4 := x4) hW (by omega)
    have c1 : 0 ≤ lg_cmp (lN (N / mU)) ((1 : Int64) <<< ((Int32.toInt64 (nI p - (1 : Int32))) &&& 63)) ↔ 2 ^ (p - 1) ≤ N / mU := by
      rw [esh, lgc_ge, pk_lLT (by omega) (by omega), Nat.not_lt]
    have c2 : lg_cmp (zL s) (Int32.toInt64 (zI least)) ≤ 0 ↔ s ≤ least := by
      rw [hle, lgc_le0, zL_lt (by omega) (by omega) (by omega) (by omega)]
      omega
    have done : (s = least ∨ 2 ^ (p - 1) ≤ N / mU) → fR N0 mU p least (N / mU) s (rc_cls (N % mU) mU) := by
      intro z
      refine ⟨fC_one a b (by omega) ?_, hs1, hN, z⟩
      rw [hab, fI1_mul (Nat.two_pow_pos b)]
      exact ⟨rfl, rfl⟩
    by_cases z1 : 2 ^ (p - 1) ≤ N / mU
    · exact ⟨W, f, t, N / mU, s, _, b_Mo_findDecimal_106 (k_Mo_findDecimal_107 hwp (b_Mo_findDecimal_110 (fun _ => fin) (fun y => absurd (c1.mpr z1) y) (fun y => absurd (c1.mpr z1) y))), done (Or.inr z1), hs2⟩
    · by_cases z2 : s ≤ least
      · exact ⟨W, f, t, N / mU, s, _, b_Mo_findDecimal_106 (k_Mo_findDecimal_107 hwp (b_Mo_findDecimal_110 (fun y => absurd (c1.mp y) z1) (fun _ _ => fin) (fun _ y => absurd (c2.mpr z2) y))), done (Or.inl (by omega)), hs2⟩
      · have hf := mW_f hW (by omega)
        obtain ⟨W2, f2, t2, c, hW2⟩ := c_Mo_twice (l := l) (G := G) (m := m) (ta := ta) (fa := fa) (wa := wa) (th := th) (len := len) (ki := ki) (pc := pc) (be := be) (ma := ma) (po := po) (ex := ex) (wh := wh) (sc := zL s) (re := re) (hu := hu) (tx := tx) (fg := fg) hW (by omega)
        have hN2 : 2 * N / mU < 2 ^ p := by
          rw [Nat.div_lt_iff_lt_mul hU]
          have z1 : N / mU < 2 ^ (p - 1) := by omega
          rw [Nat.div_lt_iff_lt_mul hU] at z1
          rw [← hpp, Nat.mul_assoc]
          omega
        obtain ⟨W3, f3, t3, whole, scale, rest, g, hR, hsc⟩ := ih W2 (2 * N) f2 t2 (a + 1) b (s - 1) (by omega) hW2 hN2 (by omega) (by omega) (by omega) (by rw [Nat.pow_succ, ← Nat.mul_assoc, hab, Nat.mul_comm _ 2, ← Nat.mul_assoc])
        refine ⟨W3, f3, t3, whole, scale, rest, b_Mo_findDecimal_106 (k_Mo_findDecimal_107 hwp (b_Mo_findDecimal_110 (fun y => absurd (c1.mp y) z1) (fun _ y => absurd (c2.mp y) z2) (fun _ _ => k_Mo_findDecimal_130 c (b_Mo_findDecimal_133 ?_)))), hR, hsc⟩
        rw [show (1 : Int64) = zL 1 from rfl, zL_sub]
        exact g
theorem a_Mo_fd1 {w0 : va_W} {N0 p y pl : Nat} {least : Int} {wh : Int64} {x1 : Int32} {x4 : Int64} (hp1 : 2 ≤ p) (hp2 : p ≤ 53) (hl1 : -2000 ≤ least) (hl2 : least ≤ 0) (hN0 : N0 < 10 ^ pl * mU) (hpl : pl ≤ 400) (hy : 4 * pl + 8 ≤ y) :
    ∀ (d : Nat) (W : Nat → Int32) (N f t h : Nat), N / mU ≤ d → mW W N f t → N * 2 ^ h = N0 → 10 ^ (y - h) ∣ N → h ≤ 4 * pl →
    ∃ W2 f2 t2 whole scale rest, gAt l G m_Mo_findDecimal w0 none (wM G m ta fa wa th len ki pc be ma po ex (nI f2) (nI t2) (lN whole) (zL scale) (nI rest) hu tx fg W2) 78 [(0, .ref m), (1, .int x1), (2, .int (nI p)), (3, .int (zI least)), (4, .long x4)] [] (wM G m ta fa wa th len ki pc be ma po ex (nI f) (nI t) wh (zL h) re hu tx fg W) ∧ fR N0 mU p least whole scale rest ∧ scale ≤ 10000 := by
  have hpw : 2 ^ p ≤ 2 ^ 53 := Nat.pow_le_pow_right (by decide) hp2
  have hp4 : 4 ≤ 2 ^ p := by
    have : 2 ^ 2 ≤ 2 ^ p := Nat.pow_le_pow_right (by decide) hp1
    omega
  have esh : (1 : Int64) <<< ((Int32.toInt64 (nI p)) &&& 63) = lN (2 ^ p) := by
    have := wb_shl 1 (k := p) (by omega)
    rw [Nat.one_mul] at this
    exact this
  have hU : 0 < mU := wBp _
  have hh : ∀ N h, N * 2 ^ h = N0 → 1 ≤ N / mU → h < 4 * pl := by
    intro N h e g
    rcases Nat.lt_or_ge h (4 * pl) with z | z
    · exact z
    · have g1 : mU ≤ N := by
        rw [Nat.le_div_iff_mul_le hU] at g
        omega
      have g2 : 10 ^ pl ≤ 2 ^ h := by
        have : 10 ^ pl ≤ 16 ^ pl := Nat.pow_le_pow_left (by decide) pl
        have e16 : (16 : Nat) ^ pl = 2 ^ (4 * pl) := by rw [Nat.pow_mul]
        rw [e16] at this
        exact Nat.le_trans this (Nat.pow_le_pow_right (by decide) z)
      have g3 : 10 ^ pl * mU ≤ 2 ^ h * N := Nat.mul_le_mul g2 g1
      rw [Nat.mul_comm (2 ^ h)] at g3
      omega
  intro d
  induction d using Nat.strongRecOn with
  | _ d ih =>
    intro W N f t h hd hW he hdv hh4
    have hwp := c_Mo_wholePart (l := l) (G := G) (m := m) (ta := ta) (fa := fa) (wa := wa) (th := th) (len := len) (ki := ki) (pc := pc) (be := be) (ma := ma) (po := po) (ex := ex) (wh := wh) (sc := zL h) (re := re) (hu := hu) (tx := tx) (fg := fg) hW
    have c1 : lg_cmp (lN (min (N / mU) 10000000000000000)) ((1 : Int64) <<< ((Int32.toInt64 (nI p)) &&& 63)) < 0 ↔ N / mU < 2 ^ p := by
      rw [esh, lgc_lt, pk_lLT (by omega) (by omega)]
      omega
    by_cases z : N / mU < 2 ^ p
    · have hs2 : (h : Int) ≤ 10000 := by omega
      obtain ⟨W2, f2, t2, whole, scale, rest, g, hR, hsc⟩ := a_Mo_fd2 (l := l) (G := G) (m := m) (ta := ta) (fa := fa) (wa := wa) (th := th) (len := len) (ki := ki) (pc := pc) (be := be) (ma := ma) (po := po) (ex := ex) (re := re) (hu := hu) (tx := tx) (fg := fg) (w0 := w0) (N0 := N0) (p := p) (least := least) (wh := wh) (x1 := x1) (x4 := x4) hp1 hp2 hl1 hl2 _ W N f t 0 h h (Nat.le_refl _) hW z (by omega) hs2 (by omega) (by rw [Nat.pow_zero, Nat.mul_one]; exact he.symm)
      exact ⟨W2, f2, t2, whole, scale, rest, b_Mo_findDecimal_78 (k_Mo_findDecimal_79 hwp (b_Mo_findDecimal_82 (fun _ => g) (fun y => absurd (c1.mpr z) y))), hR, hsc⟩
    · have hlt := hh N h he (by omega)
      have ht := mW_t hW (x := y - h) (by omega) hdv
      obtain ⟨W2, f2, t2, c, hW2, hev⟩ := c_Mo_half (l := l) (G := G) (m := m) (ta := ta) (fa := fa) (wa := wa) (th := th) (len := len) (ki := ki) (pc := pc) (be := be) (ma := ma) (po := po) (ex := ex) (wh := wh) (sc := zL h) (re := re) (hu := hu) (tx := tx) (fg := fg) hW ht
      have e2 : N / 2 * 2 = N := by omega
      have hdv2 : 10 ^ (y - (h + 1)) ∣ N / 2 := by
        obtain ⟨r, hr⟩ := hdv
        refine ⟨5 * r, ?_⟩
        have e10 : 10 ^ (y - h) = 2 * (5 * 10 ^ (y - (h + 1))) := by
          rw [← Nat.mul_assoc, show 2 * 5 = 10 from rfl, ← Nat.pow_succ']
          congr 1
          omega
        rw [hr, e10, Nat.mul_assoc, Nat.mul_div_cancel_left _ (by decide), Nat.mul_comm 5 (10 ^ _), Nat.mul_assoc]
      have hdd : N / 2 / mU < N / mU := by
        rw [Nat.div_div_eq_div_mul, Nat.mul_comm, ← Nat.div_div_eq_div_mul]
        omega
      obtain ⟨W3, f3, t3, whole, scale, rest, g, hR, hsc⟩ := ih (N / 2 / mU) (by omega) W2 (N / 2) f2 t2 (h + 1) (Nat.le_refl _) hW2 (by rw [Nat.pow_succ, Nat.mul_comm (2 ^ h), ← Nat.mul_assoc, e2]; exact he) hdv2 (by omega)
      refine ⟨W3, f3, t3, whole, scale, rest, b_Mo_findDecimal_78 (k_Mo_findDecimal_79 hwp (b_Mo_findDecimal_82 (fun y => absurd (c1.mp y) z) (fun _ => k_Mo_findDecimal_90 c (b_Mo_findDecimal_93 ?_)))), hR, hsc⟩
      rw [show (1 : Int64) = zL 1 from rfl, zL_add]
      exact g
end Mo8
