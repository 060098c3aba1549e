/-! CONTRACTS: Natural -/
def u32 (w : Int32) : Nat := w.toBitVec.toNat
theorem u32_lt (w : Int32) : u32 w < 2 ^ 32 := w.toBitVec.isLt
theorem u32_nI (n : Nat) : u32 (nI n) = n % 2 ^ 32 := by
  unfold u32 nI
  show (BitVec.ofNat 32 n).toNat = _
  exact BitVec.toNat_ofNat n 32
theorem u32_0 : u32 0 = 0 := rfl
theorem u32_eq0 {w : Int32} (h : u32 w = 0) : w = 0 := by
  have : w.toBitVec = (0 : Int32).toBitVec := BitVec.eq_of_toNat_eq h
  exact Int32.toBitVec_inj.mp this
theorem w_lo (w : Int32) : w.toInt64 &&& (4294967295 : Int64) = lN (u32 w) := by
  apply uN_inj
  rw [uN_lo]
  have h1 : uN (lN (u32 w)) = u32 w := by
    have := u32_lt w
    show (lN (u32 w)).toBitVec.toNat = _
    exact wb_tn (by omega)
  rw [h1]
  show w.toInt64.toBitVec.toNat % 4294967296 = w.toBitVec.toNat
  rw [Int32.toBitVec_toInt64, BitVec.toNat_signExtend]
  have h2 := w.toBitVec.isLt
  have h3 : (BitVec.setWidth 64 w.toBitVec).toNat = w.toBitVec.toNat := by
    rw [BitVec.toNat_setWidth]
    exact Nat.mod_eq_of_lt (by omega)
  rw [h3]
  split <;> omega
/-- the value of n words from k on -/
def sv (W : Nat → Int32) : Nat → Nat → Nat
  | _, 0 => 0
  | k, n + 1 => u32 (W k) + 2 ^ 32 * sv W (k + 1) n
theorem sv_snoc (W : Nat → Int32) : ∀ (n k : Nat), sv W k (n + 1) = sv W k n + u32 (W (k + n)) * 2 ^ (32 * n) := by
  intro n
  induction n with
  | zero => intro k; simp [sv]
  | succ n ih =>
    intro k
    rw [sv, ih (k + 1), sv, Nat.mul_add, show k + 1 + n = k + (n + 1) by omega, show 32 * (n + 1) = 32 + 32 * n by omega, Nat.pow_add]
    rw [Nat.mul_left_comm (2 ^ 32) (u32 _), Nat.add_assoc]
theorem sv_congr {W V : Nat → Int32} : ∀ (n k : Nat), (∀ j, k ≤ j → j < k + n → W j = V j) → sv W k n = sv V k n := by
  intro n
  induction n with
  | zero => intro k _; rfl
  | succ n ih =>
    intro k h
    rw [sv, sv, h k (Nat.le_refl _) (by omega), ih (k + 1) (fun j a b => h j (by omega) (by omega))]
theorem sv_lt (W : Nat → Int32) : ∀ (n k : Nat), sv W k n < 2 ^ (32 * n) := by
  intro n
  induction n with
  | zero => intro k; simp [sv]
  | succ n ih =>
    intro k
    have h1 := ih (k + 1)
    have h2 := u32_lt (W k)
    rw [sv, show 32 * (n + 1) = 32 + 32 * n by omega, Nat.pow_add]
    have h3 : 2 ^ 32 * (sv W (k + 1) n + 1) ≤ 2 ^ 32 * 2 ^ (32 * n) := Nat.mul_le_mul_left _ h1
    rw [Nat.mul_add] at h3
    omega
def nN (W : Nat → Int32) (s N : Nat) : Prop := s ≤ 100 ∧ sv W 0 s = N ∧ (s = 0 ∨ 2 ^ (32 * (s - 1)) ≤ N)
abbrev wN (G : gG) (a q : Nat) (W : Nat → Int32) (s : Nat) (g w : Int32) : va_W := [oNa a q (nI s) g w, aI G q 100 W]
theorem upd_self {f : Nat → Int32} {k : Nat} {x : Int32} : upd f k x k = x := pk_us
theorem upd_ne {f : Nat → Int32} {k j : Nat} {x : Int32} (h : j ≠ k) : upd f k x j = f j := pk_un h
theorem e13 : (-13 : Int32) = zI (-13) := by decide +kernel
section NaS
variable {l : Launch} {G : gG} {a q : Nat}
theorem c_Na_begin {W : Nat → Int32} {s g w : Int32} : gCt l G m_Na_begin [.ref a] [oNa a q s g w, aI G q 100 W] none (wN G a q W 0 (nI 0) (nI 1)) :=
  gCt.mk (by decide +kernel) (Nat.le_of_ble_eq_true rfl) rfl (b_Na_begin_0 ⟨rfl, rfl⟩)
theorem c_Na_powerOfFive {k : Nat} (hk : k ≤ 13) : gCt l G m_Na_powerOfFive [.int (nI k)] [] (some (.int (nI (5 ^ k)))) [] := by
  have e : ∀ k, k ≤ 13 → g_five k = nI (5 ^ k) := by decide +kernel
  refine gCt.mk (by decide +kernel) (Nat.le_of_ble_eq_true rfl) rfl (b_Na_powerOfFive_0 (fun z => absurd z (nI_pos (by omega))) (fun _ z => ?_) (fun _ _ => vp_in_nI (by omega) (by decide)) (fun _ _ => ?_))
  · have := (nI_leI (a := 14) (by decide) (by omega)).mp z
    omega
  · rw [nI_clamp (by omega), e k hk]
    exact b_Na_powerOfFive_21 ⟨rfl, rfl⟩
theorem c_Na_wordAt {W : Nat → Int32} {s : Nat} {g w : Int32} (hs : s ≤ 100) (x : Int) (h1 : -1000 ≤ x) (h2 : x < s) : gCt l G m_Na_wordAt [.ref a, .int (zI x)] (wN G a q W s g w) (some (.int (if x < 0 then 0 else W x.toNat))) (wN G a q W s g w) := by
  have hx : zI x < 0 ↔ x < 0 := zI_lt (b := 0) (by omega) (by omega) (by decide) (by decide)
  by_cases z : x < 0
  · rw [if_pos z]
    exact gCt.mk (by decide +kernel) (Nat.le_of_ble_eq_true rfl) rfl (b_Na_wordAt_0 (fun _ => b_Na_wordAt_30 (b_Na_wordAt_31 ⟨rfl, rfl⟩)) (fun y => absurd (hx.mpr z) y) (fun y => absurd (hx.mpr z) y) (fun y => absurd (hx.mpr z) y) (fun y => absurd (hx.mpr z) y))
  · rw [if_neg z]
    obtain ⟨k, rfl⟩ : ∃ k : Nat, x = (k : Int) := ⟨x.toNat, by omega⟩
    rw [zI_nat] at *
    refine gCt.mk (by decide +kernel) (Nat.le_of_ble_eq_true rfl) rfl (b_Na_wordAt_0 (fun y => absurd (hx.mp y) z) (fun _ y => ?_) (fun _ _ y => ?_) (fun _ _ _ => vp_in_nI (by omega) (by decide)) (fun _ _ _ => ?_))
    · have := (nI_leI (by omega) (by omega)).mp y
      omega
    · have := (nI_leI (a := 100) (by decide) (by omega)).mp y
      omega
    · rw [nI_clamp (by omega)]
      exact b_Na_wordAt_31 ⟨rfl, rfl⟩
theorem c_Na_multiplyAdd {W : Nat → Int32} {s N f d : Nat} {g w : Int32} (h : nN W s N) (hf1 : 1 ≤ f) (hf : f < 2 ^ 31) (hd : d < 2 ^ 31) (hfit : N * f + d < 2 ^ (32 * 100)) : ∃ W2 s2, gCt l G m_Na_multiplyAdd [.ref a, .int (nI f), .int (nI d)] (wN G a q W s g w) none (wN G a q W2 s2 g w) ∧ nN W2 s2 (N * f + d) := by
  obtain ⟨hs, hv, ht⟩ := h
  have loop : ∀ (k i c : Nat) (V : Nat → Int32), s - i ≤ k → i ≤ s → c < 2 ^ 31 → sv V 0 i + c * 2 ^ (32 * i) = sv W 0 i * f + d → (∀ j, i ≤ j → V j = W j) → ∃ W2 s2, gAt l G m_Na_multiplyAdd (wN G a q W s g w) none (wN G a q W2 s2 g w) 6 [(0, .ref a), (1, .int (nI f)), (2, .int (nI d)), (3, .long (lN c)), (5, .int (nI i))] [] (wN G a q V s g w) ∧ nN W2 s2 (N * f + d) := by
    intro k
    induction k with
    | zero =>
      intro i c V hk hi hc hinv hrest
      have hi : i = s := by omega
      subst hi
      rw [hv] at hinv
      have C0 := lg_cmp0 (a := c) (by omega)
      rcases Nat.eq_zero_or_pos c with zc | zc
      · subst zc
        rw [Nat.zero_mul, Nat.add_zero] at hinv
        refine ⟨V, i, b_Na_multiplyAdd_6 (fun _ => b_Na_multiplyAdd_66 (fun _ => b_Na_multiplyAdd_112 ⟨rfl, rfl⟩) (fun z => absurd (C0.mpr rfl) z) (fun z => absurd (C0.mpr rfl) z) (fun z => absurd (C0.mpr rfl) z) (fun z => absurd (C0.mpr rfl) z)) (fun z => absurd (nI_le (Nat.le_refl i) (by omega)) z) (fun z => absurd (nI_le (Nat.le_refl i) (by omega)) z) (fun z => absurd (nI_le (Nat.le_refl i) (by omega)) z) (fun z => absurd (nI_le (Nat.le_refl i) (by omega)) z), hs, hinv, ?_⟩
        rcases ht with ht | ht
        · exact Or.inl ht
        · refine Or.inr (Nat.le_trans ht ?_)
          have : N * 1 ≤ N * f := Nat.mul_le_mul_left N hf1
          omega
      · have hlt : i < 100 := by
          rcases Nat.lt_or_ge i 100 with y | y
          · exact y
          · have e : i = 100 := by omega
            rw [e] at hinv
            have : 1 * 2 ^ (32 * 100) ≤ c * 2 ^ (32 * 100) := Nat.mul_le_mul_right _ zc
            omega
        have h100 : ¬ (100 : Int32) ≤ nI i := fun y => by have := (nI_leI (a := 100) (by decide) (by omega)).mp y; omega
        refine ⟨upd V i (nI c), i + 1, b_Na_multiplyAdd_6 (fun _ => b_Na_multiplyAdd_66 (fun z => ?_) (fun _ z => absurd z (nI_pos (by omega))) (fun _ _ z => absurd z h100) (fun _ _ _ => vp_in_nI hlt (by decide)) (fun _ _ _ => ?_)) (fun z => absurd (nI_le (Nat.le_refl i) (by omega)) z) (fun z => absurd (nI_le (Nat.le_refl i) (by omega)) z) (fun z => absurd (nI_le (Nat.le_refl i) (by omega)) z) (fun z => absurd (nI_le (Nat.le_refl i) (by omega)) z), by omega, ?_, Or.inr ?_⟩
        · have := C0.mp z; omega
        · rw [nI_clamp (by omega), lN_i]
          exact b_Na_multiplyAdd_112 ⟨rfl, by rw [nI_1]⟩
        · rw [sv_snoc, Nat.zero_add, upd_self, u32_nI, Nat.mod_eq_of_lt (by omega), sv_congr (V := V) i 0 (fun j _ b => upd_ne (by omega))]
          exact hinv
        · rw [← hinv, Nat.add_sub_cancel]
          have : 1 * 2 ^ (32 * i) ≤ c * 2 ^ (32 * i) := Nat.mul_le_mul_right _ zc
          omega
    | succ k ih =>
      intro i c V hk hi hc hinv hrest
      rcases Nat.eq_or_lt_of_le hi with zi | zi
      · exact ih i c V (by omega) hi hc hinv hrest
      · have hu := u32_lt (W i)
        have hsum : u32 (W i) * f + c < 2 ^ 63 := by
          have : u32 (W i) * f ≤ (2 ^ 32 - 1) * f := Nat.mul_le_mul_right _ (by omega)
          have : (2 ^ 32 - 1) * f ≤ (2 ^ 32 - 1) * (2 ^ 31 - 1) := Nat.mul_le_mul_left _ (by omega)
          omega
        have hc2 : (u32 (W i) * f + c) / 2 ^ 32 < 2 ^ 31 := by
          rw [Nat.div_lt_iff_lt_mul (by decide)]
          omega
        have e1 : ((Int32.toInt64 (V (nI i).toNatClampNeg)) &&& (4294967295 : Int64)) * (Int32.toInt64 (nI f)) + lN c = lN (u32 (W i) * f + c) := by
          rw [nI_clamp (by omega), hrest i (Nat.le_refl _), w_lo, nI_l (by omega), lN_mul, lN_add]
        have e2 : (Int64.toUInt64 (lN (u32 (W i) * f + c)) >>> ((Int32.toInt64 (32 : Int32)).toUInt64 &&& Int64.toUInt64 63)).toInt64 = lN ((u32 (W i) * f + c) / 2 ^ 32) := wb_shr (k := 32) (by omega) (by decide)
        obtain ⟨W2, s2, c2, h2⟩ := ih (i + 1) ((u32 (W i) * f + c) / 2 ^ 32) (upd V i (nI (u32 (W i) * f + c))) (by omega) zi hc2 (by
          rw [sv_snoc, Nat.zero_add, upd_self, u32_nI, sv_congr (V := V) i 0 (fun j _ b => upd_ne (by omega)), sv_snoc, Nat.zero_add, Nat.add_mul, show 32 * (i + 1) = 32 + 32 * i by omega, Nat.pow_add, ← Nat.mul_assoc, Nat.add_assoc, ← Nat.add_mul]
          have e3 : (u32 (W i) * f + c) % 2 ^ 32 + (u32 (W i) * f + c) / 2 ^ 32 * 2 ^ 32 = u32 (W i) * f + c := by
            exact Nat.mod_add_div' _ _
          rw [e3, Nat.add_mul, Nat.mul_right_comm]
          omega) (fun j hj => by rw [upd_ne (by omega)]; exact hrest j (by omega))
        refine ⟨W2, s2, ?_, h2⟩
        have hin : vp_in (nI i) 100 := vp_in_nI (by omega) (by decide)
        have hns : ¬ nI s ≤ nI i := fun y => by have := (nI_leI (by omega) (by omega)).mp y; omega
        have h100 : ¬ (100 : Int32) ≤ nI i := fun y => by have := (nI_leI (a := 100) (by decide) (by omega)).mp y; omega
        refine b_Na_multiplyAdd_6 (fun z => absurd z hns) (fun _ z => absurd z h100) (fun _ _ => hin) (fun _ _ => hin) (fun _ _ => ?_)
        rw [e1, e2, lN_i, nI_clamp (by omega)]
        have e4 : nI i + (1 : Int32) = nI (i + 1) := nI_1 i
        rw [e4]
        exact c2
  obtain ⟨W2, s2, c, h⟩ := loop s 0 d W (by omega) (Nat.zero_le _) hd (by simp [sv]) (fun _ _ => rfl)
  have e : (nI d).toInt64 = lN d := nI_l hd
  refine ⟨W2, s2, gCt.mk (by decide +kernel) (Nat.le_of_ble_eq_true rfl) rfl (b_Na_multiplyAdd_0 ?_), h⟩
  rw [e]
  exact c
theorem c_Na_multiplyByFives {c : Nat} {g w : Int32} : ∀ {N : Nat} {W : Nat → Int32} {s : Nat}, nN W s N → c < 2 ^ 30 → N * 5 ^ c < 2 ^ (32 * 100) → ∃ W2 s2, gCt l G m_Na_multiplyByFives [.ref a, .int (nI c)] (wN G a q W s g w) none (wN G a q W2 s2 g w) ∧ nN W2 s2 (N * 5 ^ c) := by
  have loop : ∀ (k left N : Nat) (W : Nat → Int32) (s : Nat) (w0 : va_W), left ≤ k → nN W s N → c < 2 ^ 30 → left ≤ c → N * 5 ^ left < 2 ^ (32 * 100) → ∃ W2 s2, gAt l G m_Na_multiplyByFives w0 none (wN G a q W2 s2 g w) 2 [(0, .ref a), (1, .int (nI c)), (2, .int (zI left))] [] (wN G a q W s g w) ∧ nN W2 s2 (N * 5 ^ left) := by
    intro k
    induction k using Nat.strongRecOn with
    | _ k ih =>
      intro left N W s w0 hk h hc hl hfit
      rcases Nat.eq_zero_or_pos left with z | z
      · subst z
        rw [Nat.pow_zero, Nat.mul_one]
        exact ⟨W, s, b_Na_multiplyByFives_2 (fun _ => ⟨rfl, rfl⟩) (fun y => absurd (by decide) y), h⟩
      · have hn0 : ¬ zI left ≤ 0 := fun y => by have := (zI_le (a := left) (b := 0) (by omega) (by omega) (by decide) (by decide)).mp y; omega
        have em : (if (13 : Int32) < zI left then (13 : Int32) else zI left) = nI (min left 13) := by
          have q : (13 : Int32) < zI left ↔ 13 < (left : Int) := zI_lt (a := 13) (by decide) (by decide) (by omega) (by omega)
          by_cases y : 13 < left
          · rw [if_pos (q.mpr (by omega)), Nat.min_eq_right (by omega)]; rfl
          · rw [if_neg (fun v => y (by have := q.mp v; omega)), Nat.min_eq_left (by omega), zI_nat]
        have hp : ∀ k, k ≤ 13 → 1 ≤ 5 ^ k ∧ 5 ^ k < 2 ^ 31 := by decide +kernel
        obtain ⟨hp1, hp2⟩ := hp (min left 13) (Nat.min_le_right _ _)
        have esplit : N * 5 ^ left = N * 5 ^ (min left 13) * 5 ^ (left - min left 13) := by
          rw [Nat.mul_assoc, ← Nat.pow_add]
          congr 2
          omega
        have hfit1 : N * 5 ^ (min left 13) + 0 < 2 ^ (32 * 100) := by
          have : N * 5 ^ (min left 13) * 1 ≤ N * 5 ^ (min left 13) * 5 ^ (left - min left 13) := Nat.mul_le_mul_left _ (Nat.pow_pos (by decide))
          omega
        obtain ⟨W1, s1, c1, h1⟩ := c_Na_multiplyAdd (l := l) (G := G) (a := a) (q := q) (g := g) (w := w) h hp1 hp2 (d := 0) (by decide) hfit1
        rw [Nat.add_zero] at h1
        rcases Nat.lt_or_ge left 13 with y | y
        · have e1 : min left 13 = left := Nat.min_eq_left (by omega)
          rw [e1] at h1 c1 em
          refine ⟨W1, s1, b_Na_multiplyByFives_2 (fun v => absurd v hn0) (fun _ => ?_), h1⟩
          rw [em]
          refine k_Na_multiplyByFives_13 (c_Na_powerOfFive (by omega)) (b_Na_multiplyByFives_16 (k_Na_multiplyByFives_17 c1 (b_Na_multiplyByFives_20 ?_)))
          have e2 : zI left + (-13 : Int32) = zI ((left : Int) + -13) := by rw [e13, zI_add]
          rw [e2]
          have hneg : zI ((left : Int) + -13) ≤ 0 := (zI_le (b := 0) (by omega) (by omega) (by decide) (by decide)).mpr (by omega)
          exact b_Na_multiplyByFives_2 (fun _ => ⟨rfl, rfl⟩) (fun v => absurd hneg v)
        · have e1 : min left 13 = 13 := Nat.min_eq_right (by omega)
          rw [e1] at h1 c1 em esplit
          rw [esplit] at hfit
          obtain ⟨W2, s2, c2, h2⟩ := ih (k - 13) (by omega) (left - 13) (N * 5 ^ 13) W1 s1 w0 (by omega) h1 hc (by omega) hfit
          rw [esplit]
          refine ⟨W2, s2, b_Na_multiplyByFives_2 (fun v => absurd v hn0) (fun _ => ?_), h2⟩
          rw [em]
          refine k_Na_multiplyByFives_13 (c_Na_powerOfFive (by omega)) (b_Na_multiplyByFives_16 (k_Na_multiplyByFives_17 c1 (b_Na_multiplyByFives_20 ?_)))
          have e2 : zI left + (-13 : Int32) = zI ((left - 13 : Nat) : Int) := by
            rw [e13, zI_add]
            congr 1
            omega
          rw [e2]
          exact c2
  intro N W s h hc hfit
  obtain ⟨W2, s2, c2, h2⟩ := loop c c N W s (wN G a q W s g w) (Nat.le_refl _) h hc (Nat.le_refl _) hfit
  refine ⟨W2, s2, gCt.mk (by decide +kernel) (Nat.le_of_ble_eq_true rfl) rfl (b_Na_multiplyByFives_0 ?_), h2⟩
  rw [zI_nat] at c2
  exact c2
end NaS
