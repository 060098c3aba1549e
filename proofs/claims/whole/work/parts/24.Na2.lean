/-! CONTRACTS: Natural, 2 -/
theorem em1 : (-1 : Int32) = zI (-1) := by decide +kernel
section Na2
variable {l : Launch} {G : gG} {a q : Nat}
theorem a_Na_trim {w0 : va_W} {x1 x4 : Int32} {r : Nat} {g w : Int32} {V : Nat → Int32} {Q : Nat} (hr : r < 2 ^ 63) : ∀ (s : Nat), s ≤ 100 → sv V 0 s = Q → ∃ s2, gAt l G m_Na_divide w0 (some (.int (bI (decide (r ≠ 0))))) (wN G a q V s2 g w) 81 [(0, .ref a), (1, .int x1), (2, .long (lN r)), (4, .int x4)] [] (wN G a q V s g w) ∧ nN V s2 Q := by
  have fin : ∀ s, gAt l G m_Na_divide w0 (some (.int (bI (decide (r ≠ 0))))) (wN G a q V s g w) 114 [(0, .ref a), (1, .int x1), (2, .long (lN r)), (4, .int x4)] [] (wN G a q V s g w) := by
    intro s
    have C0 := lg_cmp0 hr
    refine b_Na_divide_114 (fun z => ?_) (fun z => ?_)
    · rw [decide_eq_false (by simp [C0.mp z])]
      exact b_Na_divide_125 ⟨rfl, rfl, rfl⟩
    · rw [decide_eq_true (show r ≠ 0 from fun y => z (C0.mpr y))]
      exact b_Na_divide_125 ⟨rfl, rfl, rfl⟩
  intro s
  induction s with
  | zero =>
    intro hs hv
    exact ⟨0, b_Na_divide_81 (fun _ => fin 0) (fun z => absurd (by decide) z), hs, hv, Or.inl rfl⟩
  | succ s ih =>
    intro hs hv
    have e1 : nI (s + 1) - (1 : Int32) = nI s := nI_pred s
    have hn0 : ¬ nI (s + 1) ≤ 0 := nI_nle (by omega) (by omega)
    have cw : gCt l G m_Na_wordAt [.ref a, .int (nI s)] (wN G a q V (s + 1) g w) (some (.int (V s))) (wN G a q V (s + 1) g w) := by
      have y := c_Na_wordAt (l := l) (G := G) (a := a) (q := q) (W := V) (s := s + 1) (g := g) (w := w) hs (s : Int) (by omega) (by omega)
      rw [if_neg (by omega), zI_nat] at y
      exact y
    by_cases z : V s = 0
    · rw [sv_snoc, Nat.zero_add, z, u32_0, Nat.zero_mul, Nat.add_zero] at hv
      obtain ⟨s2, c2, h2⟩ := ih (by omega) hv
      refine ⟨s2, b_Na_divide_81 (fun y => absurd y hn0) (fun _ => ?_), h2⟩
      rw [e1]
      refine k_Na_divide_95 cw (b_Na_divide_98 (fun y => absurd z y) (fun _ => ?_))
      rw [e1]
      exact c2
    · refine ⟨s + 1, b_Na_divide_81 (fun y => absurd y hn0) (fun _ => ?_), hs, hv, Or.inr ?_⟩
      · rw [e1]
        exact k_Na_divide_95 cw (b_Na_divide_98 (fun _ => fin (s + 1)) (fun y => absurd y z))
      · rw [← hv, sv_snoc, Nat.zero_add, Nat.add_sub_cancel]
        have : 1 ≤ u32 (V s) := by
          rcases Nat.eq_zero_or_pos (u32 (V s)) with y | y
          · exact absurd (u32_eq0 y) z
          · exact y
        have : 1 * 2 ^ (32 * s) ≤ u32 (V s) * 2 ^ (32 * s) := Nat.mul_le_mul_right _ this
        omega
theorem c_Na_divide {W : Nat → Int32} {s N d : Nat} {g w : Int32} (h : nN W s N) (hd1 : 1 ≤ d) (hd : d < 2 ^ 31) : ∃ W2 s2, gCt l G m_Na_divide [.ref a, .int (nI d)] (wN G a q W s g w) (some (.int (bI (decide (N % d ≠ 0))))) (wN G a q W2 s2 g w) ∧ nN W2 s2 (N / d) := by
  obtain ⟨hs, hv, -⟩ := h
  have loop : ∀ (k : Nat) (r : Nat) (V : Nat → Int32) (H : Nat), k ≤ s → H = sv W k (s - k) → r = H % d → sv V k (s - k) = H / d → (∀ j, j < k → V j = W j) → ∃ W2 s2, gAt l G m_Na_divide (wN G a q W s g w) (some (.int (bI (decide (N % d ≠ 0))))) (wN G a q W2 s2 g w) 25 [(0, .ref a), (1, .int (nI d)), (2, .long (lN r)), (4, .int (nI k - 1))] [] (wN G a q V s g w) ∧ nN W2 s2 (N / d) := by
    intro k
    induction k with
    | zero =>
      intro r V H _ hH hr hV _
      rw [Nat.sub_zero, hv] at hH
      subst hH
      rw [Nat.sub_zero] at hV
      have hr63 : r < 2 ^ 63 := by rw [hr]; have := Nat.mod_lt H (show 0 < d by omega); omega
      obtain ⟨s2, c2, h2⟩ := a_Na_trim (l := l) (G := G) (a := a) (q := q) (w0 := wN G a q W s g w) (x1 := nI d) (x4 := nI 0 - 1) (r := r) (g := g) (w := w) hr63 s hs hV
      rw [hr] at c2 ⊢
      exact ⟨V, s2, b_Na_divide_25 (fun _ => c2) (fun z => absurd (by decide) z) (fun z => absurd (by decide) z) (fun z => absurd (by decide) z) (fun z => absurd (by decide) z), h2⟩
    | succ k ih =>
      intro r V H hk hH hr hV hrest
      have e0 : nI (k + 1) - 1 = nI k := nI_pred k
      have hu := u32_lt (W k)
      have hrd : r < d := by rw [hr]; exact Nat.mod_lt _ (by omega)
      have esk : s - k = (s - (k + 1)) + 1 := by omega
      have hpart : r * 2 ^ 32 + u32 (W k) < 2 ^ 63 := by
        have : r * 2 ^ 32 ≤ (2 ^ 31 - 2) * 2 ^ 32 := Nat.mul_le_mul_right _ (by omega)
        omega
      have e1 : (lN r <<< ((Int32.toInt64 (32 : Int32)) &&& 63)) ||| ((Int32.toInt64 (V (nI k).toNatClampNeg)) &&& (4294967295 : Int64)) = lN (r * 2 ^ 32 + u32 (W k)) := by
        have e2 : lN r <<< ((Int32.toInt64 (32 : Int32)) &&& 63) = lN (r * 2 ^ 32) := wb_shl r (k := 32) (by decide)
        rw [e2, nI_clamp (by omega), hrest k (by omega), w_lo, g_or (k := 32) rfl hu (by omega)]
      have e3 : (nI d).toInt64 = lN d := nI_l hd
      have e4 : lN (r * 2 ^ 32 + u32 (W k)) / lN d = lN ((r * 2 ^ 32 + u32 (W k)) / d) := pk_lDiv hpart (by omega) (by omega)
      have hq : (r * 2 ^ 32 + u32 (W k)) / d < 2 ^ 32 := by
        rw [Nat.div_lt_iff_lt_mul (by omega), Nat.mul_comm (2 ^ 32)]
        have : (r + 1) * 2 ^ 32 ≤ d * 2 ^ 32 := Nat.mul_le_mul_right _ hrd
        omega
      have e5 : lN (r * 2 ^ 32 + u32 (W k)) - lN ((r * 2 ^ 32 + u32 (W k)) / d) * lN d = lN ((r * 2 ^ 32 + u32 (W k)) % d) := by
        rw [← e4]
        exact pk_lRem hpart (by omega) (by omega)
      have hH2 : sv W k (s - k) = H * 2 ^ 32 + u32 (W k) := by
        rw [esk, sv, ← hH]
        omega
      have hHd : H * 2 ^ 32 + u32 (W k) = d * (H / d * 2 ^ 32) + (r * 2 ^ 32 + u32 (W k)) := by
        have q1 := Nat.div_add_mod H d
        rw [← hr] at q1
        have q2 : (d * (H / d) + r) * 2 ^ 32 = H * 2 ^ 32 := by rw [q1]
        rw [Nat.add_mul, Nat.mul_assoc] at q2
        omega
      obtain ⟨W2, s2, c2, h2⟩ := ih ((r * 2 ^ 32 + u32 (W k)) % d) (upd V k (nI ((r * 2 ^ 32 + u32 (W k)) / d))) (H * 2 ^ 32 + u32 (W k)) (by omega) hH2.symm (by rw [hHd, Nat.mul_add_mod]) (by
        rw [hHd, Nat.mul_add_div (by omega), esk, sv, upd_self, u32_nI, Nat.mod_eq_of_lt hq, sv_congr (V := V) _ _ (fun j b _ => upd_ne (by omega)), hV]
        omega) (fun j hj => by rw [upd_ne (by omega)]; exact hrest j (by omega))
      refine ⟨W2, s2, ?_, h2⟩
      have hin : vp_in (nI k) 100 := vp_in_nI (by omega) (by decide)
      have hpos : ¬ nI k < 0 := nI_pos (by omega)
      rw [e0]
      refine b_Na_divide_25 (fun z => absurd z hpos) (fun _ => hin) (fun _ z => ?_) (fun _ => hin) (fun _ => ?_)
      · rw [e3] at z
        have := (pk_lEQ (b := 0) (by omega) (by decide)).mp z
        omega
      · rw [e1, e3, e4, e5, lN_i, nI_clamp (by omega)]
        have e6 : nI k + (-1 : Int32) = nI k - 1 := (Int32.sub_eq_add_neg _ _).symm
        rw [e6]
        exact c2
  obtain ⟨W2, s2, c, h2⟩ := loop s 0 W 0 (Nat.le_refl _) (by rw [Nat.sub_self]; rfl) (by rw [Nat.zero_mod]) (by rw [Nat.sub_self, Nat.zero_div]; rfl) (fun _ _ => rfl)
  refine ⟨W2, s2, gCt.mk (by decide +kernel) (Nat.le_of_ble_eq_true rfl) rfl (b_Na_divide_0 (fun _ => ?_) (fun z => absurd (nI_le (a := 1) hd1 (by omega)) z)), h2⟩
  rw [show (if (100 : Int32) < nI s then (100 : Int32) else nI s) = nI s from if_neg (fun z => by have := (nI_ltI (a := 100) (by decide) (by omega)).mp z; omega)]
  exact c
theorem mod_mul_ne {N x y : Nat} (hx : 0 < x) : (N % (x * y) ≠ 0) ↔ (N % x ≠ 0 ∨ N / x % y ≠ 0) := by
  rw [Nat.mod_mul]
  constructor
  · intro h
    rcases Nat.eq_zero_or_pos (N % x) with z | z
    · right
      intro w
      rw [z, w] at h
      exact h rfl
    · left; omega
  · intro h w
    have w1 : N % x = 0 := by omega
    have w2 : x * (N / x % y) = 0 := by omega
    rcases h with h | h
    · exact h w1
    · rcases Nat.mul_eq_zero.mp w2 with v | v
      · omega
      · exact h v
theorem c_Na_divideByFives {c : Nat} {g w : Int32} {N : Nat} {W : Nat → Int32} {s : Nat} (h : nN W s N) (hc : c < 2 ^ 30) : ∃ W2 s2, gCt l G m_Na_divideByFives [.ref a, .int (nI c)] (wN G a q W s g w) (some (.int (bI (decide (N % 5 ^ c ≠ 0))))) (wN G a q W2 s2 g w) ∧ nN W2 s2 (N / 5 ^ c) := by
  have loop : ∀ (k left N : Nat) (W : Nat → Int32) (s : Nat) (w0 : va_W) (x : Bool), left ≤ k → nN W s N → left ≤ c → ∃ W2 s2, gAt l G m_Na_divideByFives w0 (some (.int (bI (x || decide (N % 5 ^ left ≠ 0))))) (wN G a q W2 s2 g w) 4 [(0, .ref a), (1, .int (nI c)), (2, .int (bI x)), (3, .int (zI left))] [] (wN G a q W s g w) ∧ nN W2 s2 (N / 5 ^ left) := by
    intro k
    induction k using Nat.strongRecOn with
    | _ k ih =>
      intro left N W s w0 x hk h hl
      rcases Nat.eq_zero_or_pos left with z | z
      · subst z
        rw [Nat.pow_zero, Nat.div_one, Nat.mod_one]
        exact ⟨W, s, b_Na_divideByFives_4 (fun _ => ⟨bI_nar x, by simp, rfl⟩) (fun y => absurd (by decide) y), h⟩
      · have hn0 : ¬ zI left ≤ 0 := fun y => by have := (zI_le (a := left) (b := 0) (by omega) (by omega) (by decide) (by decide)).mp y; omega
        have em : (if (13 : Int32) < zI left then (13 : Int32) else zI left) = nI (min left 13) := by
          have q : (13 : Int32) < zI left ↔ 13 < (left : Int) := zI_lt (a := 13) (by decide) (by decide) (by omega) (by omega)
          by_cases y : 13 < left
          · rw [if_pos (q.mpr (by omega)), Nat.min_eq_right (by omega)]; rfl
          · rw [if_neg (fun v => y (by have := q.mp v; omega)), Nat.min_eq_left (by omega), zI_nat]
        have hp : ∀ k, k ≤ 13 → 1 ≤ 5 ^ k ∧ 5 ^ k < 2 ^ 31 := by decide +kernel
        obtain ⟨hp1, hp2⟩ := hp (min left 13) (Nat.min_le_right _ _)
        obtain ⟨W1, s1, c1, h1⟩ := c_Na_divide (l := l) (G := G) (a := a) (q := q) (g := g) (w := w) h hp1 hp2
        rcases Nat.lt_or_ge left 13 with y | y
        · have e1 : min left 13 = left := Nat.min_eq_left (by omega)
          rw [e1] at h1 c1 em
          refine ⟨W1, s1, b_Na_divideByFives_4 (fun v => absurd v hn0) (fun _ => ?_), h1⟩
          rw [em]
          refine k_Na_divideByFives_16 (c_Na_powerOfFive (by omega)) (k_Na_divideByFives_19 c1 (b_Na_divideByFives_22 ?_))
          have e2 : zI left + (-13 : Int32) = zI ((left : Int) + -13) := by rw [e13, zI_add]
          rw [e2, bI_or]
          have hneg : zI ((left : Int) + -13) ≤ 0 := (zI_le (b := 0) (by omega) (by omega) (by decide) (by decide)).mpr (by omega)
          exact b_Na_divideByFives_4 (fun _ => ⟨bI_nar _, rfl, rfl⟩) (fun v => absurd hneg v)
        · have e1 : min left 13 = 13 := Nat.min_eq_right (by omega)
          rw [e1] at h1 c1 em
          have esplit : 5 ^ left = 5 ^ 13 * 5 ^ (left - 13) := by rw [← Nat.pow_add]; congr 1; omega
          obtain ⟨W2, s2, c2, h2⟩ := ih (k - 13) (by omega) (left - 13) (N / 5 ^ 13) W1 s1 w0 (x || decide (N % 5 ^ 13 ≠ 0)) (by omega) h1 (by omega)
          have e3 : (x || decide (N % 5 ^ 13 ≠ 0) || decide (N / 5 ^ 13 % 5 ^ (left - 13) ≠ 0)) = (x || decide (N % 5 ^ left ≠ 0)) := by
            rw [Bool.or_assoc, esplit]
            congr 1
            have m := mod_mul_ne (N := N) (x := 5 ^ 13) (y := 5 ^ (left - 13)) (by decide)
            by_cases u1 : N % 5 ^ 13 ≠ 0
            · rw [decide_eq_true u1, Bool.true_or, decide_eq_true (m.mpr (Or.inl u1))]
            · rw [decide_eq_false u1, Bool.false_or]
              by_cases u2 : N / 5 ^ 13 % 5 ^ (left - 13) ≠ 0
              · rw [decide_eq_true u2, decide_eq_true (m.mpr (Or.inr u2))]
              · rw [decide_eq_false u2, decide_eq_false (fun u3 => (m.mp u3).elim u1 u2)]
          rw [e3] at c2
          rw [Nat.div_div_eq_div_mul, ← esplit] at h2
          refine ⟨W2, s2, b_Na_divideByFives_4 (fun v => absurd v hn0) (fun _ => ?_), h2⟩
          rw [em]
          refine k_Na_divideByFives_16 (c_Na_powerOfFive (by omega)) (k_Na_divideByFives_19 c1 (b_Na_divideByFives_22 ?_))
          have e2 : zI left + (-13 : Int32) = zI ((left - 13 : Nat) : Int) := by
            rw [e13, zI_add]
            congr 1
            omega
          rw [e2, bI_or]
          exact c2
  obtain ⟨W2, s2, c2, h2⟩ := loop c c N W s (wN G a q W s g w) false (Nat.le_refl _) h (Nat.le_refl _)
  refine ⟨W2, s2, gCt.mk (by decide +kernel) (Nat.le_of_ble_eq_true rfl) rfl (b_Na_divideByFives_0 ?_), h2⟩
  rw [zI_nat, Bool.false_or] at c2
  exact c2
def ra_w (c : Nat) : Nat := c * 7 / 96 + 4
theorem c_Na_raise0 {c : Nat} {g w : Int32} {N : Nat} {W : Nat → Int32} {s : Nat} (h : nN W s N) (hc : c ≤ 1230) (hup : ra_w c ≤ s) : gCt l G m_Na_raiseAboveFives [.ref a, .int (nI c)] (wN G a q W s g w) (some (.int 0)) (wN G a q W s g w) := by
  have hs := h.1
  unfold ra_w at hup
  have e1 : (nI c * (7 : Int32)) / (96 : Int32) + (4 : Int32) = nI (c * 7 / 96 + 4) := by
    rw [show (7 : Int32) = nI 7 from rfl, pk_mul, show (96 : Int32) = nI 96 from rfl, pk_div (by omega) (by decide) (by decide), show (4 : Int32) = nI 4 from rfl, nI_add]
  have e2 : (if (100 : Int32) < nI (c * 7 / 96 + 4) then (100 : Int32) else nI (c * 7 / 96 + 4)) = nI (c * 7 / 96 + 4) := if_neg (fun z => by have := (nI_ltI (a := 100) (by decide) (by omega)).mp z; omega)
  refine gCt.mk (by decide +kernel) (Nat.le_of_ble_eq_true rfl) rfl (b_Na_raiseAboveFives_0 ?_ ?_)
  · rw [e1, e2, ← zI_nat, ← zI_nat, zI_sub]
    intro z
    have := (zI_lt (a := 0) (by decide) (by decide) (by omega) (by omega)).mp z
    omega
  · rw [e1, e2]
    exact fun _ => ⟨rfl, rfl⟩
theorem c_Na_raise {c : Nat} {g w : Int32} {N : Nat} {W : Nat → Int32} {s : Nat} (h : nN W s N) (hs1 : 1 ≤ s) (hc : c ≤ 1230) (hup : s < ra_w c) : ∃ W2, gCt l G m_Na_raiseAboveFives [.ref a, .int (nI c)] (wN G a q W s g w) (some (.int (nI (32 * (ra_w c - s))))) (wN G a q W2 (ra_w c) g w) ∧ nN W2 (ra_w c) (N * 2 ^ (32 * (ra_w c - s))) := by
  obtain ⟨hs, hv, ht⟩ := h
  have hw93 : ra_w c ≤ 93 := by unfold ra_w; omega
  have e1 : (nI c * (7 : Int32)) / (96 : Int32) + (4 : Int32) = nI (ra_w c) := by
    rw [show (7 : Int32) = nI 7 from rfl, pk_mul, show (96 : Int32) = nI 96 from rfl, pk_div (by omega) (by decide) (by decide), show (4 : Int32) = nI 4 from rfl, nI_add]
    rfl
  generalize ra_w c = wt at *
  have e2 : (if (100 : Int32) < nI wt then (100 : Int32) else nI wt) = nI wt := if_neg (fun z => by have := (nI_ltI (a := 100) (by decide) (by omega)).mp z; omega)
  have e3 : nI wt - nI s = nI (wt - s) := pk_sub (by omega)
  -- the shift, from the top down
  have loop : ∀ (k : Nat) (V : Nat → Int32), k ≤ wt → (∀ j, k ≤ j → j < wt → V j = if j < wt - s then 0 else W (j - (wt - s))) → (∀ j, j < k → V j = W j) → ∃ W2, gAt l G m_Na_raiseAboveFives (wN G a q W s g w) (some (.int (nI (32 * (wt - s))))) (wN G a q W2 wt g w) 36 [(0, .ref a), (1, .int (nI c)), (2, .int (nI wt)), (3, .int (nI (wt - s))), (4, .int (nI k - 1))] [] (wN G a q V s g w) ∧ ∀ j, j < wt → W2 j = if j < wt - s then 0 else W (j - (wt - s)) := by
    intro k
    induction k with
    | zero =>
      intro V _ h1 _
      refine ⟨V, b_Na_raiseAboveFives_36 (fun _ => ⟨vi ?_, rfl⟩) (fun z => absurd (by decide) z), fun j hj => h1 j (Nat.zero_le _) hj⟩
      rw [show (32 : Int32) = nI 32 from rfl, pk_mul]
    | succ k ih =>
      intro V hk h1 h2
      have e0 : nI (k + 1) - 1 = nI k := nI_pred k
      obtain ⟨W2, c2, h3⟩ := ih (upd V k (if k < wt - s then 0 else W (k - (wt - s)))) (by omega) (fun j a b => by
        rcases Nat.eq_or_lt_of_le a with y | y
        · subst y; rw [upd_self]
        · rw [upd_ne (by omega)]; exact h1 j y b) (fun j hj => by rw [upd_ne (by omega)]; exact h2 j (by omega))
      refine ⟨W2, ?_, h3⟩
      rw [e0]
      have ex : nI k - nI (wt - s) = zI ((k : Int) - (wt - s : Nat)) := by rw [← zI_nat, ← zI_nat, zI_sub]
      have cw := c_Na_wordAt (l := l) (G := G) (a := a) (q := q) (W := V) (s := s) (g := g) (w := w) hs ((k : Int) - (wt - s : Nat)) (by omega) (by omega)
      refine b_Na_raiseAboveFives_36 (fun z => absurd z (nI_pos (by omega))) (fun _ => ?_)
      rw [ex]
      refine k_Na_raiseAboveFives_52 cw (b_Na_raiseAboveFives_55 (vp_in_nI (by omega) (by decide)) ?_)
      have e6 : nI k + (-1 : Int32) = nI k - 1 := (Int32.sub_eq_add_neg _ _).symm
      rw [e6, nI_clamp (by omega)]
      have e7 : (if (k : Int) - (wt - s : Nat) < 0 then (0 : Int32) else V ((k : Int) - (wt - s : Nat)).toNat) = if k < wt - s then 0 else W (k - (wt - s)) := by
        by_cases y : k < wt - s
        · rw [if_pos (by omega), if_pos y]
        · rw [if_neg (by omega), if_neg y, show ((k : Int) - (wt - s : Nat)).toNat = k - (wt - s) by omega]
          exact h2 _ (by omega)
      rw [e7]
      exact c2
  obtain ⟨W2, c2, h3⟩ := loop wt W (Nat.le_refl _) (fun j a b => by omega) (fun _ _ => rfl)
  have hsv : sv W2 0 wt = N * 2 ^ (32 * (wt - s)) := by
    have key : ∀ m, m ≤ s → sv W2 0 (wt - s + m) = sv W 0 m * 2 ^ (32 * (wt - s)) := by
      intro m
      induction m with
      | zero =>
        intro _
        have z : ∀ m, m ≤ wt - s → sv W2 0 m = 0 := by
          intro m
          induction m with
          | zero => intro _; rfl
          | succ m ihm => intro hm; rw [sv_snoc, ihm (by omega), Nat.zero_add, Nat.zero_add, h3 m (by omega), if_pos (by omega), u32_0]; simp
        rw [Nat.add_zero, z _ (Nat.le_refl _)]
        simp [sv]
      | succ m ihm =>
        intro hm
        rw [show wt - s + (m + 1) = wt - s + m + 1 by omega, sv_snoc, ihm (by omega), Nat.zero_add, h3 (wt - s + m) (by omega), if_neg (by omega), show wt - s + m - (wt - s) = m by omega, sv_snoc, Nat.zero_add, Nat.add_mul, Nat.mul_add, Nat.pow_add]
        rw [Nat.mul_comm (2 ^ (32 * (wt - s))), Nat.mul_assoc]
    have := key s (Nat.le_refl _)
    rw [show wt - s + s = wt by omega, hv] at this
    exact this
  refine ⟨W2, gCt.mk (by decide +kernel) (Nat.le_of_ble_eq_true rfl) rfl (b_Na_raiseAboveFives_0 ?_ ?_), by omega, hsv, Or.inr ?_⟩
  · rw [e1, e2, e3]
    exact fun _ => c2
  · rw [e1, e2, e3]
    intro z
    exact absurd (nI_lt (a := 0) (by omega) (by omega)) z
  · rcases ht with ht | ht
    · omega
    · have : 2 ^ (32 * (s - 1)) * 2 ^ (32 * (wt - s)) ≤ N * 2 ^ (32 * (wt - s)) := Nat.mul_le_mul_right _ ht
      rw [← Nat.pow_add, show 32 * (s - 1) + 32 * (wt - s) = 32 * (wt - 1) by omega] at this
      exact this
/-- gathered digits: A is what has been pushed -/
def nA (W : Nat → Int32) (s g k A : Nat) : Prop := ∃ N, nN W s N ∧ k < 9 ∧ g < 10 ^ k ∧ A = N * 10 ^ k + g
theorem p10_lt : ∀ k, k ≤ 9 → 1 ≤ 10 ^ k ∧ 10 ^ k ≤ 1000000000 := by decide +kernel
theorem c_Na_end {W : Nat → Int32} {s g k A : Nat} (h : ∃ N, nN W s N ∧ k ≤ 9 ∧ g < 10 ^ k ∧ A = N * 10 ^ k + g) (hfit : A < 2 ^ (32 * 100)) : ∃ W2 s2, gCt l G m_Na_end [.ref a] (wN G a q W s (nI g) (nI (10 ^ k))) none (wN G a q W2 s2 (nI 0) (nI 1)) ∧ nN W2 s2 A := by
  obtain ⟨N, h1, h2, h3, h4⟩ := h
  obtain ⟨q1, q2⟩ := p10_lt k h2
  obtain ⟨W2, s2, c2, h5⟩ := c_Na_multiplyAdd (l := l) (G := G) (a := a) (q := q) (g := nI g) (w := nI (10 ^ k)) h1 q1 (by omega) (d := g) (by omega) (by rw [← h4]; exact hfit)
  rw [← h4] at h5
  exact ⟨W2, s2, gCt.mk (by decide +kernel) (Nat.le_of_ble_eq_true rfl) rfl (b_Na_end_0 (k_Na_end_9 c2 (b_Na_end_12 ⟨rfl, rfl⟩))), h5⟩
theorem c_Na_pushDigit {W : Nat → Int32} {s g k A d : Nat} (h : nA W s g k A) (hd : d < 10) (hfit : 10 * A + d < 2 ^ (32 * 100)) : ∃ W2 s2 g2 k2, gCt l G m_Na_pushDigit [.ref a, .int (nI d)] (wN G a q W s (nI g) (nI (10 ^ k))) none (wN G a q W2 s2 (nI g2) (nI (10 ^ k2))) ∧ nA W2 s2 g2 k2 (10 * A + d) := by
  obtain ⟨N, h1, h2, h3, h4⟩ := h
  obtain ⟨q1, q2⟩ := p10_lt (k + 1) (by omega)
  have e1 : nI g * (10 : Int32) + nI d = nI (g * 10 + d) := by rw [show (10 : Int32) = nI 10 from rfl, pk_mul, nI_add]
  have e2 : nI (10 ^ k) * (10 : Int32) = nI (10 ^ (k + 1)) := by rw [show (10 : Int32) = nI 10 from rfl, pk_mul, Nat.pow_succ]
  have hg : g * 10 + d < 10 ^ (k + 1) := by rw [Nat.pow_succ]; omega
  have hA : 10 * A + d = N * 10 ^ (k + 1) + (g * 10 + d) := by
    rw [h4, Nat.pow_succ, ← Nat.mul_assoc]
    omega
  rcases Nat.lt_or_ge (k + 1) 9 with z | z
  · have hlt : ∀ k, k < 9 → 10 ^ k ≠ 1000000000 := by decide +kernel
    refine ⟨W, s, g * 10 + d, k + 1, gCt.mk (by decide +kernel) (Nat.le_of_ble_eq_true rfl) rfl (b_Na_pushDigit_0 ?_ ?_), N, h1, z, hg, hA⟩
    · rw [e1, e2]
      exact fun _ => b_Na_pushDigit_37 ⟨rfl, rfl⟩
    · rw [e1, e2]
      intro y
      exact absurd ((nI_eq (b := 1000000000) (by omega) (by decide)).mp y) (hlt _ z)
  · have hk : k = 8 := by omega
    subst hk
    obtain ⟨W2, s2, c2, h5⟩ := c_Na_end (l := l) (G := G) (a := a) (q := q) (W := W) (s := s) (g := g * 10 + d) (k := 9) (A := 10 * A + d) ⟨N, h1, Nat.le_refl _, hg, hA⟩ hfit
    refine ⟨W2, s2, 0, 0, gCt.mk (by decide +kernel) (Nat.le_of_ble_eq_true rfl) rfl (b_Na_pushDigit_0 ?_ ?_), _, h5, by decide, by decide, by omega⟩
    · rw [e1, e2]
      exact fun y => absurd rfl y
    · rw [e1, e2]
      exact fun _ => k_Na_pushDigit_34 c2 (b_Na_pushDigit_37 ⟨rfl, rfl⟩)
end Na2
