/-! CONTRACTS: the model, 6: twice, the whole part -/
theorem twice_dg (N c : Nat) : (2 * (N / wB ^ c % wB) + 2 * (N % wB ^ c) / wB ^ c) % wB = 2 * N / wB ^ c % wB ∧ (2 * (N / wB ^ c % wB) + 2 * (N % wB ^ c) / wB ^ c) / wB = 2 * (N % wB ^ (c + 1)) / wB ^ (c + 1) ∧ 2 * (N % wB ^ c) / wB ^ c ≤ 1 := by
  have hp := wBp c
  have hr : N % wB ^ c < wB ^ c := Nat.mod_lt _ hp
  have hN : N = wB ^ c * (N / wB ^ c) + N % wB ^ c := (Nat.div_add_mod _ _).symm
  have e3 : 2 * (N % wB ^ c) / wB ^ c ≤ 1 := by
    have : 2 * (N % wB ^ c) / wB ^ c < 2 := by
      rw [Nat.div_lt_iff_lt_mul hp]
      omega
    omega
  have e1 : 2 * N / wB ^ c = 2 * (N / wB ^ c) + 2 * (N % wB ^ c) / wB ^ c := by
    have : 2 * N = wB ^ c * (2 * (N / wB ^ c)) + 2 * (N % wB ^ c) := by
      have h2 : 2 * N = 2 * (wB ^ c * (N / wB ^ c) + N % wB ^ c) := by rw [← hN]
      rw [h2, Nat.mul_add, Nat.mul_left_comm]
    rw [this, Nat.mul_add_div hp]
  have e2 : 2 * (N % wB ^ (c + 1)) / wB ^ (c + 1) = (2 * (N / wB ^ c % wB) + 2 * (N % wB ^ c) / wB ^ c) / wB := by
    rw [Nat.pow_succ, ← Nat.div_div_eq_div_mul, Nat.mod_mul]
    congr 1
    rw [Nat.mul_add, Nat.mul_left_comm, Nat.add_comm, Nat.mul_add_div hp]
  refine ⟨?_, e2.symm, e3⟩
  rw [e1]
  generalize N / wB ^ c = P
  generalize 2 * (N % wB ^ c) / wB ^ c = q at *
  rw [wB_v]
  omega
section Mo6
variable {l : Launch} {G : gG} {m ta fa wa : Nat} {th len ki pc be ma po : Int32} {ex : Int64} {wh sc : Int64} {re hu : Int32} {tx fg : Nat → Int32}
theorem a_Mo_twiceT {w0 : va_W} {W : Nat → Int32} {N f : Nat} {x1 x2 : Int32} (hW : ∀ j, j < 800 → W j = nI (dg N j)) :
    ∀ (d t : Nat), t - 54 ≤ d → 54 ≤ t → t ≤ 799 → wB ^ (799 - t) ∣ N → ∃ t2, 54 ≤ t2 ∧ t2 ≤ 799 ∧ wB ^ (799 - t2) ∣ N ∧ (t2 = 54 ∨ dg N t2 ≠ 0) ∧ gAt l G m_Mo_twice w0 none (wM G m ta fa wa th len ki pc be ma po ex (nI f) (nI t2) wh sc re hu tx fg W) 71 [(0, .ref m), (1, .int x1), (2, .int x2)] [] (wM G m ta fa wa th len ki pc be ma po ex (nI f) (nI t) wh sc re hu tx fg W) := by
  intro d
  induction d with
  | zero =>
    intro t hd ht ht2 hN
    have : t = 54 := by omega
    subst this
    have hge : nI 54 ≤ (54 : Int32) := by decide +kernel
    exact ⟨54, Nat.le_refl _, by decide, hN, Or.inl rfl, b_Mo_twice_71 (fun _ => b_Mo_twice_105 ⟨rfl, rfl⟩) (fun z => absurd hge z) (fun z => absurd hge z) (fun z => absurd hge z)⟩
  | succ d ih =>
    intro t hd ht ht2 hN
    rcases Nat.eq_or_lt_of_le ht with z | z
    · exact ih t (by omega) ht ht2 hN
    · have hlt : ¬ nI t ≤ (54 : Int32) := fun y => by have := (nI_leI (b := 54) (by omega) (by decide)).mp y; omega
      have hdl := dg_lt N t
      have h0 : W (Int32.toNatClampNeg (nI t)) = 0 ↔ dg N t = 0 := by
        rw [nI_clamp (by omega), hW t (by omega)]
        exact nI_eq (b := 0) (by omega) (by decide)
      by_cases y : dg N t = 0
      · obtain ⟨t2, p1, p2, p3, p4, g⟩ := ih (t - 1) (by omega) (by omega) (by omega) (dvd_prev hN z ht2 y)
        refine ⟨t2, p1, p2, p3, p4, b_Mo_twice_71 (fun v => absurd v hlt) (fun _ => vp_in_nI (by omega) (by decide)) (fun _ v => absurd (h0.mpr y) v) (fun _ _ => ?_)⟩
        have e1 : nI t - (1 : Int32) = nI (t - 1) := pk_sub (b := 1) (by omega)
        rw [e1]
        exact g
      · exact ⟨t, ht, ht2, hN, Or.inr y, b_Mo_twice_71 (fun v => absurd v hlt) (fun _ => vp_in_nI (by omega) (by decide)) (fun _ _ => b_Mo_twice_105 ⟨rfl, rfl⟩) (fun _ v => absurd (h0.mp v) y)⟩
theorem c_Mo_twice {W : Nat → Int32} {N f t : Nat} (h : mW W N f t) (hf : 1 ≤ f) :
    ∃ W2 f2 t2, gCt l G m_Mo_twice [.ref m] (wM G m ta fa wa th len ki pc be ma po ex (nI f) (nI t) wh sc re hu tx fg W) none (wM G m ta fa wa th len ki pc be ma po ex (nI f2) (nI t2) wh sc re hu tx fg W2) ∧ mW W2 (2 * N) f2 t2 := by
  obtain ⟨h1, h2, h3, h4, h5, h6, h7, h8⟩ := h
  have hdv : wB ^ (799 - t) ∣ 2 * N := Nat.dvd_mul_left_of_dvd h7 2
  have hmodN : N % wB ^ (800 - f) = N := Nat.mod_eq_of_lt h5
  have hN2 : 2 * N < wB ^ (800 - (f - 1)) := by
    have e : wB ^ (800 - (f - 1)) = wB ^ (800 - f) * wB := by rw [← Nat.pow_succ]; congr 1; omega
    rw [e, wB_v] at *
    omega
  have fin : ∀ (V : Nat → Int32) (w0 : va_W) (x2 : Int32), x2 < nI f → (∀ j, j < 800 → V j = nI (if f ≤ j then dg (2 * N) j else dg N j)) →
      ∃ W2 f2 t2, gAt l G m_Mo_twice w0 none (wM G m ta fa wa th len ki pc be ma po ex (nI f2) (nI t2) wh sc re hu tx fg W2) 7 [(0, .ref m), (1, .int (nI (2 * N / wB ^ (800 - f)))), (2, .int x2)] [] (wM G m ta fa wa th len ki pc be ma po ex (nI f) (nI t) wh sc re hu tx fg V) ∧ mW W2 (2 * N) f2 t2 := by
    intro V w0 x2 hx hV
    have hc1 : 2 * N / wB ^ (800 - f) ≤ 1 := by
      have : 2 * N / wB ^ (800 - f) < 2 := by
        rw [Nat.div_lt_iff_lt_mul (wBp _)]
        omega
      omega
    have hnx : dg (2 * N) (f - 1) = 2 * N / wB ^ (800 - f) := by
      unfold dg
      rw [show 799 - (f - 1) = 800 - f by omega]
      exact Nat.mod_eq_of_lt (Nat.lt_of_le_of_lt hc1 (by decide))
    by_cases zc : 2 * N / wB ^ (800 - f) = 0
    · have hlt : 2 * N < wB ^ (800 - f) := Nat.lt_of_div_eq_zero (wBp _) zc
      have hV2 : ∀ j, j < 800 → V j = nI (dg (2 * N) j) := fun j hj => by
        rw [hV j hj]
        by_cases y : f ≤ j
        · rw [if_pos y]
        · rw [if_neg y, dg_above h5 (by omega) (by omega), dg_above hlt (by omega) (by omega)]
      obtain ⟨t2, p1, p2, p3, p4, g⟩ := a_Mo_twiceT (l := l) (G := G) (m := m) (ta := ta) (fa := fa) (wa := wa) (th := th) (len := len) (ki := ki) (pc := pc) (be := be) (ma := ma) (po := po) (ex := ex) (wh := wh) (sc := sc) (re := re) (hu := hu) (tx := tx) (fg := fg) (w0 := w0) (f := f) (x1 := nI (2 * N / wB ^ (800 - f))) (x2 := x2) hV2 800 t (by omega) h2 h3 hdv
      have hle : nI (2 * N / wB ^ (800 - f)) ≤ 0 := by rw [zc]; decide
      refine ⟨V, f, t2, b_Mo_twice_7 (fun _ _ => g) (fun _ y => absurd hle y) (fun _ y => absurd hle y) (fun y => absurd hx y) (fun y => absurd hx y) (fun y => absurd hx y), h1, p1, p2, hV2, hlt, ?_, p3, p4⟩
      rcases h6 with y | y
      · exact Or.inl y
      · right
        intro y2
        apply y
        have e : wB ^ (800 - f) = wB ^ (799 - f) * wB := by rw [← Nat.pow_succ]; congr 1; omega
        have q1 : 2 * N / wB ^ (799 - f) < wB := by
          rw [Nat.div_lt_iff_lt_mul (wBp _), Nat.mul_comm wB, ← e]
          exact hlt
        unfold dg at y2 ⊢
        rw [Nat.mod_eq_of_lt q1] at y2
        have q2 := Nat.lt_of_div_eq_zero (wBp _) y2
        rw [Nat.div_eq_of_lt (by omega), Nat.zero_mod]
    · have zc1 : 2 * N / wB ^ (800 - f) = 1 := by omega
      have hV2 : ∀ j, j < 800 → upd V (f - 1) (nI (2 * N / wB ^ (800 - f))) j = nI (dg (2 * N) j) := fun j hj => by
        by_cases y : j = f - 1
        · rw [y, upd_self, hnx]
        · rw [upd_ne y, hV j hj]
          by_cases x : f ≤ j
          · rw [if_pos x]
          · rw [if_neg x, dg_above h5 (by omega) (by omega), dg_above hN2 (by omega) (by omega)]
      obtain ⟨t2, p1, p2, p3, p4, g⟩ := a_Mo_twiceT (l := l) (G := G) (m := m) (ta := ta) (fa := fa) (wa := wa) (th := th) (len := len) (ki := ki) (pc := pc) (be := be) (ma := ma) (po := po) (ex := ex) (wh := wh) (sc := sc) (re := re) (hu := hu) (tx := tx) (fg := fg) (w0 := w0) (f := f - 1) (x1 := nI (2 * N / wB ^ (800 - f))) (x2 := x2) hV2 800 t (by omega) h2 h3 hdv
      have hle : ¬ nI (2 * N / wB ^ (800 - f)) ≤ 0 := by rw [zc1]; decide
      have e1 : nI f - (1 : Int32) = nI (f - 1) := pk_sub (b := 1) hf
      refine ⟨upd V (f - 1) (nI (2 * N / wB ^ (800 - f))), f - 1, t2, b_Mo_twice_7 (fun _ y => absurd y hle) (fun _ _ => by rw [e1]; exact vp_in_nI (by omega) (by decide)) (fun _ _ => ?_) (fun y => absurd hx y) (fun y => absurd hx y) (fun y => absurd hx y), by omega, p1, p2, hV2, hN2, Or.inr (by rw [hnx]; exact zc), p3, p4⟩
      rw [e1, nI_clamp (by omega)]
      exact g
  have loop : ∀ (d : Nat) (V : Nat → Int32) (w0 : va_W), f + d ≤ t + 1 → (∀ j, j < 800 → V j = nI (if f + d ≤ j then dg (2 * N) j else dg N j)) →
      ∃ W2 f2 t2, gAt l G m_Mo_twice w0 none (wM G m ta fa wa th len ki pc be ma po ex (nI f2) (nI t2) wh sc re hu tx fg W2) 7 [(0, .ref m), (1, .int (nI (2 * (N % wB ^ (800 - (f + d))) / wB ^ (800 - (f + d))))), (2, .int (nI (f + d - 1)))] [] (wM G m ta fa wa th len ki pc be ma po ex (nI f) (nI t) wh sc re hu tx fg V) ∧ mW W2 (2 * N) f2 t2 := by
    intro d
    induction d with
    | zero =>
      intro V w0 hd hV
      rw [Nat.add_zero, hmodN]
      exact fin V w0 (nI (f - 1)) (nI_lt (by omega) (by omega)) hV
    | succ d ih =>
      intro V w0 hd hV
      have ek : f + (d + 1) - 1 = f + d := by omega
      have hlt : ¬ nI (f + d) < nI f := fun y => by have := (nI_ltI (by omega) (by omega)).mp y; omega
      have hdl := dg_lt N (f + d)
      obtain ⟨q1, q2, q3⟩ := twice_dg N (799 - (f + d))
      rw [show 799 - (f + d) + 1 = 800 - (f + d) by omega] at q2
      have ec : 800 - (f + (d + 1)) = 799 - (f + d) := by omega
      rw [ek, ec]
      have ev : (2 : Int32) * V (Int32.toNatClampNeg (nI (f + d))) + nI (2 * (N % wB ^ (799 - (f + d))) / wB ^ (799 - (f + d))) = nI (2 * dg N (f + d) + 2 * (N % wB ^ (799 - (f + d))) / wB ^ (799 - (f + d))) := by
        rw [nI_clamp (by omega), hV (f + d) (by omega), if_neg (by omega), show (2 : Int32) = nI 2 from rfl, pk_mul, nI_add]
      have hb : 2 * dg N (f + d) + 2 * (N % wB ^ (799 - (f + d))) / wB ^ (799 - (f + d)) < 2 ^ 31 := by omega
      obtain ⟨W2, f2, t2, g, hW2⟩ := ih (upd V (f + d) (nI (dg (2 * N) (f + d)))) w0 (by omega) (fun j hj => by
        by_cases y : j = f + d
        · rw [y, upd_self, if_pos (Nat.le_refl _)]
        · rw [upd_ne y, hV j hj]
          by_cases x : f + (d + 1) ≤ j
          · rw [if_pos x, if_pos (by omega)]
          · rw [if_neg x, if_neg (by omega)])
      refine ⟨W2, f2, t2, b_Mo_twice_7 (fun y => absurd y hlt) (fun y => absurd y hlt) (fun y => absurd y hlt) (fun _ => vp_in_nI (by omega) (by decide)) (fun _ => vp_in_nI (by omega) (by decide)) (fun _ => ?_), hW2⟩
      rw [ev, show (100000000 : Int32) = nI 100000000 from rfl, pk_rem hb (by decide) (by decide), pk_div hb (by decide) (by decide), nI_clamp (by omega)]
      have e1 : nI (f + d) + (-1 : Int32) = nI (f + d - 1) := nlz_sub (c := 1) (by omega) (by omega)
      have r1 : (2 * dg N (f + d) + 2 * (N % wB ^ (799 - (f + d))) / wB ^ (799 - (f + d))) % 100000000 = dg (2 * N) (f + d) := q1
      have r2 : (2 * dg N (f + d) + 2 * (N % wB ^ (799 - (f + d))) / wB ^ (799 - (f + d))) / 100000000 = 2 * (N % wB ^ (800 - (f + d))) / wB ^ (800 - (f + d)) := q2
      rw [e1, r1, r2]
      exact g
  obtain ⟨W2, f2, t2, g, hW2⟩ := loop (t + 1 - f) W (wM G m ta fa wa th len ki pc be ma po ex (nI f) (nI t) wh sc re hu tx fg W) (by omega) (fun j hj => by
    rw [h4 j hj]
    by_cases y : f + (t + 1 - f) ≤ j
    · rw [if_pos y, dg_below h7 (by omega) (by omega), dg_below hdv (by omega) (by omega)]
    · rw [if_neg y])
  rw [show f + (t + 1 - f) - 1 = t by omega, show 800 - (f + (t + 1 - f)) = 799 - t by omega, Nat.mod_eq_zero_of_dvd h7, Nat.mul_zero, Nat.zero_div] at g
  exact ⟨W2, f2, t2, gCt.mk (by decide +kernel) (Nat.le_of_ble_eq_true rfl) rfl (b_Mo_twice_0 g), hW2⟩
def mU : Nat := wB ^ 745
theorem c_Mo_wholePart {W : Nat → Int32} {N f t : Nat} (h : mW W N f t) : gCt l G m_Mo_wholePart [.ref m] (wM G m ta fa wa th len ki pc be ma po ex (nI f) (nI t) wh sc re hu tx fg W) (some (.long (lN (min (N / mU) 10000000000000000)))) (wM G m ta fa wa th len ki pc be ma po ex (nI f) (nI t) wh sc re hu tx fg W) := by
  obtain ⟨h1, h2, h3, h4, h5, h6, h7, h8⟩ := h
  have h53 : (53 : Int32) ≤ nI f ↔ 53 ≤ f := nI_leI (a := 53) (by decide) (by omega)
  have h54 : (54 : Int32) ≤ nI f ↔ 54 ≤ f := nI_leI (a := 54) (by decide) (by omega)
  have d53 := dg_lt N 53
  have d54 := dg_lt N 54
  have e54 : dg N 54 = N / mU % wB := rfl
  have e53 : dg N 53 = N / mU / wB % wB := by
    unfold dg mU
    rw [Nat.div_div_eq_div_mul, ← Nat.pow_succ]
  have hw54 : W (Int32.toNatClampNeg (54 : Int32)) = nI (dg N 54) := h4 54 (by decide)
  have hw53 : W (Int32.toNatClampNeg (53 : Int32)) = nI (dg N 53) := h4 53 (by decide)
  refine gCt.mk (by decide +kernel) (Nat.le_of_ble_eq_true rfl) rfl (b_Mo_wholePart_0 (fun z => ?_) (fun z => ?_))
  · have z := h53.mp z
    have hlt : N / mU < wB * wB := by
      unfold mU
      rw [Nat.div_lt_iff_lt_mul (wBp _), ← Nat.pow_two, ← Nat.pow_add]
      exact Nat.lt_of_lt_of_le h5 (Nat.pow_le_pow_right wB_pos (by omega))
    rw [wB_v] at e54 e53 hlt
    refine b_Mo_wholePart_16 (fun _ y => b_Mo_wholePart_52 (show vp_in (nI 54) 800 from vp_in_nI (by decide) (by decide)) (b_Mo_wholePart_61 ⟨vl ?_, rfl⟩)) (fun _ _ => (show vp_in (nI 53) 800 from vp_in_nI (by decide) (by decide))) (fun _ _ => b_Mo_wholePart_52 (show vp_in (nI 54) 800 from vp_in_nI (by decide) (by decide)) (b_Mo_wholePart_61 ⟨vl ?_, rfl⟩)) (fun y => absurd (by decide) y)
    · have y := h54.mp y
      have hf : f = 54 := by omega
      have h0 := dg_above h5 (j := 53) (by omega) (by omega)
      rw [hw54, nI_l (by omega), show (0 : Int64) = lN 0 from rfl, lN_add]
      congr 1
      generalize N / mU = P at *
      omega
    · rw [hw54, hw53, nI_l (by omega), nI_l (by omega), show (100000000 : Int64) = lN 100000000 from rfl, lN_mul, lN_add]
      congr 1
      generalize N / mU = P at *
      omega
  · have z : ¬ 53 ≤ f := fun y => z (h53.mpr y)
    have h6 : dg N f ≠ 0 := h6.resolve_left (by omega)
    have hge : 10000000000000000 ≤ N / mU := by
      have q : wB ^ (799 - f) ≤ N := by
        rcases Nat.lt_or_ge N (wB ^ (799 - f)) with y | y
        · exact absurd (by unfold dg; rw [Nat.div_eq_of_lt y, Nat.zero_mod]) h6
        · exact y
      unfold mU
      rw [Nat.le_div_iff_mul_le (wBp _), show 10000000000000000 = wB ^ 2 from rfl, ← Nat.pow_add]
      exact Nat.le_trans (Nat.pow_le_pow_right wB_pos (by omega)) q
    rw [Nat.min_eq_right hge]
    exact b_Mo_wholePart_16 (fun y => absurd y (by decide)) (fun y => absurd y (by decide)) (fun y => absurd y (by decide)) (fun _ => b_Mo_wholePart_61 ⟨rfl, rfl⟩)
end Mo6
