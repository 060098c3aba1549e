/-! CONTRACTS: the model, 5: its words -/
def wB : Nat := 100000000
theorem wB_v : wB = 100000000 := rfl
theorem wB_pos : 0 < wB := by decide
theorem wBp (k : Nat) : 0 < wB ^ k := Nat.pow_pos wB_pos
/-- the word at j of N -/
def dg (N j : Nat) : Nat := N / wB ^ (799 - j) % wB
theorem dg_lt (N j : Nat) : dg N j < 100000000 := Nat.mod_lt _ wB_pos
def mW (W : Nat → Int32) (N f t : Nat) : Prop :=
  f ≤ 54 ∧ 54 ≤ t ∧ t ≤ 799 ∧ (∀ j, j < 800 → W j = nI (dg N j)) ∧ N < wB ^ (800 - f) ∧ (f = 54 ∨ dg N f ≠ 0) ∧ wB ^ (799 - t) ∣ N ∧ (t = 54 ∨ dg N t ≠ 0)
theorem dg_above {N f j : Nat} (h : N < wB ^ (800 - f)) (hj : j < f) (hf : f ≤ 799) : dg N j = 0 := by
  unfold dg
  have : N < wB ^ (799 - j) := Nat.lt_of_lt_of_le h (Nat.pow_le_pow_right wB_pos (by omega))
  rw [Nat.div_eq_of_lt this, Nat.zero_mod]
theorem dg_below {N t j : Nat} (h : wB ^ (799 - t) ∣ N) (hj : t < j) (hj2 : j ≤ 799) : dg N j = 0 := by
  obtain ⟨q, rfl⟩ := h
  unfold dg
  have e : wB ^ (799 - t) = wB ^ (799 - j) * wB ^ (j - t) := by rw [← Nat.pow_add]; congr 1; omega
  have e2 : wB ^ (j - t) = wB * wB ^ (j - t - 1) := by rw [Nat.mul_comm, ← Nat.pow_succ]; congr 1; omega
  rw [e, e2, Nat.mul_assoc, Nat.mul_div_cancel_left _ (wBp _), Nat.mul_assoc, Nat.mul_mod_right]
/-- from smaller: the highest word gone -/
theorem lt_next {N f : Nat} (h : N < wB ^ (800 - f)) (hf : f < 54) (h0 : dg N f = 0) : N < wB ^ (800 - (f + 1)) := by
  have e : wB ^ (800 - f) = wB ^ (799 - f) * wB := by rw [← Nat.pow_succ]; congr 1; omega
  have h1 : N / wB ^ (799 - f) < wB := by
    rw [Nat.div_lt_iff_lt_mul (wBp _), Nat.mul_comm, ← e]
    exact h
  unfold dg at h0
  rw [Nat.mod_eq_of_lt h1] at h0
  have := Nat.lt_of_div_eq_zero (wBp _) h0
  rw [show 800 - (f + 1) = 799 - f by omega]
  exact this
theorem dvd_prev {N t : Nat} (h : wB ^ (799 - t) ∣ N) (ht : 54 < t) (ht2 : t ≤ 799) (h0 : dg N t = 0) : wB ^ (799 - (t - 1)) ∣ N := by
  obtain ⟨q, rfl⟩ := h
  unfold dg at h0
  rw [Nat.mul_div_cancel_left _ (wBp _)] at h0
  obtain ⟨r, hr⟩ := Nat.dvd_of_mod_eq_zero h0
  refine ⟨r, ?_⟩
  rw [hr, ← Nat.mul_assoc, ← Nat.pow_succ]
  congr 2
  omega
section Mo5
variable {l : Launch} {G : gG} {m ta fa wa : Nat} {th len ki pc be ma po : Int32} {ex : Int64} {wh sc : Int64} {re hu : Int32} {tx fg : Nat → Int32}
/-- the last loops of half and writeOut: from goes on over empty words -/
theorem a_Mo_halfF {w0 : va_W} {W : Nat → Int32} {N t : Nat} {x1 x2 : Int32} (hW : ∀ j, j < 800 → W j = nI (dg N j)) :
    ∀ (d f : Nat), 54 - f ≤ d → f ≤ 54 → N < wB ^ (800 - f) → ∃ f2, f2 ≤ 54 ∧ N < wB ^ (800 - f2) ∧ (f2 = 54 ∨ dg N f2 ≠ 0) ∧ gAt l G m_Mo_half w0 none (wM G m ta fa wa th len ki pc be ma po ex (nI f2) (nI t) wh sc re hu tx fg W) 71 [(0, .ref m), (1, .int x1), (2, .int x2)] [] (wM G m ta fa wa th len ki pc be ma po ex (nI f) (nI t) wh sc re hu tx fg W) := by
  intro d
  induction d with
  | zero =>
    intro f hd hf hN
    have : f = 54 := by omega
    subst this
    have hge : (54 : Int32) ≤ nI 54 := by decide +kernel
    exact ⟨54, Nat.le_refl _, hN, Or.inl rfl, b_Mo_half_71 (fun _ => b_Mo_half_105 ⟨rfl, rfl⟩) (fun z => absurd hge z) (fun z => absurd hge z) (fun z => absurd hge z)⟩
  | succ d ih =>
    intro f hd hf hN
    rcases Nat.eq_or_lt_of_le hf with z | z
    · exact ih f (by omega) hf hN
    · have hlt : ¬ (54 : Int32) ≤ nI f := fun y => by have := (nI_leI (a := 54) (by decide) (by omega)).mp y; omega
      have hdl := dg_lt N f
      have h0 : W (Int32.toNatClampNeg (nI f)) = 0 ↔ dg N f = 0 := by
        rw [nI_clamp (by omega), hW f (by omega)]
        exact nI_eq (b := 0) (by omega) (by decide)
      by_cases y : dg N f = 0
      · obtain ⟨f2, p1, p2, p3, g⟩ := ih (f + 1) (by omega) (by omega) (lt_next hN z y)
        refine ⟨f2, p1, p2, p3, b_Mo_half_71 (fun v => absurd v hlt) (fun _ => vp_in_nI (by omega) (by decide)) (fun _ v => absurd (h0.mpr y) v) (fun _ _ => ?_)⟩
        have e1 : nI f + (1 : Int32) = nI (f + 1) := nI_1 f
        rw [e1]
        exact g
      · exact ⟨f, hf, hN, Or.inr y, b_Mo_half_71 (fun v => absurd v hlt) (fun _ => vp_in_nI (by omega) (by decide)) (fun _ _ => b_Mo_half_105 ⟨rfl, rfl⟩) (fun _ v => absurd (h0.mp v) y)⟩
theorem half_dg (N c : Nat) : (N / wB ^ c % wB + N / wB ^ (c + 1) % 2 * wB) / 2 = N / 2 / wB ^ c % wB ∧ (N / wB ^ c % wB + N / wB ^ (c + 1) % 2 * wB) % 2 = N / wB ^ c % 2 := by
  have e1 : N / 2 / wB ^ c = N / wB ^ c / 2 := by rw [Nat.div_div_eq_div_mul, Nat.div_div_eq_div_mul, Nat.mul_comm]
  have e2 : N / wB ^ (c + 1) = N / wB ^ c / wB := by rw [Nat.pow_succ, Nat.div_div_eq_div_mul]
  rw [e1, e2]
  generalize N / wB ^ c = P
  rw [wB_v]
  omega
theorem c_Mo_half {W : Nat → Int32} {N f t : Nat} (h : mW W N f t) (ht : t ≤ 798) :
    ∃ W2 f2 t2, gCt l G m_Mo_half [.ref m] (wM G m ta fa wa th len ki pc be ma po ex (nI f) (nI t) wh sc re hu tx fg W) none (wM G m ta fa wa th len ki pc be ma po ex (nI f2) (nI t2) wh sc re hu tx fg W2) ∧ mW W2 (N / 2) f2 t2 ∧ N % 2 = 0 := by
  obtain ⟨h1, h2, h3, h4, h5, h6, h7, h8⟩ := h
  have hev : N % 2 = 0 := by
    obtain ⟨q, rfl⟩ := h7
    have e : wB ^ (799 - t) = wB * wB ^ (798 - t) := by rw [Nat.mul_comm, ← Nat.pow_succ]; congr 1; omega
    rw [e, wB_v, Nat.mul_assoc]
    omega
  have hN2 : N / 2 < wB ^ (800 - f) := Nat.lt_of_le_of_lt (Nat.div_le_self _ _) h5
  -- the tail: from here all words but those behind t are those of N / 2
  have fin : ∀ (V : Nat → Int32) (w0 : va_W) (x2 : Int32), nI t < x2 → (∀ j, j < 800 → V j = nI (if j ≤ t then dg (N / 2) j else dg N j)) →
      ∃ W2 f2 t2, gAt l G m_Mo_half w0 none (wM G m ta fa wa th len ki pc be ma po ex (nI f2) (nI t2) wh sc re hu tx fg W2) 7 [(0, .ref m), (1, .int (nI (N / wB ^ (799 - t) % 2))), (2, .int x2)] [] (wM G m ta fa wa th len ki pc be ma po ex (nI f) (nI t) wh sc re hu tx fg V) ∧ mW W2 (N / 2) f2 t2 := by
    intro V w0 x2 hx hV
    have hdgb : ∀ j, t < j → j < 800 → dg N j = 0 := fun j a b => dg_below h7 a (by omega)
    have hnx : dg (N / 2) (t + 1) = N / wB ^ (799 - t) % 2 * 50000000 := by
      have := (half_dg N (798 - t)).1
      unfold dg
      rw [show 799 - (t + 1) = 798 - t by omega, ← this, show 798 - t + 1 = 799 - t by omega]
      have h0 := hdgb (t + 1) (by omega) (by omega)
      unfold dg at h0
      rw [show 799 - (t + 1) = 798 - t by omega] at h0
      rw [h0, wB_v]
      omega
    by_cases zc : N / wB ^ (799 - t) % 2 = 0
    · have hdv : wB ^ (799 - t) ∣ N / 2 := by
        obtain ⟨q, rfl⟩ := h7
        rw [Nat.mul_div_cancel_left _ (wBp _)] at zc
        obtain ⟨r, rfl⟩ := Nat.dvd_of_mod_eq_zero zc
        exact ⟨r, by rw [Nat.mul_left_comm, Nat.mul_div_cancel_left _ (by decide)]⟩
      have hV2 : ∀ j, j < 800 → V j = nI (dg (N / 2) j) := fun j hj => by
        rw [hV j hj]
        by_cases y : j ≤ t
        · rw [if_pos y]
        · rw [if_neg y, hdgb j (by omega) hj, dg_below hdv (by omega) (by omega)]
      obtain ⟨f2, p1, p2, p3, g⟩ := a_Mo_halfF (l := l) (G := G) (m := m) (ta := ta) (fa := fa) (wa := wa) (th := th) (len := len) (ki := ki) (pc := pc) (be := be) (ma := ma) (po := po) (ex := ex) (wh := wh) (sc := sc) (re := re) (hu := hu) (tx := tx) (fg := fg) (w0 := w0) (t := t) (x1 := nI (N / wB ^ (799 - t) % 2)) (x2 := x2) hV2 54 f (by omega) h1 hN2
      have hle : nI (N / wB ^ (799 - t) % 2) ≤ 0 := by rw [zc]; decide
      refine ⟨V, f2, t, b_Mo_half_7 (fun _ _ => g) (fun _ y => absurd hle y) (fun _ y => absurd hle y) (fun y => absurd hx y) (fun y => absurd hx y) (fun y => absurd hx y), p1, h2, h3, hV2, p2, p3, hdv, ?_⟩
      rcases Nat.eq_or_lt_of_le h2 with y | y
      · exact Or.inl y.symm
      · right
        have h8 : dg N t ≠ 0 := h8.resolve_left (by omega)
        intro y2
        have := (half_dg N (799 - t)).1
        unfold dg at y2 h8
        rw [y2] at this
        have hp := (half_dg N (799 - t)).2
        rw [zc] at hp
        generalize N / wB ^ (799 - t) % wB = u at *
        generalize N / wB ^ (799 - t + 1) % 2 = v at *
        rw [wB_v] at *
        omega
    · have zc1 : N / wB ^ (799 - t) % 2 = 1 := by omega
      rw [zc1, Nat.one_mul] at hnx
      have hdv : wB ^ (799 - (t + 1)) ∣ N / 2 := by
        obtain ⟨q, rfl⟩ := h7
        have e : wB ^ (799 - t) = 2 * (50000000 * wB ^ (798 - t)) := by
          rw [← Nat.mul_assoc, show 2 * 50000000 = wB from rfl, Nat.mul_comm, ← Nat.pow_succ]
          congr 1
          omega
        refine ⟨50000000 * q, ?_⟩
        rw [e, Nat.mul_assoc, Nat.mul_div_cancel_left _ (by decide), show 799 - (t + 1) = 798 - t by omega, Nat.mul_comm 50000000 (wB ^ (798 - t)), Nat.mul_assoc]
      have hV2 : ∀ j, j < 800 → upd V (t + 1) (50000000 : Int32) j = nI (dg (N / 2) j) := fun j hj => by
        by_cases y : j = t + 1
        · rw [y, upd_self, hnx]; rfl
        · rw [upd_ne y, hV j hj]
          by_cases x : j ≤ t
          · rw [if_pos x]
          · rw [if_neg x, hdgb j (by omega) hj, dg_below hdv (by omega) (by omega)]
      obtain ⟨f2, p1, p2, p3, g⟩ := a_Mo_halfF (l := l) (G := G) (m := m) (ta := ta) (fa := fa) (wa := wa) (th := th) (len := len) (ki := ki) (pc := pc) (be := be) (ma := ma) (po := po) (ex := ex) (wh := wh) (sc := sc) (re := re) (hu := hu) (tx := tx) (fg := fg) (w0 := w0) (t := t + 1) (x1 := nI (N / wB ^ (799 - t) % 2)) (x2 := x2) hV2 54 f (by omega) h1 hN2
      have hle : ¬ nI (N / wB ^ (799 - t) % 2) ≤ 0 := by rw [zc1]; decide
      have e1 : nI t + (1 : Int32) = nI (t + 1) := nI_1 t
      refine ⟨upd V (t + 1) (50000000 : Int32), f2, t + 1, b_Mo_half_7 (fun _ y => absurd y hle) (fun _ _ => by rw [e1]; exact vp_in_nI (by omega) (by decide)) (fun _ _ => ?_) (fun y => absurd hx y) (fun y => absurd hx y) (fun y => absurd hx y), p1, by omega, by omega, hV2, p2, p3, hdv, Or.inr (by rw [hnx]; decide)⟩
      rw [e1, nI_clamp (by omega)]
      exact g
  have loop : ∀ (d k : Nat) (V : Nat → Int32) (w0 : va_W), t + 1 - k ≤ d → f ≤ k → k ≤ t + 1 → (∀ j, j < 800 → V j = nI (if j < k then dg (N / 2) j else dg N j)) →
      ∃ W2 f2 t2, gAt l G m_Mo_half w0 none (wM G m ta fa wa th len ki pc be ma po ex (nI f2) (nI t2) wh sc re hu tx fg W2) 7 [(0, .ref m), (1, .int (nI (N / wB ^ (800 - k) % 2))), (2, .int (nI k))] [] (wM G m ta fa wa th len ki pc be ma po ex (nI f) (nI t) wh sc re hu tx fg V) ∧ mW W2 (N / 2) f2 t2 := by
    intro d
    induction d with
    | zero =>
      intro k V w0 hd hk1 hk2 hV
      have : k = t + 1 := by omega
      subst this
      have := fin V w0 (nI (t + 1)) (nI_lt (by omega) (by omega)) (fun j hj => by
        rw [hV j hj]
        by_cases y : j ≤ t
        · rw [if_pos (by omega), if_pos y]
        · rw [if_neg (by omega), if_neg y])
      rw [show 800 - (t + 1) = 799 - t by omega]
      exact this
    | succ d ih =>
      intro k V w0 hd hk1 hk2 hV
      rcases Nat.eq_or_lt_of_le hk2 with z | z
      · exact ih k V w0 (by omega) hk1 hk2 hV
      · have hlt : ¬ nI t < nI k := fun y => by have := (nI_ltI (by omega) (by omega)).mp y; omega
        have hdl := dg_lt N k
        have hc2 : N / wB ^ (800 - k) % 2 < 2 := Nat.mod_lt _ (by decide)
        have hh := half_dg N (799 - k)
        rw [show 799 - k + 1 = 800 - k by omega] at hh
        have ev : V (Int32.toNatClampNeg (nI k)) + (nI (N / wB ^ (800 - k) % 2) * (100000000 : Int32)) = nI (dg N k + N / wB ^ (800 - k) % 2 * 100000000) := by
          rw [nI_clamp (by omega), hV k (by omega), if_neg (by omega), show (100000000 : Int32) = nI 100000000 from rfl, pk_mul, nI_add]
        have hb : dg N k + N / wB ^ (800 - k) % 2 * 100000000 < 2 ^ 31 := by omega
        obtain ⟨W2, f2, t2, g, hW2⟩ := ih (k + 1) (upd V k (nI (dg (N / 2) k))) w0 (by omega) (by omega) (by omega) (fun j hj => by
          by_cases y : j = k
          · rw [y, upd_self, if_pos (by omega)]
          · rw [upd_ne y, hV j hj]
            by_cases x : j < k
            · rw [if_pos x, if_pos (by omega)]
            · rw [if_neg x, if_neg (by omega)])
        refine ⟨W2, f2, t2, b_Mo_half_7 (fun y => absurd y hlt) (fun y => absurd y hlt) (fun y => absurd y hlt) (fun _ => vp_in_nI (by omega) (by decide)) (fun _ => vp_in_nI (by omega) (by decide)) (fun _ => ?_), hW2⟩
        rw [ev, show (2 : Int32) = nI 2 from rfl, pk_rem hb (by decide) (by decide), pk_div hb (by decide) (by decide), nI_clamp (by omega)]
        have e1 : nI k + (1 : Int32) = nI (k + 1) := nI_1 k
        have q1 : (dg N k + N / wB ^ (800 - k) % 2 * 100000000) / 2 = dg (N / 2) k := hh.1
        have q2 : (dg N k + N / wB ^ (800 - k) % 2 * 100000000) % 2 = N / wB ^ (800 - (k + 1)) % 2 := by
          rw [show 800 - (k + 1) = 799 - k by omega]
          exact hh.2
        rw [e1, q1, q2]
        exact g
  obtain ⟨W2, f2, t2, g, hW2⟩ := loop (t + 1) f W (wM G m ta fa wa th len ki pc be ma po ex (nI f) (nI t) wh sc re hu tx fg W) (by omega) (Nat.le_refl _) (by omega) (fun j hj => by
    rw [h4 j hj]
    by_cases y : j < f
    · rw [if_pos y, dg_above h5 y (by omega), dg_above hN2 y (by omega)]
    · rw [if_neg y])
  rw [Nat.div_eq_of_lt h5, Nat.zero_mod] at g
  exact ⟨W2, f2, t2, gCt.mk (by decide +kernel) (Nat.le_of_ble_eq_true rfl) rfl (b_Mo_half_0 g), hW2, hev⟩
end Mo5
