/-! CONTRACTS: the model, 7: writeOut -/
def nv (ds : Nat → Nat) (f0 : Nat) : Nat → Nat
  | 0 => 0
  | i + 1 => nv ds f0 i * 10 + ds (f0 + i)
theorem nv_lt {ds : Nat → Nat} {f0 M : Nat} (h : ∀ j, j < M → ds j < 10) : ∀ i, f0 + i ≤ M → nv ds f0 i < 10 ^ i := by
  intro i
  induction i with
  | zero => intro _; exact Nat.one_pos
  | succ i ih =>
    intro hi
    have h1 := ih (by omega)
    have h2 := h (f0 + i) (by omega)
    rw [nv, Nat.pow_succ]
    omega
theorem wB10 (c : Nat) : wB ^ c = 10 ^ (8 * c) := by rw [Nat.pow_mul]; rfl
theorem wB10' : wB = 10 ^ 8 := rfl
theorem dg_set {q0 d e i s j : Nat} (hd : d < 10) (hi : i ≤ 799) (hs : s < 8) (he : e = 8 * (799 - i) + s) (hj : j ≤ 799) :
    dg (10 ^ e * (10 * q0) + d * 10 ^ e) j = if j = i then dg (10 ^ e * (10 * q0)) i + d * 10 ^ s else dg (10 ^ e * (10 * q0)) j := by
  have e0 : 10 ^ e * (10 * q0) + d * 10 ^ e = 10 ^ e * (10 * q0 + d) := by rw [Nat.mul_add, Nat.mul_comm d]
  rw [e0]
  unfold dg
  rw [wB10, wB10, wB10']
  by_cases z : j = i
  · rw [if_pos z]
    subst z
    have e1 : 10 ^ e = 10 ^ (8 * (799 - j)) * 10 ^ s := by rw [he, Nat.pow_add]
    rw [e1, Nat.mul_assoc, Nat.mul_assoc, Nat.mul_div_cancel_left _ (Nat.pow_pos (by decide)), Nat.mul_div_cancel_left _ (Nat.pow_pos (by decide))]
    have e2 : (10 : Nat) ^ 8 = 10 ^ s * (10 * 10 ^ (7 - s)) := by
      rw [← Nat.pow_succ', ← Nat.pow_add]
      congr 1
      omega
    rw [e2, Nat.mul_mod_mul_left, Nat.mul_mod_mul_left]
    have e3 : (10 * q0 + d) % (10 * 10 ^ (7 - s)) = (10 * q0) % (10 * 10 ^ (7 - s)) + d := by
      rw [Nat.mod_mul, Nat.mod_mul, show (10 * q0 + d) % 10 = d by omega, show (10 * q0 + d) / 10 = q0 by omega, show 10 * q0 % 10 = 0 by omega, show 10 * q0 / 10 = q0 by omega]
      omega
    rw [e3, Nat.mul_add, Nat.mul_comm (10 ^ s) d]
  · rw [if_neg z]
    rcases Nat.lt_or_gt_of_ne z with y | y
    · have e1 : 10 ^ (8 * (799 - j)) = 10 ^ e * (10 * 10 ^ (8 * (799 - j) - e - 1)) := by
        rw [← Nat.pow_succ', ← Nat.pow_add]
        congr 1
        omega
      rw [e1, Nat.mul_div_mul_left _ _ (Nat.pow_pos (by decide)), Nat.mul_div_mul_left _ _ (Nat.pow_pos (by decide)), ← Nat.div_div_eq_div_mul, ← Nat.div_div_eq_div_mul, show (10 * q0 + d) / 10 = q0 by omega, show 10 * q0 / 10 = q0 by omega]
    · have e1 : 10 ^ e = 10 ^ (8 * (799 - j)) * (10 ^ 8 * 10 ^ (e - 8 * (799 - j) - 8)) := by
        rw [← Nat.pow_add, ← Nat.pow_add]
        congr 1
        omega
      have key : ∀ Y, 10 ^ e * Y / 10 ^ (8 * (799 - j)) % 10 ^ 8 = 0 := by
        intro Y
        rw [e1, Nat.mul_assoc, Nat.mul_div_cancel_left _ (Nat.pow_pos (by decide)), Nat.mul_assoc, Nat.mul_mod_right]
      rw [key, key]
section Mo7
variable {l : Launch} {G : gG} {m ta fa wa : Nat} {th len ki pc be po : Int32} {ex : Int64} {wh sc : Int64} {re hu : Int32} {tx fg : Nat → Int32}
theorem a_Mo_woT {w0 : va_W} {W : Nat → Int32} {N f : Nat} {ma x1 x2 x3 x4 : Int32} (hW : ∀ j, j < 800 → W j = nI (dg N j)) :
    ∀ (d t : Nat), t - 54 ≤ d → 54 ≤ t → t ≤ 799 → wB ^ (799 - t) ∣ N → ∃ t2, 54 ≤ t2 ∧ t2 ≤ 799 ∧ wB ^ (799 - t2) ∣ N ∧ (t2 = 54 ∨ dg N t2 ≠ 0) ∧ gAt l G m_Mo_writeOut w0 none (wM G m ta fa wa th len ki pc be ma po ex (nI f) (nI t2) wh sc re hu tx fg W) 164 [(0, .ref m), (1, .int x1), (2, .int x2), (3, .int x3), (4, .int x4)] [] (wM G m ta fa wa th len ki pc be ma po ex (nI f) (nI t) wh sc re hu tx fg W) := by
  intro d
  induction d with
  | zero =>
    intro t hd ht ht2 hN
    have : t = 54 := by omega
    subst this
    have hge : nI 54 ≤ (54 : Int32) := by decide +kernel
    exact ⟨54, Nat.le_refl _, by decide, hN, Or.inl rfl, b_Mo_writeOut_164 (fun _ => b_Mo_writeOut_198 ⟨rfl, rfl⟩) (fun z => absurd hge z) (fun z => absurd hge z) (fun z => absurd hge z)⟩
  | succ d ih =>
    intro t hd ht ht2 hN
    rcases Nat.eq_or_lt_of_le ht with z | z
    · exact ih t (by omega) ht ht2 hN
    · have hlt : ¬ nI t ≤ (54 : Int32) := fun y => by have := (nI_leI (b := 54) (by omega) (by decide)).mp y; omega
      have hdl := dg_lt N t
      have h0 : W (Int32.toNatClampNeg (nI t)) = 0 ↔ dg N t = 0 := by
        rw [nI_clamp (by omega), hW t (by omega)]
        exact nI_eq (b := 0) (by omega) (by decide)
      by_cases y : dg N t = 0
      · obtain ⟨t2, p1, p2, p3, p4, g⟩ := ih (t - 1) (by omega) (by omega) (by omega) (dvd_prev hN z ht2 y)
        refine ⟨t2, p1, p2, p3, p4, b_Mo_writeOut_164 (fun v => absurd v hlt) (fun _ => vp_in_nI (by omega) (by decide)) (fun _ v => absurd (h0.mpr y) v) (fun _ _ => ?_)⟩
        have e1 : nI t - (1 : Int32) = nI (t - 1) := pk_sub (b := 1) (by omega)
        rw [e1]
        exact g
      · exact ⟨t, ht, ht2, hN, Or.inr y, b_Mo_writeOut_164 (fun v => absurd v hlt) (fun _ => vp_in_nI (by omega) (by decide)) (fun _ _ => b_Mo_writeOut_198 ⟨rfl, rfl⟩) (fun _ v => absurd (h0.mp v) y)⟩
theorem a_Mo_woF {w0 : va_W} {W : Nat → Int32} {N : Nat} {ma x1 x2 x3 x4 : Int32} (hW : ∀ j, j < 800 → W j = nI (dg N j)) :
    ∀ (d f : Nat), 54 - f ≤ d → f ≤ 54 → N < wB ^ (800 - f) → ∃ f2 t2, mW W N f2 t2 ∧ gAt l G m_Mo_writeOut w0 none (wM G m ta fa wa th len ki pc be ma po ex (nI f2) (nI t2) wh sc re hu tx fg W) 130 [(0, .ref m), (1, .int x1), (2, .int x2), (3, .int x3), (4, .int x4)] [] (wM G m ta fa wa th len ki pc be ma po ex (nI f) (nI 799) wh sc re hu tx fg W) := by
  have fin : ∀ f, ∃ t2, 54 ≤ t2 ∧ t2 ≤ 799 ∧ wB ^ (799 - t2) ∣ N ∧ (t2 = 54 ∨ dg N t2 ≠ 0) ∧ gAt l G m_Mo_writeOut w0 none (wM G m ta fa wa th len ki pc be ma po ex (nI f) (nI t2) wh sc re hu tx fg W) 164 [(0, .ref m), (1, .int x1), (2, .int x2), (3, .int x3), (4, .int x4)] [] (wM G m ta fa wa th len ki pc be ma po ex (nI f) (nI 799) wh sc re hu tx fg W) :=
    fun f => a_Mo_woT hW 800 799 (by decide) (by decide) (by decide) (by rw [Nat.sub_self, Nat.pow_zero]; exact Nat.one_dvd _)
  intro d
  induction d with
  | zero =>
    intro f hd hf hN
    have : f = 54 := by omega
    subst this
    have hge : (54 : Int32) ≤ nI 54 := by decide +kernel
    obtain ⟨t2, p1, p2, p3, p4, g⟩ := fin 54
    exact ⟨54, t2, ⟨Nat.le_refl _, p1, p2, hW, hN, Or.inl rfl, p3, p4⟩, b_Mo_writeOut_130 (fun _ => g) (fun z => absurd hge z) (fun z => absurd hge z) (fun z => absurd hge z)⟩
  | succ d ih =>
    intro f hd hf hN
    rcases Nat.eq_or_lt_of_le hf with z | z
    · exact ih f (by omega) hf hN
    · have hlt : ¬ (54 : Int32) ≤ nI f := fun y => by have := (nI_leI (a := 54) (by decide) (by omega)).mp y; omega
      have hdl := dg_lt N f
      have h0 : W (Int32.toNatClampNeg (nI f)) = 0 ↔ dg N f = 0 := by
        rw [nI_clamp (by omega), hW f (by omega)]
        exact nI_eq (b := 0) (by omega) (by decide)
      by_cases y : dg N f = 0
      · obtain ⟨f2, t2, p, g⟩ := ih (f + 1) (by omega) (by omega) (lt_next hN z y)
        refine ⟨f2, t2, p, b_Mo_writeOut_130 (fun v => absurd v hlt) (fun _ => vp_in_nI (by omega) (by decide)) (fun _ v => absurd (h0.mpr y) v) (fun _ _ => ?_)⟩
        have e1 : nI f + (1 : Int32) = nI (f + 1) := nI_1 f
        rw [e1]
        exact g
      · obtain ⟨t2, p1, p2, p3, p4, g⟩ := fin f
        exact ⟨f, t2, ⟨hf, p1, p2, hW, hN, Or.inr y, p3, p4⟩, b_Mo_writeOut_130 (fun v => absurd v hlt) (fun _ => vp_in_nI (by omega) (by decide)) (fun _ _ => g) (fun _ v => absurd (h0.mp v) y)⟩
theorem c_Mo_writeOut {ds : Nat → Nat} {f0 M : Nat} {pl : Int} {fm to : Int32} {wd : Nat → Int32} (hM : M ≤ 4096) (hf0 : f0 ≤ M) (hds : ∀ j, j < M → ds j < 10) (hfg : ∀ j, j < M → fg j = nI (ds j)) (h1 : -400 ≤ pl) (h2 : pl ≤ 400) :
    ∃ W2 f t, gCt l G m_Mo_writeOut [.ref m, .int (nI f0), .int (zI pl)] (wM G m ta fa wa th len ki pc be (nI M) po ex fm to wh sc re hu tx fg wd) none (wM G m ta fa wa th len ki pc be (nI M) po ex (nI f) (nI t) wh sc re hu tx fg W2) ∧ mW W2 (nv ds f0 (M - f0) * 10 ^ ((5960 + pl).toNat - (M - f0))) f t := by
  obtain ⟨q, hq⟩ : ∃ q : Nat, (5960 + pl).toNat = q := ⟨_, rfl⟩
  rw [hq]
  have hq1 : 5560 ≤ q := by omega
  have hq2 : q ≤ 6360 := by omega
  have hpl : pl = (q : Int) - 5960 := by omega
  -- digits, one after another
  have L2 : ∀ (d i : Nat) (W : Nat → Int32) (w0 : va_W), i + d = M - f0 → (∀ j, j < 800 → W j = nI (dg (nv ds f0 i * 10 ^ (q - i)) j)) →
      ∃ W2 f t, gAt l G m_Mo_writeOut w0 none (wM G m ta fa wa th len ki pc be (nI M) po ex (nI f) (nI t) wh sc re hu tx fg W2) 29 [(0, .ref m), (1, .int (nI f0)), (2, .int (zI pl)), (3, .int (439 : Int32)), (4, .int (nI (f0 + i)))] [] (wM G m ta fa wa th len ki pc be (nI M) po ex fm to wh sc re hu tx fg W) ∧ mW W2 (nv ds f0 (M - f0) * 10 ^ (q - (M - f0))) f t := by
    intro d
    induction d with
    | zero =>
      intro i W w0 hi hW
      have hi : i = M - f0 := by omega
      subst hi
      have hN : nv ds f0 (M - f0) * 10 ^ (q - (M - f0)) < wB ^ (800 - 0) := by
        have g1 := nv_lt (f0 := f0) hds (M - f0) (by omega)
        have g2 : nv ds f0 (M - f0) * 10 ^ (q - (M - f0)) < 10 ^ (M - f0) * 10 ^ (q - (M - f0)) := (Nat.mul_lt_mul_right (Nat.pow_pos (by decide))).mpr g1
        rw [← Nat.pow_add] at g2
        rw [wB10]
        exact Nat.lt_of_lt_of_le g2 (Nat.pow_le_pow_right (by decide) (by omega))
      obtain ⟨f, t, hm, g⟩ := a_Mo_woF (l := l) (G := G) (m := m) (ta := ta) (fa := fa) (wa := wa) (th := th) (len := len) (ki := ki) (pc := pc) (be := be) (po := po) (ex := ex) (wh := wh) (sc := sc) (re := re) (hu := hu) (tx := tx) (fg := fg) (w0 := w0) (ma := nI M) (x1 := nI f0) (x2 := zI pl) (x3 := 439) (x4 := nI (f0 + (M - f0))) hW 54 0 (by decide) (by decide) hN
      have hge : nI M ≤ nI (f0 + (M - f0)) := nI_le (by omega) (by omega)
      exact ⟨W, f, t, b_Mo_writeOut_29 (fun _ => g) (fun z => absurd hge z), hm⟩
    | succ d ih =>
      intro i W w0 hi hW
      have hlt : ¬ nI M ≤ nI (f0 + i) := fun y => by have := (nI_leI (by omega) (by omega)).mp y; omega
      have hd10 := hds (f0 + i) (by omega)
      have hat : 6400 - q + i < 6400 := by omega
      have eat : (((439 : Int32) - zI pl) + (1 : Int32)) + nI (f0 + i) - nI f0 = nI (6400 - q + i) := by
        rw [← zI_nat, ← zI_nat, ← zI_nat, show (439 : Int32) = zI 439 from rfl, show (1 : Int32) = zI 1 from rfl, zI_sub, zI_add, zI_add, zI_sub]
        congr 1
        omega
      generalize hA : 6400 - q + i = A at *
      have e8 : nI A / (8 : Int32) = nI (A / 8) := pk_div (d := 8) (by omega) (by decide) (by decide)
      have r8 : nI A - nI A / (8 : Int32) * (8 : Int32) = nI (A % 8) := pk_rem (d := 8) (by omega) (by decide) (by decide)
      have hq0 : nv ds f0 i * 10 ^ (q - i) = 10 ^ (q - (i + 1)) * (10 * nv ds f0 i) := by
        have : 10 ^ (q - i) = 10 ^ (q - (i + 1)) * 10 := by rw [← Nat.pow_succ]; congr 1; omega
        rw [this, Nat.mul_comm, Nat.mul_assoc]
      have hnx : nv ds f0 (i + 1) * 10 ^ (q - (i + 1)) = 10 ^ (q - (i + 1)) * (10 * nv ds f0 i) + ds (f0 + i) * 10 ^ (q - (i + 1)) := by
        rw [nv, Nat.add_mul, Nat.mul_comm (nv ds f0 i * 10), Nat.mul_comm (nv ds f0 i) 10]
      have hset := fun j (hj : j ≤ 799) => dg_set (q0 := nv ds f0 i) (d := ds (f0 + i)) (e := q - (i + 1)) (i := A / 8) (s := 7 - A % 8) (j := j) hd10 (by omega) (by omega) (by omega) hj
      have hin : A / 8 < 800 := by omega
      obtain ⟨W2, f, t, g, hm⟩ := ih (i + 1) (upd W (A / 8) (nI (dg (nv ds f0 (i + 1) * 10 ^ (q - (i + 1))) (A / 8)))) w0 (by omega) (fun j hj => by
        by_cases y : j = A / 8
        · rw [y, upd_self]
        · rw [upd_ne y, hW j hj, hnx, hset j (by omega), if_neg y, hq0])
      have L3 : ∀ (a : Nat), a ≤ 7 - A % 8 → gAt l G m_Mo_writeOut w0 none (wM G m ta fa wa th len ki pc be (nI M) po ex (nI f) (nI t) wh sc re hu tx fg W2) 67 [(0, .ref m), (1, .int (nI f0)), (2, .int (zI pl)), (3, .int (439 : Int32)), (4, .int (nI (f0 + i))), (5, .int (nI A)), (6, .int (nI (A / 8))), (7, .int (nI (10 ^ (7 - A % 8 - a)))), (8, .int (nI (7 - a)))] [] (wM G m ta fa wa th len ki pc be (nI M) po ex fm to wh sc re hu tx fg W) := by
        intro a
        induction a with
        | zero =>
          intro _
          have hge : (7 : Int32) ≤ nI (7 - 0) := by decide +kernel
          refine b_Mo_writeOut_67 (fun _ => vp_in_nI hin (by decide)) (fun _ => vp_in_nI (by omega) (by decide)) (fun _ => vp_in_nI hin (by decide)) (fun _ => ?_) (fun z => absurd hge z)
          have e1 : nI (f0 + i) + (1 : Int32) = nI (f0 + (i + 1)) := nI_1 (f0 + i)
          have ev : W (A / 8) + fg (f0 + i) * nI (10 ^ (7 - A % 8 - 0)) = nI (dg (nv ds f0 (i + 1) * 10 ^ (q - (i + 1))) (A / 8)) := by
            rw [hW (A / 8) hin, hfg (f0 + i) (by omega), pk_mul, nI_add, Nat.sub_zero, hnx, hset (A / 8) (by omega), if_pos rfl, hq0]
          rw [nI_clamp (by omega), nI_clamp (by omega), e1, ev]
          exact g
        | succ a ih2 =>
          intro ha
          have hlt7 : ¬ (7 : Int32) ≤ nI (7 - (a + 1)) := fun y => by have := (nI_leI (a := 7) (by decide) (by omega)).mp y; omega
          refine b_Mo_writeOut_67 (fun z => absurd z hlt7) (fun z => absurd z hlt7) (fun z => absurd z hlt7) (fun z => absurd z hlt7) (fun _ => ?_)
          have e1 : nI (7 - (a + 1)) + (1 : Int32) = nI (7 - a) := by
            have : nI (7 - (a + 1)) + (1 : Int32) = nI (7 - (a + 1) + 1) := nI_1 _
            rw [this]
            congr 1
            omega
          have e2 : nI (10 ^ (7 - A % 8 - (a + 1))) * (10 : Int32) = nI (10 ^ (7 - A % 8 - a)) := by
            rw [show (10 : Int32) = nI 10 from rfl, pk_mul, ← Nat.pow_succ]
            congr 2
            omega
          rw [e1, e2]
          exact ih2 (by omega)
      refine ⟨W2, f, t, b_Mo_writeOut_29 (fun z => absurd z hlt) (fun _ => ?_), hm⟩
      rw [eat, r8, e8]
      have := L3 (7 - A % 8) (Nat.le_refl _)
      rw [Nat.sub_self, Nat.pow_zero, show 7 - (7 - A % 8) = A % 8 by omega] at this
      exact this
  -- all words 0
  have L1 : ∀ (d k : Nat) (W : Nat → Int32) (w0 : va_W), k + d = 800 → (∀ j, j < k → W j = 0) →
      ∃ W2 f t, gAt l G m_Mo_writeOut w0 none (wM G m ta fa wa th len ki pc be (nI M) po ex (nI f) (nI t) wh sc re hu tx fg W2) 2 [(0, .ref m), (1, .int (nI f0)), (2, .int (zI pl)), (3, .int (nI k))] [] (wM G m ta fa wa th len ki pc be (nI M) po ex fm to wh sc re hu tx fg W) ∧ mW W2 (nv ds f0 (M - f0) * 10 ^ (q - (M - f0))) f t := by
    intro d
    induction d with
    | zero =>
      intro k W w0 hk hW
      have : k = 800 := by omega
      subst this
      obtain ⟨W2, f, t, g, hm⟩ := L2 (M - f0) 0 W w0 (by omega) (fun j hj => by
        rw [hW j hj]
        show (0 : Int32) = nI (dg (0 * _) j)
        unfold dg
        rw [Nat.zero_mul, Nat.zero_div, Nat.zero_mod]
        rfl)
      have hge : (800 : Int32) ≤ nI 800 := by decide +kernel
      exact ⟨W2, f, t, b_Mo_writeOut_2 (fun _ => g) (fun z => absurd hge z) (fun z => absurd hge z), hm⟩
    | succ d ih =>
      intro k W w0 hk hW
      have hlt : ¬ (800 : Int32) ≤ nI k := fun y => by have := (nI_leI (a := 800) (by decide) (by omega)).mp y; omega
      obtain ⟨W2, f, t, g, hm⟩ := ih (k + 1) (upd W k 0) w0 (by omega) (fun j hj => by
        by_cases y : j = k
        · rw [y, upd_self]
        · rw [upd_ne y]; exact hW j (by omega))
      refine ⟨W2, f, t, b_Mo_writeOut_2 (fun z => absurd z hlt) (fun _ => vp_in_nI (by omega) (by decide)) (fun _ => ?_), hm⟩
      have e1 : nI k + (1 : Int32) = nI (k + 1) := nI_1 k
      rw [e1, nI_clamp (by omega)]
      exact g
  obtain ⟨W2, f, t, g, hm⟩ := L1 800 0 wd (wM G m ta fa wa th len ki pc be (nI M) po ex fm to wh sc re hu tx fg wd) rfl (fun j hj => absurd hj (Nat.not_lt_zero _))
  exact ⟨W2, f, t, gCt.mk (by decide +kernel) (Nat.le_of_ble_eq_true rfl) rfl (b_Mo_writeOut_0 g), hm⟩
end Mo7
