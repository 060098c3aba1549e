/-! CONTRACTS: the model, 3: words, exponents, numbers, the scan -/
theorem sar_pos {a d : Nat} {D : Int64} (hD : (D.toBitVec.smod 64).toNat = d) (h : a < 2 ^ 63) : lN a >>> D = lN (a / 2 ^ d) := by
  have hd : a / 2 ^ d ≤ a := Nat.div_le_self _ _
  apply Int64.toInt_inj.mp
  have e : (lN a >>> D).toInt = (lN a).toInt >>> d := by
    rw [← hD]
    exact BitVec.toInt_sshiftRight ..
  rw [e, Int.shiftRight_eq_div_pow, pf_lI h, pf_lI (by omega)]
  rfl
def wdV (i : Nat) : Nat := if i = 0 then 5136718 else 8751735898823355977
theorem wdV_ok : ∀ i, i < 2 → wdV i < 2 ^ 63 ∧ (∀ j, j < wLen i → wdV i / 2 ^ (8 * j) % 256 = wdC i j ∧ wdV i / 2 ^ (8 * j) ≠ 0) ∧ wdV i / 2 ^ (8 * wLen i) = 0 := by decide +kernel
def satM : Nat → List Nat → Nat
  | e, [] => e
  | e, d :: L => satM (if e < 1000000000 then 10 * e + d else e) L
theorem satM_le {ch : Nat → Nat} : ∀ (L : List Nat) (p e : Nat), exL ch p L → e ≤ 10000000000 → satM e L ≤ 10000000000 := by
  intro L
  induction L with
  | nil => intro p e _ h; exact h
  | cons d L ih =>
    intro p e hL h
    have := s_dv10 hL.1
    refine ih (p + 1) _ hL.2 ?_
    split <;> omega
def eMz (ch : Nat → Nat) (p1 : Nat) (es : List Nat) : Int := if ch (p1 + 1) = 45 then -(satM 0 es : Nat) else (satM 0 es : Nat)
section Mo3
variable {l : Launch} {G : gG} {m ta fa wa : Nat} {th len ki be ma po : Int32} {ex : Int64} {fm to : Int32} {wh sc : Int64} {re hu : Int32} {tx fg wd : Nat → Int32} {ch : Nat → Nat} {n p : Nat}
theorem c_Mo_spells (T : tOk tx len ch n) {i mm : Nat} {ok : Bool} (hi : i < 2) (hp : p ≤ n) (hm : p + mm ≤ n) (h1 : ∀ j, j < mm → ch (p + j) = wdC i j) (h2 : if ok then mm = wLen i else mm < wLen i ∧ ch (p + mm) ≠ wdC i mm) :
    gCt l G m_Mo_spells [.ref m, .long (lN (wdV i))] (wM G m ta fa wa th len ki (nI p) be ma po ex fm to wh sc re hu tx fg wd) (some (.int (bI ok))) (wM G m ta fa wa th len ki (nI (p + mm)) be ma po ex fm to wh sc re hu tx fg wd) := by
  have hn := T.2.1.1
  obtain ⟨v1, v2, v3⟩ := wdV_ok i hi
  have hw8 := (wLen_ok i hi).1
  have hmw : mm ≤ wLen i := by
    cases ok with
    | true => simp only [if_true] at h2; omega
    | false => simp only [Bool.false_eq_true, if_false] at h2; omega
  have L : ∀ (k j : Nat) (w0 : va_W), j + k = mm → gAt l G m_Mo_spells w0 (some (.int (bI ok))) (wM G m ta fa wa th len ki (nI (p + mm)) be ma po ex fm to wh sc re hu tx fg wd) 2 [(0, .ref m), (1, .long (lN (wdV i))), (3, .long (lN (wdV i / 2 ^ (8 * j))))] [] (wM G m ta fa wa th len ki (nI (p + j)) be ma po ex fm to wh sc re hu tx fg wd) := by
    have cmp : ∀ j, lg_cmp (lN (wdV i / 2 ^ (8 * j))) 0 = 0 ↔ wdV i / 2 ^ (8 * j) = 0 := fun j => lg_cmp0 (Nat.lt_of_le_of_lt (Nat.div_le_self _ _) v1)
    have cmp2 : ∀ j q, j < wLen i → (lg_cmp (Int32.toInt64 (nI (ch q))) (lN (wdV i / 2 ^ (8 * j)) &&& (255 : Int64)) = 0 ↔ ch q = wdC i j) := by
      intro j q hj
      have hC := T.2.1.lt q
      have e1 : lN (wdV i / 2 ^ (8 * j)) &&& (255 : Int64) = lN (wdV i / 2 ^ (8 * j) % 256) := wb_mask (k := 8) (Nat.lt_of_le_of_lt (Nat.div_le_self _ _) (by omega)) (by decide)
      rw [e1, (v2 j hj).1, nI_l (by omega), lgc_eq]
      have hw := ((wLen_ok i hi).2 j hj).2
      exact pk_lEQ (by omega) (by omega)
    intro k
    induction k with
    | zero =>
      intro j w0 hj
      have hj : j = mm := by omega
      subst hj
      cases ok with
      | true =>
        simp only [if_true] at h2
        have z : wdV i / 2 ^ (8 * j) = 0 := by rw [h2]; exact v3
        exact b_Mo_spells_2 (fun _ => ⟨rfl, rfl, rfl⟩) (fun y => absurd ((cmp j).mpr z) y)
      | false =>
        simp only [Bool.false_eq_true, if_false] at h2
        have z := (v2 j h2.1).2
        exact b_Mo_spells_2 (fun y => absurd ((cmp j).mp y) z) (fun _ => k_Mo_spells_9 (c_Mo_here T (by omega)) (b_Mo_spells_12 (fun y => absurd ((cmp2 j (p + j) h2.1).mp y) h2.2) (fun _ => ⟨rfl, rfl, rfl⟩)))
    | succ k ih =>
      intro j w0 hj
      have hjm : j < mm := by omega
      have z := (v2 j (by omega)).2
      refine b_Mo_spells_2 (fun y => absurd ((cmp j).mp y) z) (fun _ => k_Mo_spells_9 (c_Mo_here T (by omega)) (b_Mo_spells_12 (fun _ => ?_) (fun y => absurd ((cmp2 j (p + j) (by omega)).mpr (h1 j hjm)) y)))
      have e1 : nI (p + j) + (1 : Int32) = nI (p + (j + 1)) := nI_1 (p + j)
      have e2 : lN (wdV i / 2 ^ (8 * j)) >>> ((Int32.toInt64 (8 : Int32)) &&& 63) = lN (wdV i / 2 ^ (8 * (j + 1))) := by
        rw [sar_pos (d := 8) (by decide +kernel) (Nat.lt_of_le_of_lt (Nat.div_le_self _ _) v1), Nat.div_div_eq_div_mul, ← Nat.pow_add]
        rfl
      rw [e1, e2]
      exact ih (j + 1) w0 (by omega)
  have g := L mm 0 (wM G m ta fa wa th len ki (nI p) be ma po ex fm to wh sc re hu tx fg wd) (by omega)
  rw [Nat.mul_zero, Nat.pow_zero, Nat.div_one] at g
  exact gCt.mk (by decide +kernel) (Nat.le_of_ble_eq_true rfl) rfl (b_Mo_spells_0 g)
theorem a_Mo_power {w0 : va_W} {ng : Bool} (T : tOk tx len ch n) : ∀ (L : List Nat) (p e : Nat), p ≤ n → e ≤ 10000000000 → exL ch p L → gAt l G m_Mo_power w0 (some (.int 1)) (wM G m ta fa wa th len ki (nI (p + L.length)) be ma po (zL (if ng then -(satM e L : Nat) else (satM e L : Nat))) fm to wh sc re hu tx fg wd) 50 [(0, .ref m), (1, .int (bI ng))] [] (wM G m ta fa wa th len ki (nI p) be ma po (lN e) fm to wh sc re hu tx fg wd) := by
  have hn := T.2.1.1
  intro L
  induction L with
  | nil =>
    intro p e hp he hL
    have hC := T.2.1.lt p
    have hd := c_Mo_isDigit (l := l) (G := G) hC
    have hL : s_dv 10 (ch p) = none := hL
    rw [hL] at hd
    refine b_Mo_power_50 (k_Mo_power_51 (c_Mo_here T (by omega)) (k_Mo_power_54 hd (b_Mo_power_57 (fun _ z => ?_) (fun _ z => ?_) (fun z => absurd rfl z) (fun z => absurd rfl z))))
    · have z := bI_0.mp z
      subst z
      exact b_Mo_power_130 ⟨rfl, rfl, by simp only [Bool.false_eq_true, if_false, satM]; rw [zL_nat]; rfl⟩
    · have z : ng = true := by
        cases ng with
        | true => rfl
        | false => exact absurd rfl z
      subst z
      exact b_Mo_power_130 ⟨rfl, rfl, by simp only [if_true, satM]; rw [← zL_neg, zL_nat]; rfl⟩
  | cons d L ih =>
    intro p e hp he hL
    have hC := T.2.1.lt p
    have hlen := exL_lt T.2.1 _ _ hp hL
    simp only [List.length_cons] at hlen
    have hend : p + (d :: L).length = p + 1 + L.length := by simp only [List.length_cons]; omega
    have hd := c_Mo_isDigit (l := l) (G := G) hC
    rw [hL.1] at hd
    have e1 : nI p + (1 : Int32) = nI (p + 1) := nI_1 p
    have hd10 := s_dv10 hL.1
    have hcmp : 0 ≤ lg_cmp (lN e) (1000000000 : Int64) ↔ ¬ e < 1000000000 := by
      rw [lgc_ge]
      exact not_congr (pk_lLT (b := 1000000000) (by omega) (by decide))
    have nx : satM e (d :: L) = satM (if e < 1000000000 then 10 * e + d else e) L := rfl
    rw [hend, nx]
    refine b_Mo_power_50 (k_Mo_power_51 (c_Mo_here T (by omega)) (k_Mo_power_54 hd (b_Mo_power_57 (fun z => absurd z (show ¬ (1 : Int32) = 0 by decide)) (fun z => absurd z (show ¬ (1 : Int32) = 0 by decide)) (fun _ z => b_Mo_power_97 ?_) (fun _ z => k_Mo_power_81 (c_Mo_here T (by omega)) (b_Mo_power_84 (b_Mo_power_97 ?_))))))
    · have z := hcmp.mp z
      rw [if_neg z, e1]
      exact ih (p + 1) e (by omega) he hL.2
    · have z : e < 1000000000 := by
        by_cases y : e < 1000000000
        · exact y
        · exact absurd (hcmp.mpr y) z
      have e2 : ((10 : Int64) * lN e + (Int32.toInt64 (nI (ch p)))) - (48 : Int64) = lN (10 * e + d) := by
        rw [nI_l (by omega), s_dv10_ch hL.1, show (10 : Int64) = lN 10 from rfl, lN_mul, lN_add, show (48 : Int64) = lN 48 from rfl, lN_sub (by omega)]
        congr 1
        omega
      rw [if_pos z, e1, e2]
      exact ih (p + 1) _ (by omega) (by omega) hL.2
theorem a_Mo_psgn {w0 w1 : va_W} {res : Option Value} (T : tOk tx len ch n) (hp : p ≤ n) (k : gAt l G m_Mo_power w0 res w1 38 [(0, .ref m), (1, .int (bI (decide (ch p = 45))))] [] (wM G m ta fa wa th len ki (nI (sgn ch p)) be ma po ex fm to wh sc re hu tx fg wd)) :
    gAt l G m_Mo_power w0 res w1 0 [(0, .ref m)] [] (wM G m ta fa wa th len ki (nI p) be ma po ex fm to wh sc re hu tx fg wd) := by
  have hn := T.2.1.1
  have hC := T.2.1.lt p
  have e45 : nI (ch p) = (45 : Int32) ↔ ch p = 45 := nI_eq (b := 45) (by omega) (by decide)
  have e43 : nI (ch p) = (43 : Int32) ↔ ch p = 43 := nI_eq (b := 43) (by omega) (by decide)
  have e1 : nI p + (1 : Int32) = nI (p + 1) := nI_1 p
  unfold sgn at k
  refine b_Mo_power_0 (k_Mo_power_1 (c_Mo_here T (by omega)) (b_Mo_power_4 (fun z => ?_) (fun z => ?_)))
  · have z : ¬ ch p = 45 := fun y => z (e45.mpr y)
    rw [decide_eq_false z] at k
    refine b_Mo_power_14 (fun y => absurd rfl y) (fun _ => k_Mo_power_20 (c_Mo_here T (by omega)) (b_Mo_power_23 (fun y => ?_) (fun y => b_Mo_power_28 ?_)))
    · have y : ¬ ch p = 43 := fun x => y (e43.mpr x)
      rw [if_neg (by omega)] at k
      exact k
    · rw [if_pos (Or.inl (e43.mp y))] at k
      rw [e1]
      exact k
  · have z := e45.mp z
    rw [decide_eq_true z, if_pos (Or.inr z)] at k
    refine b_Mo_power_14 (fun _ => b_Mo_power_28 ?_) (fun y => absurd y (by decide))
    rw [e1]
    exact k
theorem c_Mo_power {es : List Nat} (T : tOk tx len ch n) (hp : p ≤ n) (h : exL ch (sgn ch p) es) (h0 : 0 < es.length) : gCt l G m_Mo_power [.ref m] (wM G m ta fa wa th len ki (nI p) be ma po (lN 0) fm to wh sc re hu tx fg wd) (some (.int 1)) (wM G m ta fa wa th len ki (nI (sgn ch p + es.length)) be ma po (zL (if ch p = 45 then -(satM 0 es : Nat) else (satM 0 es : Nat))) fm to wh sc re hu tx fg wd) := by
  have hn := T.2.1.1
  have hs := sgn_le T.2.1 hp
  have hC := T.2.1.lt (sgn ch p)
  have hd := c_Mo_isDigit (l := l) (G := G) hC
  have hsome : (s_dv 10 (ch (sgn ch p))).isSome = true := by
    cases es with
    | nil => simp at h0
    | cons d L => rw [h.1]; rfl
  rw [hsome] at hd
  have k := a_Mo_power (l := l) (G := G) (m := m) (ta := ta) (fa := fa) (wa := wa) (th := th) (ki := ki) (be := be) (ma := ma) (po := po) (fm := fm) (to := to) (wh := wh) (sc := sc) (re := re) (hu := hu) (fg := fg) (wd := wd) (ng := decide (ch p = 45)) (w0 := wM G m ta fa wa th len ki (nI p) be ma po (lN 0) fm to wh sc re hu tx fg wd) T es (sgn ch p) 0 hs.2 (by decide) h
  simp only [decide_eq_true_eq] at k
  exact gCt.mk (by decide +kernel) (Nat.le_of_ble_eq_true rfl) rfl (a_Mo_psgn T hp (b_Mo_power_38 (k_Mo_power_39 (c_Mo_here T (by omega)) (k_Mo_power_42 hd (b_Mo_power_45 (fun _ => k) (fun z => absurd z (by decide)))))))
theorem c_Mo_powerNo (T : tOk tx len ch n) (hp : p ≤ n) (h : exL ch (sgn ch p) []) : gCt l G m_Mo_power [.ref m] (wM G m ta fa wa th len ki (nI p) be ma po ex fm to wh sc re hu tx fg wd) (some (.int 0)) (wM G m ta fa wa th len ki (nI (sgn ch p)) be ma po ex fm to wh sc re hu tx fg wd) := by
  have hn := T.2.1.1
  have hs := sgn_le T.2.1 hp
  have hC := T.2.1.lt (sgn ch p)
  have hd := c_Mo_isDigit (l := l) (G := G) hC
  have h : s_dv 10 (ch (sgn ch p)) = none := h
  rw [h] at hd
  exact gCt.mk (by decide +kernel) (Nat.le_of_ble_eq_true rfl) rfl (a_Mo_psgn T hp (b_Mo_power_38 (k_Mo_power_39 (c_Mo_here T (by omega)) (k_Mo_power_42 hd (b_Mo_power_45 (fun z => absurd rfl z) (fun _ => ⟨rfl, rfl, rfl⟩))))))
theorem a_Mo_sfx {w0 : va_W} (T : tOk tx len ch n) (hp : p ≤ n) : gAt l G m_Mo_number w0 (some (.int 1)) (wM G m ta fa wa th len ki (nI (sfx ch p)) be ma po ex fm to wh sc re hu tx fg wd) 159 [(0, .ref m)] [] (wM G m ta fa wa th len ki (nI p) be ma po ex fm to wh sc re hu tx fg wd) := by
  have hn := T.2.1.1
  have e1 : nI p + (1 : Int32) = nI (p + 1) := nI_1 p
  have c1 := c_Mo_isAt (l := l) (G := G) (m := m) (ta := ta) (fa := fa) (wa := wa) (th := th) (ki := ki) (be := be) (ma := ma) (po := po) (ex := ex) (fm := fm) (to := to) (wh := wh) (sc := sc) (re := re) (hu := hu) (fg := fg) (wd := wd) (c1 := 100) (c2 := 68) T (by omega : p < 2 ^ 31) (by decide) (by decide)
  have c2 := c_Mo_isAt (l := l) (G := G) (m := m) (ta := ta) (fa := fa) (wa := wa) (th := th) (ki := ki) (be := be) (ma := ma) (po := po) (ex := ex) (fm := fm) (to := to) (wh := wh) (sc := sc) (re := re) (hu := hu) (fg := fg) (wd := wd) (c1 := 102) (c2 := 70) T (by omega : p < 2 ^ 31) (by decide) (by decide)
  have up : (ch p = 100 ∨ ch p = 68 ∨ ch p = 102 ∨ ch p = 70) → gAt l G m_Mo_number w0 (some (.int 1)) (wM G m ta fa wa th len ki (nI (sfx ch p)) be ma po ex fm to wh sc re hu tx fg wd) 181 [(0, .ref m)] [] (wM G m ta fa wa th len ki (nI p) be ma po ex fm to wh sc re hu tx fg wd) := by
    intro z
    unfold sfx
    rw [if_pos z, ← e1]
    exact b_Mo_number_181 (b_Mo_number_191 ⟨rfl, rfl, rfl⟩)
  refine b_Mo_number_159 (k_Mo_number_164 c1 (b_Mo_number_167 (fun z => up ?_) (fun z => k_Mo_number_175 c2 (b_Mo_number_178 (fun y => ?_) (fun y => up ?_)))))
  · by_cases x : ch p = 100 ∨ ch p = 68
    · omega
    · exact absurd (by rw [decide_eq_false x]; rfl) z
  · have z := of_decide_eq_false (bI_0.mp z)
    have y := of_decide_eq_false (bI_0.mp y)
    unfold sfx
    rw [if_neg (by omega)]
    exact b_Mo_number_191 ⟨rfl, rfl, rfl⟩
  · by_cases x : ch p = 102 ∨ ch p = 70
    · omega
    · exact absurd (by rw [decide_eq_false x]; rfl) y
theorem a_Mo_numX {w0 w1 : va_W} {res : Option Value} (T : tOk tx len ch n) (hp : p ≤ n)
    (k1 : isX ch p → gAt l G m_Mo_number w0 res w1 76 [(0, .ref m)] [.int (1 : Int32), .ref m] (wM G m ta fa wa th len (nI 1) (nI (p + 2)) be ma po (lN 0) fm to wh sc re hu tx fg wd)) (k2 : ¬ isX ch p → gAt l G m_Mo_number w0 res w1 121 [(0, .ref m)] [.int (0 : Int32), .ref m] (wM G m ta fa wa th len (nI 0) (nI p) be ma po (lN 0) fm to wh sc re hu tx fg wd)) :
    gAt l G m_Mo_number w0 res w1 0 [(0, .ref m)] [] (wM G m ta fa wa th len ki (nI p) be ma po ex fm to wh sc re hu tx fg wd) := by
  have hn := T.2.1.1
  have hlen : len = nI n := T.1
  have hC := T.2.1.lt p
  have hC2 := T.2.1.lt (p + 1)
  have e48 : nI (ch p) = (48 : Int32) ↔ ch p = 48 := nI_eq (b := 48) (by omega) (by decide)
  have e120 : nI (ch (p + 1)) = (120 : Int32) ↔ ch (p + 1) = 120 := nI_eq (b := 120) (by omega) (by decide)
  have e88 : nI (ch (p + 1)) = (88 : Int32) ↔ ch (p + 1) = 88 := nI_eq (b := 88) (by omega) (by decide)
  have e1 : nI p + (1 : Int32) = nI (p + 1) := nI_1 p
  have e2 : nI p + (2 : Int32) = nI (p + 2) := by rw [show (2 : Int32) = nI 2 from rfl, nI_add]
  have hle : nI n ≤ nI (p + 1) ↔ n ≤ p + 1 := nI_leI (by omega) (by omega)
  have yes : isX ch p → gAt l G m_Mo_number w0 res w1 59 [(0, .ref m)] [] (wM G m ta fa wa th len ki (nI p) be ma po (lN 0) fm to wh sc re hu tx fg wd) := by
    intro z
    refine b_Mo_number_59 ?_
    rw [e2]
    exact k1 z
  have no : ¬ isX ch p → gAt l G m_Mo_number w0 res w1 114 [(0, .ref m)] [] (wM G m ta fa wa th len ki (nI p) be ma po (lN 0) fm to wh sc re hu tx fg wd) := by
    intro z
    exact b_Mo_number_114 (k2 z)
  subst hlen
  have hrow : ¬ nI n ≤ nI p + (1 : Int32) → p + 1 < n ∧ tx (Int32.toNatClampNeg (nI p + (1 : Int32))) = nI (ch (p + 1)) := by
    intro z
    rw [e1] at z ⊢
    have z : ¬ n ≤ p + 1 := fun y => z (hle.mpr y)
    rw [nI_clamp (by omega), T.2.2 (p + 1) (by omega)]
    exact ⟨by omega, rfl⟩
  refine b_Mo_number_0 (k_Mo_number_6 (c_Mo_here T (by omega)) (b_Mo_number_9 (fun z => no (fun y => z (e48.mpr y.1))) (fun z y => no ?_) (fun z y => ?_) (fun z y x => yes ?_) (fun z y x => ?_) (fun z y x v => no ?_) (fun z y x v => yes ?_)))
  · rw [e1] at y
    have := T.2.1.2.2 (p + 1) (hle.mp y)
    intro x
    have := x.2
    omega
  · have := (hrow y).1; rw [e1]; exact vp_in_nI (by omega) (by decide)
  · rw [(hrow y).2] at x; exact ⟨e48.mp z, Or.inl (e120.mp x)⟩
  · have := (hrow y).1; rw [e1]; exact vp_in_nI (by omega) (by decide)
  · rw [(hrow y).2] at x v
    exact fun u => u.2.elim (fun u => x (e120.mpr u)) (fun u => v (e88.mpr u))
  · rw [(hrow y).2] at v; exact ⟨e48.mp z, Or.inr (e88.mp v)⟩
theorem c_Mo_number {k d e : Nat} {L : List (Option Nat)} {es : List Nat} (T : tOk tx len ch n) (hp : p ≤ n) (h : (isX ch p ∧ k = 1 ∧ d = p + 2 ∧ hxOk ch (p + 2) L es e) ∨ (¬ isX ch p ∧ k = 0 ∧ d = p ∧ dcOk ch p L es e)) :
    ∃ fg2, gCt l G m_Mo_number [.ref m] (wM G m ta fa wa th len ki (nI p) be ma po ex fm to wh sc re hu tx fg wd) (some (.int 1)) (wM G m ta fa wa th len (nI k) (nI e) be (nI (dF L).length) (nI (ptF 0 L)) (zL (eMz ch (d + L.length) es)) fm to wh sc re hu tx fg2 wd) ∧ ∀ j, j < (dF L).length → fg2 j = nI ((dF L).getD j 0) := by
  have hn := T.2.1.1
  rcases h with ⟨hX, h1, h2, h3, h4, h5, h6, h7, h8⟩ | ⟨hX, h1, h2, h3, h4, h5⟩
  · subst h1 h2 h8
    have hp2 := isX_le T.2.1 hX
    obtain ⟨fg2, c, hf⟩ := c_Mo_digits (l := l) (G := G) (m := m) (ta := ta) (fa := fa) (wa := wa) (th := th) (ki := nI 1) (be := be) (ma := ma) (po := po) (ex := lN 0) (fm := fm) (to := to) (wh := wh) (sc := sc) (re := re) (hu := hu) (fg := fg) (wd := wd) (sx := true) T hp2 h3
    rw [h4] at c
    have hpl := dgL_lt T.2.1 _ _ _ hp2 h3
    have hP := isP_lt T.2.1 h5
    have hs := sgn_le T.2.1 (p := p + 2 + L.length + 1) (by omega)
    have hel := exL_lt T.2.1 _ _ hs.2 h6
    have ca := c_Mo_isAt (l := l) (G := G) (m := m) (ta := ta) (fa := fa) (wa := wa) (th := th) (ki := nI 1) (be := be) (ma := nI (dF L).length) (po := nI (ptF 0 L)) (ex := lN 0) (fm := fm) (to := to) (wh := wh) (sc := sc) (re := re) (hu := hu) (fg := fg2) (wd := wd) (p := p + 2 + L.length) (c1 := 112) (c2 := 80) T (by omega) (by decide) (by decide)
    have h5' : ch (p + 2 + L.length) = 112 ∨ ch (p + 2 + L.length) = 80 := h5
    rw [decide_eq_true h5'] at ca
    have cp := c_Mo_power (l := l) (G := G) (m := m) (ta := ta) (fa := fa) (wa := wa) (th := th) (ki := nI 1) (be := be) (ma := nI (dF L).length) (po := nI (ptF 0 L)) (fm := fm) (to := to) (wh := wh) (sc := sc) (re := re) (hu := hu) (fg := fg2) (wd := wd) T (by omega) h6 h7
    have e1 : nI (p + 2 + L.length) + (1 : Int32) = nI (p + 2 + L.length + 1) := nI_1 _
    refine ⟨fg2, gCt.mk (by decide +kernel) (Nat.le_of_ble_eq_true rfl) rfl (a_Mo_numX T hp (fun _ => ?_) (fun z => absurd hX z)), hf⟩
    refine k_Mo_number_76 c (b_Mo_number_79 (fun z => absurd z (by decide)) (fun _ => k_Mo_number_87 ca (b_Mo_number_90 (fun _ => ?_) (fun z => absurd z (by decide)))))
    rw [e1]
    exact k_Mo_number_106 cp (b_Mo_number_109 (fun _ => a_Mo_sfx T (by omega)) (fun z => absurd z (by decide)))
  · subst h1 h2
    obtain ⟨fg2, c, hf⟩ := c_Mo_digits (l := l) (G := G) (m := m) (ta := ta) (fa := fa) (wa := wa) (th := th) (ki := nI 0) (be := be) (ma := ma) (po := po) (ex := lN 0) (fm := fm) (to := to) (wh := wh) (sc := sc) (re := re) (hu := hu) (fg := fg) (wd := wd) (sx := false) T hp h3
    rw [h4] at c
    have hpl := dgL_lt T.2.1 _ _ _ hp h3
    have ca := c_Mo_isAt (l := l) (G := G) (m := m) (ta := ta) (fa := fa) (wa := wa) (th := th) (ki := nI 0) (be := be) (ma := nI (dF L).length) (po := nI (ptF 0 L)) (ex := lN 0) (fm := fm) (to := to) (wh := wh) (sc := sc) (re := re) (hu := hu) (fg := fg2) (wd := wd) (p := d + L.length) (c1 := 101) (c2 := 69) T (by omega) (by decide) (by decide)
    refine ⟨fg2, gCt.mk (by decide +kernel) (Nat.le_of_ble_eq_true rfl) rfl (a_Mo_numX T hp (fun z => absurd z hX) (fun _ => ?_)), hf⟩
    refine k_Mo_number_121 c (b_Mo_number_124 (fun _ => k_Mo_number_134 ca ?_) (fun z => absurd z (by decide)))
    rcases h5 with ⟨h5, h6, h7, h8⟩ | ⟨h5, h6, h8⟩
    · subst h8
      have hP := isE_lt T.2.1 h5
      have hs := sgn_le T.2.1 (p := d + L.length + 1) (by omega)
      have hel := exL_lt T.2.1 _ _ hs.2 h6
      have cp := c_Mo_power (l := l) (G := G) (m := m) (ta := ta) (fa := fa) (wa := wa) (th := th) (ki := nI 0) (be := be) (ma := nI (dF L).length) (po := nI (ptF 0 L)) (fm := fm) (to := to) (wh := wh) (sc := sc) (re := re) (hu := hu) (fg := fg2) (wd := wd) T (by omega) h6 h7
      have e1 : nI (d + L.length) + (1 : Int32) = nI (d + L.length + 1) := nI_1 _
      have h5 : ch (d + L.length) = 101 ∨ ch (d + L.length) = 69 := h5
      rw [decide_eq_true h5]
      refine b_Mo_number_137 (fun z => absurd z (by decide)) (fun _ => ?_)
      rw [e1]
      exact k_Mo_number_151 cp (b_Mo_number_154 (fun _ => a_Mo_sfx T (by omega)) (fun z => absurd z (by decide)))
    · subst h8 h6
      have h5 : ¬ (ch (d + L.length) = 101 ∨ ch (d + L.length) = 69) := h5
      rw [decide_eq_false h5]
      have e0 : zL (eMz ch (d + L.length) []) = lN 0 := by
        unfold eMz
        split <;> decide +kernel
      rw [e0]
      exact b_Mo_number_137 (fun _ => a_Mo_sfx T (by omega)) (fun z => absurd rfl z)
theorem c_Mo_numberNo {e : Nat} (T : tOk tx len ch n) (hp : p ≤ n) (h : (isX ch p ∧ hxNo ch (p + 2) e) ∨ (¬ isX ch p ∧ dcNo ch p e)) :
    ∃ ki2 ma2 po2 ex2 fg2, gCt l G m_Mo_number [.ref m] (wM G m ta fa wa th len ki (nI p) be ma po ex fm to wh sc re hu tx fg wd) (some (.int 0)) (wM G m ta fa wa th len ki2 (nI e) be ma2 po2 ex2 fm to wh sc re hu tx fg2 wd) := by
  have hn := T.2.1.1
  rcases h with ⟨hX, L, h3, h⟩ | ⟨hX, L, h3, h⟩
  · have hp2 := isX_le T.2.1 hX
    obtain ⟨fg2, c, hf⟩ := c_Mo_digits (l := l) (G := G) (m := m) (ta := ta) (fa := fa) (wa := wa) (th := th) (ki := nI 1) (be := be) (ma := ma) (po := po) (ex := lN 0) (fm := fm) (to := to) (wh := wh) (sc := sc) (re := re) (hu := hu) (fg := fg) (wd := wd) (sx := true) T hp2 h3
    have hpl := dgL_lt T.2.1 _ _ _ hp2 h3
    have ca := c_Mo_isAt (l := l) (G := G) (m := m) (ta := ta) (fa := fa) (wa := wa) (th := th) (ki := nI 1) (be := be) (ma := nI (dF L).length) (po := nI (ptF 0 L)) (ex := lN 0) (fm := fm) (to := to) (wh := wh) (sc := sc) (re := re) (hu := hu) (fg := fg2) (wd := wd) (p := p + 2 + L.length) (c1 := 112) (c2 := 80) T (by omega) (by decide) (by decide)
    refine ⟨nI 1, nI (dF L).length, nI (ptF 0 L), lN 0, fg2, gCt.mk (by decide +kernel) (Nat.le_of_ble_eq_true rfl) rfl (a_Mo_numX T hp (fun _ => ?_) (fun z => absurd hX z))⟩
    refine k_Mo_number_76 c ?_
    rcases h with ⟨h4, h5⟩ | ⟨h4, h5, h6, h7⟩
    · subst h5
      refine b_Mo_number_79 (fun _ => b_Mo_number_93 ⟨rfl, rfl, rfl⟩) (fun z => k_Mo_number_87 ca ?_)
      have hD : hasD L = true := by
        cases hq : hasD L with
        | true => rfl
        | false => rw [hq] at z; exact absurd rfl z
      have hP : ¬ (ch (p + 2 + L.length) = 112 ∨ ch (p + 2 + L.length) = 80) := by
        rcases h4 with h4 | h4
        · rw [hD] at h4; exact absurd h4 (by decide)
        · exact h4
      rw [decide_eq_false hP]
      exact b_Mo_number_90 (fun y => absurd rfl y) (fun _ => b_Mo_number_93 ⟨rfl, rfl, rfl⟩)
    · subst h7
      have hP := isP_lt T.2.1 h5
      have h5 : ch (p + 2 + L.length) = 112 ∨ ch (p + 2 + L.length) = 80 := h5
      rw [decide_eq_true h5] at ca
      have e1 : nI (p + 2 + L.length) + (1 : Int32) = nI (p + 2 + L.length + 1) := nI_1 _
      rw [h4]
      refine b_Mo_number_79 (fun z => absurd z (by decide)) (fun _ => k_Mo_number_87 ca (b_Mo_number_90 (fun _ => ?_) (fun z => absurd z (by decide))))
      rw [e1]
      exact k_Mo_number_106 (c_Mo_powerNo T (by omega) h6) (b_Mo_number_109 (fun z => absurd rfl z) (fun _ => ⟨rfl, rfl, rfl⟩))
  · obtain ⟨fg2, c, hf⟩ := c_Mo_digits (l := l) (G := G) (m := m) (ta := ta) (fa := fa) (wa := wa) (th := th) (ki := nI 0) (be := be) (ma := ma) (po := po) (ex := lN 0) (fm := fm) (to := to) (wh := wh) (sc := sc) (re := re) (hu := hu) (fg := fg) (wd := wd) (sx := false) T hp h3
    have hpl := dgL_lt T.2.1 _ _ _ hp h3
    have ca := c_Mo_isAt (l := l) (G := G) (m := m) (ta := ta) (fa := fa) (wa := wa) (th := th) (ki := nI 0) (be := be) (ma := nI (dF L).length) (po := nI (ptF 0 L)) (ex := lN 0) (fm := fm) (to := to) (wh := wh) (sc := sc) (re := re) (hu := hu) (fg := fg2) (wd := wd) (p := p + L.length) (c1 := 101) (c2 := 69) T (by omega) (by decide) (by decide)
    refine ⟨nI 0, nI (dF L).length, nI (ptF 0 L), lN 0, fg2, gCt.mk (by decide +kernel) (Nat.le_of_ble_eq_true rfl) rfl (a_Mo_numX T hp (fun z => absurd z hX) (fun _ => ?_))⟩
    refine k_Mo_number_121 c ?_
    rcases h with ⟨h4, h5⟩ | ⟨h4, h5, h6, h7⟩
    · subst h5
      rw [h4]
      exact b_Mo_number_124 (fun z => absurd rfl z) (fun _ => ⟨rfl, rfl, rfl⟩)
    · subst h7
      have hP := isE_lt T.2.1 h5
      have h5 : ch (p + L.length) = 101 ∨ ch (p + L.length) = 69 := h5
      rw [decide_eq_true h5] at ca
      have e1 : nI (p + L.length) + (1 : Int32) = nI (p + L.length + 1) := nI_1 _
      rw [h4]
      refine b_Mo_number_124 (fun _ => k_Mo_number_134 ca (b_Mo_number_137 (fun z => absurd z (by decide)) (fun _ => ?_))) (fun z => absurd z (by decide))
      rw [e1]
      exact k_Mo_number_151 (c_Mo_powerNo T (by omega) h6) (b_Mo_number_154 (fun z => absurd rfl z) (fun _ => ⟨rfl, rfl, rfl⟩))
end Mo3
