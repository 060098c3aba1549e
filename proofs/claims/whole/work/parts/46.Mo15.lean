/-! CONTRACTS: the model, 15: compare -/
section Mo15
variable {l : Launch} {G : gG} {m ta fa wa : Nat} {th : Int32} {ch : Nat → Nat} {n : Nat} {w : va_W}
theorem m_compareNo {wv : Nat} {x : Int64} (h : MI G m ta fa wa ch n th w) (hs : scNo ch n wv) : ∃ w2, gCt l G m_Mo_compare [.ref m, .long x] w (some (.int 0)) w2 ∧ MI G m ta fa wa ch n 1 w2 := by
  obtain ⟨len, ki, pc, be, ma, po, ex, fm, to, wh, sc, re, hu, tx, fg, wd, rfl, T⟩ := h
  obtain ⟨ki2, be2, ma2, po2, ex2, fg2, c⟩ := c_Mo_scanNo (l := l) (G := G) (m := m) (ta := ta) (fa := fa) (wa := wa) (th := th) (ki := ki) (pc := pc) (be := be) (ma := ma) (po := po) (ex := ex) (fm := fm) (to := to) (wh := wh) (sc := sc) (re := re) (hu := hu) (fg := fg) (wd := wd) T hs
  exact ⟨_, gCt.mk (by decide +kernel) (Nat.le_of_ble_eq_true rfl) rfl (b_Mo_compare_0 (k_Mo_compare_2 c (b_Mo_compare_5 (fun _ => b_Mo_compare_13 (fun z => absurd z (by decide)) (fun z => absurd z (by decide)) (fun z => absurd z (by decide)) (fun _ => ⟨rfl, rfl⟩)) (fun z => absurd rfl z)))), len, _, _, _, ma2, po2, ex2, fm, to, wh, sc, re, hu, tx, fg2, wd, rfl, T⟩
theorem sb_l {b : Nat} (hb : b < 2 ^ 64) : lN b &&& (9223372036854775807 : Int64) = lN (b % 2 ^ 63) := by
  rw [show (9223372036854775807 : Int64) = lN (2 ^ 63 - 1) by decide +kernel]
  exact wb_mask hb (by decide)
theorem ob_l {b : Nat} (hb : b < 2 ^ 64) : 0 ≤ lg_cmp (lN b) (0 : Int64) ↔ ¬ 2 ^ 63 ≤ b := by
  rw [lgc_ge]
  refine not_congr ?_
  rw [Int64.lt_iff_toInt_lt, show (0 : Int64).toInt = 0 from rfl]
  by_cases z : 2 ^ 63 ≤ b
  · have e : lN b = zL ((b : Int) - 2 ^ 64) := by
      rw [← zL_nat, ← zL_sub, show zL (2 ^ 64) = 0 by decide +kernel]
      simp
    rw [e, zL_toInt (by omega) (by omega)]
    omega
  · rw [← zL_nat, zL_toInt (by omega) (by omega)]
    omega
theorem m_compareBad {ng : Bool} {k d b : Nat} {L : List (Option Nat)} {es : List Nat} (hb : b < 2 ^ 64) (h : MI G m ta fa wa ch n th w) (hs : scOk ch n ng k d L es) (hbad : k = 3 ∨ dI < b % 2 ^ 63) :
    ∃ w2, gCt l G m_Mo_compare [.ref m, .long (lN b)] w (some (.int 0)) w2 ∧ MI G m ta fa wa ch n 2 w2 := by
  obtain ⟨len, ki, pc, be, ma, po, ex, fm, to, wh, sc, re, hu, tx, fg, wd, rfl, T⟩ := h
  obtain ⟨ma2, po2, ex2, fg2, c, hm⟩ := c_Mo_scan (l := l) (G := G) (m := m) (ta := ta) (fa := fa) (wa := wa) (th := th) (ki := ki) (pc := pc) (be := be) (ma := ma) (po := po) (ex := ex) (fm := fm) (to := to) (wh := wh) (sc := sc) (re := re) (hu := hu) (fg := fg) (wd := wd) T hs
  have h3 := (hs.dg T.2.1).1
  have k3 : nI k = (3 : Int32) ↔ k = 3 := nI_eq (b := 3) (by omega) (by decide)
  have hsb : b % 2 ^ 63 < 2 ^ 63 := Nat.mod_lt _ (by decide)
  have cl : lg_cmp (lN b &&& (9223372036854775807 : Int64)) (9218868437227405312 : Int64) ≤ 0 ↔ ¬ dI < b % 2 ^ 63 := by
    rw [sb_l hb, lgc_le0, dI_l, pk_lLT dI_lt hsb]
  have bad : gAt l G m_Mo_compare (wM G m ta fa wa th len ki pc be ma po ex fm to wh sc re hu tx fg wd) (some (.int 0)) (wM G m ta fa wa 2 len (nI k) (nI n) (bI ng) ma2 po2 ex2 fm to wh sc re hu tx fg2 wd) 48 [(0, .ref m), (1, .long (lN b)), (3, .long (lN b &&& (9223372036854775807 : Int64)))] [.ref m] (wM G m ta fa wa 0 len (nI k) (nI n) (bI ng) ma2 po2 ex2 fm to wh sc re hu tx fg2 wd) :=
    b_Mo_compare_48 (b_Mo_compare_53 (fun z => absurd z (by decide)) (fun z => absurd z (by decide)) (fun _ => ⟨rfl, rfl⟩))
  refine ⟨_, gCt.mk (by decide +kernel) (Nat.le_of_ble_eq_true rfl) rfl (b_Mo_compare_0 (k_Mo_compare_2 c (b_Mo_compare_5 (fun z => absurd z (by decide)) (fun _ => b_Mo_compare_13 (fun _ _ => bad) (fun _ z y => ?_) (fun _ _ _ => bad) (fun z => absurd (by decide) z))))), len, _, _, _, ma2, po2, ex2, fm, to, wh, sc, re, hu, tx, fg2, wd, rfl, T⟩
  rcases hbad with x | x
  · exact absurd (k3.mpr x) z
  · exact absurd x (cl.mp y)
theorem m_compare {ng : Bool} {k d b : Nat} {L : List (Option Nat)} {es : List Nat} (hb : b < 2 ^ 64) (h : MI G m ta fa wa ch n th w) (hs : scOk ch n ng k d L es) (hk : k ≠ 3) (hbb : ¬ dI < b % 2 ^ 63) :
    ∃ w2 none whole scale rest huge, gCt l G m_Mo_compare [.ref m, .long (lN b)] w (some (.int (zI (mC ng k (decide (2 ^ 63 ≤ b)) (b % 2 ^ 63) none (mCs k (b % 2 ^ 63) whole scale rest huge))))) w2 ∧ MI G m ta fa wa ch n 0 w2 ∧ (none = true ↔ k < 2 ∧ ∀ j, j < (dF L).length → dsF L j = 0) ∧
      (none = false → b % 2 ^ 63 ≠ 0 → k < 2 → b % 2 ^ 63 ≠ dI → ng = decide (2 ^ 63 ≤ b) → mK ch k d L es 53 (-1074) whole scale rest huge) := by
  obtain ⟨len, ki, pc, be, ma, po, ex, fm, to, wh, sc, re, hu, tx, fg, wd, rfl, T⟩ := h
  obtain ⟨ma2, po2, ex2, fg2, c, hm⟩ := c_Mo_scan (l := l) (G := G) (m := m) (ta := ta) (fa := fa) (wa := wa) (th := th) (ki := ki) (pc := pc) (be := be) (ma := ma) (po := po) (ex := ex) (fm := fm) (to := to) (wh := wh) (sc := sc) (re := re) (hu := hu) (fg := fg) (wd := wd) T hs
  have h3 := (hs.dg T.2.1).1
  have hk3 : k < 3 := by omega
  have hn := T.2.1.1
  have k3 : nI k = (3 : Int32) ↔ k = 3 := nI_eq (b := 3) (by omega) (by decide)
  have k2 : (2 : Int32) ≤ nI k ↔ 2 ≤ k := nI_leI (a := 2) (by decide) (by omega)
  generalize hsbd : b % 2 ^ 63 = sb at *
  have hsb : sb < 2 ^ 63 := by rw [← hsbd]; exact Nat.mod_lt _ (by decide)
  have esb : lN b &&& (9223372036854775807 : Int64) = lN sb := by rw [sb_l hb, hsbd]
  have cl : lg_cmp (lN b &&& (9223372036854775807 : Int64)) (9218868437227405312 : Int64) ≤ 0 := by
    rw [esb, lgc_le0, dI_l, pk_lLT dI_lt hsb]
    exact hbb
  have c0 := lg_cmp0 hsb
  have cob := ob_l hb
  obtain ⟨W2, fm2, to2, wh2, sc2, re2, hu2, whole, scale, rest, huge, cs, hK⟩ := x_compareSize (l := l) (G := G) (m := m) (ta := ta) (fa := fa) (wa := wa) (th := 0) (pc := nI n) (be := bI ng) (fm := fm) (to := to) (wh := wh) (sc := sc) (re := re) (hu := hu) (wd := wd) hsb hk3 T hs hm
  obtain ⟨none, hnone⟩ : ∃ none : Bool, none = true ↔ k < 2 ∧ ∀ j, j < (dF L).length → dsF L j = 0 := by
    by_cases z : k < 2 ∧ ∀ j, j < (dF L).length → dsF L j = 0
    · exact ⟨true, fun _ => z, fun _ => rfl⟩
    · exact ⟨false, fun y => absurd y (by decide), fun y => absurd y z⟩
  generalize hob : decide (2 ^ 63 ≤ b) = ob at *
  -- up to where it is known whether the number is 0
  have up : ∀ (w1 : va_W) (res : Option Value), (∀ x7 x8, gAt l G m_Mo_compare (wM G m ta fa wa th len ki pc be ma po ex fm to wh sc re hu tx fg wd) res w1 160 [(0, .ref m), (1, .long (lN b)), (3, .long (lN sb)), (5, .int (bI ob)), (6, .int (bI (decide (sb = 0)))), (7, .int x7), (8, .int x8)] [.int (bI none)] (wM G m ta fa wa 0 len (nI k) (nI n) (bI ng) ma2 po2 ex2 fm to wh sc re hu tx fg2 wd)) → gCt l G m_Mo_compare [.ref m, .long (lN b)] (wM G m ta fa wa th len ki pc be ma po ex fm to wh sc re hu tx fg wd) res w1 := by
    intro w1 res kk
    have k142 : ∀ (x7 : Bool) (x8 : Int32), (k < 2 → (x7 = true ↔ none = false)) → gAt l G m_Mo_compare (wM G m ta fa wa th len ki pc be ma po ex fm to wh sc re hu tx fg wd) res w1 142 [(0, .ref m), (1, .long (lN b)), (3, .long (lN sb)), (5, .int (bI ob)), (6, .int (bI (decide (sb = 0)))), (7, .int (bI x7)), (8, .int x8)] [] (wM G m ta fa wa 0 len (nI k) (nI n) (bI ng) ma2 po2 ex2 fm to wh sc re hu tx fg2 wd) := by
      intro x7 x8 hx
      refine b_Mo_compare_142 (fun z => b_Mo_compare_159 ?_) (fun z y => b_Mo_compare_159 ?_) (fun z y => ?_)
      · have z := k2.mp z
        have hn0 : none = false := by
          cases hq : none with
          | false => rfl
          | true => have := hnone.mp hq; omega
        have := kk (bI x7) x8
        rw [hn0] at this
        exact this
      · have z : ¬ 2 ≤ k := fun v => z (k2.mpr v)
        have hx7 : x7 = true := by
          cases x7 with
          | true => rfl
          | false => exact absurd rfl y
        have hn0 := (hx (by omega)).mp hx7
        have := kk (bI x7) x8
        rw [hn0] at this
        exact this
      · have z : ¬ 2 ≤ k := fun v => z (k2.mpr v)
        have y := bI_0.mp y
        have hn0 : none = true := by
          cases hq : none with
          | true => rfl
          | false => have := (hx (by omega)).mpr hq; rw [y] at this; exact absurd this (by decide)
        have := kk (bI x7) x8
        rw [hn0] at this
        exact this
    have k97 : gAt l G m_Mo_compare (wM G m ta fa wa th len ki pc be ma po ex fm to wh sc re hu tx fg wd) res w1 97 [(0, .ref m), (1, .long (lN b)), (3, .long (lN sb)), (5, .int (bI ob)), (6, .int (bI (decide (sb = 0)))), (7, .int (bI false)), (8, .int (nI 0))] [] (wM G m ta fa wa 0 len (nI k) (nI n) (bI ng) ma2 po2 ex2 fm to wh sc re hu tx fg2 wd) := by
      by_cases hk2 : k < 2
      · obtain ⟨m1, m2, m3, m4⟩ := hm hk2
        subst m1
        obtain ⟨_, g0, g1⟩ := hs.dg T.2.1
        have hdL := dF_len L
        have hlenL : d + L.length ≤ n := by
          rcases (show k = 0 ∨ k = 1 by omega) with z | z
          · obtain ⟨a, b⟩ := g0 z
            exact dgL_lt T.2.1 _ _ _ a b
          · obtain ⟨a, b⟩ := g1 z
            exact dgL_lt T.2.1 _ _ _ a b
        have hds : ∀ j, dsF L j < 16 := by
          rcases (show k = 0 ∨ k = 1 by omega) with z | z
          · obtain ⟨a, b⟩ := g0 z
            intro j
            have := dgs_dF (by decide) L (dgL_dgs (Or.inl rfl) _ _ _ b) j
            omega
          · obtain ⟨a, b⟩ := g1 z
            exact dgs_dF (by decide) L (dgL_dgs (Or.inr rfl) _ _ _ b)
        have nk2 : ¬ (2 : Int32) ≤ nI k := fun v => by have := k2.mp v; omega
        have loop : ∀ (q j : Nat) (v : Bool), j + q = (dF L).length → (v = true ↔ ∃ i, i < j ∧ dsF L i ≠ 0) → gAt l G m_Mo_compare (wM G m ta fa wa th len ki pc be ma po ex fm to wh sc re hu tx fg wd) res w1 97 [(0, .ref m), (1, .long (lN b)), (3, .long (lN sb)), (5, .int (bI ob)), (6, .int (bI (decide (sb = 0)))), (7, .int (bI v)), (8, .int (nI j))] [] (wM G m ta fa wa 0 len (nI k) (nI n) (bI ng) (nI (dF L).length) po2 ex2 fm to wh sc re hu tx fg2 wd) := by
          intro q
          induction q with
          | zero =>
            intro j v hj hv
            have hj : j = (dF L).length := by omega
            have hge : nI (dF L).length ≤ nI j := nI_le (by omega) (by omega)
            refine b_Mo_compare_97 (fun _ => k142 v _ (fun _ => ?_)) (fun z => absurd hge z) (fun z => absurd hge z) (fun z => absurd hge z) (fun z => absurd hge z) (fun z => absurd hge z)
            constructor
            · intro y
              obtain ⟨i, h1, h2⟩ := hv.mp y
              cases hq : none with
              | false => rfl
              | true => exact absurd ((hnone.mp hq).2 i (by omega)) h2
            · intro y
              cases hq : v with
              | true => rfl
              | false =>
                have hz : ∀ i, i < (dF L).length → dsF L i = 0 := by
                  intro i hi
                  by_cases x : dsF L i = 0
                  · exact x
                  · have := hv.mpr ⟨i, by omega, x⟩
                    rw [hq] at this
                    exact absurd this (by decide)
                have := hnone.mpr ⟨hk2, hz⟩
                rw [y] at this
                exact absurd this (by decide)
          | succ q ih =>
            intro j v hj hv
            have hlt : ¬ nI (dF L).length ≤ nI j := fun y => by have := (nI_leI (by omega) (by omega)).mp y; omega
            have hd := hds j
            have h0 : fg2 (Int32.toNatClampNeg (nI j)) = 0 ↔ dsF L j = 0 := by
              rw [nI_clamp (by omega), m4 j (by omega)]
              exact nI_eq (b := 0) (by unfold dsF at hd; omega) (by decide)
            have e1 : nI j + (1 : Int32) = nI (j + 1) := nI_1 j
            have yes : (∃ i, i < j + 1 ∧ dsF L i ≠ 0) → gAt l G m_Mo_compare (wM G m ta fa wa th len ki pc be ma po ex fm to wh sc re hu tx fg wd) res w1 129 [(0, .ref m), (1, .long (lN b)), (3, .long (lN sb)), (5, .int (bI ob)), (6, .int (bI (decide (sb = 0)))), (7, .int (bI v)), (8, .int (nI j))] [] (wM G m ta fa wa 0 len (nI k) (nI n) (bI ng) (nI (dF L).length) po2 ex2 fm to wh sc re hu tx fg2 wd) := by
              intro hy
              refine b_Mo_compare_129 (b_Mo_compare_134 ?_)
              rw [e1]
              exact ih (j + 1) true (by omega) ⟨fun _ => hy, fun _ => rfl⟩
            refine b_Mo_compare_97 (fun z => absurd z hlt) (fun _ z => absurd z nk2) (fun _ _ z => yes ?_) (fun _ _ _ => vp_in_nI (by omega) (by decide)) (fun _ _ z y => b_Mo_compare_134 ?_) (fun _ _ z y => yes ?_)
            · have hv1 : v = true := by
                cases v with
                | true => rfl
                | false => exact absurd rfl z
              obtain ⟨i, h1, h2⟩ := hv.mp hv1
              exact ⟨i, by omega, h2⟩
            · have z := bI_0.mp z
              have y := h0.mp y
              rw [e1]
              refine ih (j + 1) false (by omega) ⟨fun x => absurd x (by decide), fun x => ?_⟩
              obtain ⟨i, h1, h2⟩ := x
              rcases (show i < j ∨ i = j by omega) with g | g
              · have := hv.mpr ⟨i, g, h2⟩
                rw [z] at this
                exact this
              · rw [g] at h2; exact absurd y h2
            · exact ⟨j, by omega, fun x => y (h0.mpr x)⟩
        exact loop (dF L).length 0 false (by omega) ⟨fun x => absurd x (by decide), fun x => by obtain ⟨i, h1, _⟩ := x; omega⟩
      · have pk2 : (2 : Int32) ≤ nI k := k2.mpr (by omega)
        exact b_Mo_compare_97 (fun _ => k142 false _ (fun z => absurd z hk2)) (fun _ _ => k142 false _ (fun z => absurd z hk2)) (fun _ z => absurd pk2 z) (fun _ z => absurd pk2 z) (fun _ z => absurd pk2 z) (fun _ z => absurd pk2 z)
    have k76 : gAt l G m_Mo_compare (wM G m ta fa wa th len ki pc be ma po ex fm to wh sc re hu tx fg wd) res w1 76 [(0, .ref m), (1, .long (lN b)), (3, .long (lN sb))] [.int (bI ob)] (wM G m ta fa wa 0 len (nI k) (nI n) (bI ng) ma2 po2 ex2 fm to wh sc re hu tx fg2 wd) := by
      refine b_Mo_compare_76 (fun z => b_Mo_compare_89 ?_) (fun z => b_Mo_compare_89 ?_)
      · rw [decide_eq_false (fun v => z (c0.mpr v))] at k97
        exact k97
      · rw [decide_eq_true (c0.mp z)] at k97
        exact k97
    refine gCt.mk (by decide +kernel) (Nat.le_of_ble_eq_true rfl) rfl (b_Mo_compare_0 (k_Mo_compare_2 c (b_Mo_compare_5 (fun z => absurd z (by decide)) (fun _ => b_Mo_compare_13 (fun _ z => absurd (k3.mp z) hk) (fun _ _ _ => ?_) (fun _ _ z => absurd cl z) (fun z => absurd (by decide) z)))))
    rw [esb]
    refine b_Mo_compare_53 (fun _ z => ?_) (fun _ z => ?_) (fun z => absurd (by decide) z)
    · have hq : ob = false := by rw [← hob]; exact decide_eq_false (cob.mp z)
      rw [hq] at k76
      exact k76
    · have hq : ob = true := by
        rw [← hob]
        refine decide_eq_true ?_
        by_cases v : 2 ^ 63 ≤ b
        · exact v
        · exact absurd (cob.mpr v) z
      rw [hq] at k76
      exact k76
  have bI1 : ∀ {v : Bool}, ¬ bI v = 0 → v = true := fun {v} z => by
    cases v with
    | true => rfl
    | false => exact absurd rfl z
  have bIe : ∀ {v u : Bool}, bI v = bI u ↔ v = u := fun {v u} => by cases v <;> cases u <;> decide
  -- whether the size is looked at
  by_cases hfin : none = true ∨ sb = 0 ∨ ng ≠ ob
  · refine ⟨wM G m ta fa wa 0 len (nI k) (nI n) (bI ng) ma2 po2 ex2 fm to wh sc re hu tx fg2 wd, none, whole, scale, rest, huge, ?_, ⟨len, _, _, _, ma2, po2, ex2, fm, to, wh, sc, re, hu, tx, fg2, wd, rfl, T⟩, hnone, fun y1 y2 _ _ y3 => ?_⟩
    · refine up _ _ (fun x7 x8 => ?_)
      have k172 : (none = true ∨ sb = 0) → gAt l G m_Mo_compare (wM G m ta fa wa th len ki pc be ma po ex fm to wh sc re hu tx fg wd) (some (.int (zI (mC ng k ob sb none (mCs k sb whole scale rest huge))))) (wM G m ta fa wa 0 len (nI k) (nI n) (bI ng) ma2 po2 ex2 fm to wh sc re hu tx fg2 wd) 172 [(0, .ref m), (1, .long (lN b)), (3, .long (lN sb)), (5, .int (bI ob)), (6, .int (bI (decide (sb = 0)))), (7, .int x7), (8, .int (bI none))] [] (wM G m ta fa wa 0 len (nI k) (nI n) (bI ng) ma2 po2 ex2 fm to wh sc re hu tx fg2 wd) := by
        intro hz
        unfold mC
        rw [if_pos hz]
        have k186 : ¬ (none = true ∧ sb = 0) → gAt l G m_Mo_compare (wM G m ta fa wa th len ki pc be ma po ex fm to wh sc re hu tx fg wd) (some (.int (zI (if none = true ∧ sb = 0 then 0 else if none = true then (if ob then 1 else -1) else if ng then -1 else 1)))) (wM G m ta fa wa 0 len (nI k) (nI n) (bI ng) ma2 po2 ex2 fm to wh sc re hu tx fg2 wd) 186 [(0, .ref m), (1, .long (lN b)), (3, .long (lN sb)), (5, .int (bI ob)), (6, .int (bI (decide (sb = 0)))), (7, .int x7), (8, .int (bI none))] [] (wM G m ta fa wa 0 len (nI k) (nI n) (bI ng) ma2 po2 ex2 fm to wh sc re hu tx fg2 wd) := by
          intro hy
          rw [if_neg hy]
          refine b_Mo_compare_186 (fun y x => b_Mo_compare_216 ⟨vi ?_, rfl⟩) (fun y x => b_Mo_compare_216 ⟨vi ?_, rfl⟩) (fun y x => b_Mo_compare_216 ⟨vi ?_, rfl⟩) (fun y x => b_Mo_compare_216 ⟨vi ?_, rfl⟩)
          · rw [bI_0.mp y, bI_0.mp x]; rfl
          · rw [bI_0.mp y, bI1 x]; rfl
          · rw [bI1 y, bI_0.mp x]; rfl
          · rw [bI1 y, bI1 x]; rfl
        refine b_Mo_compare_172 (fun y => k186 (fun v => by rw [bI_0.mp y] at v; exact absurd v.1 (by decide))) (fun y x => k186 (fun v => of_decide_eq_false (bI_0.mp x) v.2)) (fun y x => b_Mo_compare_216 ⟨vi ?_, rfl⟩)
        rw [if_pos ⟨bI1 y, of_decide_eq_true (bI1 x)⟩]; rfl
      refine b_Mo_compare_160 (fun y => k172 (Or.inl (bI1 y))) (fun y x v => ?_) (fun y x v u => b_Mo_compare_238 ⟨vi ?_, rfl⟩) (fun y x v u => b_Mo_compare_238 ⟨vi ?_, rfl⟩) (fun y x => k172 (Or.inr (of_decide_eq_true (bI1 x))))
      · have y := bI_0.mp y
        have x := of_decide_eq_false (bI_0.mp x)
        have v := bIe.mp v
        rcases hfin with q | q | q
        · rw [y] at q; exact absurd q (by decide)
        · exact absurd q x
        · exact absurd v q
      · have y := bI_0.mp y
        have x := of_decide_eq_false (bI_0.mp x)
        unfold mC
        rw [if_neg (fun q => q.elim (fun q => by rw [y] at q; exact absurd q (by decide)) x), if_pos (fun q => v (bIe.mpr q)), bI_0.mp u]; rfl
      · have y := bI_0.mp y
        have x := of_decide_eq_false (bI_0.mp x)
        unfold mC
        rw [if_neg (fun q => q.elim (fun q => by rw [y] at q; exact absurd q (by decide)) x), if_pos (fun q => v (bIe.mpr q)), bI1 u]; rfl
    · rcases hfin with v | v | v
      · rw [v] at y1; exact absurd y1 (by decide)
      · exact absurd v y2
      · exact absurd y3 v
  · refine ⟨wM G m ta fa wa 0 len (nI k) (nI n) (bI ng) ma2 po2 ex2 fm2 to2 wh2 sc2 re2 hu2 tx fg2 W2, none, whole, scale, rest, huge, ?_, ⟨len, _, _, _, ma2, po2, ex2, fm2, to2, wh2, sc2, re2, hu2, tx, fg2, W2, rfl, T⟩, hnone, fun _ _ y1 y2 _ => hK y1 y2⟩
    have hn0 : none = false := by
      cases hq : none with
      | false => rfl
      | true => exact absurd (Or.inl hq) hfin
    have hs0 : sb ≠ 0 := fun v => hfin (Or.inr (Or.inl v))
    have hno : ng = ob := by
      by_cases v : ng = ob
      · exact v
      · exact absurd (Or.inr (Or.inr v)) hfin
    refine up _ _ (fun x7 x8 => ?_)
    have eC : mC ng k ob sb none (mCs k sb whole scale rest huge) = if ng then -(mCs k sb whole scale rest huge) else mCs k sb whole scale rest huge := by
      unfold mC
      rw [if_neg (fun q => q.elim (fun q => by rw [hn0] at q; exact absurd q (by decide)) hs0), if_neg (fun q => q hno)]
    rw [eC]
    refine b_Mo_compare_160 (fun y => absurd (bI_0.mpr hn0) y) (fun _ _ _ => k_Mo_compare_241 cs (b_Mo_compare_244 (fun u => b_Mo_compare_261 ⟨vi ?_, rfl⟩) (fun u => b_Mo_compare_261 ⟨vi ?_, rfl⟩))) (fun _ _ v => absurd (bIe.mpr hno) v) (fun _ _ v => absurd (bIe.mpr hno) v) (fun _ x => absurd (bI_0.mpr (decide_eq_false hs0)) x)
    · rw [bI_0.mp u]; rfl
    · rw [bI1 u, if_pos rfl, zI_neg]
end Mo15
