/-! CONTRACTS: the model, 4: the scan -/
section Mo4
variable {l : Launch} {G : gG} {m ta fa wa : Nat} {th len ki pc be ma po : Int32} {ex : Int64} {fm to : Int32} {wh sc : Int64} {re hu : Int32} {tx fg wd : Nat → Int32} {ch : Nat → Nat} {n p : Nat}
theorem a_Mo_scan {w0 w1 : va_W} {res : Option Value} {b : Nat} (T : tOk tx len ch n) (hb : bl_end ch 0 b)
    (k : gAt l G m_Mo_scan w0 res w1 53 [(0, .ref m)] [] (wM G m ta fa wa th len ki (nI (sgn ch b)) (bI (decide (ch b = 45))) ma po ex fm to wh sc re hu tx fg wd)) :
    gAt l G m_Mo_scan w0 res w1 0 [(0, .ref m)] [] (wM G m ta fa wa th len ki pc be ma po ex fm to wh sc re hu tx fg wd) := by
  have hn := T.2.1.1
  have hbn := bl_le T.2.1 (Nat.zero_le _) hb
  have hC := T.2.1.lt b
  have e45 : nI (ch b) = (45 : Int32) ↔ ch b = 45 := nI_eq (b := 45) (by omega) (by decide)
  have e43 : nI (ch b) = (43 : Int32) ↔ ch b = 43 := nI_eq (b := 43) (by omega) (by decide)
  have e1 : nI b + (1 : Int32) = nI (b + 1) := nI_1 b
  unfold sgn at k
  refine b_Mo_scan_0 (k_Mo_scan_6 (c_Mo_blanks (p := 0) T (Nat.zero_le _) hb) (b_Mo_scan_9 (k_Mo_scan_11 (c_Mo_here T (by omega)) (b_Mo_scan_14 (fun z => ?_) (fun z => ?_)))))
  · have z : ¬ ch b = 45 := fun y => z (e45.mpr y)
    rw [decide_eq_false z] at k
    refine b_Mo_scan_24 ⟨rfl, rfl⟩ (fun y => absurd rfl y) (fun _ => k_Mo_scan_35 (c_Mo_here T (by omega)) (b_Mo_scan_38 (fun y => ?_) (fun y => b_Mo_scan_43 ?_)))
    · have y : ¬ ch b = 43 := fun x => y (e43.mpr x)
      rw [if_neg (by omega)] at k
      exact k
    · rw [if_pos (Or.inl (e43.mp y))] at k
      rw [e1]
      exact k
  · have z := e45.mp z
    rw [decide_eq_true z, if_pos (Or.inr z)] at k
    refine b_Mo_scan_24 ⟨rfl, rfl⟩ (fun _ => b_Mo_scan_43 ?_) (fun y => absurd y (by decide))
    rw [e1]
    exact k
theorem a_Mo_body {w0 w1 : va_W} {res : Option Value} {v : Int32} {e : Nat} (T : tOk tx len ch n) (hp : p ≤ n)
    (h : ∃ ki2 ma2 po2 ex2 fg2, ((ch p = 78 ∧ ki2 = 3 ∧ ma2 = ma ∧ po2 = po ∧ ex2 = ex ∧ fg2 = fg ∧ gCt l G m_Mo_spells [.ref m, .long (lN (wdV 0))] (wM G m ta fa wa th len 3 (nI p) be ma po ex fm to wh sc re hu tx fg wd) (some (.int v)) (wM G m ta fa wa th len 3 (nI e) be ma po ex fm to wh sc re hu tx fg wd)) ∨
      (ch p = 73 ∧ ki2 = 2 ∧ ma2 = ma ∧ po2 = po ∧ ex2 = ex ∧ fg2 = fg ∧ gCt l G m_Mo_spells [.ref m, .long (lN (wdV 1))] (wM G m ta fa wa th len 2 (nI p) be ma po ex fm to wh sc re hu tx fg wd) (some (.int v)) (wM G m ta fa wa th len 2 (nI e) be ma po ex fm to wh sc re hu tx fg wd)) ∨
      (ch p ≠ 78 ∧ ch p ≠ 73 ∧ gCt l G m_Mo_number [.ref m] (wM G m ta fa wa th len ki (nI p) be ma po ex fm to wh sc re hu tx fg wd) (some (.int v)) (wM G m ta fa wa th len ki2 (nI e) be ma2 po2 ex2 fm to wh sc re hu tx fg2 wd))) ∧
      gAt l G m_Mo_scan w0 res w1 108 [(0, .ref m), (1, .int v)] [] (wM G m ta fa wa th len ki2 (nI e) be ma2 po2 ex2 fm to wh sc re hu tx fg2 wd)) :
    gAt l G m_Mo_scan w0 res w1 53 [(0, .ref m)] [] (wM G m ta fa wa th len ki (nI p) be ma po ex fm to wh sc re hu tx fg wd) := by
  have hn := T.2.1.1
  have hC := T.2.1.lt p
  have e78 : nI (ch p) = (78 : Int32) ↔ ch p = 78 := nI_eq (b := 78) (by omega) (by decide)
  have e73 : nI (ch p) = (73 : Int32) ↔ ch p = 73 := nI_eq (b := 73) (by omega) (by decide)
  obtain ⟨ki2, ma2, po2, ex2, fg2, h, k⟩ := h
  refine b_Mo_scan_53 (k_Mo_scan_54 (c_Mo_here T (by omega)) ?_)
  rcases h with ⟨h1, h2, h3, h4, h5, h6, c⟩ | ⟨h1, h2, h3, h4, h5, h6, c⟩ | ⟨h1, h2, c⟩
  · subst h2 h3 h4 h5 h6
    exact b_Mo_scan_57 (fun z => absurd (e78.mpr h1) z) (fun _ => k_Mo_scan_71 c (b_Mo_scan_74 k))
  · subst h2 h3 h4 h5 h6
    exact b_Mo_scan_57 (fun _ => k_Mo_scan_79 (c_Mo_here T (by omega)) (b_Mo_scan_82 (fun z => absurd (e73.mpr h1) z) (fun _ => k_Mo_scan_96 c (b_Mo_scan_99 k)))) (fun z => by have := e78.mp z; omega)
  · exact b_Mo_scan_57 (fun _ => k_Mo_scan_79 (c_Mo_here T (by omega)) (b_Mo_scan_82 (fun _ => k_Mo_scan_104 c (b_Mo_scan_107 k)) (fun z => absurd (e73.mp z) h2))) (fun z => absurd (e78.mp z) h1)
/-- what the model knows of a number -/
def mNum (ch : Nat → Nat) (k d : Nat) (L : List (Option Nat)) (es : List Nat) (ma po : Int32) (ex : Int64) (fg : Nat → Int32) : Prop :=
  k < 2 → ma = nI (dF L).length ∧ po = nI (ptF 0 L) ∧ ex = zL (eMz ch (d + L.length) es) ∧ ∀ j, j < (dF L).length → fg j = nI ((dF L).getD j 0)
theorem a_Mo_bodyOk {w0 w1 : va_W} {res : Option Value} {k d e : Nat} {L : List (Option Nat)} {es : List Nat} (T : tOk tx len ch n) (hp : p ≤ n) (h : bdOk ch p k d L es e)
    (kk : ∀ ma2 po2 ex2 fg2, mNum ch k d L es ma2 po2 ex2 fg2 → gAt l G m_Mo_scan w0 res w1 108 [(0, .ref m), (1, .int 1)] [] (wM G m ta fa wa th len (nI k) (nI e) be ma2 po2 ex2 fm to wh sc re hu tx fg2 wd)) :
    gAt l G m_Mo_scan w0 res w1 53 [(0, .ref m)] [] (wM G m ta fa wa th len ki (nI p) be ma po ex fm to wh sc re hu tx fg wd) := by
  rcases h with ⟨h1, h2, h3, h4⟩ | ⟨h1, h2, h3, h4⟩ | ⟨h1, h2, h3, h4, h5, h6⟩ | ⟨h1, h2, h3, h4, h5, h6⟩
  · subst h2 h4
    have c := c_Mo_spells (l := l) (G := G) (m := m) (ta := ta) (fa := fa) (wa := wa) (th := th) (ki := 3) (be := be) (ma := ma) (po := po) (ex := ex) (fm := fm) (to := to) (wh := wh) (sc := sc) (re := re) (hu := hu) (fg := fg) (wd := wd) (i := 0) (mm := wLen 0) (ok := true) T (by decide) hp (wdOk_le T.2.1 (by decide) hp h3) h3 rfl
    exact a_Mo_body T hp ⟨3, ma, po, ex, fg, Or.inl ⟨h1, rfl, rfl, rfl, rfl, rfl, c⟩, kk ma po ex fg (fun z => absurd z (by decide))⟩
  · subst h2 h4
    have c := c_Mo_spells (l := l) (G := G) (m := m) (ta := ta) (fa := fa) (wa := wa) (th := th) (ki := 2) (be := be) (ma := ma) (po := po) (ex := ex) (fm := fm) (to := to) (wh := wh) (sc := sc) (re := re) (hu := hu) (fg := fg) (wd := wd) (i := 1) (mm := wLen 1) (ok := true) T (by decide) hp (wdOk_le T.2.1 (by decide) hp h3) h3 rfl
    exact a_Mo_body T hp ⟨2, ma, po, ex, fg, Or.inr (Or.inl ⟨h1, rfl, rfl, rfl, rfl, rfl, c⟩), kk ma po ex fg (fun z => absurd z (by decide))⟩
  · obtain ⟨fg2, c, hf⟩ := c_Mo_number (l := l) (G := G) (m := m) (ta := ta) (fa := fa) (wa := wa) (th := th) (ki := ki) (be := be) (ma := ma) (po := po) (ex := ex) (fm := fm) (to := to) (wh := wh) (sc := sc) (re := re) (hu := hu) (fg := fg) (wd := wd) T hp (Or.inl ⟨h3, h4, h5, h6⟩)
    exact a_Mo_body T hp ⟨nI k, _, _, _, fg2, Or.inr (Or.inr ⟨h1, h2, c⟩), kk _ _ _ fg2 (fun _ => ⟨rfl, rfl, rfl, hf⟩)⟩
  · obtain ⟨fg2, c, hf⟩ := c_Mo_number (l := l) (G := G) (m := m) (ta := ta) (fa := fa) (wa := wa) (th := th) (ki := ki) (be := be) (ma := ma) (po := po) (ex := ex) (fm := fm) (to := to) (wh := wh) (sc := sc) (re := re) (hu := hu) (fg := fg) (wd := wd) T hp (Or.inr ⟨h3, h4, h5, h6⟩)
    exact a_Mo_body T hp ⟨nI k, _, _, _, fg2, Or.inr (Or.inr ⟨h1, h2, c⟩), kk _ _ _ fg2 (fun _ => ⟨rfl, rfl, rfl, hf⟩)⟩
theorem c_Mo_scan {ng : Bool} {k d : Nat} {L : List (Option Nat)} {es : List Nat} (T : tOk tx len ch n) (h : scOk ch n ng k d L es) : ∃ ma2 po2 ex2 fg2, gCt l G m_Mo_scan [.ref m] (wM G m ta fa wa th len ki pc be ma po ex fm to wh sc re hu tx fg wd) (some (.int 1)) (wM G m ta fa wa th len (nI k) (nI n) (bI ng) ma2 po2 ex2 fm to wh sc re hu tx fg2 wd) ∧ mNum ch k d L es ma2 po2 ex2 fg2 := by
  obtain ⟨b, e, hb, hng, hB, hend⟩ := h
  subst hng
  have hbn := bl_le T.2.1 (Nat.zero_le _) hb
  have hs := sgn_le T.2.1 hbn
  have hen := bdOk_le T.2.1 hs.2 hB
  have hlen : len = nI n := T.1
  have fin : ∀ (w0 : va_W) ma2 po2 ex2 fg2, gAt l G m_Mo_scan w0 (some (.int 1)) (wM G m ta fa wa th len (nI k) (nI n) (bI (decide (ch b = 45))) ma2 po2 ex2 fm to wh sc re hu tx fg2 wd) 108 [(0, .ref m), (1, .int 1)] [] (wM G m ta fa wa th len (nI k) (nI e) (bI (decide (ch b = 45))) ma2 po2 ex2 fm to wh sc re hu tx fg2 wd) := by
    intro w0 ma2 po2 ex2 fg2
    exact b_Mo_scan_108 (fun z => absurd z (by decide)) (fun _ => k_Mo_scan_113 (c_Mo_blanks T hen hend) (b_Mo_scan_116 (fun z => absurd z (by decide)) (fun _ z => absurd hlen.symm z) (fun _ _ => b_Mo_scan_136 ⟨rfl, rfl, rfl⟩)))
  rcases hB with ⟨h1, h2, h3, h4⟩ | ⟨h1, h2, h3, h4⟩ | ⟨h1, h2, h3, h4, h5, h6⟩ | ⟨h1, h2, h3, h4, h5, h6⟩
  · subst h2 h4
    have c := c_Mo_spells (l := l) (G := G) (m := m) (ta := ta) (fa := fa) (wa := wa) (th := th) (ki := 3) (be := bI (decide (ch b = 45))) (ma := ma) (po := po) (ex := ex) (fm := fm) (to := to) (wh := wh) (sc := sc) (re := re) (hu := hu) (fg := fg) (wd := wd) (i := 0) (mm := wLen 0) (ok := true) T (by decide) hs.2 (wdOk_le T.2.1 (by decide) hs.2 h3) h3 rfl
    exact ⟨ma, po, ex, fg, gCt.mk (by decide +kernel) (Nat.le_of_ble_eq_true rfl) rfl (a_Mo_scan T hb (a_Mo_body T hs.2 ⟨3, ma, po, ex, fg, Or.inl ⟨h1, rfl, rfl, rfl, rfl, rfl, c⟩, fin _ ma po ex fg⟩)), fun z => absurd z (by decide)⟩
  · subst h2 h4
    have c := c_Mo_spells (l := l) (G := G) (m := m) (ta := ta) (fa := fa) (wa := wa) (th := th) (ki := 2) (be := bI (decide (ch b = 45))) (ma := ma) (po := po) (ex := ex) (fm := fm) (to := to) (wh := wh) (sc := sc) (re := re) (hu := hu) (fg := fg) (wd := wd) (i := 1) (mm := wLen 1) (ok := true) T (by decide) hs.2 (wdOk_le T.2.1 (by decide) hs.2 h3) h3 rfl
    exact ⟨ma, po, ex, fg, gCt.mk (by decide +kernel) (Nat.le_of_ble_eq_true rfl) rfl (a_Mo_scan T hb (a_Mo_body T hs.2 ⟨2, ma, po, ex, fg, Or.inr (Or.inl ⟨h1, rfl, rfl, rfl, rfl, rfl, c⟩), fin _ ma po ex fg⟩)), fun z => absurd z (by decide)⟩
  · obtain ⟨fg2, c, hf⟩ := c_Mo_number (l := l) (G := G) (m := m) (ta := ta) (fa := fa) (wa := wa) (th := th) (ki := ki) (be := bI (decide (ch b = 45))) (ma := ma) (po := po) (ex := ex) (fm := fm) (to := to) (wh := wh) (sc := sc) (re := re) (hu := hu) (fg := fg) (wd := wd) T hs.2 (Or.inl ⟨h3, h4, h5, h6⟩)
    exact ⟨_, _, _, fg2, gCt.mk (by decide +kernel) (Nat.le_of_ble_eq_true rfl) rfl (a_Mo_scan T hb (a_Mo_body T hs.2 ⟨nI k, _, _, _, fg2, Or.inr (Or.inr ⟨h1, h2, c⟩), fin _ _ _ _ fg2⟩)), fun _ => ⟨rfl, rfl, rfl, hf⟩⟩
  · obtain ⟨fg2, c, hf⟩ := c_Mo_number (l := l) (G := G) (m := m) (ta := ta) (fa := fa) (wa := wa) (th := th) (ki := ki) (be := bI (decide (ch b = 45))) (ma := ma) (po := po) (ex := ex) (fm := fm) (to := to) (wh := wh) (sc := sc) (re := re) (hu := hu) (fg := fg) (wd := wd) T hs.2 (Or.inr ⟨h3, h4, h5, h6⟩)
    exact ⟨_, _, _, fg2, gCt.mk (by decide +kernel) (Nat.le_of_ble_eq_true rfl) rfl (a_Mo_scan T hb (a_Mo_body T hs.2 ⟨nI k, _, _, _, fg2, Or.inr (Or.inr ⟨h1, h2, c⟩), fin _ _ _ _ fg2⟩)), fun _ => ⟨rfl, rfl, rfl, hf⟩⟩
theorem c_Mo_scanNo {w : Nat} (T : tOk tx len ch n) (h : scNo ch n w) : ∃ ki2 be2 ma2 po2 ex2 fg2, gCt l G m_Mo_scan [.ref m] (wM G m ta fa wa th len ki pc be ma po ex fm to wh sc re hu tx fg wd) (some (.int 0)) (wM G m ta fa wa th len ki2 (nI w) be2 ma2 po2 ex2 fm to wh sc re hu tx fg2 wd) := by
  obtain ⟨b, hb, h⟩ := h
  have hn := T.2.1.1
  have hbn := bl_le T.2.1 (Nat.zero_le _) hb
  have hs := sgn_le T.2.1 hbn
  have hlen : len = nI n := T.1
  rcases h with h | ⟨k, d, L, es, e, hB, hend, hw⟩
  · have fin : ∀ (w0 : va_W) ki2 ma2 po2 ex2 fg2, gAt l G m_Mo_scan w0 (some (.int 0)) (wM G m ta fa wa th len ki2 (nI w) (bI (decide (ch b = 45))) ma2 po2 ex2 fm to wh sc re hu tx fg2 wd) 108 [(0, .ref m), (1, .int 0)] [] (wM G m ta fa wa th len ki2 (nI w) (bI (decide (ch b = 45))) ma2 po2 ex2 fm to wh sc re hu tx fg2 wd) := by
      intro w0 ki2 ma2 po2 ex2 fg2
      exact b_Mo_scan_108 (fun _ => b_Mo_scan_116 (fun _ => b_Mo_scan_135 (b_Mo_scan_136 ⟨rfl, rfl, rfl⟩)) (fun z => absurd rfl z) (fun z => absurd rfl z)) (fun z => absurd rfl z)
    rcases h with ⟨h1, mm, h2, h3⟩ | ⟨h1, mm, h2, h3⟩ | ⟨h1, h2, h3, h4⟩ | ⟨h1, h2, h3, h4⟩
    · subst h3
      have c := c_Mo_spells (l := l) (G := G) (m := m) (ta := ta) (fa := fa) (wa := wa) (th := th) (ki := 3) (be := bI (decide (ch b = 45))) (ma := ma) (po := po) (ex := ex) (fm := fm) (to := to) (wh := wh) (sc := sc) (re := re) (hu := hu) (fg := fg) (wd := wd) (i := 0) (mm := mm) (ok := false) T (by decide) hs.2 (wdNo_le T.2.1 (by decide) hs.2 h2) h2.2.1 ⟨h2.1, h2.2.2⟩
      exact ⟨3, _, ma, po, ex, fg, gCt.mk (by decide +kernel) (Nat.le_of_ble_eq_true rfl) rfl (a_Mo_scan T hb (a_Mo_body T hs.2 ⟨3, ma, po, ex, fg, Or.inl ⟨h1, rfl, rfl, rfl, rfl, rfl, c⟩, fin _ 3 ma po ex fg⟩))⟩
    · subst h3
      have c := c_Mo_spells (l := l) (G := G) (m := m) (ta := ta) (fa := fa) (wa := wa) (th := th) (ki := 2) (be := bI (decide (ch b = 45))) (ma := ma) (po := po) (ex := ex) (fm := fm) (to := to) (wh := wh) (sc := sc) (re := re) (hu := hu) (fg := fg) (wd := wd) (i := 1) (mm := mm) (ok := false) T (by decide) hs.2 (wdNo_le T.2.1 (by decide) hs.2 h2) h2.2.1 ⟨h2.1, h2.2.2⟩
      exact ⟨2, _, ma, po, ex, fg, gCt.mk (by decide +kernel) (Nat.le_of_ble_eq_true rfl) rfl (a_Mo_scan T hb (a_Mo_body T hs.2 ⟨2, ma, po, ex, fg, Or.inr (Or.inl ⟨h1, rfl, rfl, rfl, rfl, rfl, c⟩), fin _ 2 ma po ex fg⟩))⟩
    · obtain ⟨ki2, ma2, po2, ex2, fg2, c⟩ := c_Mo_numberNo (l := l) (G := G) (m := m) (ta := ta) (fa := fa) (wa := wa) (th := th) (ki := ki) (be := bI (decide (ch b = 45))) (ma := ma) (po := po) (ex := ex) (fm := fm) (to := to) (wh := wh) (sc := sc) (re := re) (hu := hu) (fg := fg) (wd := wd) T hs.2 (Or.inl ⟨h3, h4⟩)
      exact ⟨ki2, _, ma2, po2, ex2, fg2, gCt.mk (by decide +kernel) (Nat.le_of_ble_eq_true rfl) rfl (a_Mo_scan T hb (a_Mo_body T hs.2 ⟨ki2, ma2, po2, ex2, fg2, Or.inr (Or.inr ⟨h1, h2, c⟩), fin _ ki2 ma2 po2 ex2 fg2⟩))⟩
    · obtain ⟨ki2, ma2, po2, ex2, fg2, c⟩ := c_Mo_numberNo (l := l) (G := G) (m := m) (ta := ta) (fa := fa) (wa := wa) (th := th) (ki := ki) (be := bI (decide (ch b = 45))) (ma := ma) (po := po) (ex := ex) (fm := fm) (to := to) (wh := wh) (sc := sc) (re := re) (hu := hu) (fg := fg) (wd := wd) T hs.2 (Or.inr ⟨h3, h4⟩)
      exact ⟨ki2, _, ma2, po2, ex2, fg2, gCt.mk (by decide +kernel) (Nat.le_of_ble_eq_true rfl) rfl (a_Mo_scan T hb (a_Mo_body T hs.2 ⟨ki2, ma2, po2, ex2, fg2, Or.inr (Or.inr ⟨h1, h2, c⟩), fin _ ki2 ma2 po2 ex2 fg2⟩))⟩
  · have hen := bdOk_le T.2.1 hs.2 hB
    have hwn : ¬ nI w = len := fun z => by
      rw [hlen] at z
      have := (nI_eq (by omega) (by omega)).mp z
      omega
    have fin : ∀ (w0 : va_W) ki2 ma2 po2 ex2 fg2, gAt l G m_Mo_scan w0 (some (.int 0)) (wM G m ta fa wa th len ki2 (nI w) (bI (decide (ch b = 45))) ma2 po2 ex2 fm to wh sc re hu tx fg2 wd) 108 [(0, .ref m), (1, .int 1)] [] (wM G m ta fa wa th len ki2 (nI e) (bI (decide (ch b = 45))) ma2 po2 ex2 fm to wh sc re hu tx fg2 wd) := by
      intro w0 ki2 ma2 po2 ex2 fg2
      exact b_Mo_scan_108 (fun z => absurd z (by decide)) (fun _ => k_Mo_scan_113 (c_Mo_blanks T hen hend) (b_Mo_scan_116 (fun z => absurd z (by decide)) (fun _ _ => b_Mo_scan_135 (b_Mo_scan_136 ⟨rfl, rfl, rfl⟩)) (fun _ z => absurd z hwn)))
    rcases hB with ⟨h1, h2, h3, h4⟩ | ⟨h1, h2, h3, h4⟩ | ⟨h1, h2, h3, h4, h5, h6⟩ | ⟨h1, h2, h3, h4, h5, h6⟩
    · subst h2 h4
      have c := c_Mo_spells (l := l) (G := G) (m := m) (ta := ta) (fa := fa) (wa := wa) (th := th) (ki := 3) (be := bI (decide (ch b = 45))) (ma := ma) (po := po) (ex := ex) (fm := fm) (to := to) (wh := wh) (sc := sc) (re := re) (hu := hu) (fg := fg) (wd := wd) (i := 0) (mm := wLen 0) (ok := true) T (by decide) hs.2 (wdOk_le T.2.1 (by decide) hs.2 h3) h3 rfl
      exact ⟨3, _, ma, po, ex, fg, gCt.mk (by decide +kernel) (Nat.le_of_ble_eq_true rfl) rfl (a_Mo_scan T hb (a_Mo_body T hs.2 ⟨3, ma, po, ex, fg, Or.inl ⟨h1, rfl, rfl, rfl, rfl, rfl, c⟩, fin _ 3 ma po ex fg⟩))⟩
    · subst h2 h4
      have c := c_Mo_spells (l := l) (G := G) (m := m) (ta := ta) (fa := fa) (wa := wa) (th := th) (ki := 2) (be := bI (decide (ch b = 45))) (ma := ma) (po := po) (ex := ex) (fm := fm) (to := to) (wh := wh) (sc := sc) (re := re) (hu := hu) (fg := fg) (wd := wd) (i := 1) (mm := wLen 1) (ok := true) T (by decide) hs.2 (wdOk_le T.2.1 (by decide) hs.2 h3) h3 rfl
      exact ⟨2, _, ma, po, ex, fg, gCt.mk (by decide +kernel) (Nat.le_of_ble_eq_true rfl) rfl (a_Mo_scan T hb (a_Mo_body T hs.2 ⟨2, ma, po, ex, fg, Or.inr (Or.inl ⟨h1, rfl, rfl, rfl, rfl, rfl, c⟩), fin _ 2 ma po ex fg⟩))⟩
    · obtain ⟨fg2, c, hf⟩ := c_Mo_number (l := l) (G := G) (m := m) (ta := ta) (fa := fa) (wa := wa) (th := th) (ki := ki) (be := bI (decide (ch b = 45))) (ma := ma) (po := po) (ex := ex) (fm := fm) (to := to) (wh := wh) (sc := sc) (re := re) (hu := hu) (fg := fg) (wd := wd) T hs.2 (Or.inl ⟨h3, h4, h5, h6⟩)
      exact ⟨nI k, _, _, _, _, fg2, gCt.mk (by decide +kernel) (Nat.le_of_ble_eq_true rfl) rfl (a_Mo_scan T hb (a_Mo_body T hs.2 ⟨nI k, _, _, _, fg2, Or.inr (Or.inr ⟨h1, h2, c⟩), fin _ _ _ _ _ fg2⟩))⟩
    · obtain ⟨fg2, c, hf⟩ := c_Mo_number (l := l) (G := G) (m := m) (ta := ta) (fa := fa) (wa := wa) (th := th) (ki := ki) (be := bI (decide (ch b = 45))) (ma := ma) (po := po) (ex := ex) (fm := fm) (to := to) (wh := wh) (sc := sc) (re := re) (hu := hu) (fg := fg) (wd := wd) T hs.2 (Or.inr ⟨h3, h4, h5, h6⟩)
      exact ⟨nI k, _, _, _, _, fg2, gCt.mk (by decide +kernel) (Nat.le_of_ble_eq_true rfl) rfl (a_Mo_scan T hb (a_Mo_body T hs.2 ⟨nI k, _, _, _, fg2, Or.inr (Or.inr ⟨h1, h2, c⟩), fin _ _ _ _ _ fg2⟩))⟩
/-- the model's object, its text is ch -/
def MI (G : gG) (m ta fa wa : Nat) (ch : Nat → Nat) (n : Nat) (th : Int32) (w : va_W) : Prop :=
  ∃ len ki pc be ma po ex fm to wh sc re hu tx fg wd, w = wM G m ta fa wa th len ki pc be ma po ex fm to wh sc re hu tx fg wd ∧ tOk tx len ch n
variable {w : va_W}
theorem m_kindOk {ng : Bool} {k d : Nat} {L : List (Option Nat)} {es : List Nat} (h : MI G m ta fa wa ch n th w) (hs : scOk ch n ng k d L es) : ∃ w2, gCt l G m_Mo_kind [.ref m] w (some (.int (nI k))) w2 ∧ MI G m ta fa wa ch n 0 w2 := by
  obtain ⟨len, ki, pc, be, ma, po, ex, fm, to, wh, sc, re, hu, tx, fg, wd, rfl, T⟩ := h
  obtain ⟨ma2, po2, ex2, fg2, c, _⟩ := c_Mo_scan (l := l) (G := G) (m := m) (ta := ta) (fa := fa) (wa := wa) (th := 0) (ki := ki) (pc := pc) (be := be) (ma := ma) (po := po) (ex := ex) (fm := fm) (to := to) (wh := wh) (sc := sc) (re := re) (hu := hu) (fg := fg) (wd := wd) T hs
  exact ⟨_, gCt.mk (by decide +kernel) (Nat.le_of_ble_eq_true rfl) rfl (b_Mo_kind_0 (k_Mo_kind_6 c (b_Mo_kind_9 (fun z => absurd z (by decide)) (fun _ => b_Mo_kind_20 ⟨rfl, rfl⟩)))), len, _, _, _, ma2, po2, ex2, fm, to, wh, sc, re, hu, tx, fg2, wd, rfl, T⟩
theorem m_kindNo {wv : Nat} (h : MI G m ta fa wa ch n th w) (hs : scNo ch n wv) : ∃ w2, gCt l G m_Mo_kind [.ref m] w (some (.int (-1))) w2 ∧ MI G m ta fa wa ch n 0 w2 := by
  obtain ⟨len, ki, pc, be, ma, po, ex, fm, to, wh, sc, re, hu, tx, fg, wd, rfl, T⟩ := h
  obtain ⟨ki2, be2, ma2, po2, ex2, fg2, c⟩ := c_Mo_scanNo (l := l) (G := G) (m := m) (ta := ta) (fa := fa) (wa := wa) (th := 0) (ki := ki) (pc := pc) (be := be) (ma := ma) (po := po) (ex := ex) (fm := fm) (to := to) (wh := wh) (sc := sc) (re := re) (hu := hu) (fg := fg) (wd := wd) T hs
  exact ⟨_, gCt.mk (by decide +kernel) (Nat.le_of_ble_eq_true rfl) rfl (b_Mo_kind_0 (k_Mo_kind_6 c (b_Mo_kind_9 (fun _ => b_Mo_kind_20 ⟨rfl, rfl⟩) (fun z => absurd rfl z)))), len, _, _, _, ma2, po2, ex2, fm, to, wh, sc, re, hu, tx, fg2, wd, rfl, T⟩
theorem m_faultOk {ng : Bool} {k d : Nat} {L : List (Option Nat)} {es : List Nat} (h : MI G m ta fa wa ch n th w) (hs : scOk ch n ng k d L es) : ∃ w2, gCt l G m_Mo_fault [.ref m] w (some (.int (-1))) w2 ∧ MI G m ta fa wa ch n 0 w2 := by
  obtain ⟨len, ki, pc, be, ma, po, ex, fm, to, wh, sc, re, hu, tx, fg, wd, rfl, T⟩ := h
  obtain ⟨ma2, po2, ex2, fg2, c, _⟩ := c_Mo_scan (l := l) (G := G) (m := m) (ta := ta) (fa := fa) (wa := wa) (th := 0) (ki := ki) (pc := pc) (be := be) (ma := ma) (po := po) (ex := ex) (fm := fm) (to := to) (wh := wh) (sc := sc) (re := re) (hu := hu) (fg := fg) (wd := wd) T hs
  exact ⟨_, gCt.mk (by decide +kernel) (Nat.le_of_ble_eq_true rfl) rfl (b_Mo_fault_0 (k_Mo_fault_6 c (b_Mo_fault_9 (fun z => absurd z (by decide)) (fun _ => b_Mo_fault_20 ⟨rfl, rfl⟩)))), len, _, _, _, ma2, po2, ex2, fm, to, wh, sc, re, hu, tx, fg2, wd, rfl, T⟩
theorem m_faultNo {wv : Nat} (h : MI G m ta fa wa ch n th w) (hs : scNo ch n wv) : ∃ w2, gCt l G m_Mo_fault [.ref m] w (some (.int (nI wv))) w2 ∧ MI G m ta fa wa ch n 0 w2 := by
  obtain ⟨len, ki, pc, be, ma, po, ex, fm, to, wh, sc, re, hu, tx, fg, wd, rfl, T⟩ := h
  obtain ⟨ki2, be2, ma2, po2, ex2, fg2, c⟩ := c_Mo_scanNo (l := l) (G := G) (m := m) (ta := ta) (fa := fa) (wa := wa) (th := 0) (ki := ki) (pc := pc) (be := be) (ma := ma) (po := po) (ex := ex) (fm := fm) (to := to) (wh := wh) (sc := sc) (re := re) (hu := hu) (fg := fg) (wd := wd) T hs
  exact ⟨_, gCt.mk (by decide +kernel) (Nat.le_of_ble_eq_true rfl) rfl (b_Mo_fault_0 (k_Mo_fault_6 c (b_Mo_fault_9 (fun _ => b_Mo_fault_20 ⟨rfl, rfl⟩) (fun z => absurd rfl z)))), len, _, _, _, ma2, po2, ex2, fm, to, wh, sc, re, hu, tx, fg2, wd, rfl, T⟩
end Mo4
