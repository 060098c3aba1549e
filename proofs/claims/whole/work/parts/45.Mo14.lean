/-! CONTRACTS: the model, 14: side, compareSize, compare -/
def mS (i whole : Nat) (scale : Int) (rest : Nat) (huge : Bool) : Int :=
  if mB i whole scale rest huge = f_inf i * 2 ^ (f_p i - 1) then 1 else if rest = 0 then 0 else if rest = 3 ∨ (rest = 2 ∧ whole % 2 = 1) then 1 else -1
def dI : Nat := 2047 * 2 ^ 52
theorem dI_l : (9218868437227405312 : Int64) = lN dI := by decide +kernel
theorem dI_lt : dI < 2 ^ 63 := by decide +kernel
theorem dI_e : 2047 * 2 ^ (53 - 1) = dI := by decide +kernel
def mCs (k sb whole : Nat) (scale : Int) (rest : Nat) (huge : Bool) : Int :=
  if k = 2 ∨ sb = dI then (if k ≠ 2 then -1 else if sb = dI then 0 else 1)
  else if (if huge then dI else rc_bits 53 2047 whole ((scale - (-1074)).toNat + 1)) = dI ∨ sb < (if huge then dI else rc_bits 53 2047 whole ((scale - (-1074)).toNat + 1)) then 1
  else if (if huge then dI else rc_bits 53 2047 whole ((scale - (-1074)).toNat + 1)) < sb then -1 else if rest = 0 then 0 else 1
def mC (ng : Bool) (k : Nat) (ob : Bool) (sb : Nat) (none : Bool) (c : Int) : Int :=
  if none = true ∨ sb = 0 then (if none = true ∧ sb = 0 then 0 else if none = true then (if ob then 1 else -1) else if ng then -1 else 1)
  else if ng ≠ ob then (if ng then -1 else 1) else if ng then -c else c
section Mo14
variable {l : Launch} {G : gG} {m ta fa wa : Nat} {th len pc be ma po : Int32} {ex : Int64} {fm to : Int32} {wh sc : Int64} {re hu : Int32} {tx fg wd : Nat → Int32} {ch : Nat → Nat} {n : Nat} {w : va_W}
theorem m_side2 {ng : Bool} {k d : Nat} {L : List (Option Nat)} {es : List Nat} {x : Int32} (h : MI G m ta fa wa ch n th w) (hs : scOk ch n ng k d L es) (hk : 2 ≤ k) :
    ∃ w2, gCt l G m_Mo_side [.ref m, .int x] w (some (.int 0)) w2 ∧ MI G m ta fa wa ch n 0 w2 := by
  obtain ⟨len, ki, pc, be, ma, po, ex, fm, to, wh, sc, re, hu, tx, fg, wd, rfl, T⟩ := h
  obtain ⟨ma2, po2, ex2, fg2, c, hm⟩ := c_Mo_scan (l := l) (G := G) (m := m) (ta := ta) (fa := fa) (wa := wa) (th := th) (ki := ki) (pc := pc) (be := be) (ma := ma) (po := po) (ex := ex) (fm := fm) (to := to) (wh := wh) (sc := sc) (re := re) (hu := hu) (fg := fg) (wd := wd) T hs
  have h3 := (hs.dg T.2.1).1
  have k1 : ¬ nI k ≤ (1 : Int32) := fun z => by have := (nI_leI (b := 1) (by omega) (by decide)).mp z; omega
  exact ⟨_, gCt.mk (by decide +kernel) (Nat.le_of_ble_eq_true rfl) rfl (b_Mo_side_0 (k_Mo_side_2 c (b_Mo_side_5 (fun z => absurd z (by decide)) (fun _ => b_Mo_side_13 (fun z => absurd z (by decide)) (fun _ z => absurd z k1) (fun _ z => absurd z k1) (fun _ _ => b_Mo_side_31 ⟨rfl, rfl⟩))))), len, _, _, _, ma2, po2, ex2, fm, to, wh, sc, re, hu, tx, fg2, wd, rfl, T⟩
theorem m_side {ng fl : Bool} {k d : Nat} {L : List (Option Nat)} {es : List Nat} (h : MI G m ta fa wa ch n th w) (hs : scOk ch n ng k d L es) (hk : k < 2) :
    ∃ w2 whole scale rest huge, gCt l G m_Mo_side [.ref m, .int (bI fl)] w (some (.int (zI (if ng then -mS (if fl then 1 else 0) whole scale rest huge else mS (if fl then 1 else 0) whole scale rest huge)))) w2 ∧ MI G m ta fa wa ch n 0 w2 ∧ mK ch k d L es (f_p (if fl then 1 else 0)) (f_least (if fl then 1 else 0)) whole scale rest huge := by
  obtain ⟨len, ki, pc, be, ma, po, ex, fm, to, wh, sc, re, hu, tx, fg, wd, rfl, T⟩ := h
  obtain ⟨ma2, po2, ex2, fg2, c, hm⟩ := c_Mo_scan (l := l) (G := G) (m := m) (ta := ta) (fa := fa) (wa := wa) (th := th) (ki := ki) (pc := pc) (be := be) (ma := ma) (po := po) (ex := ex) (fm := fm) (to := to) (wh := wh) (sc := sc) (re := re) (hu := hu) (fg := fg) (wd := wd) T hs
  have hi : (if fl then 1 else 0) < 2 := by cases fl <;> decide
  obtain ⟨W2, fm2, to2, whole, scale, rest, huge, c2, hK⟩ := x_sizeRead (l := l) (G := G) (m := m) (ta := ta) (fa := fa) (wa := wa) (th := 0) (pc := nI n) (be := bI ng) (fm := fm) (to := to) (wh := wh) (sc := sc) (re := re) (hu := hu) (wd := wd) (i := if fl then 1 else 0) hi hk T hs hm
  obtain ⟨p1, p2, i1, i2, l1, l2⟩ := f_rng hi
  obtain ⟨r1, r2, r3, r4⟩ := mF_rng hK (by omega) (by omega)
  have hp53 : 2 ^ f_p (if fl then 1 else 0) ≤ 2 ^ 53 := Nat.pow_le_pow_right (by decide) p2
  have k1 : nI k ≤ (1 : Int32) := nI_le (b := 1) (by omega) (by decide)
  have hB := mB_le (whole := whole) (rest := rest) (scale := scale) (huge := huge) hi
  have hinf63 : f_inf (if fl then 1 else 0) * 2 ^ (f_p (if fl then 1 else 0) - 1) < 2 ^ 63 := by cases fl <;> decide +kernel
  have r0 : nI rest = 0 ↔ rest = 0 := nI_eq (b := 0) (by omega) (by decide)
  have fin : ∀ (v : Int) (x3 x5 : Int64), v = mS (if fl then 1 else 0) whole scale rest huge → gAt l G m_Mo_side (wM G m ta fa wa th len ki pc be ma po ex fm to wh sc re hu tx fg wd) (some (.int (zI (if ng then -mS (if fl then 1 else 0) whole scale rest huge else mS (if fl then 1 else 0) whole scale rest huge)))) (wM G m ta fa wa 0 len (nI k) (nI n) (bI ng) ma2 po2 ex2 fm2 to2 (lN whole) (zL scale) (nI rest) (bI huge) tx fg2 W2) 117 [(0, .ref m), (1, .int (bI fl)), (2, .int (nI (f_p (if fl then 1 else 0)))), (3, .long x3), (5, .long x5)] [.int (zI v)] (wM G m ta fa wa 0 len (nI k) (nI n) (bI ng) ma2 po2 ex2 fm2 to2 (lN whole) (zL scale) (nI rest) (bI huge) tx fg2 W2) := by
    intro v x3 x5 hv
    subst hv
    refine b_Mo_side_117 (fun z => b_Mo_side_134 ⟨vi ?_, rfl⟩) (fun z => b_Mo_side_134 ⟨vi ?_, rfl⟩)
    · rw [bI_0.mp z]; rfl
    · have hng : ng = true := by
        cases ng with
        | true => rfl
        | false => exact absurd rfl z
      rw [hng, if_pos rfl, zI_neg]
  have k77 : ∀ v0 : Int64, v0 <<< ((Int32.toInt64 (nI (f_p (if fl then 1 else 0)) - (1 : Int32))) &&& 63) = lN (f_inf (if fl then 1 else 0) * 2 ^ (f_p (if fl then 1 else 0) - 1)) → gAt l G m_Mo_side (wM G m ta fa wa th len ki pc be ma po ex fm to wh sc re hu tx fg wd) (some (.int (zI (if ng then -mS (if fl then 1 else 0) whole scale rest huge else mS (if fl then 1 else 0) whole scale rest huge)))) (wM G m ta fa wa 0 len (nI k) (nI n) (bI ng) ma2 po2 ex2 fm2 to2 (lN whole) (zL scale) (nI rest) (bI huge) tx fg2 W2) 77 [(0, .ref m), (1, .int (bI fl)), (2, .int (nI (f_p (if fl then 1 else 0)))), (3, .long (lN (mB (if fl then 1 else 0) whole scale rest huge)))] [.long v0] (wM G m ta fa wa 0 len (nI k) (nI n) (bI ng) ma2 po2 ex2 fm2 to2 (lN whole) (zL scale) (nI rest) (bI huge) tx fg2 W2) := by
    intro v0 hv
    have cc : lg_cmp (lN (mB (if fl then 1 else 0) whole scale rest huge)) (v0 <<< ((Int32.toInt64 (nI (f_p (if fl then 1 else 0)) - (1 : Int32))) &&& 63)) = 0 ↔ mB (if fl then 1 else 0) whole scale rest huge = f_inf (if fl then 1 else 0) * 2 ^ (f_p (if fl then 1 else 0) - 1) := by
      rw [hv, lgc_eq]
      exact pk_lEQ (by omega) hinf63
    refine b_Mo_side_77 (fun z y => k_Mo_side_106 (c_Mo_goesUp (by omega) r4) (b_Mo_side_109 (fun x => fin (-1) _ _ ?_) (fun x => fin 1 _ _ ?_))) (fun z y => fin 0 _ _ ?_) (fun z => fin 1 _ _ ?_)
    · have x := of_decide_eq_false (bI_0.mp x)
      unfold mS
      rw [if_neg (fun v => z (cc.mpr v)), if_neg (fun v => y (r0.mpr v)), if_neg x]
    · have x : rest = 3 ∨ (rest = 2 ∧ whole % 2 = 1) := by
        by_cases v : rest = 3 ∨ (rest = 2 ∧ whole % 2 = 1)
        · exact v
        · exact absurd (bI_0.mpr (decide_eq_false v)) x
      unfold mS
      rw [if_neg (fun v => z (cc.mpr v)), if_neg (fun v => y (r0.mpr v)), if_pos x]
    · unfold mS
      rw [if_neg (fun v => z (cc.mpr v)), if_pos (r0.mp y)]
    · unfold mS
      rw [if_pos (cc.mp z)]
  refine ⟨wM G m ta fa wa 0 len (nI k) (nI n) (bI ng) ma2 po2 ex2 fm2 to2 (lN whole) (zL scale) (nI rest) (bI huge) tx fg2 W2, whole, scale, rest, huge, gCt.mk (by decide +kernel) (Nat.le_of_ble_eq_true rfl) rfl (b_Mo_side_0 (k_Mo_side_2 c (b_Mo_side_5 (fun z => absurd z (by decide)) (fun _ => b_Mo_side_13 (fun z => absurd z (by decide)) (fun _ _ z => ?_) (fun _ _ z => ?_) (fun _ z => absurd k1 z))))), ⟨len, nI k, nI n, bI ng, ma2, po2, ex2, fm2, to2, lN whole, zL scale, nI rest, bI huge, tx, fg2, W2, rfl, T⟩, hK⟩
  · have z := bI_0.mp z
    subst z
    exact b_Mo_side_44 (fun _ => k_Mo_side_60 c2 (b_Mo_side_63 (fun _ => k77 _ (by decide +kernel)) (fun z => absurd rfl z))) (fun z => absurd rfl z)
  · have z : fl = true := by
      cases fl with
      | true => rfl
      | false => exact absurd rfl z
    subst z
    exact b_Mo_side_44 (fun z => absurd z (by decide)) (fun _ => k_Mo_side_60 c2 (b_Mo_side_63 (fun z => absurd z (by decide)) (fun _ => k77 _ (by decide +kernel))))
theorem x_compareSize {k d sb : Nat} {ng : Bool} {L : List (Option Nat)} {es : List Nat} (hsb : sb < 2 ^ 63) (hk : k < 3) (T : tOk tx len ch n) (hs : scOk ch n ng k d L es) (hm : mNum ch k d L es ma po ex fg) :
    ∃ W2 fm2 to2 wh2 sc2 re2 hu2 whole scale rest huge, gCt l G m_Mo_compareSize [.ref m, .long (lN sb)] (wM G m ta fa wa th len (nI k) pc be ma po ex fm to wh sc re hu tx fg wd) (some (.int (zI (mCs k sb whole scale rest huge)))) (wM G m ta fa wa th len (nI k) pc be ma po ex fm2 to2 wh2 sc2 re2 hu2 tx fg W2) ∧ (k < 2 → sb ≠ dI → mK ch k d L es 53 (-1074) whole scale rest huge) := by
  have k2 : nI k = (2 : Int32) ↔ k = 2 := nI_eq (b := 2) (by omega) (by decide)
  have ci : lg_cmp (lN sb) (9218868437227405312 : Int64) = 0 ↔ sb = dI := by
    rw [lgc_eq, dI_l]
    exact pk_lEQ hsb dI_lt
  by_cases z : k = 2 ∨ sb = dI
  · refine ⟨wd, fm, to, wh, sc, re, hu, 0, 0, 0, false, ?_, fun y1 y2 => by omega⟩
    unfold mCs
    rw [if_pos z]
    have k18 : gAt l G m_Mo_compareSize (wM G m ta fa wa th len (nI k) pc be ma po ex fm to wh sc re hu tx fg wd) (some (.int (zI (if k ≠ 2 then -1 else if sb = dI then 0 else 1)))) (wM G m ta fa wa th len (nI k) pc be ma po ex fm to wh sc re hu tx fg wd) 18 [(0, .ref m), (1, .long (lN sb)), (3, .long (9218868437227405312 : Int64))] [] (wM G m ta fa wa th len (nI k) pc be ma po ex fm to wh sc re hu tx fg wd) := by
      refine b_Mo_compareSize_18 (fun y x => b_Mo_compareSize_41 ⟨vi ?_, rfl⟩) (fun y x => b_Mo_compareSize_41 ⟨vi ?_, rfl⟩) (fun y => b_Mo_compareSize_41 ⟨vi ?_, rfl⟩)
      · rw [if_neg (fun v => v (k2.mp y)), if_neg (fun v => x (ci.mpr v))]; rfl
      · rw [if_neg (fun v => v (k2.mp y)), if_pos (ci.mp x)]; rfl
      · rw [if_pos (fun v => y (k2.mpr v))]; rfl
    refine gCt.mk (by decide +kernel) (Nat.le_of_ble_eq_true rfl) rfl (b_Mo_compareSize_0 (fun _ => k18) (fun y x => ?_) (fun _ _ => k18))
    rcases z with z | z
    · exact absurd (k2.mpr z) y
    · exact absurd (ci.mpr z) x
  · have hk2 : k < 2 := by omega
    obtain ⟨h1, h2, h3, h4⟩ := hm hk2
    subst h1 h2 h3
    obtain ⟨_, g0, g1⟩ := hs.dg T.2.1
    have hn := T.2.1.1
    have hr := eMz_rng hs hk2 (d + L.length)
    have hdL := dF_len L
    have hpl := ptF_le L 0
    have key : d + L.length ≤ n ∧ dgs (if k = 0 then 10 else 16) L := by
      rcases (show k = 0 ∨ k = 1 by omega) with z | z
      · obtain ⟨a, b⟩ := g0 z
        rw [if_pos z]
        exact ⟨dgL_lt T.2.1 _ _ _ a b, dgL_dgs (Or.inl rfl) _ _ _ b⟩
      · obtain ⟨a, b⟩ := g1 z
        rw [if_neg (by omega)]
        exact ⟨dgL_lt T.2.1 _ _ _ a b, dgL_dgs (Or.inr rfl) _ _ _ b⟩
    obtain ⟨W2, fm2, to2, whole, scale, rest, huge, c, hF⟩ := c_Mo_find (l := l) (G := G) (m := m) (ta := ta) (fa := fa) (wa := wa) (th := th) (len := len) (pc := pc) (be := be) (tx := tx) (fg := fg) (wd := wd) (ds := dsF L) (k := k) (M := (dF L).length) (pt := ptF 0 L) (p := 53) (E := eMz ch (d + L.length) es) (least := -1074) (fm := fm) (to := to) (wh := wh) (sc := sc) (re := re) (hu := hu) hk2 (by omega) (by omega) (fun j _ => dgs_dF (by split <;> decide) L key.2 j) h4 (by omega) (by omega) (by decide) (by decide) (by decide) (by decide)
    obtain ⟨r1, r2, r3, r4⟩ := mF_rng hF (by decide) (by decide)
    have r0 : nI rest = 0 ↔ rest = 0 := nI_eq (b := 0) (by omega) (by decide)
    refine ⟨W2, fm2, to2, lN whole, zL scale, nI rest, bI huge, whole, scale, rest, huge, ?_, fun _ _ => hF⟩
    unfold mCs
    rw [if_neg z]
    have k75 : ∀ U : Nat, U ≤ dI → U = (if huge then dI else rc_bits 53 2047 whole ((scale - (-1074)).toNat + 1)) → gAt l G m_Mo_compareSize (wM G m ta fa wa th len (nI k) pc be (nI (dF L).length) (nI (ptF 0 L)) (zL (eMz ch (d + L.length) es)) fm to wh sc re hu tx fg wd) (some (.int (zI (if (if huge then dI else rc_bits 53 2047 whole ((scale - (-1074)).toNat + 1)) = dI ∨ sb < (if huge then dI else rc_bits 53 2047 whole ((scale - (-1074)).toNat + 1)) then 1 else if (if huge then dI else rc_bits 53 2047 whole ((scale - (-1074)).toNat + 1)) < sb then -1 else if rest = 0 then 0 else 1)))) (wM G m ta fa wa th len (nI k) pc be (nI (dF L).length) (nI (ptF 0 L)) (zL (eMz ch (d + L.length) es)) fm2 to2 (lN whole) (zL scale) (nI rest) (bI huge) tx fg W2) 75 [(0, .ref m), (1, .long (lN sb)), (3, .long (9218868437227405312 : Int64))] [.long (lN U)] (wM G m ta fa wa th len (nI k) pc be (nI (dF L).length) (nI (ptF 0 L)) (zL (eMz ch (d + L.length) es)) fm2 to2 (lN whole) (zL scale) (nI rest) (bI huge) tx fg W2) := by
      intro U hU1 hU
      rw [← hU]
      have hU63 : U < 2 ^ 63 := Nat.lt_of_le_of_lt hU1 dI_lt
      have cI : lg_cmp (lN U) (9218868437227405312 : Int64) = 0 ↔ U = dI := by
        rw [lgc_eq, dI_l]
        exact pk_lEQ (Nat.lt_of_le_of_lt hU1 dI_lt) dI_lt
      have cL : lg_cmp (lN U) (lN sb) ≤ 0 ↔ ¬ sb < U := by rw [lgc_le0, pk_lLT hsb hU63]
      have cG : 0 ≤ lg_cmp (lN U) (lN sb) ↔ ¬ U < sb := by rw [lgc_ge, pk_lLT hU63 hsb]
      refine b_Mo_compareSize_75 (fun y => b_Mo_compareSize_91 ⟨vi ?_, rfl⟩) (fun y1 y2 y3 y4 => b_Mo_compareSize_116 ⟨vi ?_, rfl⟩) (fun y1 y2 y3 y4 => b_Mo_compareSize_116 ⟨vi ?_, rfl⟩) (fun y1 y2 y3 => b_Mo_compareSize_116 ⟨vi ?_, rfl⟩) (fun y1 y2 => b_Mo_compareSize_91 ⟨vi ?_, rfl⟩)
      · rw [if_pos (Or.inl (cI.mp y))]; rfl
      · rw [if_neg (fun v => v.elim (fun v => y1 (cI.mpr v)) (cL.mp y2)), if_neg (cG.mp y3), if_neg (fun v => y4 (r0.mpr v))]; rfl
      · rw [if_neg (fun v => v.elim (fun v => y1 (cI.mpr v)) (cL.mp y2)), if_neg (cG.mp y3), if_pos (r0.mp y4)]; rfl
      · rw [if_neg (fun v => v.elim (fun v => y1 (cI.mpr v)) (cL.mp y2)), if_pos (by
          by_cases v : U < sb
          · exact v
          · exact absurd (cG.mpr v) y3)]; rfl
      · rw [if_pos (Or.inr (by
          by_cases v : sb < U
          · exact v
          · exact absurd (cL.mpr v) y2))]; rfl
    refine gCt.mk (by decide +kernel) (Nat.le_of_ble_eq_true rfl) rfl (b_Mo_compareSize_0 (fun y => absurd (k2.mp y) (by omega)) (fun _ _ => k_Mo_compareSize_48 c (b_Mo_compareSize_51 (fun y => ?_) (fun y => ?_))) (fun _ y => absurd (ci.mp y) (by omega)))
    · have y := bI_0.mp y
      subst y
      have cpk := c_Mo_pack (l := l) (G := G) (m := m) (ta := ta) (fa := fa) (wa := wa) (th := th) (len := len) (ki := nI k) (pc := pc) (be := be) (ma := nI (dF L).length) (po := nI (ptF 0 L)) (ex := zL (eMz ch (d + L.length) es)) (fm := fm2) (to := to2) (re := nI rest) (tx := tx) (fg := fg) (wd := W2) (i := 0) (nw := whole) (u := (scale - (-1074)).toNat) (wh := lN whole) (by decide) (Nat.le_of_lt r1) (by omega)
      rw [show f_least 0 + ((scale - (-1074)).toNat : Nat) = scale by show (-1074 : Int) + _ = _; omega] at cpk
      have hle : rc_bits 53 2047 whole ((scale - (-1074)).toNat + 1) ≤ dI := by
        have := rc_bits_le (p := 53) (f := 2047) (w := whole) (u := (scale - (-1074)).toNat + 1) (by decide)
        rw [dI_e] at this
        exact this
      exact k_Mo_compareSize_72 cpk (k75 (rc_bits 53 2047 whole ((scale - (-1074)).toNat + 1)) hle (if_neg (by decide)).symm)
    · have y : huge = true := by
        cases huge with
        | true => rfl
        | false => exact absurd rfl y
      subst y
      have := k75 dI (Nat.le_refl _) (if_pos rfl).symm
      rw [← dI_l] at this
      exact this
end Mo14
