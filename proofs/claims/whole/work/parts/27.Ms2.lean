/-! CONTRACTS: Measure, 2: loadDigits, takeTimesTen -/
/-- what is gathered of T with s significant digits -/
def ldI (kept s T taken A : Nat) (more : Bool) : Prop := taken = min s kept ∧ A = T / 10 ^ (s - kept) ∧ more = decide (T % 10 ^ (s - kept) ≠ 0) ∧ (s = 0 → T = 0) ∧ A < 10 ^ taken
theorem ldI_take {kept s T taken A d : Nat} {more : Bool} (h : ldI kept s T taken A more) (hd : d < 10) (ht : taken < kept) (hn : ¬ (d = 0 ∧ taken = 0)) : ldI kept (if 0 < s ∨ 0 < d then s + 1 else s) (T * 10 + d) (taken + 1) (10 * A + d) more := by
  obtain ⟨h1, h2, h3, h4, h5⟩ := h
  have hs : s < kept := by omega
  have hts : taken = s := by omega
  subst hts
  rw [if_pos (by omega)]
  rw [show taken - kept = 0 by omega, Nat.pow_zero] at h2 h3
  rw [Nat.div_one] at h2
  rw [Nat.mod_one] at h3
  refine ⟨by omega, ?_, ?_, by omega, ?_⟩
  · rw [show taken + 1 - kept = 0 by omega, Nat.pow_zero, Nat.div_one]; omega
  · rw [show taken + 1 - kept = 0 by omega, Nat.pow_zero, Nat.mod_one]; exact h3
  · rw [Nat.pow_succ]; omega
theorem ldI_skip {kept s T taken A : Nat} {more : Bool} (h : ldI kept s T taken A more) (hk : 1 ≤ kept) (ht : taken = 0) : ldI kept (if 0 < s ∨ 0 < 0 then s + 1 else s) (T * 10 + 0) taken A more := by
  obtain ⟨h1, h2, h3, h4, h5⟩ := h
  have hs : s = 0 := by omega
  have hT := h4 hs
  subst hs hT
  exact ⟨h1, h2, h3, fun _ => rfl, h5⟩
theorem ldI_more {kept s T taken A d : Nat} {more : Bool} (h : ldI kept s T taken A more) (hd : d < 10) (hk : 1 ≤ kept) (ht : ¬ taken < kept) : ldI kept (if 0 < s ∨ 0 < d then s + 1 else s) (T * 10 + d) taken A (more || decide (d ≠ 0)) := by
  obtain ⟨h1, h2, h3, h4, h5⟩ := h
  have hs : kept ≤ s := by omega
  rw [if_pos (by omega)]
  have e : s + 1 - kept = s - kept + 1 := by omega
  have ep : 10 ^ (s + 1 - kept) = 10 * 10 ^ (s - kept) := by rw [e, Nat.pow_succ, Nat.mul_comm]
  have ed : (T * 10 + d) / 10 = T := by omega
  refine ⟨by omega, ?_, ?_, by omega, h5⟩
  · rw [ep, ← Nat.div_div_eq_div_mul, ed]; exact h2
  · rw [ep, h3, ← Bool.decide_or]
    refine decide_eq_decide.mpr ?_
    rw [mod_mul_ne (by decide), ed, show (T * 10 + d) % 10 = d by omega]
    exact Or.comm
theorem p900 : 10 ^ 900 < 2 ^ (32 * 100) := by decide +kernel
section Ms2
variable {l : Launch} {G : gG} {e n q t tq a : Nat} {row : Nat → Int32} {len sc me at_ fo wr ne df dt sg fr ex : Int32} {ch : Nat → Nat} {tn : Nat}
abbrev wG (G : gG) (e n q t tq : Nat) (W : Nat → Int32) (s : Nat) (g w : Int32) (row : Nat → Int32) (len sc me at_ fo wr ne df dt sg fr ex : Int32) : va_W :=
  [oMs e n, oNa n q (nI s) g w, aI G q 100 W, oNt t tq len sc me at_ fo wr ne df dt sg fr ex, aC G tq 4096 row]
theorem a_Ms_load {kept : Nat} {w0 : va_W} (T : tOk row len ch tn) (hk1 : 1 ≤ kept) (hk : kept ≤ 900) :
    ∀ (L : List (Option Nat)) (seen : Bool) (p sg0 X taken A : Nat) (more : Bool) (W : Nat → Int32) (s g k : Nat), p ≤ tn → dt = nI (p + L.length) → dgL ch 10 seen p L → ldI kept sg0 X taken A more → nA W s g k A →
    ∃ W2 s2 more2 A2 taken2, gAt l G m_Ms_loadDigits w0 (some (.int (bI more2))) (wG G e n q t tq W2 s2 (nI 0) (nI 1) row len sc me at_ fo wr ne df dt sg fr ex) 18 [(0, .ref e), (1, .ref t), (2, .int (nI kept)), (3, .int (bI more)), (4, .int (nI taken)), (5, .int (nI p))] [] (wG G e n q t tq W s (nI g) (nI (10 ^ k)) row len sc me at_ fo wr ne df dt sg fr ex) ∧ ldI kept (sgF sg0 L) (acc 10 X L) taken2 A2 more2 ∧ nN W2 s2 A2 := by
  intro L
  induction L with
  | nil =>
    intro seen p sg0 X taken A more W s g k hp hdt hL hI hA
    obtain ⟨N, hN, hk9, hg, hAe⟩ := hA
    have hfit : A < 2 ^ (32 * 100) := by
      have h5 := hI.2.2.2.2
      have h6 : 10 ^ taken ≤ 10 ^ 900 := Nat.pow_le_pow_right (by decide) (by have := hI.1; omega)
      exact Nat.lt_trans (Nat.lt_of_lt_of_le h5 h6) p900
    obtain ⟨W2, s2, c, h⟩ := c_Na_end (l := l) (G := G) (a := n) (q := q) ⟨N, hN, Nat.le_of_lt hk9, hg, hAe⟩ hfit
    exact ⟨W2, s2, more, A, taken, b_Ms_loadDigits_18 (fun _ => k_Ms_loadDigits_94 c (b_Ms_loadDigits_97 ⟨bI_nar _, rfl, rfl⟩)) (fun z => absurd (by rw [hdt]; exact Int32.le_refl _) z), hI, h⟩
  | cons x L ih =>
    intro seen p sg0 X taken A more W s g k hp hdt hL hI hA
    have hn := T.2.1.1
    have hlen := dgL_lt T.2.1 _ _ _ hp hL
    simp only [List.length_cons] at hlen hdt
    have hlt : ¬ dt ≤ nI p := fun z => by
      rw [hdt] at z
      have := (nI_leI (by omega) (by omega)).mp z
      omega
    have e1 : nI p + (1 : Int32) = nI (p + 1) := nI_1 p
    have hdt2 : dt = nI (p + 1 + L.length) := by rw [hdt]; congr 1; omega
    have htk : taken ≤ 900 := by have := hI.1; omega
    have st : ∀ (w1 : va_W) (res : Option Value) (v : Int32), v = oI (s_dv 10 (ch p)) → gAt l G m_Ms_loadDigits w0 res w1 35 [(0, .ref e), (1, .ref t), (2, .int (nI kept)), (3, .int (bI more)), (4, .int (nI taken)), (5, .int (nI p))] [.int v] (wG G e n q t tq W s (nI g) (nI (10 ^ k)) row len sc me at_ fo wr ne df dt sg fr ex) → gAt l G m_Ms_loadDigits w0 res w1 18 [(0, .ref e), (1, .ref t), (2, .int (nI kept)), (3, .int (bI more)), (4, .int (nI taken)), (5, .int (nI p))] [] (wG G e n q t tq W s (nI g) (nI (10 ^ k)) row len sc me at_ fo wr ne df dt sg fr ex) := by
      intro w1 res v hv kk
      subst hv
      exact b_Ms_loadDigits_18 (fun z => absurd z hlt) (fun _ => k_Ms_loadDigits_32 (c_Nt_digitAt (b := 10) T (by omega) (by decide)) kk)
    cases x with
    | none =>
      obtain ⟨W2, s2, more2, A2, taken2, h1, h2, h3⟩ := ih true (p + 1) sg0 X taken A more W s g k (by omega) hdt2 hL.2.2.2 hI hA
      refine ⟨W2, s2, more2, A2, taken2, st _ _ (-1) (by rw [hL.1]; rfl) (b_Ms_loadDigits_35 (fun _ => b_Ms_loadDigits_84 ?_) (fun z => absurd rfl z) (fun z => absurd rfl z) (fun z => absurd rfl z)), h2, h3⟩
      rw [e1]
      exact h1
    | some d =>
      have hd := s_dv10 hL.1
      have hne : ¬ nI d = (-1 : Int32) := nI_ne1 (by omega)
      have hd0 : nI d = 0 ↔ d = 0 := nI_eq (b := 0) (by omega) (by decide)
      have ht0 : nI taken = 0 ↔ taken = 0 := nI_eq (b := 0) (by omega) (by decide)
      have hv : nI d = oI (s_dv 10 (ch p)) := by rw [hL.1]; rfl
      have hkt : nI kept ≤ nI taken ↔ kept ≤ taken := nI_leI (by omega) (by omega)
      by_cases z0 : d = 0 ∧ taken = 0
      · obtain ⟨z1, z2⟩ := z0
        subst z1
        obtain ⟨W2, s2, more2, A2, taken2, h1, h2, h3⟩ := ih seen (p + 1) _ _ taken A more W s g k (by omega) hdt2 hL.2 (ldI_skip hI hk1 z2) hA
        refine ⟨W2, s2, more2, A2, taken2, st _ _ _ hv (b_Ms_loadDigits_35 (fun z => absurd z hne) (fun _ y => absurd rfl y) (fun _ _ y => absurd (ht0.mpr z2) y) (fun _ _ _ => b_Ms_loadDigits_84 ?_)), h2, h3⟩
        rw [e1]
        exact h1
      · by_cases zt : taken < kept
        · have hfit : 10 * A + d < 2 ^ (32 * 100) := by
            have h5 := hI.2.2.2.2
            have h6 : 10 ^ (taken + 1) ≤ 10 ^ 900 := Nat.pow_le_pow_right (by decide) (by omega)
            have h7 := p900
            rw [Nat.pow_succ] at h6
            generalize 10 ^ taken = u at *
            generalize (10 : Nat) ^ 900 = u9 at *
            omega
          obtain ⟨W3, s3, g3, k3, c, hA3⟩ := c_Na_pushDigit (l := l) (G := G) (a := n) (q := q) hA hd hfit
          obtain ⟨W2, s2, more2, A2, taken2, h1, h2, h3⟩ := ih seen (p + 1) _ _ (taken + 1) (10 * A + d) more W3 s3 g3 k3 (by omega) hdt2 hL.2 (ldI_take hI hd zt z0) hA3
          have go : ∀ (x6 : Int32), x6 = nI d → gAt l G m_Ms_loadDigits w0 (some (.int (bI more2))) (wG G e n q t tq W2 s2 (nI 0) (nI 1) row len sc me at_ fo wr ne df dt sg fr ex) 56 [(0, .ref e), (1, .ref t), (2, .int (nI kept)), (3, .int (bI more)), (4, .int (nI taken)), (5, .int (nI p)), (6, .int x6)] [] (wG G e n q t tq W s (nI g) (nI (10 ^ k)) row len sc me at_ fo wr ne df dt sg fr ex) := by
            intro x6 hx
            subst hx
            refine b_Ms_loadDigits_56 (fun y => absurd (hkt.mp y) (by omega)) (fun y => absurd (hkt.mp y) (by omega)) (fun _ => k_Ms_loadDigits_68 c (b_Ms_loadDigits_71 (b_Ms_loadDigits_84 ?_)))
            have e2 : nI taken + (1 : Int32) = nI (taken + 1) := nI_1 taken
            rw [e1, e2]
            exact h1
          exact ⟨W2, s2, more2, A2, taken2, st _ _ _ hv (b_Ms_loadDigits_35 (fun z => absurd z hne) (fun _ _ => go _ rfl) (fun _ _ _ => go _ rfl) (fun _ y1 y2 => absurd ⟨hd0.mp y1, ht0.mp y2⟩ z0)), h2, h3⟩
        · obtain ⟨W2, s2, more2, A2, taken2, h1, h2, h3⟩ := ih seen (p + 1) _ _ taken A (more || decide (d ≠ 0)) W s g k (by omega) hdt2 hL.2 (ldI_more hI hd hk1 zt) hA
          have go : ∀ (x6 : Int32), x6 = nI d → gAt l G m_Ms_loadDigits w0 (some (.int (bI more2))) (wG G e n q t tq W2 s2 (nI 0) (nI 1) row len sc me at_ fo wr ne df dt sg fr ex) 56 [(0, .ref e), (1, .ref t), (2, .int (nI kept)), (3, .int (bI more)), (4, .int (nI taken)), (5, .int (nI p)), (6, .int x6)] [] (wG G e n q t tq W s (nI g) (nI (10 ^ k)) row len sc me at_ fo wr ne df dt sg fr ex) := by
            intro x6 hx
            subst hx
            refine b_Ms_loadDigits_56 (fun _ y => b_Ms_loadDigits_84 ?_) (fun _ y => b_Ms_loadDigits_84 ?_) (fun y => absurd (hkt.mpr (by omega)) y)
            · have y := hd0.mp y
              subst y
              rw [e1]
              rw [show (more || decide ((0 : Nat) ≠ 0)) = more from Bool.or_false more] at h1
              exact h1
            · have y : d ≠ 0 := fun v => y (hd0.mpr v)
              rw [e1]
              rw [decide_eq_true y, Bool.or_true] at h1
              exact h1
          exact ⟨W2, s2, more2, A2, taken2, st _ _ _ hv (b_Ms_loadDigits_35 (fun z => absurd z hne) (fun _ _ => go _ rfl) (fun _ _ _ => go _ rfl) (fun _ y1 y2 => absurd ⟨hd0.mp y1, ht0.mp y2⟩ z0)), h2, h3⟩
theorem c_Ms_loadDigits {L : List (Option Nat)} {d0 kept : Nat} {W : Nat → Int32} {ns ng nw : Int32} (T : tOk row len ch tn) (hk1 : 1 ≤ kept) (hk : kept ≤ 900) (hd0 : d0 ≤ tn) (hdf : df = nI d0) (hdt : dt = nI (d0 + L.length)) (hL : dgL ch 10 false d0 L) :
    ∃ W2 s2 more A taken, gCt l G m_Ms_loadDigits [.ref e, .ref t, .int (nI kept)] [oMs e n, oNa n q ns ng nw, aI G q 100 W, oNt t tq len sc me at_ fo wr ne df dt sg fr ex, aC G tq 4096 row] (some (.int (bI more))) (wG G e n q t tq W2 s2 (nI 0) (nI 1) row len sc me at_ fo wr ne df dt sg fr ex) ∧ ldI kept (sgF 0 L) (acc 10 0 L) taken A more ∧ nN W2 s2 A := by
  have hI : ldI kept 0 0 0 0 false := ⟨by omega, by rw [Nat.zero_div], by rw [Nat.zero_mod]; rfl, fun _ => rfl, by decide⟩
  have hA : nA W 0 0 0 0 := ⟨0, ⟨by decide, rfl, Or.inl rfl⟩, by decide, by decide, rfl⟩
  obtain ⟨W2, s2, more, A, taken, h1, h2, h3⟩ := a_Ms_load (l := l) (G := G) (e := e) (n := n) (q := q) (t := t) (tq := tq) (sc := sc) (me := me) (at_ := at_) (fo := fo) (wr := wr) (ne := ne) (df := df) (sg := sg) (fr := fr) (ex := ex) (w0 := [oMs e n, oNa n q ns ng nw, aI G q 100 W, oNt t tq len sc me at_ fo wr ne df dt sg fr ex, aC G tq 4096 row]) T hk1 hk L false d0 0 0 0 0 false W 0 0 0 hd0 hdt hL hI hA
  refine ⟨W2, s2, more, A, taken, gCt.mk (by decide +kernel) (Nat.le_of_ble_eq_true rfl) rfl (b_Ms_loadDigits_0 (k_Ms_loadDigits_9 c_Na_begin (b_Ms_loadDigits_12 ?_))), h2, h3⟩
  rw [hdf] at h1 ⊢
  exact h1
end Ms2
