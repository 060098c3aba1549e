/-! CONTRACTS: NumberText, 2: digits, exponents -/
theorem s_dv_lt {b c d : Nat} (h : s_dv b c = some d) : d < 16 ∧ c ≠ 0 ∧ c ≠ 46 := by
  unfold s_dv at h
  split at h
  · cases h; omega
  · split at h
    · cases h; omega
    · split at h
      · cases h; omega
      · cases h
def bI (b : Bool) : Int32 := if b then 1 else 0
theorem bI_nar (b : Bool) : narrow .boolean (.int (bI b)) = .int (bI b) := by cases b <;> decide
theorem bI_fit (b : Bool) : fits .boolean (.int (bI b)) = true := by cases b <;> decide
theorem bI_0 {b : Bool} : bI b = 0 ↔ b = false := by cases b <;> decide
/-- the digits (and the point, none) that stand from p on -/
def dgL (ch : Nat → Nat) (b : Nat) : Bool → Nat → List (Option Nat) → Prop
  | seen, p, [] => s_dv b (ch p) = none ∧ ¬ (ch p = 46 ∧ seen = false)
  | seen, p, some d :: L => s_dv b (ch p) = some d ∧ dgL ch b seen (p + 1) L
  | seen, p, none :: L => s_dv b (ch p) = none ∧ ch p = 46 ∧ seen = false ∧ dgL ch b true (p + 1) L
def sgF : Nat → List (Option Nat) → Nat
  | s, [] => s
  | s, some d :: L => sgF (if 0 < s ∨ 0 < d then s + 1 else s) L
  | s, none :: L => sgF s L
def frF : Bool → Nat → List (Option Nat) → Nat
  | _, f, [] => f
  | seen, f, some _ :: L => frF seen (if seen then f + 1 else f) L
  | _, f, none :: L => frF true f L
def hasD : List (Option Nat) → Bool
  | [] => false
  | some _ :: _ => true
  | none :: L => hasD L
theorem dgL_lt {ch : Nat → Nat} {n b : Nat} (hC : tCh ch n) : ∀ (L : List (Option Nat)) (seen : Bool) (p : Nat), p ≤ n → dgL ch b seen p L → p + L.length ≤ n := by
  intro L
  induction L with
  | nil => intro seen p h _; exact h
  | cons x L ih =>
    intro seen p h1 h2
    have hp : p < n := by
      rcases Nat.lt_or_ge p n with q | q
      · exact q
      · have z := hC.2.2 p q
        cases x with
        | some d => exact absurd z (s_dv_lt h2.1).2.1
        | none => have := h2.2.1; omega
    cases x with
    | some d => have := ih seen (p + 1) hp h2.2; simp only [List.length_cons]; omega
    | none => have := ih true (p + 1) hp h2.2.2.2; simp only [List.length_cons]; omega
theorem dgL_ex {ch : Nat → Nat} {n b : Nat} (hC : tCh ch n) : ∀ (k p : Nat) (seen : Bool), n - p ≤ k → p ≤ n → ∃ L, dgL ch b seen p L := by
  intro k
  induction k with
  | zero =>
    intro p seen h1 h2
    have z := hC.2.2 p (by omega)
    exact ⟨[], by rw [dgL, z]; exact ⟨by unfold s_dv; simp, by omega⟩⟩
  | succ k ih =>
    intro p seen h1 h2
    cases hd : s_dv b (ch p) with
    | some d =>
      have hp : p < n := by
        rcases Nat.lt_or_ge p n with q | q
        · exact q
        · exact absurd (hC.2.2 p q) (s_dv_lt hd).2.1
      obtain ⟨L, hL⟩ := ih (p + 1) seen (by omega) hp
      exact ⟨some d :: L, hd, hL⟩
    | none =>
      by_cases z : ch p = 46 ∧ seen = false
      · have hp : p < n := by
          rcases Nat.lt_or_ge p n with q | q
          · exact q
          · have := hC.2.2 p q; omega
        obtain ⟨L, hL⟩ := ih (p + 1) true (by omega) hp
        exact ⟨none :: L, hd, z.1, z.2, hL⟩
      · exact ⟨[], hd, z⟩
section Nt2
variable {l : Launch} {G : gG} {a q : Nat} {row : Nat → Int32} {len sc me at_ fo wr ne df dt sg fr ex : Int32} {ch : Nat → Nat} {n p b : Nat}
theorem a_Nt_takeDigits {w0 : va_W} (T : tOk row len ch n) (hb : b < 2 ^ 31) : ∀ (L : List (Option Nat)) (seen : Bool) (p s f : Nat) (x : Bool) (dt : Int32), p ≤ n → s ≤ p → dgL ch b seen p L →
    gAt l G m_Nt_takeDigits w0 (some (.int (bI (x || hasD L)))) (wT G a q row len sc me (nI (p + L.length)) fo wr ne df (nI (p + L.length)) (nI (sgF s L)) (nI (frF seen f L)) ex) 22 [(0, .ref a), (1, .int (nI b)), (2, .int (bI x)), (3, .int (bI seen))] [] (wT G a q row len sc me (nI p) fo wr ne df dt (nI s) (nI f) ex) := by
  have hC := T.2.1
  have hn : n ≤ 4096 := hC.1
  intro L
  induction L with
  | nil =>
    intro seen p s f x dt hp hs h
    have fin : gAt l G m_Nt_takeDigits w0 (some (.int (bI (x || hasD [])))) (wT G a q row len sc me (nI (p + 0)) fo wr ne df (nI (p + 0)) (nI (sgF s [])) (nI (frF seen f [])) ex) 128 [(0, .ref a), (1, .int (nI b)), (2, .int (bI x)), (3, .int (bI seen))] [] (wT G a q row len sc me (nI p) fo wr ne df dt (nI s) (nI f) ex) :=
      b_Nt_takeDigits_128 ⟨bI_nar x, by rw [hasD, Bool.or_false], rfl⟩
    refine b_Nt_takeDigits_22 (fun _ => fin) (fun _ => k_Nt_takeDigits_34 (c_Nt_here T (by omega)) (b_Nt_takeDigits_37 (k_Nt_takeDigits_42 (c_Nt_digitOf (hC.lt p) hb) (b_Nt_takeDigits_45 (fun _ _ => fin) (fun _ _ _ => fin) (fun _ h1 h2 => ?_) (fun h1 => ?_) (fun h1 => ?_) (fun h1 => ?_)))))
    · have e1 : ch p = 46 := (nI_eq (by have := hC.lt p; omega) (by decide)).mp h1
      exact absurd ⟨e1, bI_0.mp h2⟩ h.2
    · exact absurd (by rw [h.1]; rfl) h1
    · exact absurd (by rw [h.1]; rfl) h1
    · exact absurd (by rw [h.1]; rfl) h1
  | cons y L ih =>
    intro seen p s f x dt hp hs h
    have hlen := dgL_lt hC (y :: L) seen p hp h
    have hlt : p < n := by simp only [List.length_cons] at hlen; omega
    have hend : p + (y :: L).length = p + 1 + L.length := by simp only [List.length_cons]; omega
    rw [hend]
    have e1 : nI p + (1 : Int32) = nI (p + 1) := nI_1 p
    refine b_Nt_takeDigits_22 (fun z => ?_) (fun _ => k_Nt_takeDigits_34 (c_Nt_here T (by omega)) (b_Nt_takeDigits_37 (k_Nt_takeDigits_42 (c_Nt_digitOf (hC.lt p) hb) ?_)))
    · rw [T.1] at z
      have := (nI_leI (by omega) (by omega)).mp z
      omega
    · cases y with
      | none =>
        obtain ⟨h1, h2, h3, h4⟩ := h
        have ev : oI (s_dv b (ch p)) = -1 := by rw [h1]; rfl
        rw [ev]
        subst h3
        refine b_Nt_takeDigits_45 (fun _ z => absurd (by rw [h2]; rfl) z) (fun _ _ z => absurd rfl z) (fun _ _ _ => b_Nt_takeDigits_115 ?_) (fun z => absurd rfl z) (fun z => absurd rfl z) (fun z => absurd rfl z)
        rw [e1]
        exact ih true (p + 1) s f x dt hlt (by omega) h4
      | some d =>
        obtain ⟨h1, h2⟩ := h
        have hd := (s_dv_lt h1).1
        have ev : oI (s_dv b (ch p)) = nI d := by rw [h1]; rfl
        rw [ev]
        have hne : ¬ nI d = (-1 : Int32) := by
          intro z
          have z2 := congrArg Int32.toInt z
          rw [nI_toInt (by omega)] at z2
          have : ((-1 : Int32)).toInt = -1 := by decide
          omega
        have hs0 : (0 : Int32) < nI s ↔ 0 < s := nI_ltI (a := 0) (by decide) (by omega)
        have hd0 : nI d ≤ (0 : Int32) ↔ d ≤ 0 := nI_leI (b := 0) (by omega) (by decide)
        have tail : ∀ s2 : Nat, s2 ≤ p + 1 → (if 0 < s ∨ 0 < d then s + 1 else s) = s2 → ∀ v0 : Int32, nI s + v0 = nI s2 →
            gAt l G m_Nt_takeDigits w0 (some (.int (bI (x || hasD (some d :: L))))) (wT G a q row len sc me (nI (p + 1 + L.length)) fo wr ne df (nI (p + 1 + L.length)) (nI (sgF s (some d :: L))) (nI (frF seen f (some d :: L))) ex) 77 [(0, .ref a), (1, .int (nI b)), (2, .int (1 : Int32)), (3, .int (bI seen)), (4, .int (nI (ch p))), (5, .int (nI d))] [.int v0, .int (nI s), .ref a] (wT G a q row len sc me (nI p) fo wr ne df dt (nI s) (nI f) ex) := by
          intro s2 hs2 e2 v0 e3
          have key := ih seen (p + 1) s2 (if seen then f + 1 else f) true dt hlt hs2 h2
          have e4 : (true || hasD L) = (x || hasD (some d :: L)) := by rw [hasD, Bool.or_true, Bool.true_or]
          rw [e4] at key
          rw [sgF, e2, frF]
          refine b_Nt_takeDigits_77 (fun z => ?_) (fun z => ?_)
          · rw [e3]
            have z := bI_0.mp z
            subst z
            refine b_Nt_takeDigits_95 (b_Nt_takeDigits_115 ?_)
            rw [e1]
            have e5 : nI f + (0 : Int32) = nI f := by rw [show (0 : Int32) = nI 0 from rfl, nI_add]; rfl
            rw [e5]
            exact key
          · rw [e3]
            have z : seen = true := by
              cases seen with
              | true => rfl
              | false => exact absurd rfl z
            subst z
            refine b_Nt_takeDigits_95 (b_Nt_takeDigits_115 ?_)
            rw [e1]
            have e5 : nI f + (1 : Int32) = nI (f + 1) := nI_1 f
            rw [e5]
            exact key
        refine b_Nt_takeDigits_45 (fun z => absurd z hne) (fun z => absurd z hne) (fun z => absurd z hne) (fun _ z => b_Nt_takeDigits_72 ?_) (fun _ z1 z2 => ?_) (fun _ z1 z2 => b_Nt_takeDigits_72 ?_)
        · exact tail (s + 1) (by omega) (if_pos (Or.inl (hs0.mp z))) 1 (nI_1 s)
        · have q1 : ¬ 0 < s := fun w => z1 (hs0.mpr w)
          have q2 := hd0.mp z2
          exact tail s (by omega) (if_neg (by omega)) 0 (by rw [show (0 : Int32) = nI 0 from rfl, nI_add]; rfl)
        · have q2 : ¬ d ≤ 0 := fun w => z2 (hd0.mpr w)
          exact tail (s + 1) (by omega) (if_pos (Or.inr (by omega))) 1 (nI_1 s)
theorem c_Nt_takeDigits {L : List (Option Nat)} (T : tOk row len ch n) (hb : b < 2 ^ 31) (hp : p ≤ n) (h : dgL ch b false p L) : gCt l G m_Nt_takeDigits [.ref a, .int (nI b)] (wT G a q row len sc me (nI p) fo wr ne df dt sg fr ex) (some (.int (bI (hasD L)))) (wT G a q row len sc me (nI (p + L.length)) fo wr ne (nI p) (nI (p + L.length)) (nI (sgF 0 L)) (nI (frF false 0 L)) ex) := by
  have k := a_Nt_takeDigits (l := l) (G := G) (a := a) (q := q) (sc := sc) (me := me) (fo := fo) (wr := wr) (ne := ne) (df := nI p) (ex := ex) (w0 := wT G a q row len sc me (nI p) fo wr ne df dt sg fr ex) T hb L false p 0 0 false dt hp (Nat.zero_le _) h
  rw [Bool.false_or] at k
  exact gCt.mk (by decide +kernel) (Nat.le_of_ble_eq_true rfl) rfl (b_Nt_takeDigits_0 k)
/-- the digits of an exponent -/
def exL (ch : Nat → Nat) : Nat → List Nat → Prop
  | p, [] => s_dv 10 (ch p) = none
  | p, d :: L => s_dv 10 (ch p) = some d ∧ exL ch (p + 1) L
theorem exL_lt {ch : Nat → Nat} {n : Nat} (hC : tCh ch n) : ∀ (L : List Nat) (p : Nat), p ≤ n → exL ch p L → p + L.length ≤ n := by
  intro L
  induction L with
  | nil => intro p h _; exact h
  | cons d L ih =>
    intro p h1 h2
    have hp : p < n := by
      rcases Nat.lt_or_ge p n with q | q
      · exact q
      · exact absurd (hC.2.2 p q) (s_dv_lt h2.1).2.1
    have := ih (p + 1) hp h2.2
    simp only [List.length_cons]
    omega
theorem exL_ex {ch : Nat → Nat} {n : Nat} (hC : tCh ch n) : ∀ (k p : Nat), n - p ≤ k → p ≤ n → ∃ L, exL ch p L := by
  intro k
  induction k with
  | zero =>
    intro p h1 h2
    have z := hC.2.2 p (by omega)
    exact ⟨[], by rw [exL, z]; unfold s_dv; simp⟩
  | succ k ih =>
    intro p h1 h2
    cases hd : s_dv 10 (ch p) with
    | some d =>
      have hp : p < n := by
        rcases Nat.lt_or_ge p n with q | q
        · exact q
        · exact absurd (hC.2.2 p q) (s_dv_lt hd).2.1
      obtain ⟨L, hL⟩ := ih (p + 1) (by omega) hp
      exact ⟨d :: L, hd, hL⟩
    | none => exact ⟨[], hd⟩
def satC : Nat → List Nat → Nat
  | e, [] => e
  | e, d :: L => satC (min (e * 10 + d) 1000000) L
theorem satC_le : ∀ (L : List Nat) (e : Nat), e ≤ 1000000 → satC e L ≤ 1000000 := by
  intro L
  induction L with
  | nil => intro e h; exact h
  | cons d L ih => intro e h; exact ih _ (Nat.min_le_right _ _)
theorem a_Nt_takeExponent {w0 : va_W} (T : tOk row len ch n) {p0 : Nat} {ng : Bool} : ∀ (L : List Nat) (p e : Nat), p ≤ n → p0 ≤ p → e ≤ 1000000 → exL ch p L →
    gAt l G m_Nt_takeExponent w0 (some (.int (bI (decide (p0 < p + L.length))))) (wT G a q row len sc me (nI (p + L.length)) fo wr ne df dt sg fr (if ng then -nI (satC e L) else nI (satC e L))) 31 [(0, .ref a), (1, .int (bI ng)), (2, .int (nI p0)), (3, .int (nI e))] [] (wT G a q row len sc me (nI p) fo wr ne df dt sg fr ex) := by
  have hC := T.2.1
  have hn : n ≤ 4096 := hC.1
  intro L
  induction L with
  | nil =>
    intro p e hp h0 he h
    have fin : gAt l G m_Nt_takeExponent w0 (some (.int (bI (decide (p0 < p + 0))))) (wT G a q row len sc me (nI (p + 0)) fo wr ne df dt sg fr (if ng then -nI (satC e []) else nI (satC e []))) 88 [(0, .ref a), (1, .int (bI ng)), (2, .int (nI p0)), (3, .int (nI e))] [] (wT G a q row len sc me (nI p) fo wr ne df dt sg fr ex) := by
      have last : ∀ v : Int32, v = (if ng then -nI e else nI e) → gAt l G m_Nt_takeExponent w0 (some (.int (bI (decide (p0 < p + 0))))) (wT G a q row len sc me (nI (p + 0)) fo wr ne df dt sg fr (if ng then -nI (satC e []) else nI (satC e []))) 99 [(0, .ref a), (1, .int (bI ng)), (2, .int (nI p0)), (3, .int (nI e))] [.int v, .ref a] (wT G a q row len sc me (nI p) fo wr ne df dt sg fr ex) := by
        intro v hv
        subst hv
        refine b_Nt_takeExponent_99 (fun z => ?_) (fun z => ?_)
        · have z := (nI_leI (by omega) (by omega)).mp z
          rw [decide_eq_false (by omega)]
          exact b_Nt_takeExponent_115 ⟨rfl, rfl, rfl⟩
        · have z : ¬ p ≤ p0 := fun w => z (nI_le w (by omega))
          rw [decide_eq_true (by omega)]
          exact b_Nt_takeExponent_115 ⟨rfl, rfl, rfl⟩
      refine b_Nt_takeExponent_88 (fun z => ?_) (fun z => ?_)
      · exact last _ (by rw [bI_0.mp z]; rfl)
      · have z : ng = true := by
          cases ng with
          | true => rfl
          | false => exact absurd rfl z
        exact last _ (by rw [z]; rfl)
    refine b_Nt_takeExponent_31 (fun _ => fin) (fun _ => k_Nt_takeExponent_43 (c_Nt_here T (by omega)) (b_Nt_takeExponent_46 (k_Nt_takeExponent_48 (c_Nt_digitOf (b := 10) (hC.lt p) (by decide)) (b_Nt_takeExponent_51 (fun z => ?_) (fun _ => fin)))))
    exact absurd (by rw [show s_dv 10 (ch p) = none from h]; rfl) z
  | cons d L ih =>
    intro p e hp h0 he h
    have hlen := exL_lt hC (d :: L) p hp h
    have hlt : p < n := by simp only [List.length_cons] at hlen; omega
    have hend : p + (d :: L).length = p + 1 + L.length := by simp only [List.length_cons]; omega
    rw [hend]
    have hd := (s_dv_lt h.1).1
    have e1 : nI p + (1 : Int32) = nI (p + 1) := nI_1 p
    refine b_Nt_takeExponent_31 (fun z => ?_) (fun _ => k_Nt_takeExponent_43 (c_Nt_here T (by omega)) (b_Nt_takeExponent_46 (k_Nt_takeExponent_48 (c_Nt_digitOf (b := 10) (hC.lt p) (by decide)) ?_)))
    · rw [T.1] at z
      have := (nI_leI (by omega) (by omega)).mp z
      omega
    · have ev : oI (s_dv 10 (ch p)) = nI d := by rw [h.1]; rfl
      rw [ev]
      refine b_Nt_takeExponent_51 (fun _ => ?_) (fun z => ?_)
      · rw [e1]
        have e2 : nI e * (10 : Int32) + nI d = nI (e * 10 + d) := by
          rw [show (10 : Int32) = nI 10 from rfl, pk_mul, nI_add]
        have e3 : (if (1000000 : Int32) < nI e * (10 : Int32) + nI d then (1000000 : Int32) else nI e * (10 : Int32) + nI d) = nI (min (e * 10 + d) 1000000) := by
          rw [e2, show (1000000 : Int32) = nI 1000000 from rfl]
          by_cases w : 1000000 < e * 10 + d
          · rw [if_pos (nI_lt w (by omega)), Nat.min_eq_right (by omega)]
          · rw [if_neg (fun q => w ((nI_ltI (by decide) (by omega)).mp q)), Nat.min_eq_left (by omega)]
        rw [e3]
        exact ih (p + 1) _ hlt (by omega) (Nat.min_le_right _ _) h.2
      · exfalso
        have z2 := congrArg Int32.toInt z
        rw [nI_toInt (by omega)] at z2
        have : ((-1 : Int32)).toInt = -1 := by decide
        omega
/-- behind a sign -/
def sgn (ch : Nat → Nat) (p : Nat) : Nat := if ch p = 43 ∨ ch p = 45 then p + 1 else p
theorem sgn_le {ch : Nat → Nat} {n p : Nat} (hC : tCh ch n) (hp : p ≤ n) : p ≤ sgn ch p ∧ sgn ch p ≤ n := by
  unfold sgn
  split
  · have : p < n := by
      rcases Nat.lt_or_ge p n with q | q
      · exact q
      · have := hC.2.2 p q; omega
    omega
  · omega
theorem c_Nt_takeExponent {L : List Nat} (T : tOk row len ch n) (hp : p ≤ n) (h : exL ch (sgn ch p) L) : gCt l G m_Nt_takeExponent [.ref a] (wT G a q row len sc me (nI p) fo wr ne df dt sg fr ex) (some (.int (bI (decide (0 < L.length))))) (wT G a q row len sc me (nI (sgn ch p + L.length)) fo wr ne df dt sg fr (if ch p = 45 then -nI (satC 0 L) else nI (satC 0 L))) := by
  have hC := T.2.1
  have hn : n ≤ 4096 := hC.1
  have hs := sgn_le hC hp
  have e0 : (if ch p = 43 ∨ ch p = 45 then nI (p + 1) else nI p) = nI (sgn ch p) := by unfold sgn; split <;> rfl
  have key : ∀ ng : Bool, (ng = true ↔ ch p = 45) → gAt l G m_Nt_takeExponent (wT G a q row len sc me (nI p) fo wr ne df dt sg fr ex) (some (.int (bI (decide (0 < L.length))))) (wT G a q row len sc me (nI (sgn ch p + L.length)) fo wr ne df dt sg fr (if ch p = 45 then -nI (satC 0 L) else nI (satC 0 L))) 14 [(0, .ref a)] [.int (bI ng)] (wT G a q row len sc me (nI p) fo wr ne df dt sg fr ex) := by
    intro ng hng
    have c1 := c_Nt_skipOneOf (l := l) (G := G) (a := a) (q := q) (sc := sc) (me := me) (fo := fo) (wr := wr) (ne := ne) (df := df) (dt := dt) (sg := sg) (fr := fr) (ex := ex) (c1 := 43) (c2 := 45) T (p := p) (by omega) (by decide) (by decide)
    rw [e0] at c1
    have k := a_Nt_takeExponent (l := l) (G := G) (a := a) (q := q) (sc := sc) (me := me) (fo := fo) (wr := wr) (ne := ne) (df := df) (dt := dt) (sg := sg) (fr := fr) (ex := ex) (w0 := wT G a q row len sc me (nI p) fo wr ne df dt sg fr ex) (ng := ng) (p0 := sgn ch p) T L (sgn ch p) 0 hs.2 (Nat.le_refl _) (Nat.zero_le _) h
    have e1 : decide (sgn ch p < sgn ch p + L.length) = decide (0 < L.length) := by
      by_cases w : 0 < L.length
      · rw [decide_eq_true w, decide_eq_true (by omega)]
      · rw [decide_eq_false w, decide_eq_false (by omega)]
    have e2 : (if ng then -nI (satC 0 L) else nI (satC 0 L)) = (if ch p = 45 then -nI (satC 0 L) else nI (satC 0 L)) := by
      by_cases w : ch p = 45
      · rw [if_pos (hng.mpr w), if_pos w]
      · rw [if_neg (fun z => w (hng.mp z)), if_neg w]
    rw [e1, e2] at k
    exact b_Nt_takeExponent_14 (k_Nt_takeExponent_20 c1 (b_Nt_takeExponent_23 k))
  refine gCt.mk (by decide +kernel) (Nat.le_of_ble_eq_true rfl) rfl (b_Nt_takeExponent_0 (k_Nt_takeExponent_1 (c_Nt_here T (by omega)) (b_Nt_takeExponent_4 (fun z => ?_) (fun z => ?_))))
  · exact key false ⟨fun w => (by cases w), fun w => absurd (by rw [w]; rfl) z⟩
  · exact key true ⟨fun _ => (nI_eq (by have := hC.lt p; omega) (by decide)).mp z, fun _ => rfl⟩
end Nt2
