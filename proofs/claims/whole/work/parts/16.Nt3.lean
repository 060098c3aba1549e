/-! CONTRACTS: NumberText, 3: decimals, hexadecimals -/
def sfx (ch : Nat → Nat) (p : Nat) : Nat := if ch p = 100 ∨ ch p = 68 ∨ ch p = 102 ∨ ch p = 70 then p + 1 else p
def isE (ch : Nat → Nat) (p : Nat) : Prop := ch p = 101 ∨ ch p = 69
def isP (ch : Nat → Nat) (p : Nat) : Prop := ch p = 112 ∨ ch p = 80
/-- what is found of a decimal at p: its digits L, its exponent's digits es, its end e; else the place of the fault -/
def dcOk (ch : Nat → Nat) (p : Nat) (L : List (Option Nat)) (es : List Nat) (e : Nat) : Prop :=
  dgL ch 10 false p L ∧ hasD L = true ∧ ((isE ch (p + L.length) ∧ exL ch (sgn ch (p + L.length + 1)) es ∧ 0 < es.length ∧ e = sfx ch (sgn ch (p + L.length + 1) + es.length)) ∨ (¬ isE ch (p + L.length) ∧ es = [] ∧ e = sfx ch (p + L.length)))
def dcNo (ch : Nat → Nat) (p e : Nat) : Prop :=
  ∃ L, dgL ch 10 false p L ∧ ((hasD L = false ∧ e = p + L.length) ∨ (hasD L = true ∧ isE ch (p + L.length) ∧ exL ch (sgn ch (p + L.length + 1)) [] ∧ e = sgn ch (p + L.length + 1)))
def hxOk (ch : Nat → Nat) (p : Nat) (L : List (Option Nat)) (es : List Nat) (e : Nat) : Prop :=
  dgL ch 16 false p L ∧ hasD L = true ∧ isP ch (p + L.length) ∧ exL ch (sgn ch (p + L.length + 1)) es ∧ 0 < es.length ∧ e = sfx ch (sgn ch (p + L.length + 1) + es.length)
def hxNo (ch : Nat → Nat) (p e : Nat) : Prop :=
  ∃ L, dgL ch 16 false p L ∧ (((hasD L = false ∨ ¬ isP ch (p + L.length)) ∧ e = p + L.length) ∨ (hasD L = true ∧ isP ch (p + L.length) ∧ exL ch (sgn ch (p + L.length + 1)) [] ∧ e = sgn ch (p + L.length + 1)))
/-- the exponent that the class keeps -/
def eC (ch : Nat → Nat) (p1 : Nat) (es : List Nat) : Int32 := if ch (p1 + 1) = 45 then -nI (satC 0 es) else nI (satC 0 es)
theorem ch_lt {ch : Nat → Nat} {n p : Nat} (hC : tCh ch n) (h : ch p ≠ 0) : p < n := by
  rcases Nat.lt_or_ge p n with q | q
  · exact q
  · exact absurd (hC.2.2 p q) h
theorem sfx_le {ch : Nat → Nat} {n p : Nat} (hC : tCh ch n) (hp : p ≤ n) : p ≤ sfx ch p ∧ sfx ch p ≤ n := by
  unfold sfx
  split
  · have := ch_lt hC (p := p) (by omega); omega
  · omega
theorem isE_lt {ch : Nat → Nat} {n p : Nat} (hC : tCh ch n) (h : isE ch p) : p < n := ch_lt hC (by unfold isE at h; omega)
theorem isP_lt {ch : Nat → Nat} {n p : Nat} (hC : tCh ch n) (h : isP ch p) : p < n := ch_lt hC (by unfold isP at h; omega)
section Nt3
variable {l : Launch} {G : gG} {a q : Nat} {row : Nat → Int32} {len sc me at_ fo wr ne df dt sg fr ex : Int32} {ch : Nat → Nat} {n p : Nat}
theorem c_Nt_skipSuffix (T : tOk row len ch n) (hp : p ≤ n) : gCt l G m_Nt_skipSuffix [.ref a] (wT G a q row len sc me (nI p) fo wr ne df dt sg fr ex) none (wT G a q row len sc me (nI (sfx ch p)) fo wr ne df dt sg fr ex) := by
  have hn : n ≤ 4096 := T.2.1.1
  have c1 := c_Nt_skipOneOf (l := l) (G := G) (a := a) (q := q) (sc := sc) (me := me) (fo := fo) (wr := wr) (ne := ne) (df := df) (dt := dt) (sg := sg) (fr := fr) (ex := ex) (c1 := 100) (c2 := 68) T (p := p) (by omega) (by decide) (by decide)
  have c2 := c_Nt_skipOneOf (l := l) (G := G) (a := a) (q := q) (sc := sc) (me := me) (fo := fo) (wr := wr) (ne := ne) (df := df) (dt := dt) (sg := sg) (fr := fr) (ex := ex) (c1 := 102) (c2 := 70) T (p := p) (by omega) (by decide) (by decide)
  refine gCt.mk (by decide +kernel) (Nat.le_of_ble_eq_true rfl) rfl (b_Nt_skipSuffix_0 (k_Nt_skipSuffix_5 c1 ?_))
  by_cases z : ch p = 100 ∨ ch p = 68
  · rw [if_pos z, if_pos z]
    refine b_Nt_skipSuffix_8 (fun _ => b_Nt_skipSuffix_20 ⟨rfl, ?_⟩) (fun w => absurd w (by decide))
    unfold sfx
    rw [if_pos (by omega)]
  · rw [if_neg z, if_neg z]
    refine b_Nt_skipSuffix_8 (fun w => absurd rfl w) (fun _ => k_Nt_skipSuffix_16 c2 (b_Nt_skipSuffix_19 (b_Nt_skipSuffix_20 ⟨rfl, ?_⟩)))
    unfold sfx
    by_cases y : ch p = 102 ∨ ch p = 70
    · rw [if_pos y, if_pos (by omega)]
    · rw [if_neg y, if_neg (by omega)]
theorem c_Nt_takeDecimal {L : List (Option Nat)} {es : List Nat} {e : Nat} (T : tOk row len ch n) (hp : p ≤ n) (h : dcOk ch p L es e) : gCt l G m_Nt_takeDecimal [.ref a] (wT G a q row len sc me (nI p) fo wr ne df dt sg fr ex) (some (.int 1)) (wT G a q row len sc me (nI e) fo wr ne (nI p) (nI (p + L.length)) (nI (sgF 0 L)) (nI (frF false 0 L)) (eC ch (p + L.length) es)) := by
  have hC := T.2.1
  have hn : n ≤ 4096 := hC.1
  obtain ⟨hL, hD, hE⟩ := h
  have hp1 := dgL_lt hC L false p hp hL
  have c1 := c_Nt_takeDigits (l := l) (G := G) (a := a) (q := q) (sc := sc) (me := me) (fo := fo) (wr := wr) (ne := ne) (df := df) (dt := dt) (sg := sg) (fr := fr) (ex := 0) (b := 10) T (by decide) hp hL
  rw [hD] at c1
  have c2 := c_Nt_skipOneOf (l := l) (G := G) (a := a) (q := q) (sc := sc) (me := me) (fo := fo) (wr := wr) (ne := ne) (df := nI p) (dt := nI (p + L.length)) (sg := nI (sgF 0 L)) (fr := nI (frF false 0 L)) (ex := 0) (c1 := 101) (c2 := 69) T (p := p + L.length) (by omega) (by decide) (by decide)
  refine gCt.mk (by decide +kernel) (Nat.le_of_ble_eq_true rfl) rfl (b_Nt_takeDecimal_0 (k_Nt_takeDecimal_8 c1 (b_Nt_takeDecimal_11 (fun _ => k_Nt_takeDecimal_21 c2 ?_) (fun z => absurd z (by decide)))))
  rcases hE with ⟨h1, h2, h3, rfl⟩ | ⟨h1, rfl, rfl⟩
  · have hlt := isE_lt hC h1
    have h1' : ch (p + L.length) = 101 ∨ ch (p + L.length) = 69 := h1
    rw [if_pos h1', if_pos h1']
    have hs := sgn_le hC (p := p + L.length + 1) hlt
    have hl := exL_lt hC es _ hs.2 h2
    have c3 := c_Nt_takeExponent (l := l) (G := G) (a := a) (q := q) (sc := sc) (me := me) (fo := fo) (wr := wr) (ne := ne) (df := nI p) (dt := nI (p + L.length)) (sg := nI (sgF 0 L)) (fr := nI (frF false 0 L)) (ex := 0) T (p := p + L.length + 1) hlt h2
    rw [decide_eq_true h3] at c3
    exact b_Nt_takeDecimal_24 (fun z => absurd z (by decide)) (fun _ => k_Nt_takeDecimal_28 c3 (b_Nt_takeDecimal_31 (fun _ => b_Nt_takeDecimal_36 (k_Nt_takeDecimal_37 (c_Nt_skipSuffix T hl) (b_Nt_takeDecimal_40 ⟨rfl, rfl, rfl⟩))) (fun z => absurd z (by decide))))
  · have h1' : ¬ (ch (p + L.length) = 101 ∨ ch (p + L.length) = 69) := h1
    rw [if_neg h1', if_neg h1']
    have e0 : eC ch (p + L.length) [] = 0 := by unfold eC; split <;> rfl
    rw [e0]
    exact b_Nt_takeDecimal_24 (fun _ => b_Nt_takeDecimal_36 (k_Nt_takeDecimal_37 (c_Nt_skipSuffix T hp1) (b_Nt_takeDecimal_40 ⟨rfl, rfl, rfl⟩))) (fun z => absurd rfl z)
theorem c_Nt_takeDecimalNo {e : Nat} (T : tOk row len ch n) (hp : p ≤ n) (h : dcNo ch p e) : ∃ df2 dt2 sg2 fr2 ex2, gCt l G m_Nt_takeDecimal [.ref a] (wT G a q row len sc me (nI p) fo wr ne df dt sg fr ex) (some (.int 0)) (wT G a q row len sc me (nI e) fo wr ne df2 dt2 sg2 fr2 ex2) := by
  have hC := T.2.1
  have hn : n ≤ 4096 := hC.1
  obtain ⟨L, hL, hE⟩ := h
  have hp1 := dgL_lt hC L false p hp hL
  have c1 := c_Nt_takeDigits (l := l) (G := G) (a := a) (q := q) (sc := sc) (me := me) (fo := fo) (wr := wr) (ne := ne) (df := df) (dt := dt) (sg := sg) (fr := fr) (ex := 0) (b := 10) T (by decide) hp hL
  rcases hE with ⟨hD, rfl⟩ | ⟨hD, h1, h2, rfl⟩
  · rw [hD] at c1
    exact ⟨_, _, _, _, _, gCt.mk (by decide +kernel) (Nat.le_of_ble_eq_true rfl) rfl (b_Nt_takeDecimal_0 (k_Nt_takeDecimal_8 c1 (b_Nt_takeDecimal_11 (fun z => absurd rfl z) (fun _ => ⟨rfl, rfl, rfl⟩))))⟩
  · rw [hD] at c1
    have hlt := isE_lt hC h1
    have h1' : ch (p + L.length) = 101 ∨ ch (p + L.length) = 69 := h1
    have c2 := c_Nt_skipOneOf (l := l) (G := G) (a := a) (q := q) (sc := sc) (me := me) (fo := fo) (wr := wr) (ne := ne) (df := nI p) (dt := nI (p + L.length)) (sg := nI (sgF 0 L)) (fr := nI (frF false 0 L)) (ex := 0) (c1 := 101) (c2 := 69) T (p := p + L.length) (by omega) (by decide) (by decide)
    rw [if_pos h1', if_pos h1'] at c2
    have c3 := c_Nt_takeExponent (l := l) (G := G) (a := a) (q := q) (sc := sc) (me := me) (fo := fo) (wr := wr) (ne := ne) (df := nI p) (dt := nI (p + L.length)) (sg := nI (sgF 0 L)) (fr := nI (frF false 0 L)) (ex := 0) T (p := p + L.length + 1) hlt h2
    exact ⟨_, _, _, _, _, gCt.mk (by decide +kernel) (Nat.le_of_ble_eq_true rfl) rfl (b_Nt_takeDecimal_0 (k_Nt_takeDecimal_8 c1 (b_Nt_takeDecimal_11 (fun _ => k_Nt_takeDecimal_21 c2 (b_Nt_takeDecimal_24 (fun z => absurd z (by decide)) (fun _ => k_Nt_takeDecimal_28 c3 (b_Nt_takeDecimal_31 (fun z => absurd rfl z) (fun _ => ⟨rfl, rfl, rfl⟩))))) (fun z => absurd z (by decide)))))⟩
theorem c_Nt_takeHexadecimal {L : List (Option Nat)} {es : List Nat} {e : Nat} (T : tOk row len ch n) (hp : p ≤ n) (h : hxOk ch p L es e) : gCt l G m_Nt_takeHexadecimal [.ref a] (wT G a q row len sc me (nI p) fo wr ne df dt sg fr ex) (some (.int 1)) (wT G a q row len sc me (nI e) fo wr ne (nI p) (nI (p + L.length)) (nI (sgF 0 L)) (nI (frF false 0 L)) (eC ch (p + L.length) es)) := by
  have hC := T.2.1
  have hn : n ≤ 4096 := hC.1
  obtain ⟨hL, hD, h1, h2, h3, rfl⟩ := h
  have hp1 := dgL_lt hC L false p hp hL
  have c1 := c_Nt_takeDigits (l := l) (G := G) (a := a) (q := q) (sc := sc) (me := me) (fo := fo) (wr := wr) (ne := ne) (df := df) (dt := dt) (sg := sg) (fr := fr) (ex := ex) (b := 16) T (by decide) hp hL
  rw [hD] at c1
  have c2 := c_Nt_skipOneOf (l := l) (G := G) (a := a) (q := q) (sc := sc) (me := me) (fo := fo) (wr := wr) (ne := ne) (df := nI p) (dt := nI (p + L.length)) (sg := nI (sgF 0 L)) (fr := nI (frF false 0 L)) (ex := ex) (c1 := 112) (c2 := 80) T (p := p + L.length) (by omega) (by decide) (by decide)
  have hlt := isP_lt hC h1
  have h1' : ch (p + L.length) = 112 ∨ ch (p + L.length) = 80 := h1
  rw [if_pos h1', if_pos h1'] at c2
  have hs := sgn_le hC (p := p + L.length + 1) hlt
  have hl := exL_lt hC es _ hs.2 h2
  have c3 := c_Nt_takeExponent (l := l) (G := G) (a := a) (q := q) (sc := sc) (me := me) (fo := fo) (wr := wr) (ne := ne) (df := nI p) (dt := nI (p + L.length)) (sg := nI (sgF 0 L)) (fr := nI (frF false 0 L)) (ex := ex) T (p := p + L.length + 1) hlt h2
  rw [decide_eq_true h3] at c3
  exact gCt.mk (by decide +kernel) (Nat.le_of_ble_eq_true rfl) rfl (b_Nt_takeHexadecimal_0 (k_Nt_takeHexadecimal_3 c1 (b_Nt_takeHexadecimal_6 (fun z => absurd z (by decide)) (fun _ => k_Nt_takeHexadecimal_14 c2 (b_Nt_takeHexadecimal_17 (fun z => absurd z (by decide)) (fun _ => k_Nt_takeHexadecimal_21 c3 (b_Nt_takeHexadecimal_24 (fun _ => k_Nt_takeHexadecimal_30 (c_Nt_skipSuffix T hl) (b_Nt_takeHexadecimal_33 ⟨rfl, rfl, rfl⟩)) (fun z => absurd z (by decide)))))))))
theorem c_Nt_takeHexadecimalNo {e : Nat} (T : tOk row len ch n) (hp : p ≤ n) (h : hxNo ch p e) : ∃ df2 dt2 sg2 fr2 ex2, gCt l G m_Nt_takeHexadecimal [.ref a] (wT G a q row len sc me (nI p) fo wr ne df dt sg fr ex) (some (.int 0)) (wT G a q row len sc me (nI e) fo wr ne df2 dt2 sg2 fr2 ex2) := by
  have hC := T.2.1
  have hn : n ≤ 4096 := hC.1
  obtain ⟨L, hL, hE⟩ := h
  have hp1 := dgL_lt hC L false p hp hL
  have c1 := c_Nt_takeDigits (l := l) (G := G) (a := a) (q := q) (sc := sc) (me := me) (fo := fo) (wr := wr) (ne := ne) (df := df) (dt := dt) (sg := sg) (fr := fr) (ex := ex) (b := 16) T (by decide) hp hL
  have c2 := c_Nt_skipOneOf (l := l) (G := G) (a := a) (q := q) (sc := sc) (me := me) (fo := fo) (wr := wr) (ne := ne) (df := nI p) (dt := nI (p + L.length)) (sg := nI (sgF 0 L)) (fr := nI (frF false 0 L)) (ex := ex) (c1 := 112) (c2 := 80) T (p := p + L.length) (by omega) (by decide) (by decide)
  cases hD : hasD L with
  | false =>
    rw [hD] at c1
    have he : e = p + L.length := by
      rcases hE with h | h
      · exact h.2
      · rw [hD] at h; cases h.1
    subst he
    exact ⟨_, _, _, _, _, gCt.mk (by decide +kernel) (Nat.le_of_ble_eq_true rfl) rfl (b_Nt_takeHexadecimal_0 (k_Nt_takeHexadecimal_3 c1 (b_Nt_takeHexadecimal_6 (fun _ => b_Nt_takeHexadecimal_27 ⟨rfl, rfl, rfl⟩) (fun z => absurd rfl z))))⟩
  | true =>
    rw [hD] at c1
    by_cases h1 : isP ch (p + L.length)
    · have h1' : ch (p + L.length) = 112 ∨ ch (p + L.length) = 80 := h1
      rw [if_pos h1', if_pos h1'] at c2
      have hlt := isP_lt hC h1
      have hE : exL ch (sgn ch (p + L.length + 1)) [] ∧ e = sgn ch (p + L.length + 1) := by
        rcases hE with ⟨h | h, -⟩ | h
        · rw [hD] at h; cases h
        · exact absurd h1 h
        · exact h.2.2
      obtain ⟨h2, rfl⟩ := hE
      have c3 := c_Nt_takeExponent (l := l) (G := G) (a := a) (q := q) (sc := sc) (me := me) (fo := fo) (wr := wr) (ne := ne) (df := nI p) (dt := nI (p + L.length)) (sg := nI (sgF 0 L)) (fr := nI (frF false 0 L)) (ex := ex) T (p := p + L.length + 1) hlt h2
      exact ⟨_, _, _, _, _, gCt.mk (by decide +kernel) (Nat.le_of_ble_eq_true rfl) rfl (b_Nt_takeHexadecimal_0 (k_Nt_takeHexadecimal_3 c1 (b_Nt_takeHexadecimal_6 (fun z => absurd z (by decide)) (fun _ => k_Nt_takeHexadecimal_14 c2 (b_Nt_takeHexadecimal_17 (fun z => absurd z (by decide)) (fun _ => k_Nt_takeHexadecimal_21 c3 (b_Nt_takeHexadecimal_24 (fun z => absurd rfl z) (fun _ => b_Nt_takeHexadecimal_27 ⟨rfl, rfl, rfl⟩))))))))⟩
    · have h1' : ¬ (ch (p + L.length) = 112 ∨ ch (p + L.length) = 80) := h1
      rw [if_neg h1', if_neg h1'] at c2
      have he : e = p + L.length := by
        rcases hE with h | h
        · exact h.2
        · exact absurd h.2.1 h1
      subst he
      exact ⟨_, _, _, _, _, gCt.mk (by decide +kernel) (Nat.le_of_ble_eq_true rfl) rfl (b_Nt_takeHexadecimal_0 (k_Nt_takeHexadecimal_3 c1 (b_Nt_takeHexadecimal_6 (fun z => absurd z (by decide)) (fun _ => k_Nt_takeHexadecimal_14 c2 (b_Nt_takeHexadecimal_17 (fun _ => b_Nt_takeHexadecimal_27 ⟨rfl, rfl, rfl⟩) (fun z => absurd rfl z))))))⟩
end Nt3
