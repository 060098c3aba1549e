/-! CONTRACTS: NumberText, 1 -/
abbrev wT (G : gG) (a q : Nat) (row : Nat → Int32) (len sc me at_ fo wr ne df dt sg fr ex : Int32) : va_W := [oNt a q len sc me at_ fo wr ne df dt sg fr ex, aC G q 4096 row]
/-- the characters: ch, n of them, 0 behind them -/
def tCh (ch : Nat → Nat) (n : Nat) : Prop := n ≤ 4096 ∧ (∀ j, j < n → 1 ≤ ch j ∧ ch j ≤ 255) ∧ ∀ j, n ≤ j → ch j = 0
def tOk (row : Nat → Int32) (len : Int32) (ch : Nat → Nat) (n : Nat) : Prop := len = nI n ∧ tCh ch n ∧ ∀ j, j < n → row j = nI (ch j)
theorem tCh.lt {ch : Nat → Nat} {n : Nat} (h : tCh ch n) (j : Nat) : ch j < 256 := by
  rcases Nat.lt_or_ge j n with q | q
  · have := h.2.1 j q; omega
  · have := h.2.2 j q; omega
theorem n_char {c : Nat} (h : c < 256) : narrow .char (.int (nI c)) = .int (nI c) := (pk_charN (by omega)).1
theorem v_char {c : Nat} (h : c < 256) : vp_nar .char (nI c) = nI c := by
  have e := n_char h
  unfold vp_nar
  rw [e]
section Nt1
variable {l : Launch} {G : gG} {a q : Nat} {row : Nat → Int32} {len sc me at_ fo wr ne df dt sg fr ex : Int32} {ch : Nat → Nat} {n p : Nat}
theorem c_Nt_here (T : tOk row len ch n) (hp : p < 2 ^ 31) : gCt l G m_Nt_here [.ref a] (wT G a q row len sc me (nI p) fo wr ne df dt sg fr ex) (some (.int (nI (ch p)))) (wT G a q row len sc me (nI p) fo wr ne df dt sg fr ex) := by
  obtain ⟨rfl, hC, hr⟩ := T
  have hn : n < 2 ^ 31 := by have := hC.1; omega
  have out : n ≤ p → gAt l G m_Nt_here (wT G a q row (nI n) sc me (nI p) fo wr ne df dt sg fr ex) (some (.int (nI (ch p)))) (wT G a q row (nI n) sc me (nI p) fo wr ne df dt sg fr ex) 42 [(0, .ref a)] [] (wT G a q row (nI n) sc me (nI p) fo wr ne df dt sg fr ex) := fun h => b_Nt_here_42 (b_Nt_here_43 ⟨rfl, by rw [hC.2.2 p h]; rfl, rfl⟩)
  refine gCt.mk (by decide +kernel) (Nat.le_of_ble_eq_true rfl) rfl (b_Nt_here_0 (fun h => absurd h (nI_pos hp)) (fun _ h => out ((nI_leI hn hp).mp h)) (fun _ _ h => out ?_) (fun _ h1 h2 => ?_) (fun _ h1 h2 => ?_))
  · have := (nI_leI (a := 4096) (by decide) hp).mp h
    have := hC.1
    omega
  · have h : ¬ n ≤ p := fun z => h1 ((nI_leI hn hp).mpr z)
    exact vp_in_nI (by have := hC.1; omega) (by decide)
  · have h : ¬ n ≤ p := fun z => h1 ((nI_leI hn hp).mpr z)
    rw [nI_clamp hp, hr p (by omega)]
    exact b_Nt_here_43 ⟨n_char (hC.lt p), rfl, rfl⟩
theorem c_Nt_characterAt (T : tOk row len ch n) (hp : p < 2 ^ 31) : gCt l G m_Nt_characterAt [.ref a, .int (nI p)] (wT G a q row len sc me at_ fo wr ne df dt sg fr ex) (some (.int (nI (ch p)))) (wT G a q row len sc me at_ fo wr ne df dt sg fr ex) := by
  obtain ⟨rfl, hC, hr⟩ := T
  have hn : n < 2 ^ 31 := by have := hC.1; omega
  have out : n ≤ p → gAt l G m_Nt_characterAt (wT G a q row (nI n) sc me at_ fo wr ne df dt sg fr ex) (some (.int (nI (ch p)))) (wT G a q row (nI n) sc me at_ fo wr ne df dt sg fr ex) 30 [(0, .ref a), (1, .int (nI p))] [] (wT G a q row (nI n) sc me at_ fo wr ne df dt sg fr ex) := fun h => b_Nt_characterAt_30 (b_Nt_characterAt_31 ⟨rfl, by rw [hC.2.2 p h]; rfl, rfl⟩)
  refine gCt.mk (by decide +kernel) (Nat.le_of_ble_eq_true rfl) rfl (b_Nt_characterAt_0 (fun h => absurd h (nI_pos hp)) (fun _ h => out ((nI_leI hn hp).mp h)) (fun _ _ h => out ?_) (fun _ h1 h2 => ?_) (fun _ h1 h2 => ?_))
  · have := (nI_leI (a := 4096) (by decide) hp).mp h
    have := hC.1
    omega
  · have h : ¬ n ≤ p := fun z => h1 ((nI_leI hn hp).mpr z)
    exact vp_in_nI (by have := hC.1; omega) (by decide)
  · have h : ¬ n ≤ p := fun z => h1 ((nI_leI hn hp).mpr z)
    rw [nI_clamp hp, hr p (by omega)]
    exact b_Nt_characterAt_31 ⟨n_char (hC.lt p), rfl, rfl⟩
/-- a digit's value; none -/
def s_dv (b c : Nat) : Option Nat := if 48 ≤ c ∧ c ≤ 57 then some (c - 48) else if b = 16 ∧ 97 ≤ c ∧ c ≤ 102 then some (c - 87) else if b = 16 ∧ 65 ≤ c ∧ c ≤ 70 then some (c - 55) else none
def oI (d : Option Nat) : Int32 := match d with | some d => nI d | none => -1
theorem c_Nt_digitOf {c b : Nat} (hc : c < 256) (hb : b < 2 ^ 31) : gCt l G m_Nt_digitOf [.int (nI c), .int (nI b)] [] (some (.int (oI (s_dv b c)))) [] := by
  have L : ∀ k : Nat, k < 2 ^ 31 → (nI c < nI k ↔ c < k) := fun k hk => nI_ltI (by omega) hk
  have L' : ∀ k : Nat, k < 2 ^ 31 → (nI k < nI c ↔ k < c) := fun k hk => nI_ltI hk (by omega)
  have E : nI b = nI 16 ↔ b = 16 := nI_eq hb (by decide)
  have A2 : ¬ (48 ≤ c ∧ c ≤ 57) → ¬ (b = 16 ∧ 97 ≤ c ∧ c ≤ 102) → gAt l G m_Nt_digitOf [] (some (.int (oI (s_dv b c)))) [] 43 [(0, .int (nI c)), (1, .int (nI b))] [] [] := by
    intro h1 h2
    unfold s_dv
    rw [if_neg h1, if_neg h2]
    have A3 : ¬ (b = 16 ∧ 65 ≤ c ∧ c ≤ 70) → gAt l G m_Nt_digitOf [] (some (.int (oI (if b = 16 ∧ 65 ≤ c ∧ c ≤ 70 then some (c - 55) else none)))) [] 69 [(0, .int (nI c)), (1, .int (nI b))] [] [] := by
      intro h3
      rw [if_neg h3]
      exact b_Nt_digitOf_69 ⟨rfl, rfl⟩
    refine b_Nt_digitOf_43 (fun h => A3 (fun z => h (E.mpr z.1))) (fun _ h => A3 (fun z => ?_)) (fun _ _ h => A3 (fun z => ?_)) (fun h1 h2 h3 => ?_)
    · have := (L 65 (by decide)).mp h; omega
    · have := (L' 70 (by decide)).mp h; omega
    · have q1 := E.mp h1
      have q2 : ¬ c < 65 := fun z => h2 ((L 65 (by decide)).mpr z)
      have q3 : ¬ 70 < c := fun z => h3 ((L' 70 (by decide)).mpr z)
      rw [if_pos ⟨q1, by omega, by omega⟩]
      refine ⟨vi ?_, rfl⟩
      have e : nI c - nI 65 = nI (c - 65) := pk_sub (by omega)
      show nI (c - 55) = nI c - nI 65 + nI 10
      rw [e, nI_add]
      congr 1
      omega
  have A1 : ¬ (48 ≤ c ∧ c ≤ 57) → gAt l G m_Nt_digitOf [] (some (.int (oI (s_dv b c)))) [] 17 [(0, .int (nI c)), (1, .int (nI b))] [] [] := by
    intro h1
    refine b_Nt_digitOf_17 (fun h => A2 h1 (fun z => h (E.mpr z.1))) (fun _ h => A2 h1 (fun z => ?_)) (fun _ _ h => A2 h1 (fun z => ?_)) (fun h2 h3 h4 => ?_)
    · have := (L 97 (by decide)).mp h; omega
    · have := (L' 102 (by decide)).mp h; omega
    · have q1 := E.mp h2
      have q2 : ¬ c < 97 := fun z => h3 ((L 97 (by decide)).mpr z)
      have q3 : ¬ 102 < c := fun z => h4 ((L' 102 (by decide)).mpr z)
      unfold s_dv
      rw [if_neg h1, if_pos ⟨q1, by omega, by omega⟩]
      refine ⟨vi ?_, rfl⟩
      have e : nI c - nI 97 = nI (c - 97) := pk_sub (by omega)
      show nI (c - 87) = nI c - nI 97 + nI 10
      rw [e, nI_add]
      congr 1
      omega
  refine gCt.mk (by decide +kernel) (Nat.le_of_ble_eq_true rfl) rfl (b_Nt_digitOf_0 (fun h => A1 (fun z => ?_)) (fun _ h => A1 (fun z => ?_)) (fun h1 h2 => ?_))
  · have := (L 48 (by decide)).mp h; omega
  · have := (L' 57 (by decide)).mp h; omega
  · have q2 : ¬ c < 48 := fun z => h1 ((L 48 (by decide)).mpr z)
    have q3 : ¬ 57 < c := fun z => h2 ((L' 57 (by decide)).mpr z)
    unfold s_dv
    rw [if_pos ⟨by omega, by omega⟩]
    refine ⟨vi ?_, rfl⟩
    show nI (c - 48) = nI c - nI 48
    exact (pk_sub (by omega)).symm
theorem c_Nt_digitAt {b : Nat} (T : tOk row len ch n) (hp : p < 2 ^ 31) (hb : b < 2 ^ 31) : gCt l G m_Nt_digitAt [.ref a, .int (nI p), .int (nI b)] (wT G a q row len sc me at_ fo wr ne df dt sg fr ex) (some (.int (oI (s_dv b (ch p))))) (wT G a q row len sc me at_ fo wr ne df dt sg fr ex) :=
  gCt.mk (by decide +kernel) (Nat.le_of_ble_eq_true rfl) rfl (b_Nt_digitAt_0 (k_Nt_digitAt_2 (c_Nt_characterAt T hp) (b_Nt_digitAt_5 (k_Nt_digitAt_6 (c_Nt_digitOf (T.2.1.lt p) hb) (b_Nt_digitAt_9 ⟨rfl, rfl⟩)))))
theorem c_Nt_skipOneOf {c1 c2 : Nat} (T : tOk row len ch n) (hp : p < 2 ^ 31) (h1 : c1 < 256) (h2 : c2 < 256) : gCt l G m_Nt_skipOneOf [.ref a, .int (nI c1), .int (nI c2)] (wT G a q row len sc me (nI p) fo wr ne df dt sg fr ex) (some (.int (if ch p = c1 ∨ ch p = c2 then 1 else 0))) (wT G a q row len sc me (if ch p = c1 ∨ ch p = c2 then nI (p + 1) else nI p) fo wr ne df dt sg fr ex) := by
  have hc := T.2.1.lt p
  refine gCt.mk (by decide +kernel) (Nat.le_of_ble_eq_true rfl) rfl (b_Nt_skipOneOf_0 (k_Nt_skipOneOf_1 (c_Nt_here T hp) (b_Nt_skipOneOf_4 (fun h => ?_) (fun _ h => ?_) (fun g1 g2 => ?_))))
  · have z : ch p = c1 ∨ ch p = c2 := Or.inl ((nI_eq (by omega) (by omega)).mp h)
    rw [if_pos z, if_pos z]
    exact b_Nt_skipOneOf_17 ⟨rfl, rfl, by rw [← nI_1]⟩
  · have z : ch p = c1 ∨ ch p = c2 := Or.inr ((nI_eq (by omega) (by omega)).mp h)
    rw [if_pos z, if_pos z]
    exact b_Nt_skipOneOf_17 ⟨rfl, rfl, by rw [← nI_1]⟩
  · have z : ¬ (ch p = c1 ∨ ch p = c2) := fun z => z.elim (fun z => g1 (by rw [z])) (fun z => g2 (by rw [z]))
    rw [if_neg z, if_neg z]
    exact ⟨rfl, rfl, rfl⟩
theorem c_Nt_room {n : Nat} : gCt l G m_Nt_room [.ref a] (wT G a q row (nI n) sc me at_ fo wr ne df dt sg fr ex) (some (.int (nI 4096 - nI n))) (wT G a q row (nI n) sc me at_ fo wr ne df dt sg fr ex) :=
  gCt.mk (by decide +kernel) (Nat.le_of_ble_eq_true rfl) rfl (b_Nt_room_0 ⟨rfl, rfl⟩)
theorem c_Nt_append0 : gCt l G m_Nt_append [.ref a, .int (nI 0)] (wT G a q row len sc me at_ fo wr ne df dt sg fr ex) none (wT G a q row len sc me at_ fo wr ne df dt sg fr ex) :=
  gCt.mk (by decide +kernel) (Nat.le_of_ble_eq_true rfl) rfl (b_Nt_append_0 (fun _ => b_Nt_append_48 ⟨rfl, rfl⟩) (fun h => absurd rfl h) (fun h => absurd rfl h) (fun h => absurd rfl h) (fun h => absurd rfl h))
theorem c_Nt_append {n c : Nat} (hn : n < 4096) (h0 : 1 ≤ c) (h1 : c < 256) : gCt l G m_Nt_append [.ref a, .int (nI c)] (wT G a q row (nI n) sc me at_ fo wr ne df dt sg fr ex) none (wT G a q (upd row n (nI c)) (nI (n + 1)) 0 me at_ fo wr ne df dt sg fr ex) := by
  have h4 : ¬ (nI 4096 ≤ nI n) := fun z => by have := (nI_leI (by decide) (by omega)).mp z; omega
  refine gCt.mk (by decide +kernel) (Nat.le_of_ble_eq_true rfl) rfl (b_Nt_append_0 (fun h => absurd h (nI_ne0 h0 (by omega))) (fun _ h => absurd h (nI_pos (by omega))) (fun _ _ h => absurd h h4) (fun _ _ _ => vp_in_nI hn (by decide)) (fun _ _ _ => ?_))
  rw [nI_clamp (by omega), v_char h1]
  exact b_Nt_append_48 ⟨rfl, by rw [← nI_1]⟩
theorem c_Nt_dropLast {n k : Nat} (hn : n < 2 ^ 31) (hk : k < 2 ^ 31) : gCt l G m_Nt_dropLast [.ref a, .int (nI k)] (wT G a q row (nI n) sc me at_ fo wr ne df dt sg fr ex) none (wT G a q row (nI (n - k)) 0 me at_ fo wr ne df dt sg fr ex) := by
  refine gCt.mk (by decide +kernel) (Nat.le_of_ble_eq_true rfl) rfl (b_Nt_dropLast_0 ⟨rfl, ?_⟩)
  have e : nI n - (if nI n < nI k then nI n else nI k) = nI (n - k) := by
    by_cases h : n < k
    · rw [if_pos ((nI_ltI hn hk).mpr h), pk_sub (Nat.le_refl n), Nat.sub_self, Nat.sub_eq_zero_of_le (by omega)]
    · rw [if_neg (fun z => h ((nI_ltI hn hk).mp z)), pk_sub (by omega)]
  rw [e]
/-- the blanks from p on end at q -/
def bl_end (ch : Nat → Nat) (p e : Nat) : Prop := p ≤ e ∧ (∀ j, p ≤ j → j < e → 1 ≤ ch j ∧ ch j ≤ 32) ∧ ¬ (1 ≤ ch e ∧ ch e ≤ 32)
theorem bl_le {ch : Nat → Nat} {n p e : Nat} (hC : tCh ch n) (hp : p ≤ n) (h : bl_end ch p e) : e ≤ n := by
  rcases Nat.lt_or_ge n e with z | z
  · have h1 := h.2.1 n hp z
    have h2 := hC.2.2 n (Nat.le_refl n)
    omega
  · exact z
theorem bl_ex {ch : Nat → Nat} {n : Nat} (hC : tCh ch n) : ∀ k p, n - p ≤ k → p ≤ n → ∃ e, bl_end ch p e := by
  intro k
  induction k with
  | zero => intro p h1 h2; exact ⟨p, Nat.le_refl _, fun j a b => by omega, fun z => by have := hC.2.2 p (by omega); omega⟩
  | succ k ih =>
    intro p h1 h2
    by_cases z : 1 ≤ ch p ∧ ch p ≤ 32
    · have hlt : p < n := by
        rcases Nat.lt_or_ge p n with q | q
        · exact q
        · have := hC.2.2 p q; omega
      obtain ⟨e, g1, g2, g3⟩ := ih (p + 1) (by omega) hlt
      refine ⟨e, by omega, fun j a b => ?_, g3⟩
      rcases Nat.eq_or_lt_of_le a with c | c
      · rw [← c]; exact z
      · exact g2 j c b
    · exact ⟨p, Nat.le_refl _, fun j a b => by omega, z⟩
theorem a_Nt_skipBlanks {w0 : va_W} {e : Nat} (T : tOk row len ch n) : ∀ (k p : Nat), e - p ≤ k → p ≤ n → bl_end ch p e → gAt l G m_Nt_skipBlanks w0 none (wT G a q row len sc me (nI e) fo wr ne df dt sg fr ex) 0 [(0, .ref a)] [] (wT G a q row len sc me (nI p) fo wr ne df dt sg fr ex) := by
  have hC := T.2.1
  have hn : n < 2 ^ 31 := by have := hC.1; omega
  intro k
  induction k with
  | zero =>
    intro p h1 h2 h3
    have he : e = p := by have := h3.1; omega
    subst he
    refine b_Nt_skipBlanks_0 (fun _ => b_Nt_skipBlanks_33 ⟨rfl, rfl⟩) (fun h => k_Nt_skipBlanks_12 (c_Nt_here T (by omega)) (b_Nt_skipBlanks_15 (fun _ => b_Nt_skipBlanks_33 ⟨rfl, rfl⟩) (fun g => ?_)))
    exfalso
    have hlt : e < n := by
      rcases Nat.lt_or_ge e n with z | z
      · exact z
      · exact absurd (by rw [T.1]; exact nI_le z (by omega)) h
    have g2 : ¬ 32 < ch e := fun z => g (nI_lt (a := 32) z (by have := hC.lt e; omega))
    exact h3.2.2 ⟨(hC.2.1 e hlt).1, by omega⟩
  | succ k ih =>
    intro p h1 h2 h3
    by_cases z : 1 ≤ ch p ∧ ch p ≤ 32
    · have hpe : p < e := by
        rcases Nat.eq_or_lt_of_le h3.1 with c | c
        · rw [← c] at h3; exact absurd z h3.2.2
        · exact c
      have hlt : p < n := by
        rcases Nat.lt_or_ge p n with w | w
        · exact w
        · have := hC.2.2 p w; omega
      refine b_Nt_skipBlanks_0 (fun h => ?_) (fun h => k_Nt_skipBlanks_12 (c_Nt_here T (by omega)) (b_Nt_skipBlanks_15 (fun g => ?_) (fun g => ?_)))
      · rw [T.1] at h
        have := (nI_leI hn (by omega)).mp h
        omega
      · have := (nI_ltI (a := 32) (by decide) (by have := hC.lt p; omega)).mp g
        omega
      · have e1 : nI p + (1 : Int32) = nI (p + 1) := nI_1 p
        rw [e1]
        exact ih (p + 1) (by omega) hlt ⟨by omega, fun j c d => h3.2.1 j (by omega) d, h3.2.2⟩
    · have he : e = p := by
        rcases Nat.eq_or_lt_of_le h3.1 with c | c
        · exact c.symm
        · exact absurd (h3.2.1 p (Nat.le_refl _) c) z
      subst he
      refine b_Nt_skipBlanks_0 (fun _ => b_Nt_skipBlanks_33 ⟨rfl, rfl⟩) (fun h => k_Nt_skipBlanks_12 (c_Nt_here T (by omega)) (b_Nt_skipBlanks_15 (fun _ => b_Nt_skipBlanks_33 ⟨rfl, rfl⟩) (fun g => ?_)))
      exfalso
      have hlt : e < n := by
        rcases Nat.lt_or_ge e n with w | w
        · exact w
        · exact absurd (by rw [T.1]; exact nI_le w (by omega)) h
      have g2 : ¬ 32 < ch e := fun w => g (nI_lt (a := 32) w (by have := hC.lt e; omega))
      exact z ⟨(hC.2.1 e hlt).1, by omega⟩
theorem c_Nt_skipBlanks {e : Nat} (T : tOk row len ch n) (hp : p ≤ n) (h : bl_end ch p e) : gCt l G m_Nt_skipBlanks [.ref a] (wT G a q row len sc me (nI p) fo wr ne df dt sg fr ex) none (wT G a q row len sc me (nI e) fo wr ne df dt sg fr ex) :=
  gCt.mk (by decide +kernel) (Nat.le_of_ble_eq_true rfl) rfl (a_Nt_skipBlanks T _ p (Nat.le_refl _) hp h)
end Nt1
