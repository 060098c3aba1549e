/-! CONTRACTS: the model, 2: characters, blanks, digits -/
theorem s_dv10_ch {c d : Nat} (h : s_dv 10 c = some d) : c = 48 + d := by
  unfold s_dv at h
  split at h
  · cases h; omega
  · simp at h
theorem s_dv10_no {c : Nat} : s_dv 10 c = none ↔ ¬ (48 ≤ c ∧ c ≤ 57) := by
  unfold s_dv
  by_cases z : 48 ≤ c ∧ c ≤ 57
  · rw [if_pos z]; simp [z]
  · rw [if_neg z]; simp [z]
section Mo2
variable {l : Launch} {G : gG} {m ta fa wa : Nat} {th len ki be ma po : Int32} {ex : Int64} {fm to : Int32} {wh sc : Int64} {re hu : Int32} {tx fg wd : Nat → Int32} {ch : Nat → Nat} {n p : Nat}
theorem c_Mo_isDigit {c : Nat} (hc : c < 256) : gCt l G m_Mo_isDigit [.int (nI c)] [] (some (.int (bI (s_dv 10 c).isSome))) [] := by
  have h1 : nI c < (48 : Int32) ↔ c < 48 := nI_ltI (b := 48) (by omega) (by decide)
  have h2 : (57 : Int32) < nI c ↔ 57 < c := nI_ltI (a := 57) (by decide) (by omega)
  have no : ¬ (48 ≤ c ∧ c ≤ 57) → gAt l G m_Mo_isDigit [] (some (.int (bI (s_dv 10 c).isSome))) [] 16 [(0, .int (nI c))] [] [] := by
    intro z
    rw [s_dv10_no.mpr z]
    exact b_Mo_isDigit_16 (b_Mo_isDigit_17 ⟨rfl, rfl, rfl⟩)
  refine gCt.mk (by decide +kernel) (Nat.le_of_ble_eq_true rfl) rfl (b_Mo_isDigit_0 (fun z => no ?_) (fun _ z => no ?_) (fun z1 z2 => ?_))
  · have := h1.mp z; omega
  · have := h2.mp z; omega
  · have y1 : ¬ c < 48 := fun y => z1 (h1.mpr y)
    have y2 : ¬ 57 < c := fun y => z2 (h2.mpr y)
    have e : s_dv 10 c = some (c - 48) := by unfold s_dv; rw [if_pos (by omega)]
    rw [e]
    exact b_Mo_isDigit_17 ⟨rfl, rfl, rfl⟩
theorem c_Mo_hex {c : Nat} (hc : c < 256) : gCt l G m_Mo_hex [.int (nI c)] [] (some (.int (oI (s_dv 16 c)))) [] := by
  have h97 : nI c < (97 : Int32) ↔ c < 97 := nI_ltI (b := 97) (by omega) (by decide)
  have h102 : (102 : Int32) < nI c ↔ 102 < c := nI_ltI (a := 102) (by decide) (by omega)
  have h65 : nI c < (65 : Int32) ↔ c < 65 := nI_ltI (b := 65) (by omega) (by decide)
  have h70 : (70 : Int32) < nI c ↔ 70 < c := nI_ltI (a := 70) (by decide) (by omega)
  have b36 : ¬ (48 ≤ c ∧ c ≤ 57) → ¬ (97 ≤ c ∧ c ≤ 102) → gAt l G m_Mo_hex [] (some (.int (oI (s_dv 16 c)))) [] 36 [(0, .int (nI c))] [] [] := by
    intro y1 y2
    have no : ¬ (65 ≤ c ∧ c ≤ 70) → gAt l G m_Mo_hex [] (some (.int (oI (s_dv 16 c)))) [] 58 [(0, .int (nI c))] [] [] := by
      intro y3
      have e : s_dv 16 c = none := by unfold s_dv; rw [if_neg y1, if_neg (by omega), if_neg (by omega)]
      rw [e]
      exact b_Mo_hex_58 (b_Mo_hex_59 ⟨rfl, rfl⟩)
    refine b_Mo_hex_36 (fun z => no ?_) (fun _ z => no ?_) (fun z1 z2 => b_Mo_hex_59 ⟨vi ?_, rfl⟩)
    · have := h65.mp z; omega
    · have := h70.mp z; omega
    · have x1 : ¬ c < 65 := fun y => z1 (h65.mpr y)
      have x2 : ¬ 70 < c := fun y => z2 (h70.mpr y)
      have e : s_dv 16 c = some (c - 55) := by unfold s_dv; rw [if_neg y1, if_neg (by omega), if_pos (by omega)]
      rw [e]
      show nI (c - 55) = _
      have e1 : nI c - (65 : Int32) = nI (c - 65) := pk_sub (b := 65) (by omega)
      rw [e1, show (10 : Int32) = nI 10 from rfl, nI_add]
      congr 1
      omega
  refine gCt.mk (by decide +kernel) (Nat.le_of_ble_eq_true rfl) rfl (b_Mo_hex_0 (k_Mo_hex_1 (c_Mo_isDigit hc) (b_Mo_hex_4 (fun y z => ?_) (fun y z1 z2 => ?_) (fun y z1 z2 => b_Mo_hex_59 ⟨vi ?_, rfl⟩) (fun y => b_Mo_hex_59 ⟨vi ?_, rfl⟩))))
  · have y1 : ¬ (48 ≤ c ∧ c ≤ 57) := s_dv10_no.mp (Option.not_isSome_iff_eq_none.mp (by rw [bI_0.mp y]; decide))
    have := h97.mp z
    exact b36 y1 (by omega)
  · have y1 : ¬ (48 ≤ c ∧ c ≤ 57) := s_dv10_no.mp (Option.not_isSome_iff_eq_none.mp (by rw [bI_0.mp y]; decide))
    have := h102.mp z2
    exact b36 y1 (by omega)
  · have y1 : ¬ (48 ≤ c ∧ c ≤ 57) := s_dv10_no.mp (Option.not_isSome_iff_eq_none.mp (by rw [bI_0.mp y]; decide))
    have x1 : ¬ c < 97 := fun y => z1 (h97.mpr y)
    have x2 : ¬ 102 < c := fun y => z2 (h102.mpr y)
    have e : s_dv 16 c = some (c - 87) := by unfold s_dv; rw [if_neg y1, if_pos (by omega)]
    rw [e]
    show nI (c - 87) = _
    have e1 : nI c - (97 : Int32) = nI (c - 97) := pk_sub (b := 97) (by omega)
    rw [e1, show (10 : Int32) = nI 10 from rfl, nI_add]
    congr 1
    omega
  · have y1 : 48 ≤ c ∧ c ≤ 57 := by
      by_cases x : 48 ≤ c ∧ c ≤ 57
      · exact x
      · exact absurd (by rw [s_dv10_no.mpr x]; rfl) y
    have e : s_dv 16 c = some (c - 48) := by unfold s_dv; rw [if_pos y1]
    rw [e]
    show nI (c - 48) = _
    exact (pk_sub (b := 48) (by omega)).symm
theorem c_Mo_isAt {c1 c2 : Nat} (T : tOk tx len ch n) (hp : p < 2 ^ 31) (h1 : c1 < 256) (h2 : c2 < 256) : gCt l G m_Mo_isAt [.ref m, .int (nI c1), .int (nI c2)] (wM G m ta fa wa th len ki (nI p) be ma po ex fm to wh sc re hu tx fg wd) (some (.int (bI (decide (ch p = c1 ∨ ch p = c2))))) (wM G m ta fa wa th len ki (nI p) be ma po ex fm to wh sc re hu tx fg wd) := by
  have hC := T.2.1.lt p
  have e1 : nI (ch p) = nI c1 ↔ ch p = c1 := nI_eq (by omega) (by omega)
  have e2 : nI (ch p) = nI c2 ↔ ch p = c2 := nI_eq (by omega) (by omega)
  have hh := c_Mo_here (l := l) (G := G) (m := m) (ta := ta) (fa := fa) (wa := wa) (th := th) (ki := ki) (be := be) (ma := ma) (po := po) (ex := ex) (fm := fm) (to := to) (wh := wh) (sc := sc) (re := re) (hu := hu) (fg := fg) (wd := wd) T hp
  refine gCt.mk (by decide +kernel) (Nat.le_of_ble_eq_true rfl) rfl (b_Mo_isAt_0 (k_Mo_isAt_1 hh (b_Mo_isAt_4 (fun z => ?_) (fun z => k_Mo_isAt_9 hh (b_Mo_isAt_12 (fun y => ?_) (fun y => ?_))))))
  · rw [decide_eq_true (Or.inl (e1.mp z))]
    exact b_Mo_isAt_16 (b_Mo_isAt_21 ⟨rfl, rfl, rfl⟩)
  · rw [decide_eq_false (show ¬ (ch p = c1 ∨ ch p = c2) from fun x => x.elim (fun x => z (e1.mpr x)) (fun x => y (e2.mpr x)))]
    exact b_Mo_isAt_21 ⟨rfl, rfl, rfl⟩
  · rw [decide_eq_true (Or.inr (e2.mp y))]
    exact b_Mo_isAt_16 (b_Mo_isAt_21 ⟨rfl, rfl, rfl⟩)
theorem a_Mo_blanks {w0 : va_W} {e : Nat} (T : tOk tx len ch n) : ∀ (k p : Nat), e - p ≤ k → p ≤ n → bl_end ch p e → gAt l G m_Mo_blanks w0 none (wM G m ta fa wa th len ki (nI e) be ma po ex fm to wh sc re hu tx fg wd) 0 [(0, .ref m)] [] (wM G m ta fa wa th len ki (nI p) be ma po ex fm to wh sc re hu tx fg wd) := by
  have hn := T.2.1.1
  have hlen : len = nI n := T.1
  subst hlen
  have fin : ∀ p, p ≤ n → bl_end ch p e → ¬ (1 ≤ ch p ∧ ch p ≤ 32) → p = e := by
    intro p hp h hno
    rcases Nat.lt_or_ge p e with z | z
    · exact absurd (h.2.1 p (Nat.le_refl _) z) hno
    · have := h.1; omega
  intro k
  induction k with
  | zero =>
    intro p hk hp h
    have he := h.1
    have : p = e := by omega
    subst this
    have hle : nI n ≤ nI p ↔ n ≤ p := nI_leI (by omega) (by omega)
    refine b_Mo_blanks_0 (fun _ => b_Mo_blanks_38 ⟨rfl, rfl⟩) (fun z => vp_in_nI ?_ (by decide)) (fun _ _ => b_Mo_blanks_38 ⟨rfl, rfl⟩) (fun z y => ?_)
    · have : ¬ n ≤ p := fun y => z (hle.mpr y)
      omega
    · have hlt : p < n := by
        have : ¬ n ≤ p := fun y => z (hle.mpr y)
        omega
      have hC := T.2.1.lt p
      rw [nI_clamp (by omega), T.2.2 p hlt] at y
      have y : ¬ 32 < ch p := fun x => y (nI_lt (a := 32) x (by omega))
      have := (T.2.1.2.1 p hlt).1
      exact absurd ⟨this, by omega⟩ h.2.2
  | succ k ih =>
    intro p hk hp h
    have hle : nI n ≤ nI p ↔ n ≤ p := nI_leI (by omega) (by omega)
    have hC := T.2.1.lt p
    refine b_Mo_blanks_0 (fun z => b_Mo_blanks_38 ⟨rfl, ?_⟩) (fun z => vp_in_nI ?_ (by decide)) (fun z y => b_Mo_blanks_38 ⟨rfl, ?_⟩) (fun z y => ?_)
    · have e0 := T.2.1.2.2 p (hle.mp z)
      rw [fin p hp h (by omega)]
    · have : ¬ n ≤ p := fun y => z (hle.mpr y)
      omega
    · have hlt : p < n := by
        have : ¬ n ≤ p := fun y => z (hle.mpr y)
        omega
      rw [nI_clamp (by omega), T.2.2 p hlt] at y
      have y : 32 < ch p := (nI_ltI (a := 32) (by decide) (by omega)).mp y
      rw [fin p hp h (by omega)]
    · have hlt : p < n := by
        have : ¬ n ≤ p := fun y => z (hle.mpr y)
        omega
      rw [nI_clamp (by omega), T.2.2 p hlt] at y
      have y : ¬ 32 < ch p := fun x => y (nI_lt (a := 32) x (by omega))
      have h1 := (T.2.1.2.1 p hlt).1
      have hne : p ≠ e := fun x => h.2.2 (by rw [← x]; exact ⟨h1, by omega⟩)
      have hle2 := h.1
      have e1 : nI p + (1 : Int32) = nI (p + 1) := nI_1 p
      rw [e1]
      exact ih (p + 1) (by omega) (by omega) ⟨by omega, fun j a b => h.2.1 j (by omega) b, h.2.2⟩
theorem c_Mo_blanks {e : Nat} (T : tOk tx len ch n) (hp : p ≤ n) (h : bl_end ch p e) : gCt l G m_Mo_blanks [.ref m] (wM G m ta fa wa th len ki (nI p) be ma po ex fm to wh sc re hu tx fg wd) none (wM G m ta fa wa th len ki (nI e) be ma po ex fm to wh sc re hu tx fg wd) :=
  gCt.mk (by decide +kernel) (Nat.le_of_ble_eq_true rfl) rfl (a_Mo_blanks T _ p (Nat.le_refl _) hp h)
/-- the digits alone; where the point stands among them -/
def dF : List (Option Nat) → List Nat
  | [] => []
  | some d :: L => d :: dF L
  | none :: L => dF L
def ptF : Nat → List (Option Nat) → Nat
  | c, [] => c
  | c, some _ :: L => ptF (c + 1) L
  | c, none :: _ => c
theorem dF_len : ∀ L, (dF L).length ≤ L.length := by
  intro L
  induction L with
  | nil => exact Nat.le_refl _
  | cons x L ih =>
    cases x with
    | none => simp only [dF, List.length_cons]; omega
    | some d => simp only [dF, List.length_cons]; omega
theorem hasD_dF : ∀ L, hasD L = decide (0 < (dF L).length) := by
  intro L
  induction L with
  | nil => rfl
  | cons x L ih =>
    cases x with
    | none => exact ih
    | some d => simp [hasD, dF]
theorem a_Mo_dig {w0 w1 : va_W} {res : Option Value} {sx : Bool} {pc : Nat} (T : tOk tx len ch n) (hp : pc < 2 ^ 31) (k : gAt l G m_Mo_digits w0 res w1 45 [(0, .ref m), (1, .int (bI sx))] [.int (oI (s_dv (if sx then 16 else 10) (ch pc)))] (wM G m ta fa wa th len ki (nI pc) be ma po ex fm to wh sc re hu tx fg wd)) :
    gAt l G m_Mo_digits w0 res w1 10 [(0, .ref m), (1, .int (bI sx))] [] (wM G m ta fa wa th len ki (nI pc) be ma po ex fm to wh sc re hu tx fg wd) := by
  have hC := T.2.1.lt pc
  have hh := c_Mo_here (l := l) (G := G) (m := m) (ta := ta) (fa := fa) (wa := wa) (th := th) (ki := ki) (be := be) (ma := ma) (po := po) (ex := ex) (fm := fm) (to := to) (wh := wh) (sc := sc) (re := re) (hu := hu) (fg := fg) (wd := wd) T hp
  cases sx with
  | true => exact b_Mo_digits_10 (fun z => absurd z (by decide)) (fun _ => k_Mo_digits_15 hh (k_Mo_digits_18 (c_Mo_hex hC) (b_Mo_digits_21 k)))
  | false =>
    refine b_Mo_digits_10 (fun _ => k_Mo_digits_25 hh (k_Mo_digits_28 (c_Mo_isDigit hC) (b_Mo_digits_31 (fun z => ?_) (fun z => k_Mo_digits_35 hh (b_Mo_digits_38 ?_))))) (fun z => absurd rfl z)
    · have e : s_dv 10 (ch pc) = none := Option.not_isSome_iff_eq_none.mp (by rw [bI_0.mp z]; decide)
      simp only [Bool.false_eq_true, if_false] at k
      rw [e] at k
      exact k
    · cases hd : s_dv 10 (ch pc) with
      | none => rw [hd] at z; exact absurd rfl z
      | some d =>
        simp only [Bool.false_eq_true, if_false] at k
        have hd2 := s_dv10_ch hd
        rw [hd] at k
        rw [hd2]
        have e1 : nI (48 + d) - (48 : Int32) = nI d := by
          have : nI (48 + d) - nI 48 = nI (48 + d - 48) := pk_sub (by omega)
          rw [show (48 : Int32) = nI 48 from rfl, this]
          congr 1
          omega
        rw [e1]
        exact k
theorem oI_neg {x : Option Nat} (h : ∀ d, x = some d → d < 2 ^ 31) : oI x < 0 ↔ x = none := by
  cases x with
  | none => exact ⟨fun _ => rfl, fun _ => by decide⟩
  | some d =>
    constructor
    · intro z
      exact absurd z (Int32.not_lt.mpr (nI_le (a := 0) (Nat.zero_le _) (h d rfl)))
    · intro z; exact absurd z (by simp)
theorem a_Mo_digits {w0 : va_W} {sx : Bool} (T : tOk tx len ch n) :
    ∀ (L : List (Option Nat)) (seen : Bool) (p c pt : Nat) (fg : Nat → Int32), p ≤ n → c ≤ p → pt < 2 ^ 31 → dgL ch (if sx then 16 else 10) seen p L →
    ∃ fg2, gAt l G m_Mo_digits w0 (some (.int (bI (decide (0 < c + (dF L).length))))) (wM G m ta fa wa th len ki (nI (p + L.length)) be (nI (c + (dF L).length)) (nI (if seen then pt else ptF c L)) ex fm to wh sc re hu tx fg2 wd) 10 [(0, .ref m), (1, .int (bI sx))] [] (wM G m ta fa wa th len ki (nI p) be (nI c) (if seen then nI pt else -1) ex fm to wh sc re hu tx fg wd) ∧
      (∀ j, j < c → fg2 j = fg j) ∧ (∀ j, j < (dF L).length → fg2 (c + j) = nI ((dF L).getD j 0)) := by
  have hn := T.2.1.1
  intro L
  induction L with
  | nil =>
    intro seen p c pt fg hp hc hpt hL
    have hC := T.2.1.lt p
    refine ⟨fg, a_Mo_dig T (by omega) ?_, fun _ _ => rfl, fun j hj => absurd hj (Nat.not_lt_zero _)⟩
    rw [hL.1]
    have e46 : nI (ch p) = (46 : Int32) ↔ ch p = 46 := nI_eq (b := 46) (by omega) (by decide)
    have hh := c_Mo_here (l := l) (G := G) (m := m) (ta := ta) (fa := fa) (wa := wa) (th := th) (ki := ki) (be := be) (ma := nI c) (po := if seen then nI pt else -1) (ex := ex) (fm := fm) (to := to) (wh := wh) (sc := sc) (re := re) (hu := hu) (fg := fg) (wd := wd) T (by omega : p < 2 ^ 31)
    have tail : ∀ v : Int32, v = nI (if seen then pt else c) → gAt l G m_Mo_digits w0 (some (.int (bI (decide (0 < c + (dF []).length))))) (wM G m ta fa wa th len ki (nI (p + ([] : List (Option Nat)).length)) be (nI (c + (dF []).length)) (nI (if seen then pt else ptF c [])) ex fm to wh sc re hu tx fg wd) 119 [(0, .ref m), (1, .int (bI sx)), (2, .int (oI none))] [.int v, .ref m] (wM G m ta fa wa th len ki (nI p) be (nI c) (if seen then nI pt else -1) ex fm to wh sc re hu tx fg wd) := by
      intro v hv
      subst hv
      have hc0 : nI c ≤ 0 ↔ c ≤ 0 := nI_leI (b := 0) (by omega) (by decide)
      refine b_Mo_digits_119 (fun z => ?_) (fun z => ?_)
      · have z := hc0.mp z
        rw [decide_eq_false (show ¬ 0 < c + (dF []).length by simp only [dF, List.length_nil]; omega)]
        exact b_Mo_digits_134 ⟨rfl, rfl, rfl⟩
      · have z : ¬ c ≤ 0 := fun y => z (hc0.mpr y)
        rw [decide_eq_true (show 0 < c + (dF []).length by simp only [dF, List.length_nil]; omega)]
        exact b_Mo_digits_134 ⟨rfl, rfl, rfl⟩
    have pos : (0 : Int32) ≤ (if seen then nI pt else -1) ↔ seen = true := by
      cases seen with
      | true => exact ⟨fun _ => rfl, fun _ => nI_le (a := 0) (Nat.zero_le _) hpt⟩
      | false => exact ⟨fun z => absurd z (show ¬ (0 : Int32) ≤ -1 by decide), fun z => absurd z (by decide)⟩
    have p100 : gAt l G m_Mo_digits w0 (some (.int (bI (decide (0 < c + (dF []).length))))) (wM G m ta fa wa th len ki (nI (p + ([] : List (Option Nat)).length)) be (nI (c + (dF []).length)) (nI (if seen then pt else ptF c [])) ex fm to wh sc re hu tx fg wd) 100 [(0, .ref m), (1, .int (bI sx)), (2, .int (oI none))] [] (wM G m ta fa wa th len ki (nI p) be (nI c) (if seen then nI pt else -1) ex fm to wh sc re hu tx fg wd) :=
      b_Mo_digits_100 (fun z => tail _ (by have z := pos.mp z; subst z; rfl)) (fun z => tail _ (by
        cases seen with
        | true => exact absurd (pos.mpr rfl) z
        | false => rfl))
    refine b_Mo_digits_45 (fun _ => k_Mo_digits_74 hh (b_Mo_digits_77 (fun _ => p100) (fun _ _ => p100) (fun z1 z2 => ?_))) (fun z => absurd (by decide) z) (fun z => absurd (by decide) z)
    have z1 := e46.mp z1
    have z2 : seen = false := by
      cases seen with
      | true => exact absurd (pos.mpr rfl) z2
      | false => rfl
    exact absurd ⟨z1, z2⟩ hL.2
  | cons x L ih =>
    intro seen p c pt fg hp hc hpt hL
    have hC := T.2.1.lt p
    have hlen := dgL_lt T.2.1 _ _ _ hp hL
    simp only [List.length_cons] at hlen
    have hend : p + (x :: L).length = p + 1 + L.length := by simp only [List.length_cons]; omega
    have e1 : nI p + (1 : Int32) = nI (p + 1) := nI_1 p
    cases x with
    | some d =>
      have hd := (s_dv_lt hL.1).1
      obtain ⟨fg2, g, h1, h2⟩ := ih seen (p + 1) (c + 1) pt (upd fg c (nI d)) (by omega) (by omega) hpt hL.2
      have hnn : ¬ oI (some d) < 0 := Int32.not_lt.mpr (nI_le (a := 0) (Nat.zero_le _) (by omega))
      have e2 : nI c + (1 : Int32) = nI (c + 1) := nI_1 c
      refine ⟨fg2, a_Mo_dig T (by omega) ?_, fun j hj => ?_, fun j hj => ?_⟩
      · rw [hL.1]
        refine b_Mo_digits_45 (fun z => absurd z hnn) (fun _ => vp_in_nI (by omega) (by decide)) (fun _ => b_Mo_digits_135 ?_)
        rw [e1, e2, nI_clamp (by omega), hend, show c + (dF (some d :: L)).length = c + 1 + (dF L).length by simp only [dF, List.length_cons]; omega]
        exact g
      · rw [h1 j (by omega), upd_ne (by omega)]
      · simp only [dF, List.length_cons] at hj ⊢
        cases j with
        | zero => rw [Nat.add_zero, h1 c (by omega), upd_self]; rfl
        | succ j =>
          have := h2 j (by omega)
          rw [show c + (j + 1) = c + 1 + j by omega, this]
          rfl
    | none =>
      obtain ⟨hno, h46, hs, hL2⟩ := hL
      subst hs
      obtain ⟨fg2, g, h1, h2⟩ := ih true (p + 1) c c fg (by omega) (by omega) (by omega) hL2
      have hh := c_Mo_here (l := l) (G := G) (m := m) (ta := ta) (fa := fa) (wa := wa) (th := th) (ki := ki) (be := be) (ma := nI c) (po := -1) (ex := ex) (fm := fm) (to := to) (wh := wh) (sc := sc) (re := re) (hu := hu) (fg := fg) (wd := wd) T (by omega : p < 2 ^ 31)
      refine ⟨fg2, a_Mo_dig T (by omega) ?_, h1, h2⟩
      rw [hno]
      refine b_Mo_digits_45 (fun _ => k_Mo_digits_74 hh (b_Mo_digits_77 (fun z => absurd (by rw [h46]; rfl) z) (fun _ z => absurd z (by decide)) (fun _ _ => b_Mo_digits_135 ?_))) (fun z => absurd (by decide) z) (fun z => absurd (by decide) z)
      rw [e1, hend]
      exact g
theorem c_Mo_digits {sx : Bool} {L : List (Option Nat)} (T : tOk tx len ch n) (hp : p ≤ n) (h : dgL ch (if sx then 16 else 10) false p L) :
    ∃ fg2, gCt l G m_Mo_digits [.ref m, .int (bI sx)] (wM G m ta fa wa th len ki (nI p) be ma po ex fm to wh sc re hu tx fg wd) (some (.int (bI (hasD L)))) (wM G m ta fa wa th len ki (nI (p + L.length)) be (nI (dF L).length) (nI (ptF 0 L)) ex fm to wh sc re hu tx fg2 wd) ∧ ∀ j, j < (dF L).length → fg2 j = nI ((dF L).getD j 0) := by
  obtain ⟨fg2, g, _, h2⟩ := a_Mo_digits (l := l) (G := G) (m := m) (ta := ta) (fa := fa) (wa := wa) (th := th) (ki := ki) (be := be) (ex := ex) (fm := fm) (to := to) (wh := wh) (sc := sc) (re := re) (hu := hu) (wd := wd) (sx := sx) (w0 := wM G m ta fa wa th len ki (nI p) be ma po ex fm to wh sc re hu tx fg wd) T L false p 0 0 fg hp (Nat.zero_le _) (by decide) h
  rw [Nat.zero_add] at g
  rw [hasD_dF]
  exact ⟨fg2, gCt.mk (by decide +kernel) (Nat.le_of_ble_eq_true rfl) rfl (b_Mo_digits_0 g), fun j hj => by have := h2 j hj; rw [Nat.zero_add] at this; exact this⟩
end Mo2
